/-! steps, each side by itself -/
section SBS
variable {P : Nat → Nat → List Value → ee_W → Option (List Value × ee_W)} {d : Nat} {w : ee_W} {Z : ZX}
/-- one call, each side by itself -/
def SB (P : Nat → Nat → List Value → ee_W → Option (List Value × ee_W)) (d mc mm : Nat) (vs : List Value) (Z : ZX) (R : Value → Prop) : Prop := ∃ Z' r, R r ∧ WZ Z' ∧ (nT Z'.1 = nT Z.1 ∧ Z'.2.2.1 = Z.2.2.1) ∧ (∀ w, CZ w Z → ∃ w', ee_run ee_B P d mc (.ref 0 :: vs) w = some ([r], w') ∧ CZ w' Z' ∧ chg plo w w') ∧ (∀ w, MZ w Z → ∃ w', ee_run ee_B P d mm (.ref 236 :: vs) w = some ([r], w') ∧ MZ w' Z' ∧ chk phi w w')
theorem sb_of {mc mm : Nat} {vs : List Value} {Z Z' : ZX} {R : Value → Prop} {r : Value} (hW : WZ Z') (hK : nT Z'.1 = nT Z.1 ∧ Z'.2.2.1 = Z.2.2.1) (hR : R r) (hC : ∀ w, CZ w Z → ∃ w', ee_run ee_B P d mc (.ref 0 :: vs) w = some ([r], w') ∧ CZ w' Z' ∧ chg plo w w') (hM : ∀ w, MZ w Z → ∃ w', ee_run ee_B P d mm (.ref 236 :: vs) w = some ([r], w') ∧ MZ w' Z' ∧ chk phi w w') : SB P d mc mm vs Z R := ⟨Z', r, hR, hW, hK, hC, hM⟩
theorem sb_q {mc mm : Nat} {vs : List Value} {Z : ZX} {R : Value → Prop} {r : Value} (hW : WZ Z) (hR : R r) (hC : ∀ w, CZ w Z → ee_run ee_B P d mc (.ref 0 :: vs) w = some ([r], w)) (hM : ∀ w, MZ w Z → ee_run ee_B P d mm (.ref 236 :: vs) w = some ([r], w)) : SB P d mc mm vs Z R := ⟨Z, r, hR, hW, ⟨rfl, rfl⟩, fun w h => ⟨w, hC w h, h, chg_refl _ _⟩, fun w h => ⟨w, hM w h, h, chk_refl _ _⟩⟩
def isB (r : Value) : Prop := ∃ b, r = .int (ee_b b)
def isN (r : Value) : Prop := ∃ v : Int32, r = .int v ∧ (v = -1 ∨ 0 ≤ v.toInt)
theorem s_wobble (hd : 4 ≤ d) (h3 : WZ Z) (s b : Int32) : SB P d 9 186 [.int s, .int b] Z isB := by
  obtain ⟨d, rfl⟩ : ∃ k, d = k + 1 := ⟨d - 1, by omega⟩
  have hd1 : 1 ≤ d := by omega
  have hd2 : 2 ≤ d := by omega
  have e1 : (decide ((0 : Int32) ≤ s) && decide (s ≤ 7)) = in07 s := rfl
  cases q1 : in07 s
  · refine sb_q h3 (r := .int 0) ⟨false, rfl⟩ (fun w h1 => ?_) (fun w h2 => ?_)
    · rw [rn_9 cz_0]
      simp only [r_within hd1, e1, q1, bd_9, k_0, k_1, k_4294967289, k_7, nz_1, nz_7, v_call, v_cons, v_get, v_int, v_loc, v_nil, v_not, v_or, v_z, w_if, w_ret, w_seq, w_sto, List.getElem?_cons_zero, List.getElem?_cons_succ, List.set_cons_zero, List.set_cons_succ, ee_cmp0, ee_cmp1, ee_cmp2, ee_cmp3, ee_cmp4, ee_cmp5, ee_cmpL0, ee_cmpL1, ee_cmpL2, ee_cmpL3, ee_cmpL4, ee_cmpL5, ee_tru_eb, decide_eq_true_eq, ib_i, ie_b, ie_f, ie_t, ib_l, fin_i, fin_l, fin_v, fin_z, fin_a, fin_n, ee_b_0, ee_fld0, ee_fld1, ee_fld2, ee_fld3, bi_0, bi_1, bi_2, bi_3, bi_4, bi_5, bi_6, bi_7, bi_8, bi_9, bi_10, bl_20, bl_21, bl_22, bl_23, bl_24, bl_25, bl_26, bl_48, bl_49, un_0, un_1, un_2, un_3, if_true, if_false, ite_true, ite_false, Bool.false_eq_true, Bool.not_eq_false, decide_not, Bool.not_not, reduceCtorEq, st_i, st_l, st_r, st_n, ee_noL, ee_noL.eq_1, List.length_cons, List.length_nil, Nat.reduceAdd, Nat.reduceLT, Nat.zero_add, and_true, true_and, and_self, fin_ite, pu_0, pu_1, pu_3, sto_0, el_0, Bool.not_eq_true, decide_eq_false_iff_not, Bool.decide_eq_true, Bool.decide_eq_false, decide_true, decide_false, Bool.not_true, Bool.not_false, Bool.and_self, Bool.and_true, Bool.and_false, Bool.true_and, Bool.false_and, Bool.or_true, Bool.or_false, Bool.true_or, Bool.false_or, if_true, if_false, Bool.false_eq_true]
      rfl
    · rw [rn_186 mz_0]
      simp only [r_isSector hd2, e1, q1, bd_186, k_0, k_1, k_23, k_4294967289, k_7, nz_1, nz_23, nz_7, v_bin, v_call, v_cons, v_get, v_int, v_loc, v_nil, v_not, v_or, v_z, w_if, w_ret, w_seq, w_sto, List.getElem?_cons_zero, List.getElem?_cons_succ, List.set_cons_zero, List.set_cons_succ, ee_cmp0, ee_cmp1, ee_cmp2, ee_cmp3, ee_cmp4, ee_cmp5, ee_cmpL0, ee_cmpL1, ee_cmpL2, ee_cmpL3, ee_cmpL4, ee_cmpL5, ee_tru_eb, decide_eq_true_eq, ib_i, ie_b, ie_f, ie_t, ib_l, fin_i, fin_l, fin_v, fin_z, fin_a, fin_n, ee_b_0, ee_fld0, ee_fld1, ee_fld2, ee_fld3, bi_0, bi_1, bi_2, bi_3, bi_4, bi_5, bi_6, bi_7, bi_8, bi_9, bi_10, bl_20, bl_21, bl_22, bl_23, bl_24, bl_25, bl_26, bl_48, bl_49, un_0, un_1, un_2, un_3, if_true, if_false, ite_true, ite_false, Bool.false_eq_true, Bool.not_eq_false, decide_not, Bool.not_not, reduceCtorEq, st_i, st_l, st_r, st_n, ee_noL, ee_noL.eq_1, List.length_cons, List.length_nil, Nat.reduceAdd, Nat.reduceLT, Nat.zero_add, and_true, true_and, and_self, fin_ite, pu_0, pu_1, pu_3, sto_0, el_0, Bool.not_eq_true, decide_eq_false_iff_not, Bool.decide_eq_true, Bool.decide_eq_false, decide_true, decide_false, Bool.not_true, Bool.not_false, Bool.and_self, Bool.and_true, Bool.and_false, Bool.true_and, Bool.false_and, Bool.or_true, Bool.or_false, Bool.true_or, Bool.false_or, if_true, if_false, Bool.false_eq_true, ix_0, ix_1, ix_23, ix_7, tc_0, tc_1, tc_23, tc_7, mz_0, mz_1, mz_a, rvs, j_s, j_a, wI_at, Nat.reduceEqDiff, zero_ne_one_n, one_ne_zero_n]
      rfl
  · cases q2 : (decide (-7 ≤ b) && decide (b ≤ 7))
    · refine sb_q h3 (r := .int 0) ⟨false, rfl⟩ (fun w h1 => ?_) (fun w h2 => ?_)
      · rw [rn_9 cz_0]
        simp only [r_within hd1, e1, q1, q2, bd_9, k_0, k_1, k_4294967289, k_7, nz_1, nz_7, v_call, v_cons, v_get, v_int, v_loc, v_nil, v_not, v_or, v_z, w_if, w_ret, w_seq, w_sto, List.getElem?_cons_zero, List.getElem?_cons_succ, List.set_cons_zero, List.set_cons_succ, ee_cmp0, ee_cmp1, ee_cmp2, ee_cmp3, ee_cmp4, ee_cmp5, ee_cmpL0, ee_cmpL1, ee_cmpL2, ee_cmpL3, ee_cmpL4, ee_cmpL5, ee_tru_eb, decide_eq_true_eq, ib_i, ie_b, ie_f, ie_t, ib_l, fin_i, fin_l, fin_v, fin_z, fin_a, fin_n, ee_b_0, ee_fld0, ee_fld1, ee_fld2, ee_fld3, bi_0, bi_1, bi_2, bi_3, bi_4, bi_5, bi_6, bi_7, bi_8, bi_9, bi_10, bl_20, bl_21, bl_22, bl_23, bl_24, bl_25, bl_26, bl_48, bl_49, un_0, un_1, un_2, un_3, if_true, if_false, ite_true, ite_false, Bool.false_eq_true, Bool.not_eq_false, decide_not, Bool.not_not, reduceCtorEq, st_i, st_l, st_r, st_n, ee_noL, ee_noL.eq_1, List.length_cons, List.length_nil, Nat.reduceAdd, Nat.reduceLT, Nat.zero_add, and_true, true_and, and_self, fin_ite, pu_0, pu_1, pu_3, sto_0, el_0, Bool.not_eq_true, decide_eq_false_iff_not, Bool.decide_eq_true, Bool.decide_eq_false, decide_true, decide_false, Bool.not_true, Bool.not_false, Bool.and_self, Bool.and_true, Bool.and_false, Bool.true_and, Bool.false_and, Bool.or_true, Bool.or_false, Bool.true_or, Bool.false_or, if_true, if_false, Bool.false_eq_true]
        rfl
      · rw [rn_186 mz_0]
        simp only [r_isSector hd2, r_isIn hd1, e1, q1, q2, bd_186, k_0, k_1, k_23, k_4294967289, k_7, nz_1, nz_23, nz_7, v_bin, v_call, v_cons, v_get, v_int, v_loc, v_nil, v_not, v_or, v_z, w_if, w_ret, w_seq, w_sto, List.getElem?_cons_zero, List.getElem?_cons_succ, List.set_cons_zero, List.set_cons_succ, ee_cmp0, ee_cmp1, ee_cmp2, ee_cmp3, ee_cmp4, ee_cmp5, ee_cmpL0, ee_cmpL1, ee_cmpL2, ee_cmpL3, ee_cmpL4, ee_cmpL5, ee_tru_eb, decide_eq_true_eq, ib_i, ie_b, ie_f, ie_t, ib_l, fin_i, fin_l, fin_v, fin_z, fin_a, fin_n, ee_b_0, ee_fld0, ee_fld1, ee_fld2, ee_fld3, bi_0, bi_1, bi_2, bi_3, bi_4, bi_5, bi_6, bi_7, bi_8, bi_9, bi_10, bl_20, bl_21, bl_22, bl_23, bl_24, bl_25, bl_26, bl_48, bl_49, un_0, un_1, un_2, un_3, if_true, if_false, ite_true, ite_false, Bool.false_eq_true, Bool.not_eq_false, decide_not, Bool.not_not, reduceCtorEq, st_i, st_l, st_r, st_n, ee_noL, ee_noL.eq_1, List.length_cons, List.length_nil, Nat.reduceAdd, Nat.reduceLT, Nat.zero_add, and_true, true_and, and_self, fin_ite, pu_0, pu_1, pu_3, sto_0, el_0, Bool.not_eq_true, decide_eq_false_iff_not, Bool.decide_eq_true, Bool.decide_eq_false, decide_true, decide_false, Bool.not_true, Bool.not_false, Bool.and_self, Bool.and_true, Bool.and_false, Bool.true_and, Bool.false_and, Bool.or_true, Bool.or_false, Bool.true_or, Bool.false_or, if_true, if_false, Bool.false_eq_true, ix_0, ix_1, ix_23, ix_7, tc_0, tc_1, tc_23, tc_7, mz_0, mz_1, mz_a, rvs, j_s, j_a, wI_at, Nat.reduceEqDiff, zero_ne_one_n, one_ne_zero_n]
        rfl
    · obtain ⟨k1, k2⟩ := in07_of q1
      generalize s.toNatClampNeg = k at *
      subst k2
      have hb := (in_iff b (-7) 7).1 q2
      have hW : WZ ((Z.1.1, Z.1.2.1, up Z.1.2.2.1 k b, Z.1.2.2.2), Z.2) := by
        obtain ⟨⟨v1, v2, v3, v4⟩, v5⟩ := h3
        refine ⟨⟨v1, v2, fun j hj => ?_, v4⟩, v5⟩
        show bI (up Z.1.2.2.1 k b j) (-7) 7
        rw [up_at]
        split
        · exact ⟨hb.1, hb.2⟩
        · exact v3 j hj
      refine sb_of hW ⟨rfl, rfl⟩ (r := .int 1) ⟨true, rfl⟩ (fun w h1 => ?_) ?_
      · obtain ⟨p0, p1, p2, p3, p4, p5, p6, p7, -⟩ := al_1
        have x1 : ee_ix (Int32.ofNat k) 8 = true := by rw [ixn (by omega)]; exact decide_eq_true k1
        have hc : chg pm0 w (ee_wI w 97 k b) := chg_I (by decide) (chg_refl _ _)
        obtain ⟨c1, c2, c3, c4, c5, c6, c7, c8⟩ := h1.1.2.2.2.1
        refine ⟨ee_wI w 97 k b, ?_, CZ_0 (Y' := (Z.1.1, Z.1.2.1, up Z.1.2.2.1 k b, Z.1.2.2.2)) h1 hc ⟨fun j hj => ?_, ?_, ?_, ?_, ?_, fun i hi => ?_, ?_, fun i hi => ?_⟩ h1.1.2.2.2.2.1 h1.1.2.2.2.2.2 (Nat.le_refl _), chg_mono hc pm0_lo⟩
        · rw [rn_9 cz_0]
          simp only [r_within hd1, e1, q1, q2, cz_0, cz_r0, p0, p3, p7, rvs, x1, tnc (show k < 2147483648 by omega), bd_9, k_0, k_1, k_4294967289, k_7, nz_1, nz_7, v_call, v_cons, v_get, v_int, v_loc, v_nil, v_not, v_or, v_z, w_if, w_ret, w_seq, w_sto, List.getElem?_cons_zero, List.getElem?_cons_succ, List.set_cons_zero, List.set_cons_succ, ee_cmp0, ee_cmp1, ee_cmp2, ee_cmp3, ee_cmp4, ee_cmp5, ee_cmpL0, ee_cmpL1, ee_cmpL2, ee_cmpL3, ee_cmpL4, ee_cmpL5, ee_tru_eb, decide_eq_true_eq, ib_i, ie_b, ie_f, ie_t, ib_l, fin_i, fin_l, fin_v, fin_z, fin_a, fin_n, ee_b_0, ee_fld0, ee_fld1, ee_fld2, ee_fld3, bi_0, bi_1, bi_2, bi_3, bi_4, bi_5, bi_6, bi_7, bi_8, bi_9, bi_10, bl_20, bl_21, bl_22, bl_23, bl_24, bl_25, bl_26, bl_48, bl_49, un_0, un_1, un_2, un_3, if_true, if_false, ite_true, ite_false, Bool.false_eq_true, Bool.not_eq_false, decide_not, Bool.not_not, reduceCtorEq, st_i, st_l, st_r, st_n, ee_noL, ee_noL.eq_1, List.length_cons, List.length_nil, Nat.reduceAdd, Nat.reduceLT, Nat.zero_add, and_true, true_and, and_self, fin_ite, pu_0, pu_1, pu_3, sto_0, el_0, Bool.not_eq_true, decide_eq_false_iff_not, Bool.decide_eq_true, Bool.decide_eq_false, decide_true, decide_false, Bool.not_true, Bool.not_false, Bool.and_self, Bool.and_true, Bool.and_false, Bool.true_and, Bool.false_and, Bool.or_true, Bool.or_false, Bool.true_or, Bool.false_or, if_true, if_false, Bool.false_eq_true]
          rfl
        · show (ee_wI w 97 k b).1 97 j = up Z.1.2.2.1 k b j
          rw [wI_at, up_at]
          by_cases y : j = k
          · rw [if_pos ⟨rfl, y⟩, if_pos y]
          · rw [if_neg (fun z => y z.2), if_neg y]; exact c1 j hj
        · rw [wI_at, if_neg (by omega)]; exact c2
        · rw [wI_at, if_neg (by omega)]; exact c3
        · rw [wI_at, if_neg (by omega)]; exact c4
        · rw [wI_at, if_neg (by omega)]; exact c5
        · rw [wI_at, if_neg (by omega)]; exact c6 i hi
        · rw [wI_at, if_neg (by omega)]; exact c7
        · rw [wI_at, if_neg (by omega), wI_at, if_neg (by omega)]; exact c8 i hi
      · intro w1 hM
        have e23 : (23 : Int32) + Int32.ofNat k = Int32.ofNat (23 + k) := j_a 23 k
        have x1 : ee_ix (Int32.ofNat (23 + k)) 1369 = true := by rw [ixn (by omega)]; exact decide_eq_true (by omega)
        have hc : chk pmm w1 (ee_wI w1 237 (23 + k) b) := chk_I ⟨rfl, by omega⟩ (chk_refl _ _)
        obtain ⟨b0, b1, b3, b4, b5, b6, b7, b8⟩ := M0_of hM.1
        refine ⟨ee_wI w1 237 (23 + k) b, ?_, MZ_0 (Y' := (Z.1.1, Z.1.2.1, up Z.1.2.2.1 k b, Z.1.2.2.2)) hM h3 hc ⟨?_, ?_, ?_, ?_, fun j hj => ?_, ?_, fun i hi => ?_, fun i hi => ?_⟩ (Nat.le_refl _), chk_mono hc pmm_hi⟩
        · rw [rn_186 mz_0]
          simp only [r_isSector hd2, r_isIn hd1, e1, q1, q2, e23, x1, tnc (show 23 + k < 2147483648 by omega), bd_186, k_0, k_1, k_23, k_4294967289, k_7, nz_1, nz_23, nz_7, v_bin, v_call, v_cons, v_get, v_int, v_loc, v_nil, v_not, v_or, v_z, w_if, w_ret, w_seq, w_sto, List.getElem?_cons_zero, List.getElem?_cons_succ, List.set_cons_zero, List.set_cons_succ, ee_cmp0, ee_cmp1, ee_cmp2, ee_cmp3, ee_cmp4, ee_cmp5, ee_cmpL0, ee_cmpL1, ee_cmpL2, ee_cmpL3, ee_cmpL4, ee_cmpL5, ee_tru_eb, decide_eq_true_eq, ib_i, ie_b, ie_f, ie_t, ib_l, fin_i, fin_l, fin_v, fin_z, fin_a, fin_n, ee_b_0, ee_fld0, ee_fld1, ee_fld2, ee_fld3, bi_0, bi_1, bi_2, bi_3, bi_4, bi_5, bi_6, bi_7, bi_8, bi_9, bi_10, bl_20, bl_21, bl_22, bl_23, bl_24, bl_25, bl_26, bl_48, bl_49, un_0, un_1, un_2, un_3, if_true, if_false, ite_true, ite_false, Bool.false_eq_true, Bool.not_eq_false, decide_not, Bool.not_not, reduceCtorEq, st_i, st_l, st_r, st_n, ee_noL, ee_noL.eq_1, List.length_cons, List.length_nil, Nat.reduceAdd, Nat.reduceLT, Nat.zero_add, and_true, true_and, and_self, fin_ite, pu_0, pu_1, pu_3, sto_0, el_0, Bool.not_eq_true, decide_eq_false_iff_not, Bool.decide_eq_true, Bool.decide_eq_false, decide_true, decide_false, Bool.not_true, Bool.not_false, Bool.and_self, Bool.and_true, Bool.and_false, Bool.true_and, Bool.false_and, Bool.or_true, Bool.or_false, Bool.true_or, Bool.false_or, if_true, if_false, Bool.false_eq_true, ix_0, ix_1, ix_23, ix_7, tc_0, tc_1, tc_23, tc_7, mz_0, mz_1, mz_a, rvs, j_s, j_a, wI_at, Nat.reduceEqDiff, zero_ne_one_n, one_ne_zero_n]
          rfl
        · rw [wI_at, if_neg (by omega)]; exact b0
        · rw [wI_at, if_neg (by omega)]; exact b1
        · rw [wI_at, if_neg (by omega)]; exact b3
        · rw [wI_at, if_neg (by omega)]; exact b4
        · show (ee_wI w1 237 (23 + k) b).1 237 (23 + j) = up Z.1.2.2.1 k b j
          rw [wI_at, up_at]
          by_cases y : j = k
          · rw [if_pos ⟨rfl, by omega⟩, if_pos y]
          · rw [if_neg (by omega), if_neg y]; exact b5 j hj
        · rw [wI_at, if_neg (by omega)]; exact b6
        · rw [wI_at, if_neg (by omega)]; exact b7 i hi
        · rw [wI_at, if_neg (by omega), wI_at, if_neg (by omega)]; exact b8 i hi

theorem s_lose (hd : 4 ≤ d) (h3 : WZ Z) (s : Int32) : SB P d 11 189 [.int s] Z isB := by
  obtain ⟨d, rfl⟩ : ∃ k, d = k + 1 := ⟨d - 1, by omega⟩
  have hd1 : 1 ≤ d := by omega
  have hd2 : 2 ≤ d := by omega
  have e1 : (decide ((0 : Int32) ≤ s) && decide (s ≤ 7)) = in07 s := rfl
  cases q1 : in07 s
  · refine sb_q h3 (r := .int 0) ⟨false, rfl⟩ (fun w h1 => ?_) (fun w h2 => ?_)
    · rw [rn_11 cz_0]
      simp only [r_within hd1, e1, q1, bd_11, k_0, k_1, k_7, nz_1, nz_7, v_bin, v_call, v_cons, v_get, v_int, v_loc, v_nil, v_not, v_z, w_if, w_opf, w_ret, w_seq, List.getElem?_cons_zero, List.getElem?_cons_succ, List.set_cons_zero, List.set_cons_succ, ee_cmp0, ee_cmp1, ee_cmp2, ee_cmp3, ee_cmp4, ee_cmp5, ee_cmpL0, ee_cmpL1, ee_cmpL2, ee_cmpL3, ee_cmpL4, ee_cmpL5, ee_tru_eb, decide_eq_true_eq, ib_i, ie_b, ie_f, ie_t, ib_l, fin_i, fin_l, fin_v, fin_z, fin_a, fin_n, ee_b_0, ee_fld0, ee_fld1, ee_fld2, ee_fld3, bi_0, bi_1, bi_2, bi_3, bi_4, bi_5, bi_6, bi_7, bi_8, bi_9, bi_10, bl_20, bl_21, bl_22, bl_23, bl_24, bl_25, bl_26, bl_48, bl_49, un_0, un_1, un_2, un_3, if_true, if_false, ite_true, ite_false, Bool.false_eq_true, Bool.not_eq_false, decide_not, Bool.not_not, reduceCtorEq, st_i, st_l, st_r, st_n, ee_noL, ee_noL.eq_1, List.length_cons, List.length_nil, Nat.reduceAdd, Nat.reduceLT, Nat.zero_add, and_true, true_and, and_self, fin_ite, pu_0, pu_1, pu_3, sto_0, el_0, Bool.not_eq_true, decide_eq_false_iff_not, Bool.decide_eq_true, Bool.decide_eq_false, decide_true, decide_false, Bool.not_true, Bool.not_false, Bool.and_self, Bool.and_true, Bool.and_false, Bool.true_and, Bool.false_and, Bool.or_true, Bool.or_false, Bool.true_or, Bool.false_or, if_true, if_false, Bool.false_eq_true]
      rfl
    · rw [rn_189 mz_0]
      simp only [r_isSector hd2, e1, q1, bd_189, k_0, k_1, k_31, nz_1, nz_31, v_bin, v_call, v_cons, v_get, v_int, v_loc, v_nil, v_not, v_z, w_if, w_opa, w_ret, w_seq, List.getElem?_cons_zero, List.getElem?_cons_succ, List.set_cons_zero, List.set_cons_succ, ee_cmp0, ee_cmp1, ee_cmp2, ee_cmp3, ee_cmp4, ee_cmp5, ee_cmpL0, ee_cmpL1, ee_cmpL2, ee_cmpL3, ee_cmpL4, ee_cmpL5, ee_tru_eb, decide_eq_true_eq, ib_i, ie_b, ie_f, ie_t, ib_l, fin_i, fin_l, fin_v, fin_z, fin_a, fin_n, ee_b_0, ee_fld0, ee_fld1, ee_fld2, ee_fld3, bi_0, bi_1, bi_2, bi_3, bi_4, bi_5, bi_6, bi_7, bi_8, bi_9, bi_10, bl_20, bl_21, bl_22, bl_23, bl_24, bl_25, bl_26, bl_48, bl_49, un_0, un_1, un_2, un_3, if_true, if_false, ite_true, ite_false, Bool.false_eq_true, Bool.not_eq_false, decide_not, Bool.not_not, reduceCtorEq, st_i, st_l, st_r, st_n, ee_noL, ee_noL.eq_1, List.length_cons, List.length_nil, Nat.reduceAdd, Nat.reduceLT, Nat.zero_add, and_true, true_and, and_self, fin_ite, pu_0, pu_1, pu_3, sto_0, el_0, Bool.not_eq_true, decide_eq_false_iff_not, Bool.decide_eq_true, Bool.decide_eq_false, decide_true, decide_false, Bool.not_true, Bool.not_false, Bool.and_self, Bool.and_true, Bool.and_false, Bool.true_and, Bool.false_and, Bool.or_true, Bool.or_false, Bool.true_or, Bool.false_or, if_true, if_false, Bool.false_eq_true, ix_0, ix_1, ix_31, tc_0, tc_1, tc_31, mz_0, mz_1, mz_a, rvs, j_s, j_a, wI_at, Nat.reduceEqDiff, zero_ne_one_n, one_ne_zero_n]
      rfl
  · have hW : WZ ((Z.1.1, Z.1.2.1, Z.1.2.2.1, up Z.1.2.2.2.1 0 (Z.1.2.2.2.1 0 ^^^ (1 <<< (s &&& 31))), Z.1.2.2.2.2), Z.2) := h3
    refine sb_of hW ⟨rfl, rfl⟩ (r := .int 1) ⟨true, rfl⟩ (fun w h1 => ?_) ?_
    · obtain ⟨c1, c2, c3, c4, c5, c6, c7, c8⟩ := h1.1.2.2.2.1
      have hc : chg pm0 w (ee_wI w 1 3 (Z.1.2.2.2.1 0 ^^^ (1 <<< (s &&& 31)))) := chg_I (by decide) (chg_refl _ _)
      refine ⟨_, ?_, CZ_0 (Y' := (Z.1.1, Z.1.2.1, Z.1.2.2.1, up Z.1.2.2.2.1 0 (Z.1.2.2.2.1 0 ^^^ (1 <<< (s &&& 31))), Z.1.2.2.2.2)) h1 hc ⟨fun j hj => ?_, ?_, ?_, ?_, ?_, fun i hi => ?_, ?_, fun i hi => ?_⟩ h1.1.2.2.2.2.1 h1.1.2.2.2.2.2 (Nat.le_refl _), chg_mono hc pm0_lo⟩
      · rw [rn_11 cz_0]
        simp only [r_within hd1, e1, q1, cz_0, cz_r0, al_1.1, rvs, c2, w_opf, bd_11, k_0, k_1, k_7, nz_1, nz_7, v_bin, v_call, v_cons, v_get, v_int, v_loc, v_nil, v_not, v_z, w_if, w_opf, w_ret, w_seq, List.getElem?_cons_zero, List.getElem?_cons_succ, List.set_cons_zero, List.set_cons_succ, ee_cmp0, ee_cmp1, ee_cmp2, ee_cmp3, ee_cmp4, ee_cmp5, ee_cmpL0, ee_cmpL1, ee_cmpL2, ee_cmpL3, ee_cmpL4, ee_cmpL5, ee_tru_eb, decide_eq_true_eq, ib_i, ie_b, ie_f, ie_t, ib_l, fin_i, fin_l, fin_v, fin_z, fin_a, fin_n, ee_b_0, ee_fld0, ee_fld1, ee_fld2, ee_fld3, bi_0, bi_1, bi_2, bi_3, bi_4, bi_5, bi_6, bi_7, bi_8, bi_9, bi_10, bl_20, bl_21, bl_22, bl_23, bl_24, bl_25, bl_26, bl_48, bl_49, un_0, un_1, un_2, un_3, if_true, if_false, ite_true, ite_false, Bool.false_eq_true, Bool.not_eq_false, decide_not, Bool.not_not, reduceCtorEq, st_i, st_l, st_r, st_n, ee_noL, ee_noL.eq_1, List.length_cons, List.length_nil, Nat.reduceAdd, Nat.reduceLT, Nat.zero_add, and_true, true_and, and_self, fin_ite, pu_0, pu_1, pu_3, sto_0, el_0, Bool.not_eq_true, decide_eq_false_iff_not, Bool.decide_eq_true, Bool.decide_eq_false, decide_true, decide_false, Bool.not_true, Bool.not_false, Bool.and_self, Bool.and_true, Bool.and_false, Bool.true_and, Bool.false_and, Bool.or_true, Bool.or_false, Bool.true_or, Bool.false_or, if_true, if_false, Bool.false_eq_true]
        rfl
      · rw [wI_at, if_neg (by omega)]; exact c1 j hj
      · rw [wI_at, if_pos ⟨rfl, rfl⟩]; rfl
      · rw [wI_at, if_neg (by omega)]; exact c3
      · rw [wI_at, if_neg (by omega)]; exact c4
      · rw [wI_at, if_neg (by omega)]; exact c5
      · rw [wI_at, if_neg (by omega)]; exact c6 i hi
      · rw [wI_at, if_neg (by omega)]; exact c7
      · rw [wI_at, if_neg (by omega), wI_at, if_neg (by omega)]; exact c8 i hi
    · intro w1 hM
      obtain ⟨b0, b1, b3, b4, b5, b6, b7, b8⟩ := M0_of hM.1
      have hc : chk pmm w1 (ee_wI w1 237 31 (Z.1.2.2.2.1 0 ^^^ (1 <<< (s &&& 31)))) := chk_I ⟨rfl, by omega⟩ (chk_refl _ _)
      refine ⟨_, ?_, MZ_0 (Y' := (Z.1.1, Z.1.2.1, Z.1.2.2.1, up Z.1.2.2.2.1 0 (Z.1.2.2.2.1 0 ^^^ (1 <<< (s &&& 31))), Z.1.2.2.2.2)) hM h3 hc ⟨?_, ?_, ?_, ?_, fun j hj => ?_, ?_, fun i hi => ?_, fun i hi => ?_⟩ (Nat.le_refl _), chk_mono hc pmm_hi⟩
      · rw [rn_189 mz_0]
        simp only [r_isSector hd2, e1, q1, b6, w_opa, bd_189, k_0, k_1, k_31, nz_1, nz_31, v_bin, v_call, v_cons, v_get, v_int, v_loc, v_nil, v_not, v_z, w_if, w_opa, w_ret, w_seq, List.getElem?_cons_zero, List.getElem?_cons_succ, List.set_cons_zero, List.set_cons_succ, ee_cmp0, ee_cmp1, ee_cmp2, ee_cmp3, ee_cmp4, ee_cmp5, ee_cmpL0, ee_cmpL1, ee_cmpL2, ee_cmpL3, ee_cmpL4, ee_cmpL5, ee_tru_eb, decide_eq_true_eq, ib_i, ie_b, ie_f, ie_t, ib_l, fin_i, fin_l, fin_v, fin_z, fin_a, fin_n, ee_b_0, ee_fld0, ee_fld1, ee_fld2, ee_fld3, bi_0, bi_1, bi_2, bi_3, bi_4, bi_5, bi_6, bi_7, bi_8, bi_9, bi_10, bl_20, bl_21, bl_22, bl_23, bl_24, bl_25, bl_26, bl_48, bl_49, un_0, un_1, un_2, un_3, if_true, if_false, ite_true, ite_false, Bool.false_eq_true, Bool.not_eq_false, decide_not, Bool.not_not, reduceCtorEq, st_i, st_l, st_r, st_n, ee_noL, ee_noL.eq_1, List.length_cons, List.length_nil, Nat.reduceAdd, Nat.reduceLT, Nat.zero_add, and_true, true_and, and_self, fin_ite, pu_0, pu_1, pu_3, sto_0, el_0, Bool.not_eq_true, decide_eq_false_iff_not, Bool.decide_eq_true, Bool.decide_eq_false, decide_true, decide_false, Bool.not_true, Bool.not_false, Bool.and_self, Bool.and_true, Bool.and_false, Bool.true_and, Bool.false_and, Bool.or_true, Bool.or_false, Bool.true_or, Bool.false_or, if_true, if_false, Bool.false_eq_true, ix_0, ix_1, ix_31, tc_0, tc_1, tc_31, mz_0, mz_1, mz_a, rvs, j_s, j_a, wI_at, Nat.reduceEqDiff, zero_ne_one_n, one_ne_zero_n]
        rfl
      · rw [wI_at, if_neg (by omega)]; exact b0
      · rw [wI_at, if_neg (by omega)]; exact b1
      · rw [wI_at, if_neg (by omega)]; exact b3
      · rw [wI_at, if_neg (by omega)]; exact b4
      · rw [wI_at, if_neg (by omega)]; exact b5 j hj
      · rw [wI_at, if_pos ⟨rfl, rfl⟩]; rfl
      · rw [wI_at, if_neg (by omega)]; exact b7 i hi
      · rw [wI_at, if_neg (by omega), wI_at, if_neg (by omega)]; exact b8 i hi

theorem s_seek (hd : 4 ≤ d) (h3 : WZ Z) (t : Int32) : SB P d 63 233 [.int t] Z isB := by
  obtain ⟨d, rfl⟩ : ∃ k, d = k + 1 := ⟨d - 1, by omega⟩
  have hd1 : 1 ≤ d := by omega
  have hd2 : 2 ≤ d := by omega
  have hd3 : 3 ≤ d := by omega
  cases q : ((decide (0 ≤ t) && decide (t < 64)) && !decide (t = Z.1.1.1 4))
  · refine sb_q h3 (r := .int 0) ⟨false, rfl⟩ (fun w h1 => ?_) (fun w h2 => ?_)
    · have a4 : w.1 2 2 = Z.1.1.1 4 := h1.1.1.1.2.2.2.2.1
      have it := r_isTrack (P := P) (w := w) hd1 t
      rw [rn_63 cz_0]
      cases q1 : (decide (0 ≤ t) && decide (t < 64)) <;> cases q2 : decide (t = Z.1.1.1 4) <;> rw [q1, q2] at q <;> first | (cases q; done) | (simp only [it, q1, q2, a4, cz_0, cz_r0, al_1.1, al_1.2.1, hd2_ok.1, rvs, bd_63, k_0, k_1, nz_1, v_call, v_cmp, v_cons, v_get, v_int, v_loc, v_nil, v_not, v_or, v_z, w_exp0, w_exp1, w_if, w_ret, w_seq, List.getElem?_cons_zero, List.getElem?_cons_succ, List.set_cons_zero, List.set_cons_succ, ee_cmp0, ee_cmp1, ee_cmp2, ee_cmp3, ee_cmp4, ee_cmp5, ee_cmpL0, ee_cmpL1, ee_cmpL2, ee_cmpL3, ee_cmpL4, ee_cmpL5, ee_tru_eb, decide_eq_true_eq, ib_i, ie_b, ie_f, ie_t, ib_l, fin_i, fin_l, fin_v, fin_z, fin_a, fin_n, ee_b_0, ee_fld0, ee_fld1, ee_fld2, ee_fld3, bi_0, bi_1, bi_2, bi_3, bi_4, bi_5, bi_6, bi_7, bi_8, bi_9, bi_10, bl_20, bl_21, bl_22, bl_23, bl_24, bl_25, bl_26, bl_48, bl_49, un_0, un_1, un_2, un_3, if_true, if_false, ite_true, ite_false, Bool.false_eq_true, Bool.not_eq_false, decide_not, Bool.not_not, reduceCtorEq, st_i, st_l, st_r, st_n, ee_noL, ee_noL.eq_1, List.length_cons, List.length_nil, Nat.reduceAdd, Nat.reduceLT, Nat.zero_add, and_true, true_and, and_self, fin_ite, pu_0, pu_1, pu_3, sto_0, el_0, Bool.not_eq_true, decide_eq_false_iff_not, Bool.decide_eq_true, Bool.decide_eq_false, decide_true, decide_false, Bool.not_true, Bool.not_false, Bool.and_self, Bool.and_true, Bool.and_false, Bool.true_and, Bool.false_and, Bool.or_true, Bool.or_false, Bool.true_or, Bool.false_or, if_true, if_false, Bool.false_eq_true]; rfl)
    · have hMz := MHz_of h2.1 h2.2.2.2.2.2 h3.1.1.2.1
      rw [rn_233 mz_0]
      have cs := m_canSeek (P := P) (w := w) hd3 hMz t
      rw [q] at cs
      simp only [cs, bd_233, k_0, k_1, nz_1, v_call, v_cons, v_int, v_loc, v_nil, v_not, v_z, w_exp0, w_exp1, w_if, w_ret, w_seq, List.getElem?_cons_zero, List.getElem?_cons_succ, List.set_cons_zero, List.set_cons_succ, ee_cmp0, ee_cmp1, ee_cmp2, ee_cmp3, ee_cmp4, ee_cmp5, ee_cmpL0, ee_cmpL1, ee_cmpL2, ee_cmpL3, ee_cmpL4, ee_cmpL5, ee_tru_eb, decide_eq_true_eq, ib_i, ie_b, ie_f, ie_t, ib_l, fin_i, fin_l, fin_v, fin_z, fin_a, fin_n, ee_b_0, ee_fld0, ee_fld1, ee_fld2, ee_fld3, bi_0, bi_1, bi_2, bi_3, bi_4, bi_5, bi_6, bi_7, bi_8, bi_9, bi_10, bl_20, bl_21, bl_22, bl_23, bl_24, bl_25, bl_26, bl_48, bl_49, un_0, un_1, un_2, un_3, if_true, if_false, ite_true, ite_false, Bool.false_eq_true, Bool.not_eq_false, decide_not, Bool.not_not, reduceCtorEq, st_i, st_l, st_r, st_n, ee_noL, ee_noL.eq_1, List.length_cons, List.length_nil, Nat.reduceAdd, Nat.reduceLT, Nat.zero_add, and_true, true_and, and_self, fin_ite, pu_0, pu_1, pu_3, sto_0, el_0, Bool.not_eq_true, decide_eq_false_iff_not, Bool.decide_eq_true, Bool.decide_eq_false, decide_true, decide_false, Bool.not_true, Bool.not_false, Bool.and_self, Bool.and_true, Bool.and_false, Bool.true_and, Bool.false_and, Bool.or_true, Bool.or_false, Bool.true_or, Bool.false_or, if_true, if_false, Bool.false_eq_true, ix_0, ix_1, tc_0, tc_1, mz_0, mz_1, mz_a, rvs, j_s, j_a, wI_at, Nat.reduceEqDiff, zero_ne_one_n, one_ne_zero_n]
      rfl
  · rw [Bool.and_eq_true] at q
    obtain ⟨q1, q2⟩ := q
    have q2' : decide (t = Z.1.1.1 4) = false := by simpa using q2
    have ht := (in_iff t 0 63).1 (by rw [i63]; exact q1)
    have hb : bI t 0 63 := ⟨ht.1, ht.2⟩
    have hX : WH (xaim Z.1.1 t) := WH_note (wf_up (wf_up h3.1.1.1 4 hb) 6 (zb (by omega) (by omega))) h3.1.1.2.2.1 h3.1.1.2.1 h3.1.1.2.2.2 (zb (by omega) (by omega)) (bI_w hb (by omega) (by omega))
    refine sb_of (WZ_step h3 hX) ⟨rfl, rfl⟩ (r := .int 1) ⟨true, rfl⟩ (fun w h1 => ?_) ?_
    · have a4 : w.1 2 2 = Z.1.1.1 4 := h1.1.1.1.2.2.2.2.1
      have it := r_isTrack (P := P) (w := w) hd1 t
      obtain ⟨w1, n1, n2, n3⟩ := c_keep (P := P) hd3 st5 hd2_ok (by omega) h1.1.2.2.1 h1.1.1 h1.1.2.1
      have hx := CH_chg h1.1.1 n3 (by unfold srg; rw [rg_f]; omega) (by unfold srg; rw [rg_f]; omega) (by unfold srg; rw [rg_f]; omega)
      obtain ⟨w2, m1, m2, m3⟩ := c_aim (P := P) hd3 hd2_ok hx h1.1.2.1 t
      obtain ⟨s1, s2⟩ := c_step h1 hX.2.1 n2 n3 m2 m3
      refine ⟨w2, ?_, s1, chg_mono s2 hm_lo⟩
      rw [rn_63 cz_0]
      simp only [it, q1, q2', a4, n1, m1, cz_0, cz_r0, al_1.1, al_1.2.1, al_1.2.2.1, hd2_ok.1, rvs, bd_63, k_0, k_1, nz_1, v_call, v_cmp, v_cons, v_get, v_int, v_loc, v_nil, v_not, v_or, v_z, w_exp0, w_exp1, w_if, w_ret, w_seq, List.getElem?_cons_zero, List.getElem?_cons_succ, List.set_cons_zero, List.set_cons_succ, ee_cmp0, ee_cmp1, ee_cmp2, ee_cmp3, ee_cmp4, ee_cmp5, ee_cmpL0, ee_cmpL1, ee_cmpL2, ee_cmpL3, ee_cmpL4, ee_cmpL5, ee_tru_eb, decide_eq_true_eq, ib_i, ie_b, ie_f, ie_t, ib_l, fin_i, fin_l, fin_v, fin_z, fin_a, fin_n, ee_b_0, ee_fld0, ee_fld1, ee_fld2, ee_fld3, bi_0, bi_1, bi_2, bi_3, bi_4, bi_5, bi_6, bi_7, bi_8, bi_9, bi_10, bl_20, bl_21, bl_22, bl_23, bl_24, bl_25, bl_26, bl_48, bl_49, un_0, un_1, un_2, un_3, if_true, if_false, ite_true, ite_false, Bool.false_eq_true, Bool.not_eq_false, decide_not, Bool.not_not, reduceCtorEq, st_i, st_l, st_r, st_n, ee_noL, ee_noL.eq_1, List.length_cons, List.length_nil, Nat.reduceAdd, Nat.reduceLT, Nat.zero_add, and_true, true_and, and_self, fin_ite, pu_0, pu_1, pu_3, sto_0, el_0, Bool.not_eq_true, decide_eq_false_iff_not, Bool.decide_eq_true, Bool.decide_eq_false, decide_true, decide_false, Bool.not_true, Bool.not_false, Bool.and_self, Bool.and_true, Bool.and_false, Bool.true_and, Bool.false_and, Bool.or_true, Bool.or_false, Bool.true_or, Bool.false_or, if_true, if_false, Bool.false_eq_true]
      rfl
    · intro w1 hM
      obtain ⟨w2, n1, n2, n3⟩ := m_keep (P := P) hd1 hM.1 h3.1
      have hz : w2.1 236 23 = 1 := (n3.1 _ _ (by unfold pkp; omega)).trans hM.2.2.2.2.2
      obtain ⟨w3, m1, m2, m3⟩ := m_seekNow (P := P) hd2 (MHz_of n2 hz h3.1.1.2.1) t
      obtain ⟨s1, s2⟩ := m_step (p := pst) hM h3 n2 n3 m2 (chk_mono m3 ph_psm)
      have cs := m_canSeek (P := P) (w := w1) hd3 (MHz_of hM.1 hM.2.2.2.2.2 h3.1.1.2.1) t
      rw [q1, q2'] at cs
      refine ⟨w3, ?_, s1, chk_mono s2 pst_hi⟩
      rw [rn_233 mz_0]
      simp only [cs, n1, m1, bd_233, k_0, k_1, nz_1, v_call, v_cons, v_int, v_loc, v_nil, v_not, v_z, w_exp0, w_exp1, w_if, w_ret, w_seq, List.getElem?_cons_zero, List.getElem?_cons_succ, List.set_cons_zero, List.set_cons_succ, ee_cmp0, ee_cmp1, ee_cmp2, ee_cmp3, ee_cmp4, ee_cmp5, ee_cmpL0, ee_cmpL1, ee_cmpL2, ee_cmpL3, ee_cmpL4, ee_cmpL5, ee_tru_eb, decide_eq_true_eq, ib_i, ie_b, ie_f, ie_t, ib_l, fin_i, fin_l, fin_v, fin_z, fin_a, fin_n, ee_b_0, ee_fld0, ee_fld1, ee_fld2, ee_fld3, bi_0, bi_1, bi_2, bi_3, bi_4, bi_5, bi_6, bi_7, bi_8, bi_9, bi_10, bl_20, bl_21, bl_22, bl_23, bl_24, bl_25, bl_26, bl_48, bl_49, un_0, un_1, un_2, un_3, if_true, if_false, ite_true, ite_false, Bool.false_eq_true, Bool.not_eq_false, decide_not, Bool.not_not, reduceCtorEq, st_i, st_l, st_r, st_n, ee_noL, ee_noL.eq_1, List.length_cons, List.length_nil, Nat.reduceAdd, Nat.reduceLT, Nat.zero_add, and_true, true_and, and_self, fin_ite, pu_0, pu_1, pu_3, sto_0, el_0, Bool.not_eq_true, decide_eq_false_iff_not, Bool.decide_eq_true, Bool.decide_eq_false, decide_true, decide_false, Bool.not_true, Bool.not_false, Bool.and_self, Bool.and_true, Bool.and_false, Bool.true_and, Bool.false_and, Bool.or_true, Bool.or_false, Bool.true_or, Bool.false_or, if_true, if_false, Bool.false_eq_true, ix_0, ix_1, tc_0, tc_1, mz_0, mz_1, mz_a, rvs, j_s, j_a, wI_at, Nat.reduceEqDiff, zero_ne_one_n, one_ne_zero_n]
      rfl

theorem s_shake (hd : 4 ≤ d) (h3 : WZ Z) (t : Int32) : SB P d 71 239 [.int t] Z isN := by
  obtain ⟨d, rfl⟩ : ∃ k, d = k + 1 := ⟨d - 1, by omega⟩
  have hd1 : 1 ≤ d := by omega
  have hd2 : 2 ≤ d := by omega
  have hd3 : 3 ≤ d := by omega
  cases q1 : (decide (-40 ≤ t) && decide (t ≤ 40))
  · refine sb_q h3 (r := .int (-1)) ⟨_, rfl, Or.inl rfl⟩ (fun w h1 => ?_) (fun w h2 => ?_)
    · rw [rn_71 cz_0]
      simp only [r_within hd1, q1, bd_71, k_40, k_4294967256, k_4294967295, nz_40, v_call, v_cons, v_get, v_int, v_loc, v_nil, v_not, v_or, v_z, w_exp0, w_exp1, w_if, w_ret, w_seq, List.getElem?_cons_zero, List.getElem?_cons_succ, List.set_cons_zero, List.set_cons_succ, ee_cmp0, ee_cmp1, ee_cmp2, ee_cmp3, ee_cmp4, ee_cmp5, ee_cmpL0, ee_cmpL1, ee_cmpL2, ee_cmpL3, ee_cmpL4, ee_cmpL5, ee_tru_eb, decide_eq_true_eq, ib_i, ie_b, ie_f, ie_t, ib_l, fin_i, fin_l, fin_v, fin_z, fin_a, fin_n, ee_b_0, ee_fld0, ee_fld1, ee_fld2, ee_fld3, bi_0, bi_1, bi_2, bi_3, bi_4, bi_5, bi_6, bi_7, bi_8, bi_9, bi_10, bl_20, bl_21, bl_22, bl_23, bl_24, bl_25, bl_26, bl_48, bl_49, un_0, un_1, un_2, un_3, if_true, if_false, ite_true, ite_false, Bool.false_eq_true, Bool.not_eq_false, decide_not, Bool.not_not, reduceCtorEq, st_i, st_l, st_r, st_n, ee_noL, ee_noL.eq_1, List.length_cons, List.length_nil, Nat.reduceAdd, Nat.reduceLT, Nat.zero_add, and_true, true_and, and_self, fin_ite, pu_0, pu_1, pu_3, sto_0, el_0, Bool.not_eq_true, decide_eq_false_iff_not, Bool.decide_eq_true, Bool.decide_eq_false, decide_true, decide_false, Bool.not_true, Bool.not_false, Bool.and_self, Bool.and_true, Bool.and_false, Bool.true_and, Bool.false_and, Bool.or_true, Bool.or_false, Bool.true_or, Bool.false_or, if_true, if_false, Bool.false_eq_true]
    · rw [rn_239 mz_0]
      simp only [r_isIn hd1, q1, bd_239, k_40, k_4294967256, k_4294967295, k_7, nz_40, nz_7, v_call, v_cons, v_get, v_idx, v_int, v_loc, v_nil, v_not, v_or, v_z, w_exp0, w_exp1, w_if, w_ret, w_seq, List.getElem?_cons_zero, List.getElem?_cons_succ, List.set_cons_zero, List.set_cons_succ, ee_cmp0, ee_cmp1, ee_cmp2, ee_cmp3, ee_cmp4, ee_cmp5, ee_cmpL0, ee_cmpL1, ee_cmpL2, ee_cmpL3, ee_cmpL4, ee_cmpL5, ee_tru_eb, decide_eq_true_eq, ib_i, ie_b, ie_f, ie_t, ib_l, fin_i, fin_l, fin_v, fin_z, fin_a, fin_n, ee_b_0, ee_fld0, ee_fld1, ee_fld2, ee_fld3, bi_0, bi_1, bi_2, bi_3, bi_4, bi_5, bi_6, bi_7, bi_8, bi_9, bi_10, bl_20, bl_21, bl_22, bl_23, bl_24, bl_25, bl_26, bl_48, bl_49, un_0, un_1, un_2, un_3, if_true, if_false, ite_true, ite_false, Bool.false_eq_true, Bool.not_eq_false, decide_not, Bool.not_not, reduceCtorEq, st_i, st_l, st_r, st_n, ee_noL, ee_noL.eq_1, List.length_cons, List.length_nil, Nat.reduceAdd, Nat.reduceLT, Nat.zero_add, and_true, true_and, and_self, fin_ite, pu_0, pu_1, pu_3, sto_0, el_0, Bool.not_eq_true, decide_eq_false_iff_not, Bool.decide_eq_true, Bool.decide_eq_false, decide_true, decide_false, Bool.not_true, Bool.not_false, Bool.and_self, Bool.and_true, Bool.and_false, Bool.true_and, Bool.false_and, Bool.or_true, Bool.or_false, Bool.true_or, Bool.false_or, if_true, if_false, Bool.false_eq_true, ix_40, ix_7, tc_40, tc_7, mz_0, mz_1, mz_a, rvs, j_s, j_a, wI_at, Nat.reduceEqDiff, zero_ne_one_n, one_ne_zero_n]
  · cases q2 : decide (t = 0)
    · have ht := (in_iff t (-40) 40).1 q1
      have hb : bI t (-40) 40 := ⟨ht.1, ht.2⟩
      have hX : WH (xnudge Z.1.1 t) := WH_note (wf_up (wf_up h3.1.1.1 2 (bI_hold (by decide) (by decide) (by decide))) 6 (zb (by omega) (by omega))) h3.1.1.2.2.1 h3.1.1.2.1 h3.1.1.2.2.2 (by unfold bI; decide) (bI_w hb (by omega) (by omega))
      refine sb_of (WZ_step h3 hX) ⟨rfl, rfl⟩ (r := .int ((xnudge Z.1.1 t).1 2)) ⟨_, rfl, Or.inr hX.1.2.2.1.1⟩ (fun w h1 => ?_) ?_
      · obtain ⟨w1, n1, n2, n3⟩ := c_keep (P := P) hd3 st5 hd2_ok (by omega) h1.1.2.2.1 h1.1.1 h1.1.2.1
        have hx := CH_chg h1.1.1 n3 (by unfold srg; rw [rg_f]; omega) (by unfold srg; rw [rg_f]; omega) (by unfold srg; rw [rg_f]; omega)
        obtain ⟨w2, m1, m2, m3⟩ := c_nudge (P := P) hd3 hd2_ok hx h1.1.2.1 t
        obtain ⟨s1, s2⟩ := c_step h1 hX.2.1 n2 n3 m2 m3
        refine ⟨w2, ?_, s1, chg_mono s2 hm_lo⟩
        have e : w2.1 2 0 = (xnudge Z.1.1 t).1 2 := m2.1.2.2.1
        rw [rn_71 cz_0]
        simp only [r_within hd1, q1, q2, n1, m1, e, cz_0, cz_r0, al_1.1, al_1.2.1, al_1.2.2.1, hd2_ok.1, rvs, bd_71, k_40, k_4294967256, k_4294967295, nz_40, v_call, v_cons, v_get, v_int, v_loc, v_nil, v_not, v_or, v_z, w_exp0, w_exp1, w_if, w_ret, w_seq, List.getElem?_cons_zero, List.getElem?_cons_succ, List.set_cons_zero, List.set_cons_succ, ee_cmp0, ee_cmp1, ee_cmp2, ee_cmp3, ee_cmp4, ee_cmp5, ee_cmpL0, ee_cmpL1, ee_cmpL2, ee_cmpL3, ee_cmpL4, ee_cmpL5, ee_tru_eb, decide_eq_true_eq, ib_i, ie_b, ie_f, ie_t, ib_l, fin_i, fin_l, fin_v, fin_z, fin_a, fin_n, ee_b_0, ee_fld0, ee_fld1, ee_fld2, ee_fld3, bi_0, bi_1, bi_2, bi_3, bi_4, bi_5, bi_6, bi_7, bi_8, bi_9, bi_10, bl_20, bl_21, bl_22, bl_23, bl_24, bl_25, bl_26, bl_48, bl_49, un_0, un_1, un_2, un_3, if_true, if_false, ite_true, ite_false, Bool.false_eq_true, Bool.not_eq_false, decide_not, Bool.not_not, reduceCtorEq, st_i, st_l, st_r, st_n, ee_noL, ee_noL.eq_1, List.length_cons, List.length_nil, Nat.reduceAdd, Nat.reduceLT, Nat.zero_add, and_true, true_and, and_self, fin_ite, pu_0, pu_1, pu_3, sto_0, el_0, Bool.not_eq_true, decide_eq_false_iff_not, Bool.decide_eq_true, Bool.decide_eq_false, decide_true, decide_false, Bool.not_true, Bool.not_false, Bool.and_self, Bool.and_true, Bool.and_false, Bool.true_and, Bool.false_and, Bool.or_true, Bool.or_false, Bool.true_or, Bool.false_or, if_true, if_false, Bool.false_eq_true]
      · intro w1 hM
        obtain ⟨w2, n1, n2, n3⟩ := m_keep (P := P) hd1 hM.1 h3.1
        have hz : w2.1 236 23 = 1 := (n3.1 _ _ (by unfold pkp; omega)).trans hM.2.2.2.2.2
        obtain ⟨w3, m1, m2, m3⟩ := m_shakeNow (P := P) hd2 (MHz_of n2 hz h3.1.1.2.1) t
        obtain ⟨s1, s2⟩ := m_step (p := pst) hM h3 n2 n3 m2 (chk_mono m3 ph_psm)
        have e : w3.1 237 7 = (xnudge Z.1.1 t).1 2 := m2.2.1 2 (by omega) (by omega)
        refine ⟨w3, ?_, s1, chk_mono s2 pst_hi⟩
        rw [rn_239 mz_0]
        simp only [r_isIn hd1, q1, q2, n1, m1, e, bd_239, k_40, k_4294967256, k_4294967295, k_7, nz_40, nz_7, v_call, v_cons, v_get, v_idx, v_int, v_loc, v_nil, v_not, v_or, v_z, w_exp0, w_exp1, w_if, w_ret, w_seq, List.getElem?_cons_zero, List.getElem?_cons_succ, List.set_cons_zero, List.set_cons_succ, ee_cmp0, ee_cmp1, ee_cmp2, ee_cmp3, ee_cmp4, ee_cmp5, ee_cmpL0, ee_cmpL1, ee_cmpL2, ee_cmpL3, ee_cmpL4, ee_cmpL5, ee_tru_eb, decide_eq_true_eq, ib_i, ie_b, ie_f, ie_t, ib_l, fin_i, fin_l, fin_v, fin_z, fin_a, fin_n, ee_b_0, ee_fld0, ee_fld1, ee_fld2, ee_fld3, bi_0, bi_1, bi_2, bi_3, bi_4, bi_5, bi_6, bi_7, bi_8, bi_9, bi_10, bl_20, bl_21, bl_22, bl_23, bl_24, bl_25, bl_26, bl_48, bl_49, un_0, un_1, un_2, un_3, if_true, if_false, ite_true, ite_false, Bool.false_eq_true, Bool.not_eq_false, decide_not, Bool.not_not, reduceCtorEq, st_i, st_l, st_r, st_n, ee_noL, ee_noL.eq_1, List.length_cons, List.length_nil, Nat.reduceAdd, Nat.reduceLT, Nat.zero_add, and_true, true_and, and_self, fin_ite, pu_0, pu_1, pu_3, sto_0, el_0, Bool.not_eq_true, decide_eq_false_iff_not, Bool.decide_eq_true, Bool.decide_eq_false, decide_true, decide_false, Bool.not_true, Bool.not_false, Bool.and_self, Bool.and_true, Bool.and_false, Bool.true_and, Bool.false_and, Bool.or_true, Bool.or_false, Bool.true_or, Bool.false_or, if_true, if_false, Bool.false_eq_true, ix_40, ix_7, tc_40, tc_7, mz_0, mz_1, mz_a, rvs, j_s, j_a, wI_at, Nat.reduceEqDiff, zero_ne_one_n, one_ne_zero_n]
    · refine sb_q h3 (r := .int (-1)) ⟨_, rfl, Or.inl rfl⟩ (fun w h1 => ?_) (fun w h2 => ?_)
      · rw [rn_71 cz_0]
        simp only [r_within hd1, q1, q2, bd_71, k_40, k_4294967256, k_4294967295, nz_40, v_call, v_cons, v_get, v_int, v_loc, v_nil, v_not, v_or, v_z, w_exp0, w_exp1, w_if, w_ret, w_seq, List.getElem?_cons_zero, List.getElem?_cons_succ, List.set_cons_zero, List.set_cons_succ, ee_cmp0, ee_cmp1, ee_cmp2, ee_cmp3, ee_cmp4, ee_cmp5, ee_cmpL0, ee_cmpL1, ee_cmpL2, ee_cmpL3, ee_cmpL4, ee_cmpL5, ee_tru_eb, decide_eq_true_eq, ib_i, ie_b, ie_f, ie_t, ib_l, fin_i, fin_l, fin_v, fin_z, fin_a, fin_n, ee_b_0, ee_fld0, ee_fld1, ee_fld2, ee_fld3, bi_0, bi_1, bi_2, bi_3, bi_4, bi_5, bi_6, bi_7, bi_8, bi_9, bi_10, bl_20, bl_21, bl_22, bl_23, bl_24, bl_25, bl_26, bl_48, bl_49, un_0, un_1, un_2, un_3, if_true, if_false, ite_true, ite_false, Bool.false_eq_true, Bool.not_eq_false, decide_not, Bool.not_not, reduceCtorEq, st_i, st_l, st_r, st_n, ee_noL, ee_noL.eq_1, List.length_cons, List.length_nil, Nat.reduceAdd, Nat.reduceLT, Nat.zero_add, and_true, true_and, and_self, fin_ite, pu_0, pu_1, pu_3, sto_0, el_0, Bool.not_eq_true, decide_eq_false_iff_not, Bool.decide_eq_true, Bool.decide_eq_false, decide_true, decide_false, Bool.not_true, Bool.not_false, Bool.and_self, Bool.and_true, Bool.and_false, Bool.true_and, Bool.false_and, Bool.or_true, Bool.or_false, Bool.true_or, Bool.false_or, if_true, if_false, Bool.false_eq_true]
      · rw [rn_239 mz_0]
        simp only [r_isIn hd1, q1, q2, bd_239, k_40, k_4294967256, k_4294967295, k_7, nz_40, nz_7, v_call, v_cons, v_get, v_idx, v_int, v_loc, v_nil, v_not, v_or, v_z, w_exp0, w_exp1, w_if, w_ret, w_seq, List.getElem?_cons_zero, List.getElem?_cons_succ, List.set_cons_zero, List.set_cons_succ, ee_cmp0, ee_cmp1, ee_cmp2, ee_cmp3, ee_cmp4, ee_cmp5, ee_cmpL0, ee_cmpL1, ee_cmpL2, ee_cmpL3, ee_cmpL4, ee_cmpL5, ee_tru_eb, decide_eq_true_eq, ib_i, ie_b, ie_f, ie_t, ib_l, fin_i, fin_l, fin_v, fin_z, fin_a, fin_n, ee_b_0, ee_fld0, ee_fld1, ee_fld2, ee_fld3, bi_0, bi_1, bi_2, bi_3, bi_4, bi_5, bi_6, bi_7, bi_8, bi_9, bi_10, bl_20, bl_21, bl_22, bl_23, bl_24, bl_25, bl_26, bl_48, bl_49, un_0, un_1, un_2, un_3, if_true, if_false, ite_true, ite_false, Bool.false_eq_true, Bool.not_eq_false, decide_not, Bool.not_not, reduceCtorEq, st_i, st_l, st_r, st_n, ee_noL, ee_noL.eq_1, List.length_cons, List.length_nil, Nat.reduceAdd, Nat.reduceLT, Nat.zero_add, and_true, true_and, and_self, fin_ite, pu_0, pu_1, pu_3, sto_0, el_0, Bool.not_eq_true, decide_eq_false_iff_not, Bool.decide_eq_true, Bool.decide_eq_false, decide_true, decide_false, Bool.not_true, Bool.not_false, Bool.and_self, Bool.and_true, Bool.and_false, Bool.true_and, Bool.false_and, Bool.or_true, Bool.or_false, Bool.true_or, Bool.false_or, if_true, if_false, Bool.false_eq_true, ix_40, ix_7, tc_40, tc_7, mz_0, mz_1, mz_a, rvs, j_s, j_a, wI_at, Nat.reduceEqDiff, zero_ne_one_n, one_ne_zero_n]

theorem s_write (hd : 4 ≤ d) (h3 : WZ Z) : SB P d 75 242 [] Z isN := by
  obtain ⟨d, rfl⟩ : ∃ k, d = k + 1 := ⟨d - 1, by omega⟩
  have hd1 : 1 ≤ d := by omega
  have hd2 : 2 ≤ d := by omega
  have hd3 : 3 ≤ d := by omega
  cases q1 : decide (3 ≤ Z.1.1.1 6)
  · refine sb_q h3 (r := .int (-1)) ⟨_, rfl, Or.inl rfl⟩ (fun w h1 => ?_) (fun w h2 => ?_)
    · have g := c_gateOpen (P := P) (w := w) hd1 hd2_ok h1.1.1
      rw [q1] at g
      rw [rn_75 cz_0]
      simp only [g, cz_0, cz_r0, al_1.1, al_1.2.1, rvs, bd_75, k_4294967295, v_call, v_cons, v_get, v_int, v_loc, v_nil, v_not, v_z, w_exp0, w_exp1, w_if, w_ret, w_seq, List.getElem?_cons_zero, List.getElem?_cons_succ, List.set_cons_zero, List.set_cons_succ, ee_cmp0, ee_cmp1, ee_cmp2, ee_cmp3, ee_cmp4, ee_cmp5, ee_cmpL0, ee_cmpL1, ee_cmpL2, ee_cmpL3, ee_cmpL4, ee_cmpL5, ee_tru_eb, decide_eq_true_eq, ib_i, ie_b, ie_f, ie_t, ib_l, fin_i, fin_l, fin_v, fin_z, fin_a, fin_n, ee_b_0, ee_fld0, ee_fld1, ee_fld2, ee_fld3, bi_0, bi_1, bi_2, bi_3, bi_4, bi_5, bi_6, bi_7, bi_8, bi_9, bi_10, bl_20, bl_21, bl_22, bl_23, bl_24, bl_25, bl_26, bl_48, bl_49, un_0, un_1, un_2, un_3, if_true, if_false, ite_true, ite_false, Bool.false_eq_true, Bool.not_eq_false, decide_not, Bool.not_not, reduceCtorEq, st_i, st_l, st_r, st_n, ee_noL, ee_noL.eq_1, List.length_cons, List.length_nil, Nat.reduceAdd, Nat.reduceLT, Nat.zero_add, and_true, true_and, and_self, fin_ite, pu_0, pu_1, pu_3, sto_0, el_0, Bool.not_eq_true, decide_eq_false_iff_not, Bool.decide_eq_true, Bool.decide_eq_false, decide_true, decide_false, Bool.not_true, Bool.not_false, Bool.and_self, Bool.and_true, Bool.and_false, Bool.true_and, Bool.false_and, Bool.or_true, Bool.or_false, Bool.true_or, Bool.false_or, if_true, if_false, Bool.false_eq_true]
    · have cw := m_canWrite (P := P) (w := w) hd1 (MHz_of h2.1 h2.2.2.2.2.2 h3.1.1.2.1)
      rw [q1] at cw
      rw [rn_242 mz_0]
      simp only [cw, bd_242, k_4294967295, k_9, nz_9, v_call, v_cons, v_get, v_idx, v_int, v_loc, v_nil, v_not, v_z, w_exp0, w_exp1, w_if, w_ret, w_seq, List.getElem?_cons_zero, List.getElem?_cons_succ, List.set_cons_zero, List.set_cons_succ, ee_cmp0, ee_cmp1, ee_cmp2, ee_cmp3, ee_cmp4, ee_cmp5, ee_cmpL0, ee_cmpL1, ee_cmpL2, ee_cmpL3, ee_cmpL4, ee_cmpL5, ee_tru_eb, decide_eq_true_eq, ib_i, ie_b, ie_f, ie_t, ib_l, fin_i, fin_l, fin_v, fin_z, fin_a, fin_n, ee_b_0, ee_fld0, ee_fld1, ee_fld2, ee_fld3, bi_0, bi_1, bi_2, bi_3, bi_4, bi_5, bi_6, bi_7, bi_8, bi_9, bi_10, bl_20, bl_21, bl_22, bl_23, bl_24, bl_25, bl_26, bl_48, bl_49, un_0, un_1, un_2, un_3, if_true, if_false, ite_true, ite_false, Bool.false_eq_true, Bool.not_eq_false, decide_not, Bool.not_not, reduceCtorEq, st_i, st_l, st_r, st_n, ee_noL, ee_noL.eq_1, List.length_cons, List.length_nil, Nat.reduceAdd, Nat.reduceLT, Nat.zero_add, and_true, true_and, and_self, fin_ite, pu_0, pu_1, pu_3, sto_0, el_0, Bool.not_eq_true, decide_eq_false_iff_not, Bool.decide_eq_true, Bool.decide_eq_false, decide_true, decide_false, Bool.not_true, Bool.not_false, Bool.and_self, Bool.and_true, Bool.and_false, Bool.true_and, Bool.false_and, Bool.or_true, Bool.or_false, Bool.true_or, Bool.false_or, if_true, if_false, Bool.false_eq_true, ix_9, tc_9, mz_0, mz_1, mz_a, rvs, j_s, j_a, wI_at, Nat.reduceEqDiff, zero_ne_one_n, one_ne_zero_n]
  · have wf := h3.1.1.1
    have hX : WH (xmark Z.1.1) := WH_note (wf_up wf 7 (xmin_b wf.2.2.2.2.2.2.2.1.1 wf.2.2.2.2.2.2.2.1.2 (m := 9999) (by decide))) h3.1.1.2.2.1 h3.1.1.2.1 h3.1.1.2.2.2 (by unfold bI; decide) (bI_w wf.2.2.2.2.1 (by omega) (by omega))
    have e4 : (xmark Z.1.1).1 4 = Z.1.1.1 4 := by
      unfold xmark
      rw [xnote_1]
      rfl
    refine sb_of (WZ_step h3 hX) ⟨rfl, rfl⟩ (r := .int (Z.1.1.1 4)) ⟨_, rfl, Or.inr h3.1.1.1.2.2.2.2.1.1⟩ (fun w h1 => ?_) ?_
    · have g := c_gateOpen (P := P) (w := w) hd1 hd2_ok h1.1.1
      rw [q1] at g
      obtain ⟨w1, n1, n2, n3⟩ := c_keep (P := P) hd3 st5 hd2_ok (by omega) h1.1.2.2.1 h1.1.1 h1.1.2.1
      have hx := CH_chg h1.1.1 n3 (by unfold srg; rw [rg_f]; omega) (by unfold srg; rw [rg_f]; omega) (by unfold srg; rw [rg_f]; omega)
      obtain ⟨w2, m1, m2, m3⟩ := c_mark (P := P) hd3 hd2_ok hx h1.1.2.1
      obtain ⟨s1, s2⟩ := c_step h1 hX.2.1 n2 n3 m2 m3
      refine ⟨w2, ?_, s1, chg_mono s2 hm_lo⟩
      have e : w2.1 2 2 = Z.1.1.1 4 := m2.1.2.2.2.2.1.trans e4
      rw [rn_75 cz_0]
      simp only [g, n1, m1, e, cz_0, cz_r0, al_1.1, al_1.2.1, al_1.2.2.1, hd2_ok.1, rvs, bd_75, k_4294967295, v_call, v_cons, v_get, v_int, v_loc, v_nil, v_not, v_z, w_exp0, w_exp1, w_if, w_ret, w_seq, List.getElem?_cons_zero, List.getElem?_cons_succ, List.set_cons_zero, List.set_cons_succ, ee_cmp0, ee_cmp1, ee_cmp2, ee_cmp3, ee_cmp4, ee_cmp5, ee_cmpL0, ee_cmpL1, ee_cmpL2, ee_cmpL3, ee_cmpL4, ee_cmpL5, ee_tru_eb, decide_eq_true_eq, ib_i, ie_b, ie_f, ie_t, ib_l, fin_i, fin_l, fin_v, fin_z, fin_a, fin_n, ee_b_0, ee_fld0, ee_fld1, ee_fld2, ee_fld3, bi_0, bi_1, bi_2, bi_3, bi_4, bi_5, bi_6, bi_7, bi_8, bi_9, bi_10, bl_20, bl_21, bl_22, bl_23, bl_24, bl_25, bl_26, bl_48, bl_49, un_0, un_1, un_2, un_3, if_true, if_false, ite_true, ite_false, Bool.false_eq_true, Bool.not_eq_false, decide_not, Bool.not_not, reduceCtorEq, st_i, st_l, st_r, st_n, ee_noL, ee_noL.eq_1, List.length_cons, List.length_nil, Nat.reduceAdd, Nat.reduceLT, Nat.zero_add, and_true, true_and, and_self, fin_ite, pu_0, pu_1, pu_3, sto_0, el_0, Bool.not_eq_true, decide_eq_false_iff_not, Bool.decide_eq_true, Bool.decide_eq_false, decide_true, decide_false, Bool.not_true, Bool.not_false, Bool.and_self, Bool.and_true, Bool.and_false, Bool.true_and, Bool.false_and, Bool.or_true, Bool.or_false, Bool.true_or, Bool.false_or, if_true, if_false, Bool.false_eq_true]
    · intro w1 hM
      obtain ⟨w2, n1, n2, n3⟩ := m_keep (P := P) hd1 hM.1 h3.1
      have hz : w2.1 236 23 = 1 := (n3.1 _ _ (by unfold pkp; omega)).trans hM.2.2.2.2.2
      obtain ⟨w3, m1, m2, m3⟩ := m_writeNow (P := P) hd2 (MHz_of n2 hz h3.1.1.2.1) wf.2.2.2.2.2.2.2.1.1 wf.2.2.2.2.2.2.2.1.2
      obtain ⟨s1, s2⟩ := m_step (p := pst) hM h3 n2 n3 m2 (chk_mono m3 ph_psm)
      have cw := m_canWrite (P := P) (w := w1) hd1 (MHz_of hM.1 hM.2.2.2.2.2 h3.1.1.2.1)
      rw [q1] at cw
      have e : w3.1 237 9 = Z.1.1.1 4 := (m2.2.1 4 (by omega) (by omega)).trans e4
      refine ⟨w3, ?_, s1, chk_mono s2 pst_hi⟩
      rw [rn_242 mz_0]
      simp only [cw, n1, m1, e, bd_242, k_4294967295, k_9, nz_9, v_call, v_cons, v_get, v_idx, v_int, v_loc, v_nil, v_not, v_z, w_exp0, w_exp1, w_if, w_ret, w_seq, List.getElem?_cons_zero, List.getElem?_cons_succ, List.set_cons_zero, List.set_cons_succ, ee_cmp0, ee_cmp1, ee_cmp2, ee_cmp3, ee_cmp4, ee_cmp5, ee_cmpL0, ee_cmpL1, ee_cmpL2, ee_cmpL3, ee_cmpL4, ee_cmpL5, ee_tru_eb, decide_eq_true_eq, ib_i, ie_b, ie_f, ie_t, ib_l, fin_i, fin_l, fin_v, fin_z, fin_a, fin_n, ee_b_0, ee_fld0, ee_fld1, ee_fld2, ee_fld3, bi_0, bi_1, bi_2, bi_3, bi_4, bi_5, bi_6, bi_7, bi_8, bi_9, bi_10, bl_20, bl_21, bl_22, bl_23, bl_24, bl_25, bl_26, bl_48, bl_49, un_0, un_1, un_2, un_3, if_true, if_false, ite_true, ite_false, Bool.false_eq_true, Bool.not_eq_false, decide_not, Bool.not_not, reduceCtorEq, st_i, st_l, st_r, st_n, ee_noL, ee_noL.eq_1, List.length_cons, List.length_nil, Nat.reduceAdd, Nat.reduceLT, Nat.zero_add, and_true, true_and, and_self, fin_ite, pu_0, pu_1, pu_3, sto_0, el_0, Bool.not_eq_true, decide_eq_false_iff_not, Bool.decide_eq_true, Bool.decide_eq_false, decide_true, decide_false, Bool.not_true, Bool.not_false, Bool.and_self, Bool.and_true, Bool.and_false, Bool.true_and, Bool.false_and, Bool.or_true, Bool.or_false, Bool.true_or, Bool.false_or, if_true, if_false, Bool.false_eq_true, ix_9, tc_9, mz_0, mz_1, mz_a, rvs, j_s, j_a, wI_at, Nat.reduceEqDiff, zero_ne_one_n, one_ne_zero_n]

end SBS
