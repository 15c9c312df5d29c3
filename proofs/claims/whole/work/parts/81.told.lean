/-! what is told, on both sides -/
section BT
variable {P : Nat → Nat → List Value → ee_W → Option (List Value × ee_W)} {d : Nat} {w : ee_W} {Z : ZX} {Y' : AX}
def pm0 : Nat → Bool := rgo (rg 1 2) (rg 97 101)
theorem pm0_f {c : Nat} (h : (c < 1 ∨ 2 ≤ c) ∧ (c < 97 ∨ 101 ≤ c)) : pm0 c = false := by
  unfold pm0
  rw [rgo_f, rg_f, rg_f]
  exact h
theorem pm0_lo : ∀ c, plo c = false → pm0 c = false := fun c h => by
  have := plo_f.1 h
  exact pm0_f (by omega)
theorem CZ_0 {w' : ee_W} (hZ : CZ w Z) (hc : chg pm0 w w') (h0 : CA0 w' 1 (Z.1.1, Z.1.2.1, Y'.2.2)) (h6 : Y'.2.2.2.2.1.1 ≤ 6) (h8 : Y'.2.2.2.2.2.1 ≤ 8) (hn : nT (Z.1.1, Z.1.2.1, Y'.2.2) ≤ nT Z.1) : CZ w' ((Z.1.1, Z.1.2.1, Y'.2.2), Z.2) := by
  obtain ⟨a1, a2, a3, -, -, -⟩ := hZ.1
  have a : CA w' 1 (Z.1.1, Z.1.2.1, Y'.2.2) := ⟨CH_chg a1 hc (pm0_f (by omega)) (pm0_f (by omega)) (pm0_f (by omega)), a2, CS_chg a3 hc (fun c q1 q2 => pm0_f (by omega)), h0, h6, h8⟩
  exact CZ_rest hZ hc (pm0_f (by omega)) (pm0_f (by omega)) (pm0_f (by omega)) (fun c q1 q2 => pm0_f (by omega)) a (CA_chg hZ.2.1 hc (fun c q1 q2 => pm0_f (by omega))) hn
def pmm (c k : Nat) : Prop := c = 237 ∧ ((k < 5 ∧ k ≠ 2) ∨ (23 ≤ k ∧ k < 54))
theorem pmm_hi : ∀ c k, pmm c k → phi c k := fun c k h => by
  unfold pmm at h
  unfold phi
  omega
def M0 (w : ee_W) (Y : AX) : Prop := w.1 237 0 = Y.2.2.2.1 1 ∧ w.1 237 1 = Y.2.2.2.1 2 ∧ w.1 237 3 = Int32.ofNat Y.2.2.2.2.1.1 ∧ w.1 237 4 = Int32.ofNat Y.2.2.2.2.2.1 ∧ (∀ k, k < 8 → w.1 237 (23 + k) = Y.2.2.1 k) ∧ w.1 237 31 = Y.2.2.2.1 0 ∧
  (∀ i, i < Y.2.2.2.2.1.1 → w.1 237 (32 + i) = Y.2.2.2.2.1.2 i) ∧ (∀ i, i < Y.2.2.2.2.2.1 → w.1 237 (38 + 2 * i) = (Y.2.2.2.2.2.2 i).1 ∧ w.1 237 (38 + 2 * i + 1) = (Y.2.2.2.2.2.2 i).2)
theorem M0_of {Y : AX} (hY : MA w 237 Y) : M0 w Y := by
  obtain ⟨⟨a0, a1, a2, a3, a4⟩, h1, h3, h4, h5, h6, h7⟩ := hY
  exact ⟨a0, a1, a3, a4, h4, h5, h6, h7⟩
theorem MZ_0 {w' : ee_W} (hM : MZ w Z) (hW : WZ Z) (hc : chk pmm w w') (h0 : M0 w' (Z.1.1, Z.1.2.1, Y'.2.2)) (hn : nT (Z.1.1, Z.1.2.1, Y'.2.2) ≤ nT Z.1) : MZ w' ((Z.1.1, Z.1.2.1, Y'.2.2), Z.2) := by
  obtain ⟨⟨a0, a1, a2, a3, a4⟩, h1, h3, -⟩ := hM.1
  obtain ⟨v1, ⟨v2, v3⟩, -⟩ := hW.1
  obtain ⟨b0, b1, b3, b4, b5, b6, b7, b8⟩ := h0
  have he : ∀ k, (5 ≤ k ∧ k < 23) ∨ 54 ≤ k ∨ k = 2 → w'.1 237 k = w.1 237 k := fun k hk => hc.1 _ _ (by unfold pmm; omega)
  have a : MA w' 237 (Z.1.1, Z.1.2.1, Y'.2.2) := ⟨⟨b0, b1, (he _ (by omega)).trans a2, b3, b4⟩, MH_eq h1 v1.2.1 (fun k hk => he _ (by omega)) (fun k hk => he _ (by omega)), fun i hi => MH_eq (h3 i hi) (v3 i hi).2.1 (fun k hk => he _ (by omega)) (fun k hk => he _ (by omega)), b5, b6, b7, b8⟩
  exact MZ_rest hM hc (fun k => by unfold pmm; omega) a (MA_eq hM.2.1 hW.2.1 (fun k _ => hc.1 _ _ (by unfold pmm; omega))) hn
theorem b_wobble (hd : 4 ≤ d) (hS : Sim w) (s b : Int32) : Both P d 9 186 [.int s, .int b] w := by
  obtain ⟨Z, h1, h2, h3⟩ := hS
  obtain ⟨d, rfl⟩ : ∃ k, d = k + 1 := ⟨d - 1, by omega⟩
  have hd1 : 1 ≤ d := by omega
  have hd2 : 2 ≤ d := by omega
  have e1 : (decide ((0 : Int32) ≤ s) && decide (s ≤ 7)) = in07 s := rfl
  cases q1 : in07 s
  · refine both_q h1 h2 h3 (r := .int 0) ?_ ?_
    · rw [rn_9 cz_0]
      simp only [r_within hd1, e1, q1, bd_9, k_0, k_1, k_4294967289, k_7, nz_1, nz_7, v_call, v_cons, v_get, v_int, v_loc, v_nil, v_not, v_or, v_z, w_if, w_ret, w_seq, w_sto, List.getElem?_cons_zero, List.getElem?_cons_succ, List.set_cons_zero, List.set_cons_succ, ee_cmp0, ee_cmp1, ee_cmp2, ee_cmp3, ee_cmp4, ee_cmp5, ee_cmpL0, ee_cmpL1, ee_cmpL2, ee_cmpL3, ee_cmpL4, ee_cmpL5, ee_tru_eb, decide_eq_true_eq, ib_i, ie_b, ie_f, ie_t, ib_l, fin_i, fin_l, fin_v, fin_z, fin_a, fin_n, ee_b_0, ee_fld0, ee_fld1, ee_fld2, ee_fld3, bi_0, bi_1, bi_2, bi_3, bi_4, bi_5, bi_6, bi_7, bi_8, bi_9, bi_10, bl_20, bl_21, bl_22, bl_23, bl_24, bl_25, bl_26, bl_48, bl_49, un_0, un_1, un_2, un_3, if_true, if_false, ite_true, ite_false, Bool.false_eq_true, Bool.not_eq_false, decide_not, Bool.not_not, reduceCtorEq, st_i, st_l, st_r, st_n, ee_noL, ee_noL.eq_1, List.length_cons, List.length_nil, Nat.reduceAdd, Nat.reduceLT, Nat.zero_add, and_true, true_and, and_self, fin_ite, pu_0, pu_1, pu_3, sto_0, el_0, Bool.not_eq_true, decide_eq_false_iff_not, Bool.decide_eq_true, Bool.decide_eq_false, decide_true, decide_false, Bool.not_true, Bool.not_false, Bool.and_self, Bool.and_true, Bool.and_false, Bool.true_and, Bool.false_and, Bool.or_true, Bool.or_false, Bool.true_or, Bool.false_or, if_true, if_false, Bool.false_eq_true]
      rfl
    · rw [rn_186 mz_0]
      simp only [r_isSector hd2, e1, q1, bd_186, k_0, k_1, k_23, k_4294967289, k_7, nz_1, nz_23, nz_7, v_bin, v_call, v_cons, v_get, v_int, v_loc, v_nil, v_not, v_or, v_z, w_if, w_ret, w_seq, w_sto, List.getElem?_cons_zero, List.getElem?_cons_succ, List.set_cons_zero, List.set_cons_succ, ee_cmp0, ee_cmp1, ee_cmp2, ee_cmp3, ee_cmp4, ee_cmp5, ee_cmpL0, ee_cmpL1, ee_cmpL2, ee_cmpL3, ee_cmpL4, ee_cmpL5, ee_tru_eb, decide_eq_true_eq, ib_i, ie_b, ie_f, ie_t, ib_l, fin_i, fin_l, fin_v, fin_z, fin_a, fin_n, ee_b_0, ee_fld0, ee_fld1, ee_fld2, ee_fld3, bi_0, bi_1, bi_2, bi_3, bi_4, bi_5, bi_6, bi_7, bi_8, bi_9, bi_10, bl_20, bl_21, bl_22, bl_23, bl_24, bl_25, bl_26, bl_48, bl_49, un_0, un_1, un_2, un_3, if_true, if_false, ite_true, ite_false, Bool.false_eq_true, Bool.not_eq_false, decide_not, Bool.not_not, reduceCtorEq, st_i, st_l, st_r, st_n, ee_noL, ee_noL.eq_1, List.length_cons, List.length_nil, Nat.reduceAdd, Nat.reduceLT, Nat.zero_add, and_true, true_and, and_self, fin_ite, pu_0, pu_1, pu_3, sto_0, el_0, Bool.not_eq_true, decide_eq_false_iff_not, Bool.decide_eq_true, Bool.decide_eq_false, decide_true, decide_false, Bool.not_true, Bool.not_false, Bool.and_self, Bool.and_true, Bool.and_false, Bool.true_and, Bool.false_and, Bool.or_true, Bool.or_false, Bool.true_or, Bool.false_or, if_true, if_false, Bool.false_eq_true, ix_0, ix_1, ix_23, ix_7, tc_0, tc_1, tc_23, tc_7, mz_0, mz_1, mz_a, rvs, j_s, j_a, wI_at, Nat.reduceEqDiff, zero_ne_one_n, one_ne_zero_n]
      rfl
  · cases q2 : (decide (-7 ≤ b) && decide (b ≤ 7))
    · refine both_q h1 h2 h3 (r := .int 0) ?_ ?_
      · rw [rn_9 cz_0]
        simp only [r_within hd1, e1, q1, q2, bd_9, k_0, k_1, k_4294967289, k_7, nz_1, nz_7, v_call, v_cons, v_get, v_int, v_loc, v_nil, v_not, v_or, v_z, w_if, w_ret, w_seq, w_sto, List.getElem?_cons_zero, List.getElem?_cons_succ, List.set_cons_zero, List.set_cons_succ, ee_cmp0, ee_cmp1, ee_cmp2, ee_cmp3, ee_cmp4, ee_cmp5, ee_cmpL0, ee_cmpL1, ee_cmpL2, ee_cmpL3, ee_cmpL4, ee_cmpL5, ee_tru_eb, decide_eq_true_eq, ib_i, ie_b, ie_f, ie_t, ib_l, fin_i, fin_l, fin_v, fin_z, fin_a, fin_n, ee_b_0, ee_fld0, ee_fld1, ee_fld2, ee_fld3, bi_0, bi_1, bi_2, bi_3, bi_4, bi_5, bi_6, bi_7, bi_8, bi_9, bi_10, bl_20, bl_21, bl_22, bl_23, bl_24, bl_25, bl_26, bl_48, bl_49, un_0, un_1, un_2, un_3, if_true, if_false, ite_true, ite_false, Bool.false_eq_true, Bool.not_eq_false, decide_not, Bool.not_not, reduceCtorEq, st_i, st_l, st_r, st_n, ee_noL, ee_noL.eq_1, List.length_cons, List.length_nil, Nat.reduceAdd, Nat.reduceLT, Nat.zero_add, and_true, true_and, and_self, fin_ite, pu_0, pu_1, pu_3, sto_0, el_0, Bool.not_eq_true, decide_eq_false_iff_not, Bool.decide_eq_true, Bool.decide_eq_false, decide_true, decide_false, Bool.not_true, Bool.not_false, Bool.and_self, Bool.and_true, Bool.and_false, Bool.true_and, Bool.false_and, Bool.or_true, Bool.or_false, Bool.true_or, Bool.false_or, if_true, if_false, Bool.false_eq_true]
        rfl
      · rw [rn_186 mz_0]
        simp only [r_isSector hd2, r_isIn hd1, e1, q1, q2, bd_186, k_0, k_1, k_23, k_4294967289, k_7, nz_1, nz_23, nz_7, v_bin, v_call, v_cons, v_get, v_int, v_loc, v_nil, v_not, v_or, v_z, w_if, w_ret, w_seq, w_sto, List.getElem?_cons_zero, List.getElem?_cons_succ, List.set_cons_zero, List.set_cons_succ, ee_cmp0, ee_cmp1, ee_cmp2, ee_cmp3, ee_cmp4, ee_cmp5, ee_cmpL0, ee_cmpL1, ee_cmpL2, ee_cmpL3, ee_cmpL4, ee_cmpL5, ee_tru_eb, decide_eq_true_eq, ib_i, ie_b, ie_f, ie_t, ib_l, fin_i, fin_l, fin_v, fin_z, fin_a, fin_n, ee_b_0, ee_fld0, ee_fld1, ee_fld2, ee_fld3, bi_0, bi_1, bi_2, bi_3, bi_4, bi_5, bi_6, bi_7, bi_8, bi_9, bi_10, bl_20, bl_21, bl_22, bl_23, bl_24, bl_25, bl_26, bl_48, bl_49, un_0, un_1, un_2, un_3, if_true, if_false, ite_true, ite_false, Bool.false_eq_true, Bool.not_eq_false, decide_not, Bool.not_not, reduceCtorEq, st_i, st_l, st_r, st_n, ee_noL, ee_noL.eq_1, List.length_cons, List.length_nil, Nat.reduceAdd, Nat.reduceLT, Nat.zero_add, and_true, true_and, and_self, fin_ite, pu_0, pu_1, pu_3, sto_0, el_0, Bool.not_eq_true, decide_eq_false_iff_not, Bool.decide_eq_true, Bool.decide_eq_false, decide_true, decide_false, Bool.not_true, Bool.not_false, Bool.and_self, Bool.and_true, Bool.and_false, Bool.true_and, Bool.false_and, Bool.or_true, Bool.or_false, Bool.true_or, Bool.false_or, if_true, if_false, Bool.false_eq_true, ix_0, ix_1, ix_23, ix_7, tc_0, tc_1, tc_23, tc_7, mz_0, mz_1, mz_a, rvs, j_s, j_a, wI_at, Nat.reduceEqDiff, zero_ne_one_n, one_ne_zero_n]
        rfl
    · obtain ⟨k1, k2⟩ := in07_of q1
      generalize s.toNatClampNeg = k at *
      subst k2
      have hb := (in_iff b (-7) 7).1 q2
      have hW : WZ ((Z.1.1, Z.1.2.1, up Z.1.2.2.1 k b, Z.1.2.2.2), Z.2) := by
        obtain ⟨⟨v1, v2, v3, v4⟩, v5⟩ := h3
        refine ⟨⟨v1, v2, fun j hj => ?_, v4⟩, v5⟩
        show bI (up Z.1.2.2.1 k b j) (-7) 7
        rw [up_at]
        split
        · exact ⟨hb.1, hb.2⟩
        · exact v3 j hj
      refine both_of h2 h3 hW (r := .int 1) ?_ ?_
      · obtain ⟨p0, p1, p2, p3, p4, p5, p6, p7, -⟩ := al_1
        have x1 : ee_ix (Int32.ofNat k) 8 = true := by rw [ixn (by omega)]; exact decide_eq_true k1
        have hc : chg pm0 w (ee_wI w 97 k b) := chg_I (by decide) (chg_refl _ _)
        obtain ⟨c1, c2, c3, c4, c5, c6, c7, c8⟩ := h1.1.2.2.2.1
        refine ⟨ee_wI w 97 k b, ?_, CZ_0 (Y' := (Z.1.1, Z.1.2.1, up Z.1.2.2.1 k b, Z.1.2.2.2)) h1 hc ⟨fun j hj => ?_, ?_, ?_, ?_, ?_, fun i hi => ?_, ?_, fun i hi => ?_⟩ h1.1.2.2.2.2.1 h1.1.2.2.2.2.2 (Nat.le_refl _), chg_mono hc pm0_lo⟩
        · rw [rn_9 cz_0]
          simp only [r_within hd1, e1, q1, q2, cz_0, cz_r0, p0, p3, p7, rvs, x1, tnc (show k < 2147483648 by omega), bd_9, k_0, k_1, k_4294967289, k_7, nz_1, nz_7, v_call, v_cons, v_get, v_int, v_loc, v_nil, v_not, v_or, v_z, w_if, w_ret, w_seq, w_sto, List.getElem?_cons_zero, List.getElem?_cons_succ, List.set_cons_zero, List.set_cons_succ, ee_cmp0, ee_cmp1, ee_cmp2, ee_cmp3, ee_cmp4, ee_cmp5, ee_cmpL0, ee_cmpL1, ee_cmpL2, ee_cmpL3, ee_cmpL4, ee_cmpL5, ee_tru_eb, decide_eq_true_eq, ib_i, ie_b, ie_f, ie_t, ib_l, fin_i, fin_l, fin_v, fin_z, fin_a, fin_n, ee_b_0, ee_fld0, ee_fld1, ee_fld2, ee_fld3, bi_0, bi_1, bi_2, bi_3, bi_4, bi_5, bi_6, bi_7, bi_8, bi_9, bi_10, bl_20, bl_21, bl_22, bl_23, bl_24, bl_25, bl_26, bl_48, bl_49, un_0, un_1, un_2, un_3, if_true, if_false, ite_true, ite_false, Bool.false_eq_true, Bool.not_eq_false, decide_not, Bool.not_not, reduceCtorEq, st_i, st_l, st_r, st_n, ee_noL, ee_noL.eq_1, List.length_cons, List.length_nil, Nat.reduceAdd, Nat.reduceLT, Nat.zero_add, and_true, true_and, and_self, fin_ite, pu_0, pu_1, pu_3, sto_0, el_0, Bool.not_eq_true, decide_eq_false_iff_not, Bool.decide_eq_true, Bool.decide_eq_false, decide_true, decide_false, Bool.not_true, Bool.not_false, Bool.and_self, Bool.and_true, Bool.and_false, Bool.true_and, Bool.false_and, Bool.or_true, Bool.or_false, Bool.true_or, Bool.false_or, if_true, if_false, Bool.false_eq_true]
          rfl
        · show (ee_wI w 97 k b).1 97 j = up Z.1.2.2.1 k b j
          rw [wI_at, up_at]
          by_cases y : j = k
          · rw [if_pos ⟨rfl, y⟩, if_pos y]
          · rw [if_neg (fun z => y z.2), if_neg y]; exact c1 j hj
        · rw [wI_at, if_neg (by omega)]; exact c2
        · rw [wI_at, if_neg (by omega)]; exact c3
        · rw [wI_at, if_neg (by omega)]; exact c4
        · rw [wI_at, if_neg (by omega)]; exact c5
        · rw [wI_at, if_neg (by omega)]; exact c6 i hi
        · rw [wI_at, if_neg (by omega)]; exact c7
        · rw [wI_at, if_neg (by omega), wI_at, if_neg (by omega)]; exact c8 i hi
      · intro w1 hM
        have e23 : (23 : Int32) + Int32.ofNat k = Int32.ofNat (23 + k) := j_a 23 k
        have x1 : ee_ix (Int32.ofNat (23 + k)) 1369 = true := by rw [ixn (by omega)]; exact decide_eq_true (by omega)
        have hc : chk pmm w1 (ee_wI w1 237 (23 + k) b) := chk_I ⟨rfl, by omega⟩ (chk_refl _ _)
        obtain ⟨b0, b1, b3, b4, b5, b6, b7, b8⟩ := M0_of hM.1
        refine ⟨ee_wI w1 237 (23 + k) b, ?_, MZ_0 (Y' := (Z.1.1, Z.1.2.1, up Z.1.2.2.1 k b, Z.1.2.2.2)) hM h3 hc ⟨?_, ?_, ?_, ?_, fun j hj => ?_, ?_, fun i hi => ?_, fun i hi => ?_⟩ (Nat.le_refl _), chk_mono hc pmm_hi⟩
        · rw [rn_186 mz_0]
          simp only [r_isSector hd2, r_isIn hd1, e1, q1, q2, e23, x1, tnc (show 23 + k < 2147483648 by omega), bd_186, k_0, k_1, k_23, k_4294967289, k_7, nz_1, nz_23, nz_7, v_bin, v_call, v_cons, v_get, v_int, v_loc, v_nil, v_not, v_or, v_z, w_if, w_ret, w_seq, w_sto, List.getElem?_cons_zero, List.getElem?_cons_succ, List.set_cons_zero, List.set_cons_succ, ee_cmp0, ee_cmp1, ee_cmp2, ee_cmp3, ee_cmp4, ee_cmp5, ee_cmpL0, ee_cmpL1, ee_cmpL2, ee_cmpL3, ee_cmpL4, ee_cmpL5, ee_tru_eb, decide_eq_true_eq, ib_i, ie_b, ie_f, ie_t, ib_l, fin_i, fin_l, fin_v, fin_z, fin_a, fin_n, ee_b_0, ee_fld0, ee_fld1, ee_fld2, ee_fld3, bi_0, bi_1, bi_2, bi_3, bi_4, bi_5, bi_6, bi_7, bi_8, bi_9, bi_10, bl_20, bl_21, bl_22, bl_23, bl_24, bl_25, bl_26, bl_48, bl_49, un_0, un_1, un_2, un_3, if_true, if_false, ite_true, ite_false, Bool.false_eq_true, Bool.not_eq_false, decide_not, Bool.not_not, reduceCtorEq, st_i, st_l, st_r, st_n, ee_noL, ee_noL.eq_1, List.length_cons, List.length_nil, Nat.reduceAdd, Nat.reduceLT, Nat.zero_add, and_true, true_and, and_self, fin_ite, pu_0, pu_1, pu_3, sto_0, el_0, Bool.not_eq_true, decide_eq_false_iff_not, Bool.decide_eq_true, Bool.decide_eq_false, decide_true, decide_false, Bool.not_true, Bool.not_false, Bool.and_self, Bool.and_true, Bool.and_false, Bool.true_and, Bool.false_and, Bool.or_true, Bool.or_false, Bool.true_or, Bool.false_or, if_true, if_false, Bool.false_eq_true, ix_0, ix_1, ix_23, ix_7, tc_0, tc_1, tc_23, tc_7, mz_0, mz_1, mz_a, rvs, j_s, j_a, wI_at, Nat.reduceEqDiff, zero_ne_one_n, one_ne_zero_n]
          rfl
        · rw [wI_at, if_neg (by omega)]; exact b0
        · rw [wI_at, if_neg (by omega)]; exact b1
        · rw [wI_at, if_neg (by omega)]; exact b3
        · rw [wI_at, if_neg (by omega)]; exact b4
        · show (ee_wI w1 237 (23 + k) b).1 237 (23 + j) = up Z.1.2.2.1 k b j
          rw [wI_at, up_at]
          by_cases y : j = k
          · rw [if_pos ⟨rfl, by omega⟩, if_pos y]
          · rw [if_neg (by omega), if_neg y]; exact b5 j hj
        · rw [wI_at, if_neg (by omega)]; exact b6
        · rw [wI_at, if_neg (by omega)]; exact b7 i hi
        · rw [wI_at, if_neg (by omega), wI_at, if_neg (by omega)]; exact b8 i hi
theorem b_lose (hd : 4 ≤ d) (hS : Sim w) (s : Int32) : Both P d 11 189 [.int s] w := by
  obtain ⟨Z, h1, h2, h3⟩ := hS
  obtain ⟨d, rfl⟩ : ∃ k, d = k + 1 := ⟨d - 1, by omega⟩
  have hd1 : 1 ≤ d := by omega
  have hd2 : 2 ≤ d := by omega
  have e1 : (decide ((0 : Int32) ≤ s) && decide (s ≤ 7)) = in07 s := rfl
  cases q1 : in07 s
  · refine both_q h1 h2 h3 (r := .int 0) ?_ ?_
    · rw [rn_11 cz_0]
      simp only [r_within hd1, e1, q1, bd_11, k_0, k_1, k_7, nz_1, nz_7, v_bin, v_call, v_cons, v_get, v_int, v_loc, v_nil, v_not, v_z, w_if, w_opf, w_ret, w_seq, List.getElem?_cons_zero, List.getElem?_cons_succ, List.set_cons_zero, List.set_cons_succ, ee_cmp0, ee_cmp1, ee_cmp2, ee_cmp3, ee_cmp4, ee_cmp5, ee_cmpL0, ee_cmpL1, ee_cmpL2, ee_cmpL3, ee_cmpL4, ee_cmpL5, ee_tru_eb, decide_eq_true_eq, ib_i, ie_b, ie_f, ie_t, ib_l, fin_i, fin_l, fin_v, fin_z, fin_a, fin_n, ee_b_0, ee_fld0, ee_fld1, ee_fld2, ee_fld3, bi_0, bi_1, bi_2, bi_3, bi_4, bi_5, bi_6, bi_7, bi_8, bi_9, bi_10, bl_20, bl_21, bl_22, bl_23, bl_24, bl_25, bl_26, bl_48, bl_49, un_0, un_1, un_2, un_3, if_true, if_false, ite_true, ite_false, Bool.false_eq_true, Bool.not_eq_false, decide_not, Bool.not_not, reduceCtorEq, st_i, st_l, st_r, st_n, ee_noL, ee_noL.eq_1, List.length_cons, List.length_nil, Nat.reduceAdd, Nat.reduceLT, Nat.zero_add, and_true, true_and, and_self, fin_ite, pu_0, pu_1, pu_3, sto_0, el_0, Bool.not_eq_true, decide_eq_false_iff_not, Bool.decide_eq_true, Bool.decide_eq_false, decide_true, decide_false, Bool.not_true, Bool.not_false, Bool.and_self, Bool.and_true, Bool.and_false, Bool.true_and, Bool.false_and, Bool.or_true, Bool.or_false, Bool.true_or, Bool.false_or, if_true, if_false, Bool.false_eq_true]
      rfl
    · rw [rn_189 mz_0]
      simp only [r_isSector hd2, e1, q1, bd_189, k_0, k_1, k_31, nz_1, nz_31, v_bin, v_call, v_cons, v_get, v_int, v_loc, v_nil, v_not, v_z, w_if, w_opa, w_ret, w_seq, List.getElem?_cons_zero, List.getElem?_cons_succ, List.set_cons_zero, List.set_cons_succ, ee_cmp0, ee_cmp1, ee_cmp2, ee_cmp3, ee_cmp4, ee_cmp5, ee_cmpL0, ee_cmpL1, ee_cmpL2, ee_cmpL3, ee_cmpL4, ee_cmpL5, ee_tru_eb, decide_eq_true_eq, ib_i, ie_b, ie_f, ie_t, ib_l, fin_i, fin_l, fin_v, fin_z, fin_a, fin_n, ee_b_0, ee_fld0, ee_fld1, ee_fld2, ee_fld3, bi_0, bi_1, bi_2, bi_3, bi_4, bi_5, bi_6, bi_7, bi_8, bi_9, bi_10, bl_20, bl_21, bl_22, bl_23, bl_24, bl_25, bl_26, bl_48, bl_49, un_0, un_1, un_2, un_3, if_true, if_false, ite_true, ite_false, Bool.false_eq_true, Bool.not_eq_false, decide_not, Bool.not_not, reduceCtorEq, st_i, st_l, st_r, st_n, ee_noL, ee_noL.eq_1, List.length_cons, List.length_nil, Nat.reduceAdd, Nat.reduceLT, Nat.zero_add, and_true, true_and, and_self, fin_ite, pu_0, pu_1, pu_3, sto_0, el_0, Bool.not_eq_true, decide_eq_false_iff_not, Bool.decide_eq_true, Bool.decide_eq_false, decide_true, decide_false, Bool.not_true, Bool.not_false, Bool.and_self, Bool.and_true, Bool.and_false, Bool.true_and, Bool.false_and, Bool.or_true, Bool.or_false, Bool.true_or, Bool.false_or, if_true, if_false, Bool.false_eq_true, ix_0, ix_1, ix_31, tc_0, tc_1, tc_31, mz_0, mz_1, mz_a, rvs, j_s, j_a, wI_at, Nat.reduceEqDiff, zero_ne_one_n, one_ne_zero_n]
      rfl
  · have hW : WZ ((Z.1.1, Z.1.2.1, Z.1.2.2.1, up Z.1.2.2.2.1 0 (Z.1.2.2.2.1 0 ^^^ (1 <<< (s &&& 31))), Z.1.2.2.2.2), Z.2) := h3
    refine both_of h2 h3 hW (r := .int 1) ?_ ?_
    · obtain ⟨c1, c2, c3, c4, c5, c6, c7, c8⟩ := h1.1.2.2.2.1
      have hc : chg pm0 w (ee_wI w 1 3 (Z.1.2.2.2.1 0 ^^^ (1 <<< (s &&& 31)))) := chg_I (by decide) (chg_refl _ _)
      refine ⟨_, ?_, CZ_0 (Y' := (Z.1.1, Z.1.2.1, Z.1.2.2.1, up Z.1.2.2.2.1 0 (Z.1.2.2.2.1 0 ^^^ (1 <<< (s &&& 31))), Z.1.2.2.2.2)) h1 hc ⟨fun j hj => ?_, ?_, ?_, ?_, ?_, fun i hi => ?_, ?_, fun i hi => ?_⟩ h1.1.2.2.2.2.1 h1.1.2.2.2.2.2 (Nat.le_refl _), chg_mono hc pm0_lo⟩
      · rw [rn_11 cz_0]
        simp only [r_within hd1, e1, q1, cz_0, cz_r0, al_1.1, rvs, c2, w_opf, bd_11, k_0, k_1, k_7, nz_1, nz_7, v_bin, v_call, v_cons, v_get, v_int, v_loc, v_nil, v_not, v_z, w_if, w_opf, w_ret, w_seq, List.getElem?_cons_zero, List.getElem?_cons_succ, List.set_cons_zero, List.set_cons_succ, ee_cmp0, ee_cmp1, ee_cmp2, ee_cmp3, ee_cmp4, ee_cmp5, ee_cmpL0, ee_cmpL1, ee_cmpL2, ee_cmpL3, ee_cmpL4, ee_cmpL5, ee_tru_eb, decide_eq_true_eq, ib_i, ie_b, ie_f, ie_t, ib_l, fin_i, fin_l, fin_v, fin_z, fin_a, fin_n, ee_b_0, ee_fld0, ee_fld1, ee_fld2, ee_fld3, bi_0, bi_1, bi_2, bi_3, bi_4, bi_5, bi_6, bi_7, bi_8, bi_9, bi_10, bl_20, bl_21, bl_22, bl_23, bl_24, bl_25, bl_26, bl_48, bl_49, un_0, un_1, un_2, un_3, if_true, if_false, ite_true, ite_false, Bool.false_eq_true, Bool.not_eq_false, decide_not, Bool.not_not, reduceCtorEq, st_i, st_l, st_r, st_n, ee_noL, ee_noL.eq_1, List.length_cons, List.length_nil, Nat.reduceAdd, Nat.reduceLT, Nat.zero_add, and_true, true_and, and_self, fin_ite, pu_0, pu_1, pu_3, sto_0, el_0, Bool.not_eq_true, decide_eq_false_iff_not, Bool.decide_eq_true, Bool.decide_eq_false, decide_true, decide_false, Bool.not_true, Bool.not_false, Bool.and_self, Bool.and_true, Bool.and_false, Bool.true_and, Bool.false_and, Bool.or_true, Bool.or_false, Bool.true_or, Bool.false_or, if_true, if_false, Bool.false_eq_true]
        rfl
      · rw [wI_at, if_neg (by omega)]; exact c1 j hj
      · rw [wI_at, if_pos ⟨rfl, rfl⟩]; rfl
      · rw [wI_at, if_neg (by omega)]; exact c3
      · rw [wI_at, if_neg (by omega)]; exact c4
      · rw [wI_at, if_neg (by omega)]; exact c5
      · rw [wI_at, if_neg (by omega)]; exact c6 i hi
      · rw [wI_at, if_neg (by omega)]; exact c7
      · rw [wI_at, if_neg (by omega), wI_at, if_neg (by omega)]; exact c8 i hi
    · intro w1 hM
      obtain ⟨b0, b1, b3, b4, b5, b6, b7, b8⟩ := M0_of hM.1
      have hc : chk pmm w1 (ee_wI w1 237 31 (Z.1.2.2.2.1 0 ^^^ (1 <<< (s &&& 31)))) := chk_I ⟨rfl, by omega⟩ (chk_refl _ _)
      refine ⟨_, ?_, MZ_0 (Y' := (Z.1.1, Z.1.2.1, Z.1.2.2.1, up Z.1.2.2.2.1 0 (Z.1.2.2.2.1 0 ^^^ (1 <<< (s &&& 31))), Z.1.2.2.2.2)) hM h3 hc ⟨?_, ?_, ?_, ?_, fun j hj => ?_, ?_, fun i hi => ?_, fun i hi => ?_⟩ (Nat.le_refl _), chk_mono hc pmm_hi⟩
      · rw [rn_189 mz_0]
        simp only [r_isSector hd2, e1, q1, b6, w_opa, bd_189, k_0, k_1, k_31, nz_1, nz_31, v_bin, v_call, v_cons, v_get, v_int, v_loc, v_nil, v_not, v_z, w_if, w_opa, w_ret, w_seq, List.getElem?_cons_zero, List.getElem?_cons_succ, List.set_cons_zero, List.set_cons_succ, ee_cmp0, ee_cmp1, ee_cmp2, ee_cmp3, ee_cmp4, ee_cmp5, ee_cmpL0, ee_cmpL1, ee_cmpL2, ee_cmpL3, ee_cmpL4, ee_cmpL5, ee_tru_eb, decide_eq_true_eq, ib_i, ie_b, ie_f, ie_t, ib_l, fin_i, fin_l, fin_v, fin_z, fin_a, fin_n, ee_b_0, ee_fld0, ee_fld1, ee_fld2, ee_fld3, bi_0, bi_1, bi_2, bi_3, bi_4, bi_5, bi_6, bi_7, bi_8, bi_9, bi_10, bl_20, bl_21, bl_22, bl_23, bl_24, bl_25, bl_26, bl_48, bl_49, un_0, un_1, un_2, un_3, if_true, if_false, ite_true, ite_false, Bool.false_eq_true, Bool.not_eq_false, decide_not, Bool.not_not, reduceCtorEq, st_i, st_l, st_r, st_n, ee_noL, ee_noL.eq_1, List.length_cons, List.length_nil, Nat.reduceAdd, Nat.reduceLT, Nat.zero_add, and_true, true_and, and_self, fin_ite, pu_0, pu_1, pu_3, sto_0, el_0, Bool.not_eq_true, decide_eq_false_iff_not, Bool.decide_eq_true, Bool.decide_eq_false, decide_true, decide_false, Bool.not_true, Bool.not_false, Bool.and_self, Bool.and_true, Bool.and_false, Bool.true_and, Bool.false_and, Bool.or_true, Bool.or_false, Bool.true_or, Bool.false_or, if_true, if_false, Bool.false_eq_true, ix_0, ix_1, ix_31, tc_0, tc_1, tc_31, mz_0, mz_1, mz_a, rvs, j_s, j_a, wI_at, Nat.reduceEqDiff, zero_ne_one_n, one_ne_zero_n]
        rfl
      · rw [wI_at, if_neg (by omega)]; exact b0
      · rw [wI_at, if_neg (by omega)]; exact b1
      · rw [wI_at, if_neg (by omega)]; exact b3
      · rw [wI_at, if_neg (by omega)]; exact b4
      · rw [wI_at, if_neg (by omega)]; exact b5 j hj
      · rw [wI_at, if_pos ⟨rfl, rfl⟩]; rfl
      · rw [wI_at, if_neg (by omega)]; exact b7 i hi
      · rw [wI_at, if_neg (by omega), wI_at, if_neg (by omega)]; exact b8 i hi
end BT
