/-! the whole state -/
section ZS
variable {P : Nat → Nat → List Value → ee_W → Option (List Value × ee_W)} {d : Nat} {w : ee_W} {X : HX} {Y : AX}
def pun (c k : Nat) : Prop := c = 237 ∧ (k = 2 ∨ (5 ≤ k ∧ k < 23) ∨ (1344 ≤ k ∧ k < 1369))
theorem m_undo0 (hd : 1 ≤ d) (hY : MA w 237 Y) (h0 : Y.2.1.1 = 0) : ee_run ee_B P d 232 [.ref 236] w = some ([.int (-1)], w) := by
  obtain ⟨d, rfl⟩ : ∃ k, d = k + 1 := ⟨d - 1, by omega⟩
  have e2 : w.1 237 2 = 0 := by rw [hY.1.2.2.1, h0]; rfl
  rw [rn_232 mz_0]
  simp only [e2, be_232, k_0, k_1, k_1344, k_18, k_2, k_25, k_4294967295, k_43, k_5, k_54, nz_1, nz_1344, nz_18, nz_2, nz_25, nz_43, nz_5, nz_54, v_bin, v_cmp, v_get, v_idx, v_int, v_loc, v_z, w_if, w_inc, w_opa, w_ret, w_seq, w_set, w_sto, List.getElem?_cons_zero, List.getElem?_cons_succ, List.set_cons_zero, List.set_cons_succ, ee_cmp0, ee_cmp1, ee_cmp2, ee_cmp3, ee_cmp4, ee_cmp5, ee_cmpL0, ee_cmpL1, ee_cmpL2, ee_cmpL3, ee_cmpL4, ee_cmpL5, ee_tru_eb, decide_eq_true_eq, ib_i, ie_b, ie_f, ie_t, ib_l, fin_i, fin_l, fin_v, fin_z, fin_a, fin_n, ee_b_0, ee_fld0, ee_fld1, ee_fld2, ee_fld3, bi_0, bi_1, bi_2, bi_3, bi_4, bi_5, bi_6, bi_7, bi_8, bi_9, bi_10, bl_20, bl_21, bl_22, bl_23, bl_24, bl_25, bl_26, bl_48, bl_49, un_0, un_1, un_2, un_3, if_true, if_false, ite_true, ite_false, Bool.false_eq_true, Bool.not_eq_false, decide_not, Bool.not_not, reduceCtorEq, st_i, st_l, st_r, st_n, ee_noL, ee_noL.eq_1, List.length_cons, List.length_nil, Nat.reduceAdd, Nat.reduceLT, Nat.zero_add, and_true, true_and, and_self, fin_ite, pu_0, pu_1, pu_3, sto_0, el_0, Bool.not_eq_true, decide_eq_false_iff_not, Bool.decide_eq_true, Bool.decide_eq_false, decide_true, decide_false, Bool.not_true, Bool.not_false, Bool.and_self, Bool.and_true, Bool.and_false, Bool.true_and, Bool.false_and, Bool.or_true, Bool.or_false, Bool.true_or, Bool.false_or, if_true, if_false, Bool.false_eq_true, ix_0, ix_1, ix_1344, ix_18, ix_2, ix_25, ix_43, ix_5, ix_54, tc_0, tc_1, tc_1344, tc_18, tc_2, tc_25, tc_43, tc_5, tc_54, mz_0, mz_1, mz_a, rvs, j_s, j_a, wI_at, Nat.reduceEqDiff, zero_ne_one_n, one_ne_zero_n]
theorem m_undo (hd : 1 ≤ d) (hY : MA w 237 Y) (hW : WA Y) (h0 : ¬ Y.2.1.1 = 0) : ∃ w', ee_run ee_B P d 232 [.ref 236] w = some ([.int (Int32.ofNat (Y.2.1.1 - 1))], w') ∧ MA w' 237 (Y.2.1.2 (Y.2.1.1 - 1), (Y.2.1.1 - 1, Y.2.1.2), Y.2.2) ∧ chk pun w w' := by
  obtain ⟨d, rfl⟩ : ∃ k, d = k + 1 := ⟨d - 1, by omega⟩
  obtain ⟨⟨a0, a1, a2, a3, a4⟩, h1, h3, h4, h5, h6, h7⟩ := hY
  obtain ⟨v1, ⟨v2, v3⟩, -, -, ⟨v4, -⟩, ⟨v5, -⟩⟩ := hW
  obtain ⟨m, hm⟩ : ∃ m, Y.2.1.1 = m + 1 := ⟨Y.2.1.1 - 1, by omega⟩
  have hm1 : Y.2.1.1 - 1 = m := by omega
  rw [hm1]
  rw [hm] at a2 v2
  have ne : ¬ Int32.ofNat (m + 1) = 0 := fun y => by
    have := i32_eq.1 y
    rw [nI_t (by omega), show (0 : Int32).toInt = 0 from rfl] at this
    omega
  have e1 : Int32.ofNat (m + 1) - 1 = Int32.ofNat m := j_sub1 (by omega) (by omega)
  have e43 : (43 : Int32) * Int32.ofNat m = Int32.ofNat (43 * m) := j_m 43 m
  have e54 : (54 : Int32) + Int32.ofNat (43 * m) = Int32.ofNat (54 + 43 * m) := j_a 54 _
  have e18 : Int32.ofNat (54 + 43 * m) + 18 = Int32.ofNat (54 + 43 * m + 18) := j_a _ 18
  obtain ⟨w1, n1, n2, n3⟩ := cp_loop (w := ee_wI w 237 2 (Int32.ofNat m)) (x := ee_ev es_sh es_rf (ee_run ee_B P d) lx_232_1) (b := ee_evS es_sh es_rf (ee_run ee_B P d) lb_232_1)
    (fun k => [some (.ref 236), some (.int (Int32.ofNat (54 + 43 * m))), some (.int (Int32.ofNat k))]) 18 237 237 5 (54 + 43 * m) (by omega)
    (by
      intro k w' hk _
      have h9 : Int32.ofNat k < 18 := (j_lt (b := 18) (by omega) (by omega)).2 hk
      have e5 : (5 : Int32) + Int32.ofNat k = Int32.ofNat (5 + k) := j_a 5 k
      have x1 : ee_ix (Int32.ofNat (5 + k)) 1369 = true := by rw [ixn (by omega)]; exact decide_eq_true (by omega)
      have x2 : ee_ix (Int32.ofNat (54 + 43 * m + k)) 1369 = true := by rw [ixn (by omega)]; exact decide_eq_true (by omega)
      simp only [h9, e5, x1, x2, tnc (show 5 + k < 2147483648 by omega), tnc (show 54 + 43 * m + k < 2147483648 by omega), lx_232_1, lb_232_1, ee_turn, k_0, k_1, k_1344, k_18, k_2, k_25, k_4294967295, k_43, k_5, k_54, nz_1, nz_1344, nz_18, nz_2, nz_25, nz_43, nz_5, nz_54, v_bin, v_cmp, v_get, v_idx, v_int, v_loc, v_z, w_if, w_inc, w_opa, w_ret, w_seq, w_set, w_sto, List.getElem?_cons_zero, List.getElem?_cons_succ, List.set_cons_zero, List.set_cons_succ, ee_cmp0, ee_cmp1, ee_cmp2, ee_cmp3, ee_cmp4, ee_cmp5, ee_cmpL0, ee_cmpL1, ee_cmpL2, ee_cmpL3, ee_cmpL4, ee_cmpL5, ee_tru_eb, decide_eq_true_eq, ib_i, ie_b, ie_f, ie_t, ib_l, fin_i, fin_l, fin_v, fin_z, fin_a, fin_n, ee_b_0, ee_fld0, ee_fld1, ee_fld2, ee_fld3, bi_0, bi_1, bi_2, bi_3, bi_4, bi_5, bi_6, bi_7, bi_8, bi_9, bi_10, bl_20, bl_21, bl_22, bl_23, bl_24, bl_25, bl_26, bl_48, bl_49, un_0, un_1, un_2, un_3, if_true, if_false, ite_true, ite_false, Bool.false_eq_true, Bool.not_eq_false, decide_not, Bool.not_not, reduceCtorEq, st_i, st_l, st_r, st_n, ee_noL, ee_noL.eq_1, List.length_cons, List.length_nil, Nat.reduceAdd, Nat.reduceLT, Nat.zero_add, and_true, true_and, and_self, fin_ite, pu_0, pu_1, pu_3, sto_0, el_0, Bool.not_eq_true, decide_eq_false_iff_not, Bool.decide_eq_true, Bool.decide_eq_false, decide_true, decide_false, Bool.not_true, Bool.not_false, Bool.and_self, Bool.and_true, Bool.and_false, Bool.true_and, Bool.false_and, Bool.or_true, Bool.or_false, Bool.true_or, Bool.false_or, if_true, if_false, Bool.false_eq_true, tc_0, ix_0, tc_1, ix_1, tc_1344, ix_1344, tc_18, ix_18, tc_2, ix_2, tc_25, ix_25, tc_43, ix_43, tc_5, ix_5, tc_54, ix_54, mz_0, mz_1, mz_a, rvs, j_s, j_a, wI_at, Nat.reduceEqDiff, zero_ne_one_n, one_ne_zero_n])
    (by
      intro w' _
      have h9 : ¬ (18 : Int32) < 18 := by decide
      simp only [h9, lx_232_1, lb_232_1, ee_turn, k_0, k_1, k_1344, k_18, k_2, k_25, k_4294967295, k_43, k_5, k_54, nz_1, nz_1344, nz_18, nz_2, nz_25, nz_43, nz_5, nz_54, v_bin, v_cmp, v_get, v_idx, v_int, v_loc, v_z, w_if, w_inc, w_opa, w_ret, w_seq, w_set, w_sto, List.getElem?_cons_zero, List.getElem?_cons_succ, List.set_cons_zero, List.set_cons_succ, ee_cmp0, ee_cmp1, ee_cmp2, ee_cmp3, ee_cmp4, ee_cmp5, ee_cmpL0, ee_cmpL1, ee_cmpL2, ee_cmpL3, ee_cmpL4, ee_cmpL5, ee_tru_eb, decide_eq_true_eq, ib_i, ie_b, ie_f, ie_t, ib_l, fin_i, fin_l, fin_v, fin_z, fin_a, fin_n, ee_b_0, ee_fld0, ee_fld1, ee_fld2, ee_fld3, bi_0, bi_1, bi_2, bi_3, bi_4, bi_5, bi_6, bi_7, bi_8, bi_9, bi_10, bl_20, bl_21, bl_22, bl_23, bl_24, bl_25, bl_26, bl_48, bl_49, un_0, un_1, un_2, un_3, if_true, if_false, ite_true, ite_false, Bool.false_eq_true, Bool.not_eq_false, decide_not, Bool.not_not, reduceCtorEq, st_i, st_l, st_r, st_n, ee_noL, ee_noL.eq_1, List.length_cons, List.length_nil, Nat.reduceAdd, Nat.reduceLT, Nat.zero_add, and_true, true_and, and_self, fin_ite, pu_0, pu_1, pu_3, sto_0, el_0, Bool.not_eq_true, decide_eq_false_iff_not, Bool.decide_eq_true, Bool.decide_eq_false, decide_true, decide_false, Bool.not_true, Bool.not_false, Bool.and_self, Bool.and_true, Bool.and_false, Bool.true_and, Bool.false_and, Bool.or_true, Bool.or_false, Bool.true_or, Bool.false_or, if_true, if_false, Bool.false_eq_true])
  obtain ⟨w2, m1, m2, m3⟩ := cp_loop (w := w1) (x := ee_ev es_sh es_rf (ee_run ee_B P d) lx_232_2) (b := ee_evS es_sh es_rf (ee_run ee_B P d) lb_232_2)
    (fun k => [some (.ref 236), some (.int (Int32.ofNat (54 + 43 * m))), some (.int (Int32.ofNat k))]) 25 237 237 1344 (54 + 43 * m + 18) (by omega)
    (by
      intro k w' hk _
      have h9 : Int32.ofNat k < 25 := (j_lt (b := 25) (by omega) (by omega)).2 hk
      have e5 : (1344 : Int32) + Int32.ofNat k = Int32.ofNat (1344 + k) := j_a 1344 k
      have x1 : ee_ix (Int32.ofNat (1344 + k)) 1369 = true := by rw [ixn (by omega)]; exact decide_eq_true (by omega)
      have x2 : ee_ix (Int32.ofNat (54 + 43 * m + 18 + k)) 1369 = true := by rw [ixn (by omega)]; exact decide_eq_true (by omega)
      simp only [h9, e5, e18, x1, x2, tnc (show 1344 + k < 2147483648 by omega), tnc (show 54 + 43 * m + 18 + k < 2147483648 by omega), lx_232_2, lb_232_2, ee_turn, k_0, k_1, k_1344, k_18, k_2, k_25, k_4294967295, k_43, k_5, k_54, nz_1, nz_1344, nz_18, nz_2, nz_25, nz_43, nz_5, nz_54, v_bin, v_cmp, v_get, v_idx, v_int, v_loc, v_z, w_if, w_inc, w_opa, w_ret, w_seq, w_set, w_sto, List.getElem?_cons_zero, List.getElem?_cons_succ, List.set_cons_zero, List.set_cons_succ, ee_cmp0, ee_cmp1, ee_cmp2, ee_cmp3, ee_cmp4, ee_cmp5, ee_cmpL0, ee_cmpL1, ee_cmpL2, ee_cmpL3, ee_cmpL4, ee_cmpL5, ee_tru_eb, decide_eq_true_eq, ib_i, ie_b, ie_f, ie_t, ib_l, fin_i, fin_l, fin_v, fin_z, fin_a, fin_n, ee_b_0, ee_fld0, ee_fld1, ee_fld2, ee_fld3, bi_0, bi_1, bi_2, bi_3, bi_4, bi_5, bi_6, bi_7, bi_8, bi_9, bi_10, bl_20, bl_21, bl_22, bl_23, bl_24, bl_25, bl_26, bl_48, bl_49, un_0, un_1, un_2, un_3, if_true, if_false, ite_true, ite_false, Bool.false_eq_true, Bool.not_eq_false, decide_not, Bool.not_not, reduceCtorEq, st_i, st_l, st_r, st_n, ee_noL, ee_noL.eq_1, List.length_cons, List.length_nil, Nat.reduceAdd, Nat.reduceLT, Nat.zero_add, and_true, true_and, and_self, fin_ite, pu_0, pu_1, pu_3, sto_0, el_0, Bool.not_eq_true, decide_eq_false_iff_not, Bool.decide_eq_true, Bool.decide_eq_false, decide_true, decide_false, Bool.not_true, Bool.not_false, Bool.and_self, Bool.and_true, Bool.and_false, Bool.true_and, Bool.false_and, Bool.or_true, Bool.or_false, Bool.true_or, Bool.false_or, if_true, if_false, Bool.false_eq_true, tc_0, ix_0, tc_1, ix_1, tc_1344, ix_1344, tc_18, ix_18, tc_2, ix_2, tc_25, ix_25, tc_43, ix_43, tc_5, ix_5, tc_54, ix_54, mz_0, mz_1, mz_a, rvs, j_s, j_a, wI_at, Nat.reduceEqDiff, zero_ne_one_n, one_ne_zero_n])
    (by
      intro w' _
      have h9 : ¬ (25 : Int32) < 25 := by decide
      simp only [h9, lx_232_2, lb_232_2, ee_turn, k_0, k_1, k_1344, k_18, k_2, k_25, k_4294967295, k_43, k_5, k_54, nz_1, nz_1344, nz_18, nz_2, nz_25, nz_43, nz_5, nz_54, v_bin, v_cmp, v_get, v_idx, v_int, v_loc, v_z, w_if, w_inc, w_opa, w_ret, w_seq, w_set, w_sto, List.getElem?_cons_zero, List.getElem?_cons_succ, List.set_cons_zero, List.set_cons_succ, ee_cmp0, ee_cmp1, ee_cmp2, ee_cmp3, ee_cmp4, ee_cmp5, ee_cmpL0, ee_cmpL1, ee_cmpL2, ee_cmpL3, ee_cmpL4, ee_cmpL5, ee_tru_eb, decide_eq_true_eq, ib_i, ie_b, ie_f, ie_t, ib_l, fin_i, fin_l, fin_v, fin_z, fin_a, fin_n, ee_b_0, ee_fld0, ee_fld1, ee_fld2, ee_fld3, bi_0, bi_1, bi_2, bi_3, bi_4, bi_5, bi_6, bi_7, bi_8, bi_9, bi_10, bl_20, bl_21, bl_22, bl_23, bl_24, bl_25, bl_26, bl_48, bl_49, un_0, un_1, un_2, un_3, if_true, if_false, ite_true, ite_false, Bool.false_eq_true, Bool.not_eq_false, decide_not, Bool.not_not, reduceCtorEq, st_i, st_l, st_r, st_n, ee_noL, ee_noL.eq_1, List.length_cons, List.length_nil, Nat.reduceAdd, Nat.reduceLT, Nat.zero_add, and_true, true_and, and_self, fin_ite, pu_0, pu_1, pu_3, sto_0, el_0, Bool.not_eq_true, decide_eq_false_iff_not, Bool.decide_eq_true, Bool.decide_eq_false, decide_true, decide_false, Bool.not_true, Bool.not_false, Bool.and_self, Bool.and_true, Bool.and_false, Bool.true_and, Bool.false_and, Bool.or_true, Bool.or_false, Bool.true_or, Bool.false_or, if_true, if_false, Bool.false_eq_true])
  rw [k_0] at n1 m1
  have ha : ∀ k, ¬ (k = 2) → (k < 5 ∨ (23 ≤ k ∧ k < 1344) ∨ 1369 ≤ k) → w2.1 237 k = w.1 237 k := by
    intro k k1 k2
    rw [m3.1 _ _ (by unfold reg; omega), n3.1 _ _ (by unfold reg; omega), wI_at, if_neg (by omega)]
  have g2 : w2.1 237 2 = Int32.ofNat m := by
    rw [m3.1 _ _ (by unfold reg; omega), n3.1 _ _ (by unfold reg; omega), wI_at, if_pos ⟨rfl, rfl⟩]
  have b1 : ∀ k, k < 18 → w2.1 237 (5 + k) = w.1 237 (54 + 43 * m + k) := by
    intro k hk
    rw [m3.1 _ _ (by unfold reg; omega), n2 k hk, wI_at, if_neg (by omega)]
  have b2 : ∀ k, k < 25 → w2.1 237 (1344 + k) = w.1 237 (54 + 43 * m + 18 + k) := by
    intro k hk
    rw [m2 k hk, n3.1 _ _ (by unfold reg; omega), wI_at, if_neg (by omega)]
  refine ⟨w2, ?_, ⟨⟨(ha 0 (by omega) (by omega)).trans a0, (ha 1 (by omega) (by omega)).trans a1, g2, (ha 3 (by omega) (by omega)).trans a3, (ha 4 (by omega) (by omega)).trans a4⟩, MH_eq (h3 m (by omega)) (v3 m (by omega)).2.1 b1 b2, ?_, fun k hk => (ha _ (by omega) (by omega)).trans (h4 k hk), (ha _ (by omega) (by omega)).trans h5, ?_, ?_⟩, ?_⟩
  · rw [rn_232 mz_0]
    simp only [a2, ne, e1, e43, e54, w_while, w_opa, n1, m1, g2, be_232, k_0, k_1, k_1344, k_18, k_2, k_25, k_4294967295, k_43, k_5, k_54, nz_1, nz_1344, nz_18, nz_2, nz_25, nz_43, nz_5, nz_54, v_bin, v_cmp, v_get, v_idx, v_int, v_loc, v_z, w_if, w_inc, w_opa, w_ret, w_seq, w_set, w_sto, List.getElem?_cons_zero, List.getElem?_cons_succ, List.set_cons_zero, List.set_cons_succ, ee_cmp0, ee_cmp1, ee_cmp2, ee_cmp3, ee_cmp4, ee_cmp5, ee_cmpL0, ee_cmpL1, ee_cmpL2, ee_cmpL3, ee_cmpL4, ee_cmpL5, ee_tru_eb, decide_eq_true_eq, ib_i, ie_b, ie_f, ie_t, ib_l, fin_i, fin_l, fin_v, fin_z, fin_a, fin_n, ee_b_0, ee_fld0, ee_fld1, ee_fld2, ee_fld3, bi_0, bi_1, bi_2, bi_3, bi_4, bi_5, bi_6, bi_7, bi_8, bi_9, bi_10, bl_20, bl_21, bl_22, bl_23, bl_24, bl_25, bl_26, bl_48, bl_49, un_0, un_1, un_2, un_3, if_true, if_false, ite_true, ite_false, Bool.false_eq_true, Bool.not_eq_false, decide_not, Bool.not_not, reduceCtorEq, st_i, st_l, st_r, st_n, ee_noL, ee_noL.eq_1, List.length_cons, List.length_nil, Nat.reduceAdd, Nat.reduceLT, Nat.zero_add, and_true, true_and, and_self, fin_ite, pu_0, pu_1, pu_3, sto_0, el_0, Bool.not_eq_true, decide_eq_false_iff_not, Bool.decide_eq_true, Bool.decide_eq_false, decide_true, decide_false, Bool.not_true, Bool.not_false, Bool.and_self, Bool.and_true, Bool.and_false, Bool.true_and, Bool.false_and, Bool.or_true, Bool.or_false, Bool.true_or, Bool.false_or, if_true, if_false, Bool.false_eq_true, ix_0, ix_1, ix_1344, ix_18, ix_2, ix_25, ix_43, ix_5, ix_54, tc_0, tc_1, tc_1344, tc_18, tc_2, tc_25, tc_43, tc_5, tc_54, mz_0, mz_1, mz_a, rvs, j_s, j_a, wI_at, Nat.reduceEqDiff, zero_ne_one_n, one_ne_zero_n]
  · intro i hi
    have hi : i < m := hi
    exact MH_eq (h3 i (by omega)) (v3 i (by omega)).2.1 (fun k hk => ha _ (by omega) (by omega)) (fun k hk => ha _ (by omega) (by omega))
  · intro i hi
    have hi : i < Y.2.2.2.2.1.1 := hi
    exact (ha _ (by omega) (by omega)).trans (h6 i hi)
  · intro i hi
    have hi : i < Y.2.2.2.2.2.1 := hi
    rw [ha _ (by omega) (by omega), ha _ (by omega) (by omega)]
    exact h7 i hi
  · exact chk_trans (chk_I ⟨rfl, Or.inl rfl⟩ (chk_refl _ _)) (chk_trans (chk_mono n3 (fun c j h => ⟨h.1, by have := h.2; omega⟩)) (chk_mono m3 (fun c j h => ⟨h.1, by have := h.2; omega⟩)))
/-- now, kept, the TEXTS, the tape, the latest FAULT -/
abbrev ZX : Type := AX × AX × (Nat → TX) × (Nat × (Nat → Int32)) × Int32 × Int32
def nT (Y : AX) : Nat := (Y.2.2.2.1 1).toInt.toNat
def CZ (w : ee_W) (Z : ZX) : Prop := CA w 1 Z.1 ∧ CA w 101 Z.2.1 ∧ (∀ i, i < nT Z.1 → i < 4 → CT w (202 + 5 * i) (Z.2.2.1 i)) ∧ (w.1 0 9 = Int32.ofNat Z.2.2.2.1.1 ∧ ∀ i, i < Z.2.2.2.1.1 → w.1 235 i = Z.2.2.2.1.2 i) ∧
  ((w.1 0 10 = 0 ∧ Z.2.2.2.2.1 = -1 ∧ Z.2.2.2.2.2 = -1) ∨ (w.1 0 10 = 1 ∧ w.1 225 6 = Z.2.2.2.2.1 ∧ w.1 225 7 = Z.2.2.2.2.2))
def MZ (w : ee_W) (Z : ZX) : Prop := MA w 237 Z.1 ∧ MA w 238 Z.2.1 ∧ (∀ i, i < nT Z.1 → i < 4 → MT w i (Z.2.2.1 i)) ∧ (w.1 236 4 = Int32.ofNat Z.2.2.2.1.1 ∧ ∀ i, i < Z.2.2.2.1.1 → w.1 240 i = Z.2.2.2.1.2 i) ∧ (w.1 236 5 = Z.2.2.2.2.1 ∧ w.1 236 6 = Z.2.2.2.2.2) ∧ w.1 236 23 = 1
def WZ (Z : ZX) : Prop := WA Z.1 ∧ WA Z.2.1 ∧ nT Z.2.1 ≤ nT Z.1 ∧ Z.2.2.2.1.1 ≤ 300 ∧ ∀ i, i < Z.2.2.2.1.1 → bI (Z.2.2.2.1.2 i) 0 255
def Sim (w : ee_W) : Prop := ∃ Z, CZ w Z ∧ MZ w Z ∧ WZ Z
def plo (c : Nat) : Bool := decide (c < 236)
def phi (c _k : Nat) : Prop := 236 ≤ c
theorem plo_f {c : Nat} : plo c = false ↔ 236 ≤ c := by
  unfold plo
  rw [decide_eq_false_iff_not]
  omega
theorem nT_of {Y : AX} (hY : WA Y) : ∃ n : Nat, n ≤ 4 ∧ Y.2.2.2.1 1 = Int32.ofNat n ∧ nT Y = n ∧ (Y.2.2.2.1 2 = -1 ∨ ∃ i, i < n ∧ Y.2.2.2.1 2 = Int32.ofNat i) := by
  obtain ⟨-, -, -, ⟨n, h1, h2, h3⟩, -⟩ := hY
  refine ⟨n, h1, h2, ?_, h3⟩
  unfold nT
  rw [h2, nI_t (by omega)]
  omega
theorem CZ_chk {p : Nat → Nat → Prop} {w' : ee_W} {Z : ZX} (hZ : CZ w Z) (hc : chk p w w') (hp : ∀ c k, p c k → 236 ≤ c) : CZ w' Z := by
  have hg : chg (fun c => !plo c) w w' := ⟨fun c k h => hc.1 c k (fun hh => by have := hp c k hh; unfold plo at h; simp at h; omega), hc.2⟩
  have hf : ∀ c, c < 236 → (fun c => !plo c) c = false := fun c h => by unfold plo; simp; omega
  obtain ⟨h1, h2, h3, ⟨h4, h5⟩, h6⟩ := hZ
  refine ⟨CA_chg h1 hg (fun c q1 q2 => hf c (by omega)), CA_chg h2 hg (fun c q1 q2 => hf c (by omega)), fun i hi h4 => CT_chg (h3 i hi h4) hg (fun c q1 q2 => hf c (by omega)), ⟨(hg.1 _ _ (hf _ (by omega))).trans h4, fun i hi => (hg.1 _ _ (hf _ (by omega))).trans (h5 i hi)⟩, ?_⟩
  rw [hg.1 0 10 (hf _ (by omega)), hg.1 225 6 (hf _ (by omega)), hg.1 225 7 (hf _ (by omega))]
  exact h6
theorem MZ_eq {w' : ee_W} {Z : ZX} (hZ : MZ w Z) (hW : WZ Z) (he : ∀ c k, 236 ≤ c → w'.1 c k = w.1 c k) : MZ w' Z := by
  obtain ⟨h1, h2, h3, ⟨h4, h5⟩, ⟨h6, h7⟩, h8⟩ := hZ
  exact ⟨MA_eq h1 hW.1 (fun k _ => he _ _ (by omega)), MA_eq h2 hW.2.1 (fun k _ => he _ _ (by omega)), fun i hi h4 => MT_eq (h3 i hi h4) (fun k => he _ _ (by omega)), ⟨(he _ _ (by omega)).trans h4, fun i hi => (he _ _ (by omega)).trans (h5 i hi)⟩, ⟨(he _ _ (by omega)).trans h6, (he _ _ (by omega)).trans h7⟩, (he _ _ (by omega)).trans h8⟩
/-- one call on both sides -/
def Both (P : Nat → Nat → List Value → ee_W → Option (List Value × ee_W)) (d mc mm : Nat) (vs : List Value) (w : ee_W) : Prop := ∃ r w1 w2, ee_run ee_B P d mc (.ref 0 :: vs) w = some ([r], w1) ∧ ee_run ee_B P d mm (.ref 236 :: vs) w1 = some ([r], w2) ∧ Sim w2 ∧ w2.2.2 = w.2.2 ∧ w1.2.2 = w.2.2
theorem both_of {mc mm : Nat} {vs : List Value} {Z Z' : ZX} {r : Value} (hM0 : MZ w Z) (hW0 : WZ Z) (hW : WZ Z') (hC : ∃ w1, ee_run ee_B P d mc (.ref 0 :: vs) w = some ([r], w1) ∧ CZ w1 Z' ∧ chg plo w w1) (hM : ∀ w1, MZ w1 Z → ∃ w2, ee_run ee_B P d mm (.ref 236 :: vs) w1 = some ([r], w2) ∧ MZ w2 Z' ∧ chk phi w1 w2) : Both P d mc mm vs w := by
  obtain ⟨w1, c1, c2, c3⟩ := hC
  have hM1 := MZ_eq hM0 hW0 (w' := w1) (fun c k h => c3.1 c k (plo_f.2 h))
  obtain ⟨w2, m1, m2, m3⟩ := hM w1 hM1
  exact ⟨r, w1, w2, c1, m1, ⟨Z', CZ_chk c2 m3 (fun c k h => h), m2, hW⟩, m3.2.trans c3.2, c3.2⟩
/-- a call that changes nothing -/
theorem both_q {mc mm : Nat} {vs : List Value} {Z : ZX} {r : Value} (hZ : CZ w Z) (hM0 : MZ w Z) (hW0 : WZ Z) (hC : ee_run ee_B P d mc (.ref 0 :: vs) w = some ([r], w)) (hM : ee_run ee_B P d mm (.ref 236 :: vs) w = some ([r], w)) : Both P d mc mm vs w :=
  ⟨r, w, w, hC, hM, ⟨Z, hZ, hM0, hW0⟩, rfl, rfl⟩
end ZS
