/-! the reference's steps -/
section MU
variable {P : Nat → Nat → List Value → ee_W → Option (List Value × ee_W)} {d : Nat} {w : ee_W} {X : HX} {Y : AX}
def kp_rest : ee_T := (s_seq 67 (s_set 1 0 (n_bin 0 (n_int 54) (n_bin 2 (n_int 43) (n_idx 0 (n_get 8 0 2 (n_loc 0 2)) (n_int 2))))) (s_seq 97 (s_seq 69 (s_set 2 0 (n_int 0)) (s_while 75 lx_236_2 lb_236_2)) (s_seq 132 (s_seq 99 (s_set 2 0 (n_int 0)) (s_while 105 lx_236_3 lb_236_3)) (s_seq 142 (s_opa 0 0 (n_get 8 0 2 (n_loc 0 2)) (n_int 2) (n_int 1)) s_retv))))
theorem m_kprest {m : Nat} (hm : m ≤ 29) (h2 : w.1 237 2 = Int32.ofNat m) (v : Option Value) : ∃ w', ee_fin none (ee_evS es_sh es_rf (ee_run ee_B P d) kp_rest 0 [some (.ref 236), v, none] w) = some ([], w') ∧ w'.1 237 2 = Int32.ofNat (m + 1) ∧ (∀ k, k < 18 → w'.1 237 (54 + 43 * m + k) = w.1 237 (5 + k)) ∧ (∀ k, k < 25 → w'.1 237 (54 + 43 * m + 18 + k) = w.1 237 (1344 + k)) ∧ chk (fun c j => c = 237 ∧ (j = 2 ∨ (54 + 43 * m ≤ j ∧ j < 54 + 43 * m + 43))) w w' := by
  have e43 : (43 : Int32) * Int32.ofNat m = Int32.ofNat (43 * m) := j_m 43 m
  have e54 : (54 : Int32) + Int32.ofNat (43 * m) = Int32.ofNat (54 + 43 * m) := j_a 54 _
  have e18 : Int32.ofNat (54 + 43 * m) + 18 = Int32.ofNat (54 + 43 * m + 18) := j_a _ 18
  obtain ⟨w1, n1, n2, n3⟩ := cp_loop (w := w) (x := ee_ev es_sh es_rf (ee_run ee_B P d) lx_236_2) (b := ee_evS es_sh es_rf (ee_run ee_B P d) lb_236_2)
    (fun k => [some (.ref 236), some (.int (Int32.ofNat (54 + 43 * m))), some (.int (Int32.ofNat k))]) 18 237 237 (54 + 43 * m) 5 (by omega)
    (by
      intro k w' hk _
      have h9 : Int32.ofNat k < 18 := (j_lt (b := 18) (by omega) (by omega)).2 hk
      have e5 : (5 : Int32) + Int32.ofNat k = Int32.ofNat (5 + k) := j_a 5 k
      have x1 : ee_ix (Int32.ofNat (5 + k)) 1369 = true := by rw [ixn (by omega)]; exact decide_eq_true (by omega)
      have x2 : ee_ix (Int32.ofNat (54 + 43 * m + k)) 1369 = true := by rw [ixn (by omega)]; exact decide_eq_true (by omega)
      simp only [h9, e5, x1, x2, tnc (show 5 + k < 2147483648 by omega), tnc (show 54 + 43 * m + k < 2147483648 by omega), lx_236_2, lb_236_2, ee_turn, k_0, k_1, k_1247, k_1344, k_18, k_2, k_25, k_30, k_43, k_5, k_54, k_97, nz_1, nz_1247, nz_1344, nz_18, nz_2, nz_25, nz_30, nz_43, nz_5, nz_54, nz_97, v_bin, v_cmp, v_get, v_idx, v_int, v_loc, w_if, w_inc, w_opa, w_retv, w_seq, w_set, w_skip, w_sto, List.getElem?_cons_zero, List.getElem?_cons_succ, List.set_cons_zero, List.set_cons_succ, ee_cmp0, ee_cmp1, ee_cmp2, ee_cmp3, ee_cmp4, ee_cmp5, ee_cmpL0, ee_cmpL1, ee_cmpL2, ee_cmpL3, ee_cmpL4, ee_cmpL5, ee_tru_eb, decide_eq_true_eq, ib_i, ie_b, ie_f, ie_t, ib_l, fin_i, fin_l, fin_v, fin_z, fin_a, fin_n, ee_b_0, ee_fld0, ee_fld1, ee_fld2, ee_fld3, bi_0, bi_1, bi_2, bi_3, bi_4, bi_5, bi_6, bi_7, bi_8, bi_9, bi_10, bl_20, bl_21, bl_22, bl_23, bl_24, bl_25, bl_26, bl_48, bl_49, un_0, un_1, un_2, un_3, if_true, if_false, ite_true, ite_false, Bool.false_eq_true, Bool.not_eq_false, decide_not, Bool.not_not, reduceCtorEq, st_i, st_l, st_r, st_n, ee_noL, ee_noL.eq_1, List.length_cons, List.length_nil, Nat.reduceAdd, Nat.reduceLT, Nat.zero_add, and_true, true_and, and_self, fin_ite, pu_0, pu_1, pu_3, sto_0, el_0, Bool.not_eq_true, decide_eq_false_iff_not, Bool.decide_eq_true, Bool.decide_eq_false, decide_true, decide_false, Bool.not_true, Bool.not_false, Bool.and_self, Bool.and_true, Bool.and_false, Bool.true_and, Bool.false_and, Bool.or_true, Bool.or_false, Bool.true_or, Bool.false_or, if_true, if_false, Bool.false_eq_true, tc_0, ix_0, tc_1, ix_1, tc_1247, ix_1247, tc_1344, ix_1344, tc_18, ix_18, tc_2, ix_2, tc_25, ix_25, tc_30, ix_30, tc_43, ix_43, tc_5, ix_5, tc_54, ix_54, tc_97, ix_97, mz_0, mz_1, mz_a, rvs, j_s, j_a, wI_at, Nat.reduceEqDiff, zero_ne_one_n, one_ne_zero_n])
    (by
      intro w' _
      have h9 : ¬ (18 : Int32) < 18 := by decide
      simp only [h9, lx_236_2, lb_236_2, ee_turn, k_0, k_1, k_1247, k_1344, k_18, k_2, k_25, k_30, k_43, k_5, k_54, k_97, nz_1, nz_1247, nz_1344, nz_18, nz_2, nz_25, nz_30, nz_43, nz_5, nz_54, nz_97, v_bin, v_cmp, v_get, v_idx, v_int, v_loc, w_if, w_inc, w_opa, w_retv, w_seq, w_set, w_skip, w_sto, List.getElem?_cons_zero, List.getElem?_cons_succ, List.set_cons_zero, List.set_cons_succ, ee_cmp0, ee_cmp1, ee_cmp2, ee_cmp3, ee_cmp4, ee_cmp5, ee_cmpL0, ee_cmpL1, ee_cmpL2, ee_cmpL3, ee_cmpL4, ee_cmpL5, ee_tru_eb, decide_eq_true_eq, ib_i, ie_b, ie_f, ie_t, ib_l, fin_i, fin_l, fin_v, fin_z, fin_a, fin_n, ee_b_0, ee_fld0, ee_fld1, ee_fld2, ee_fld3, bi_0, bi_1, bi_2, bi_3, bi_4, bi_5, bi_6, bi_7, bi_8, bi_9, bi_10, bl_20, bl_21, bl_22, bl_23, bl_24, bl_25, bl_26, bl_48, bl_49, un_0, un_1, un_2, un_3, if_true, if_false, ite_true, ite_false, Bool.false_eq_true, Bool.not_eq_false, decide_not, Bool.not_not, reduceCtorEq, st_i, st_l, st_r, st_n, ee_noL, ee_noL.eq_1, List.length_cons, List.length_nil, Nat.reduceAdd, Nat.reduceLT, Nat.zero_add, and_true, true_and, and_self, fin_ite, pu_0, pu_1, pu_3, sto_0, el_0, Bool.not_eq_true, decide_eq_false_iff_not, Bool.decide_eq_true, Bool.decide_eq_false, decide_true, decide_false, Bool.not_true, Bool.not_false, Bool.and_self, Bool.and_true, Bool.and_false, Bool.true_and, Bool.false_and, Bool.or_true, Bool.or_false, Bool.true_or, Bool.false_or, if_true, if_false, Bool.false_eq_true])
  obtain ⟨w2, m1, m2, m3⟩ := cp_loop (w := w1) (x := ee_ev es_sh es_rf (ee_run ee_B P d) lx_236_3) (b := ee_evS es_sh es_rf (ee_run ee_B P d) lb_236_3)
    (fun k => [some (.ref 236), some (.int (Int32.ofNat (54 + 43 * m))), some (.int (Int32.ofNat k))]) 25 237 237 (54 + 43 * m + 18) 1344 (by omega)
    (by
      intro k w' hk _
      have h9 : Int32.ofNat k < 25 := (j_lt (b := 25) (by omega) (by omega)).2 hk
      have e5 : (1344 : Int32) + Int32.ofNat k = Int32.ofNat (1344 + k) := j_a 1344 k
      have x1 : ee_ix (Int32.ofNat (1344 + k)) 1369 = true := by rw [ixn (by omega)]; exact decide_eq_true (by omega)
      have x2 : ee_ix (Int32.ofNat (54 + 43 * m + 18 + k)) 1369 = true := by rw [ixn (by omega)]; exact decide_eq_true (by omega)
      simp only [h9, e5, e18, x1, x2, tnc (show 1344 + k < 2147483648 by omega), tnc (show 54 + 43 * m + 18 + k < 2147483648 by omega), lx_236_3, lb_236_3, ee_turn, k_0, k_1, k_1247, k_1344, k_18, k_2, k_25, k_30, k_43, k_5, k_54, k_97, nz_1, nz_1247, nz_1344, nz_18, nz_2, nz_25, nz_30, nz_43, nz_5, nz_54, nz_97, v_bin, v_cmp, v_get, v_idx, v_int, v_loc, w_if, w_inc, w_opa, w_retv, w_seq, w_set, w_skip, w_sto, List.getElem?_cons_zero, List.getElem?_cons_succ, List.set_cons_zero, List.set_cons_succ, ee_cmp0, ee_cmp1, ee_cmp2, ee_cmp3, ee_cmp4, ee_cmp5, ee_cmpL0, ee_cmpL1, ee_cmpL2, ee_cmpL3, ee_cmpL4, ee_cmpL5, ee_tru_eb, decide_eq_true_eq, ib_i, ie_b, ie_f, ie_t, ib_l, fin_i, fin_l, fin_v, fin_z, fin_a, fin_n, ee_b_0, ee_fld0, ee_fld1, ee_fld2, ee_fld3, bi_0, bi_1, bi_2, bi_3, bi_4, bi_5, bi_6, bi_7, bi_8, bi_9, bi_10, bl_20, bl_21, bl_22, bl_23, bl_24, bl_25, bl_26, bl_48, bl_49, un_0, un_1, un_2, un_3, if_true, if_false, ite_true, ite_false, Bool.false_eq_true, Bool.not_eq_false, decide_not, Bool.not_not, reduceCtorEq, st_i, st_l, st_r, st_n, ee_noL, ee_noL.eq_1, List.length_cons, List.length_nil, Nat.reduceAdd, Nat.reduceLT, Nat.zero_add, and_true, true_and, and_self, fin_ite, pu_0, pu_1, pu_3, sto_0, el_0, Bool.not_eq_true, decide_eq_false_iff_not, Bool.decide_eq_true, Bool.decide_eq_false, decide_true, decide_false, Bool.not_true, Bool.not_false, Bool.and_self, Bool.and_true, Bool.and_false, Bool.true_and, Bool.false_and, Bool.or_true, Bool.or_false, Bool.true_or, Bool.false_or, if_true, if_false, Bool.false_eq_true, tc_0, ix_0, tc_1, ix_1, tc_1247, ix_1247, tc_1344, ix_1344, tc_18, ix_18, tc_2, ix_2, tc_25, ix_25, tc_30, ix_30, tc_43, ix_43, tc_5, ix_5, tc_54, ix_54, tc_97, ix_97, mz_0, mz_1, mz_a, rvs, j_s, j_a, wI_at, Nat.reduceEqDiff, zero_ne_one_n, one_ne_zero_n])
    (by
      intro w' _
      have h9 : ¬ (25 : Int32) < 25 := by decide
      simp only [h9, lx_236_3, lb_236_3, ee_turn, k_0, k_1, k_1247, k_1344, k_18, k_2, k_25, k_30, k_43, k_5, k_54, k_97, nz_1, nz_1247, nz_1344, nz_18, nz_2, nz_25, nz_30, nz_43, nz_5, nz_54, nz_97, v_bin, v_cmp, v_get, v_idx, v_int, v_loc, w_if, w_inc, w_opa, w_retv, w_seq, w_set, w_skip, w_sto, List.getElem?_cons_zero, List.getElem?_cons_succ, List.set_cons_zero, List.set_cons_succ, ee_cmp0, ee_cmp1, ee_cmp2, ee_cmp3, ee_cmp4, ee_cmp5, ee_cmpL0, ee_cmpL1, ee_cmpL2, ee_cmpL3, ee_cmpL4, ee_cmpL5, ee_tru_eb, decide_eq_true_eq, ib_i, ie_b, ie_f, ie_t, ib_l, fin_i, fin_l, fin_v, fin_z, fin_a, fin_n, ee_b_0, ee_fld0, ee_fld1, ee_fld2, ee_fld3, bi_0, bi_1, bi_2, bi_3, bi_4, bi_5, bi_6, bi_7, bi_8, bi_9, bi_10, bl_20, bl_21, bl_22, bl_23, bl_24, bl_25, bl_26, bl_48, bl_49, un_0, un_1, un_2, un_3, if_true, if_false, ite_true, ite_false, Bool.false_eq_true, Bool.not_eq_false, decide_not, Bool.not_not, reduceCtorEq, st_i, st_l, st_r, st_n, ee_noL, ee_noL.eq_1, List.length_cons, List.length_nil, Nat.reduceAdd, Nat.reduceLT, Nat.zero_add, and_true, true_and, and_self, fin_ite, pu_0, pu_1, pu_3, sto_0, el_0, Bool.not_eq_true, decide_eq_false_iff_not, Bool.decide_eq_true, Bool.decide_eq_false, decide_true, decide_false, Bool.not_true, Bool.not_false, Bool.and_self, Bool.and_true, Bool.and_false, Bool.true_and, Bool.false_and, Bool.or_true, Bool.or_false, Bool.true_or, Bool.false_or, if_true, if_false, Bool.false_eq_true])
  rw [k_0] at n1 m1
  have g2 : w2.1 237 2 = Int32.ofNat m := (m3.1 _ _ (by unfold reg; omega)).trans ((n3.1 _ _ (by unfold reg; omega)).trans h2)
  refine ⟨ee_wI w2 237 2 (Int32.ofNat (m + 1)), ?_, ?_, ?_, ?_, ?_⟩
  · simp only [kp_rest, h2, e43, e54, w_while, w_opa, n1, m1, g2, be_236, k_0, k_1, k_1247, k_1344, k_18, k_2, k_25, k_30, k_43, k_5, k_54, k_97, nz_1, nz_1247, nz_1344, nz_18, nz_2, nz_25, nz_30, nz_43, nz_5, nz_54, nz_97, v_bin, v_cmp, v_get, v_idx, v_int, v_loc, w_if, w_inc, w_opa, w_retv, w_seq, w_set, w_skip, w_sto, List.getElem?_cons_zero, List.getElem?_cons_succ, List.set_cons_zero, List.set_cons_succ, ee_cmp0, ee_cmp1, ee_cmp2, ee_cmp3, ee_cmp4, ee_cmp5, ee_cmpL0, ee_cmpL1, ee_cmpL2, ee_cmpL3, ee_cmpL4, ee_cmpL5, ee_tru_eb, decide_eq_true_eq, ib_i, ie_b, ie_f, ie_t, ib_l, fin_i, fin_l, fin_v, fin_z, fin_a, fin_n, ee_b_0, ee_fld0, ee_fld1, ee_fld2, ee_fld3, bi_0, bi_1, bi_2, bi_3, bi_4, bi_5, bi_6, bi_7, bi_8, bi_9, bi_10, bl_20, bl_21, bl_22, bl_23, bl_24, bl_25, bl_26, bl_48, bl_49, un_0, un_1, un_2, un_3, if_true, if_false, ite_true, ite_false, Bool.false_eq_true, Bool.not_eq_false, decide_not, Bool.not_not, reduceCtorEq, st_i, st_l, st_r, st_n, ee_noL, ee_noL.eq_1, List.length_cons, List.length_nil, Nat.reduceAdd, Nat.reduceLT, Nat.zero_add, and_true, true_and, and_self, fin_ite, pu_0, pu_1, pu_3, sto_0, el_0, Bool.not_eq_true, decide_eq_false_iff_not, Bool.decide_eq_true, Bool.decide_eq_false, decide_true, decide_false, Bool.not_true, Bool.not_false, Bool.and_self, Bool.and_true, Bool.and_false, Bool.true_and, Bool.false_and, Bool.or_true, Bool.or_false, Bool.true_or, Bool.false_or, if_true, if_false, Bool.false_eq_true, ix_0, ix_1, ix_1247, ix_1344, ix_18, ix_2, ix_25, ix_30, ix_43, ix_5, ix_54, ix_97, tc_0, tc_1, tc_1247, tc_1344, tc_18, tc_2, tc_25, tc_30, tc_43, tc_5, tc_54, tc_97, mz_0, mz_1, mz_a, rvs, j_s, j_a, wI_at, Nat.reduceEqDiff, zero_ne_one_n, one_ne_zero_n]
  · rw [wI_at, if_pos ⟨rfl, rfl⟩]
  · intro k hk
    rw [wI_at, if_neg (by omega), m3.1 _ _ (by unfold reg; omega)]
    exact n2 k hk
  · intro k hk
    rw [wI_at, if_neg (by omega), m2 k hk]
    exact n3.1 _ _ (by unfold reg; omega)
  · exact chk_I ⟨rfl, Or.inl rfl⟩ (chk_trans (chk_mono n3 (fun c j h => ⟨h.1, by have := h.2; omega⟩)) (chk_mono m3 (fun c j h => ⟨h.1, by have := h.2; omega⟩)))
def pkp (c k : Nat) : Prop := c = 237 ∧ (k = 2 ∨ (54 ≤ k ∧ k < 1344))
/-- what isn't steps stays -/
theorem MA_steps {w' : ee_W} {S : SX} (hY : MA w 237 Y) (hW : WA Y) (hc : chk pkp w w') (h2 : w'.1 237 2 = Int32.ofNat S.1) (hS : ∀ i, i < S.1 → MH w' 237 (54 + 43 * i) (54 + 43 * i + 18) (S.2 i)) : MA w' 237 (Y.1, S, Y.2.2) := by
  obtain ⟨⟨a0, a1, a2, a3, a4⟩, h1, h3, h4, h5, h6, h7⟩ := hY
  obtain ⟨v1, ⟨v2, v3⟩, -, -, ⟨v4, -⟩, ⟨v5, -⟩⟩ := hW
  have he : ∀ k, (k < 54 ∧ k ≠ 2) ∨ 1344 ≤ k → w'.1 237 k = w.1 237 k := fun k hk => hc.1 _ _ (by unfold pkp; omega)
  refine ⟨⟨(he _ (by omega)).trans a0, (he _ (by omega)).trans a1, h2, (he _ (by omega)).trans a3, (he _ (by omega)).trans a4⟩, MH_eq h1 v1.2.1 (fun k hk => he _ (by omega)) (fun k hk => he _ (by omega)), hS, fun k hk => (he _ (by omega)).trans (h4 k hk), (he _ (by omega)).trans h5, fun i hi => ?_, fun i hi => ?_⟩
  · have hi : i < Y.2.2.2.2.1.1 := hi
    exact (he _ (by omega)).trans (h6 i hi)
  · have hi : i < Y.2.2.2.2.2.1 := hi
    rw [he _ (by omega), he _ (by omega)]
    exact h7 i hi
theorem m_keep (hd : 1 ≤ d) (hY : MA w 237 Y) (hW : WA Y) : ∃ w', ee_run ee_B P d 236 [.ref 236] w = some ([], w') ∧ MA w' 237 (Y.1, xkeep Y.2.1 Y.1, Y.2.2) ∧ chk pkp w w' := by
  obtain ⟨d, rfl⟩ : ∃ k, d = k + 1 := ⟨d - 1, by omega⟩
  have hY0 := hY
  obtain ⟨⟨a0, a1, a2, a3, a4⟩, h1, h3, h4, h5, h6, h7⟩ := hY
  obtain ⟨v2, v3⟩ := hW.2.1
  rw [rn_236 mz_0]
  by_cases q : Y.2.1.1 = 30
  · have e2 : w.1 237 2 = 30 := by rw [a2, q]; rfl
    obtain ⟨w1, n1, n2, n3⟩ := cp_loop (w := w) (x := ee_ev es_sh es_rf (ee_run ee_B P d) lx_236_1) (b := ee_evS es_sh es_rf (ee_run ee_B P d) lb_236_1)
      (fun k => [some (.ref 236), some (.int (Int32.ofNat k)), none]) 1247 237 237 54 97 (by omega)
      (by
        intro k w' hk _
        have h9 : Int32.ofNat k < 1247 := (j_lt (b := 1247) (by omega) (by omega)).2 hk
        have e5 : (54 : Int32) + Int32.ofNat k = Int32.ofNat (54 + k) := j_a 54 k
        have e6 : (97 : Int32) + Int32.ofNat k = Int32.ofNat (97 + k) := j_a 97 k
        have x1 : ee_ix (Int32.ofNat (54 + k)) 1369 = true := by rw [ixn (by omega)]; exact decide_eq_true (by omega)
        have x2 : ee_ix (Int32.ofNat (97 + k)) 1369 = true := by rw [ixn (by omega)]; exact decide_eq_true (by omega)
        simp only [h9, e5, e6, x1, x2, tnc (show 54 + k < 2147483648 by omega), tnc (show 97 + k < 2147483648 by omega), lx_236_1, lb_236_1, ee_turn, k_0, k_1, k_1247, k_1344, k_18, k_2, k_25, k_30, k_43, k_5, k_54, k_97, nz_1, nz_1247, nz_1344, nz_18, nz_2, nz_25, nz_30, nz_43, nz_5, nz_54, nz_97, v_bin, v_cmp, v_get, v_idx, v_int, v_loc, w_if, w_inc, w_opa, w_retv, w_seq, w_set, w_skip, w_sto, List.getElem?_cons_zero, List.getElem?_cons_succ, List.set_cons_zero, List.set_cons_succ, ee_cmp0, ee_cmp1, ee_cmp2, ee_cmp3, ee_cmp4, ee_cmp5, ee_cmpL0, ee_cmpL1, ee_cmpL2, ee_cmpL3, ee_cmpL4, ee_cmpL5, ee_tru_eb, decide_eq_true_eq, ib_i, ie_b, ie_f, ie_t, ib_l, fin_i, fin_l, fin_v, fin_z, fin_a, fin_n, ee_b_0, ee_fld0, ee_fld1, ee_fld2, ee_fld3, bi_0, bi_1, bi_2, bi_3, bi_4, bi_5, bi_6, bi_7, bi_8, bi_9, bi_10, bl_20, bl_21, bl_22, bl_23, bl_24, bl_25, bl_26, bl_48, bl_49, un_0, un_1, un_2, un_3, if_true, if_false, ite_true, ite_false, Bool.false_eq_true, Bool.not_eq_false, decide_not, Bool.not_not, reduceCtorEq, st_i, st_l, st_r, st_n, ee_noL, ee_noL.eq_1, List.length_cons, List.length_nil, Nat.reduceAdd, Nat.reduceLT, Nat.zero_add, and_true, true_and, and_self, fin_ite, pu_0, pu_1, pu_3, sto_0, el_0, Bool.not_eq_true, decide_eq_false_iff_not, Bool.decide_eq_true, Bool.decide_eq_false, decide_true, decide_false, Bool.not_true, Bool.not_false, Bool.and_self, Bool.and_true, Bool.and_false, Bool.true_and, Bool.false_and, Bool.or_true, Bool.or_false, Bool.true_or, Bool.false_or, if_true, if_false, Bool.false_eq_true, tc_0, ix_0, tc_1, ix_1, tc_1247, ix_1247, tc_1344, ix_1344, tc_18, ix_18, tc_2, ix_2, tc_25, ix_25, tc_30, ix_30, tc_43, ix_43, tc_5, ix_5, tc_54, ix_54, tc_97, ix_97, mz_0, mz_1, mz_a, rvs, j_s, j_a, wI_at, Nat.reduceEqDiff, zero_ne_one_n, one_ne_zero_n])
      (by
        intro w' _
        have h9 : ¬ (1247 : Int32) < 1247 := by decide
        simp only [h9, lx_236_1, lb_236_1, ee_turn, k_0, k_1, k_1247, k_1344, k_18, k_2, k_25, k_30, k_43, k_5, k_54, k_97, nz_1, nz_1247, nz_1344, nz_18, nz_2, nz_25, nz_30, nz_43, nz_5, nz_54, nz_97, v_bin, v_cmp, v_get, v_idx, v_int, v_loc, w_if, w_inc, w_opa, w_retv, w_seq, w_set, w_skip, w_sto, List.getElem?_cons_zero, List.getElem?_cons_succ, List.set_cons_zero, List.set_cons_succ, ee_cmp0, ee_cmp1, ee_cmp2, ee_cmp3, ee_cmp4, ee_cmp5, ee_cmpL0, ee_cmpL1, ee_cmpL2, ee_cmpL3, ee_cmpL4, ee_cmpL5, ee_tru_eb, decide_eq_true_eq, ib_i, ie_b, ie_f, ie_t, ib_l, fin_i, fin_l, fin_v, fin_z, fin_a, fin_n, ee_b_0, ee_fld0, ee_fld1, ee_fld2, ee_fld3, bi_0, bi_1, bi_2, bi_3, bi_4, bi_5, bi_6, bi_7, bi_8, bi_9, bi_10, bl_20, bl_21, bl_22, bl_23, bl_24, bl_25, bl_26, bl_48, bl_49, un_0, un_1, un_2, un_3, if_true, if_false, ite_true, ite_false, Bool.false_eq_true, Bool.not_eq_false, decide_not, Bool.not_not, reduceCtorEq, st_i, st_l, st_r, st_n, ee_noL, ee_noL.eq_1, List.length_cons, List.length_nil, Nat.reduceAdd, Nat.reduceLT, Nat.zero_add, and_true, true_and, and_self, fin_ite, pu_0, pu_1, pu_3, sto_0, el_0, Bool.not_eq_true, decide_eq_false_iff_not, Bool.decide_eq_true, Bool.decide_eq_false, decide_true, decide_false, Bool.not_true, Bool.not_false, Bool.and_self, Bool.and_true, Bool.and_false, Bool.true_and, Bool.false_and, Bool.or_true, Bool.or_false, Bool.true_or, Bool.false_or, if_true, if_false, Bool.false_eq_true])
    rw [k_0] at n1
    have g2 : w1.1 237 2 = 30 := (n3.1 _ _ (by unfold reg; omega)).trans e2
    have m29 : (30 : Int32) - 1 = 29 := by decide
    have gw : (ee_wI w1 237 2 29).1 237 2 = Int32.ofNat 29 := by rw [wI_at, if_pos ⟨rfl, rfl⟩]; rfl
    obtain ⟨w', r1, r2, r3, r4, r5⟩ := m_kprest (P := P) (d := d) (Nat.le_refl 29) gw (some (.int 1247))
    have c1 : chk pkp w w' := chk_trans (chk_I ⟨rfl, Or.inl rfl⟩ (chk_mono n3 (fun c j h => ⟨h.1, by have := h.2; omega⟩))) (chk_mono r5 (fun c j h => ⟨h.1, by have := h.2; omega⟩))
    refine ⟨w', ?_, ?_, c1⟩
    · have eb : bd_236 = (s_seq 54 (s_if 11 54 (n_cmp 0 (n_idx 0 (n_get 8 0 2 (n_loc 0 2)) (n_int 2)) (n_int 30)) (s_seq 44 (s_seq 13 (s_set 1 0 (n_int 0)) (s_while 20 lx_236_1 lb_236_1)) (s_opa 0 1 (n_get 8 0 2 (n_loc 0 2)) (n_int 2) (n_int 1))) s_skip) kp_rest) := rfl
      rw [eb]
      simp only [e2, w_while, w_opa, n1, k_1247, g2, m29, w_seq, w_if, w_set, w_skip, r1, be_236, k_0, k_1, k_1247, k_1344, k_18, k_2, k_25, k_30, k_43, k_5, k_54, k_97, nz_1, nz_1247, nz_1344, nz_18, nz_2, nz_25, nz_30, nz_43, nz_5, nz_54, nz_97, v_bin, v_cmp, v_get, v_idx, v_int, v_loc, w_if, w_inc, w_opa, w_retv, w_seq, w_set, w_skip, w_sto, List.getElem?_cons_zero, List.getElem?_cons_succ, List.set_cons_zero, List.set_cons_succ, ee_cmp0, ee_cmp1, ee_cmp2, ee_cmp3, ee_cmp4, ee_cmp5, ee_cmpL0, ee_cmpL1, ee_cmpL2, ee_cmpL3, ee_cmpL4, ee_cmpL5, ee_tru_eb, decide_eq_true_eq, ib_i, ie_b, ie_f, ie_t, ib_l, fin_i, fin_l, fin_v, fin_z, fin_a, fin_n, ee_b_0, ee_fld0, ee_fld1, ee_fld2, ee_fld3, bi_0, bi_1, bi_2, bi_3, bi_4, bi_5, bi_6, bi_7, bi_8, bi_9, bi_10, bl_20, bl_21, bl_22, bl_23, bl_24, bl_25, bl_26, bl_48, bl_49, un_0, un_1, un_2, un_3, if_true, if_false, ite_true, ite_false, Bool.false_eq_true, Bool.not_eq_false, decide_not, Bool.not_not, reduceCtorEq, st_i, st_l, st_r, st_n, ee_noL, ee_noL.eq_1, List.length_cons, List.length_nil, Nat.reduceAdd, Nat.reduceLT, Nat.zero_add, and_true, true_and, and_self, fin_ite, pu_0, pu_1, pu_3, sto_0, el_0, Bool.not_eq_true, decide_eq_false_iff_not, Bool.decide_eq_true, Bool.decide_eq_false, decide_true, decide_false, Bool.not_true, Bool.not_false, Bool.and_self, Bool.and_true, Bool.and_false, Bool.true_and, Bool.false_and, Bool.or_true, Bool.or_false, Bool.true_or, Bool.false_or, if_true, if_false, Bool.false_eq_true, ix_0, ix_1, ix_1247, ix_1344, ix_18, ix_2, ix_25, ix_30, ix_43, ix_5, ix_54, ix_97, tc_0, tc_1, tc_1247, tc_1344, tc_18, tc_2, tc_25, tc_30, tc_43, tc_5, tc_54, tc_97, mz_0, mz_1, mz_a, rvs, j_s, j_a, wI_at, Nat.reduceEqDiff, zero_ne_one_n, one_ne_zero_n]
    · refine MA_steps hY0 hW c1 ?_ ?_
      · unfold xkeep; rw [if_pos q]; exact r2
      · unfold xkeep
        rw [if_pos q]
        intro i hi
        have hi : i < 30 := hi
        dsimp only
        by_cases z : i = 29
        · rw [if_pos z, z]
          refine MH_eq h1 hW.1.2.1 (fun k hk => (r3 k hk).trans ?_) (fun k hk => (r4 k hk).trans ?_)
          · rw [wI_at, if_neg (by omega)]; exact n3.1 _ _ (by unfold reg; omega)
          · rw [wI_at, if_neg (by omega)]; exact n3.1 _ _ (by unfold reg; omega)
        · rw [if_neg z]
          have hs : ∀ j, j < 43 → w'.1 237 (54 + 43 * i + j) = w.1 237 (54 + 43 * (i + 1) + j) := by
            intro j hj
            rw [r5.1 _ _ (by omega), wI_at, if_neg (by omega)]
            have := n2 (43 * i + j) (by omega)
            rw [show 54 + (43 * i + j) = 54 + 43 * i + j by omega, show 97 + (43 * i + j) = 54 + 43 * (i + 1) + j by omega] at this
            exact this
          refine MH_eq (h3 (i + 1) (by omega)) (v3 (i + 1) (by omega)).2.1 (fun k hk => hs k (by omega)) (fun k hk => ?_)
          have := hs (18 + k) (by omega)
          rw [show 54 + 43 * i + (18 + k) = 54 + 43 * i + 18 + k by omega, show 54 + 43 * (i + 1) + (18 + k) = 54 + 43 * (i + 1) + 18 + k by omega] at this
          exact this
  · have ne : ¬ Int32.ofNat Y.2.1.1 = 30 := fun y => by
      have := i32_eq.1 y
      rw [nI_t (by omega), show (30 : Int32).toInt = 30 from rfl] at this
      omega
    obtain ⟨w', r1, r2, r3, r4, r5⟩ := m_kprest (P := P) (d := d) (show Y.2.1.1 ≤ 29 by omega) a2 none
    have c1 : chk pkp w w' := chk_mono r5 (fun c j h => ⟨h.1, by have := h.2; omega⟩)
    refine ⟨w', ?_, ?_, c1⟩
    · have eb : bd_236 = (s_seq 54 (s_if 11 54 (n_cmp 0 (n_idx 0 (n_get 8 0 2 (n_loc 0 2)) (n_int 2)) (n_int 30)) (s_seq 44 (s_seq 13 (s_set 1 0 (n_int 0)) (s_while 20 lx_236_1 lb_236_1)) (s_opa 0 1 (n_get 8 0 2 (n_loc 0 2)) (n_int 2) (n_int 1))) s_skip) kp_rest) := rfl
      rw [eb]
      simp only [a2, ne, w_seq, w_if, w_set, w_skip, r1, be_236, k_0, k_1, k_1247, k_1344, k_18, k_2, k_25, k_30, k_43, k_5, k_54, k_97, nz_1, nz_1247, nz_1344, nz_18, nz_2, nz_25, nz_30, nz_43, nz_5, nz_54, nz_97, v_bin, v_cmp, v_get, v_idx, v_int, v_loc, w_if, w_inc, w_opa, w_retv, w_seq, w_set, w_skip, w_sto, List.getElem?_cons_zero, List.getElem?_cons_succ, List.set_cons_zero, List.set_cons_succ, ee_cmp0, ee_cmp1, ee_cmp2, ee_cmp3, ee_cmp4, ee_cmp5, ee_cmpL0, ee_cmpL1, ee_cmpL2, ee_cmpL3, ee_cmpL4, ee_cmpL5, ee_tru_eb, decide_eq_true_eq, ib_i, ie_b, ie_f, ie_t, ib_l, fin_i, fin_l, fin_v, fin_z, fin_a, fin_n, ee_b_0, ee_fld0, ee_fld1, ee_fld2, ee_fld3, bi_0, bi_1, bi_2, bi_3, bi_4, bi_5, bi_6, bi_7, bi_8, bi_9, bi_10, bl_20, bl_21, bl_22, bl_23, bl_24, bl_25, bl_26, bl_48, bl_49, un_0, un_1, un_2, un_3, if_true, if_false, ite_true, ite_false, Bool.false_eq_true, Bool.not_eq_false, decide_not, Bool.not_not, reduceCtorEq, st_i, st_l, st_r, st_n, ee_noL, ee_noL.eq_1, List.length_cons, List.length_nil, Nat.reduceAdd, Nat.reduceLT, Nat.zero_add, and_true, true_and, and_self, fin_ite, pu_0, pu_1, pu_3, sto_0, el_0, Bool.not_eq_true, decide_eq_false_iff_not, Bool.decide_eq_true, Bool.decide_eq_false, decide_true, decide_false, Bool.not_true, Bool.not_false, Bool.and_self, Bool.and_true, Bool.and_false, Bool.true_and, Bool.false_and, Bool.or_true, Bool.or_false, Bool.true_or, Bool.false_or, if_true, if_false, Bool.false_eq_true, ix_0, ix_1, ix_1247, ix_1344, ix_18, ix_2, ix_25, ix_30, ix_43, ix_5, ix_54, ix_97, tc_0, tc_1, tc_1247, tc_1344, tc_18, tc_2, tc_25, tc_30, tc_43, tc_5, tc_54, tc_97, mz_0, mz_1, mz_a, rvs, j_s, j_a, wI_at, Nat.reduceEqDiff, zero_ne_one_n, one_ne_zero_n]
    · refine MA_steps hY0 hW c1 ?_ ?_
      · unfold xkeep; rw [if_neg q]; exact r2
      · unfold xkeep
        rw [if_neg q]
        intro i hi
        have hi : i < Y.2.1.1 + 1 := hi
        dsimp only
        by_cases z : i = Y.2.1.1
        · rw [if_pos z, z]
          exact MH_eq h1 hW.1.2.1 r3 r4
        · rw [if_neg z]
          exact MH_eq (h3 i (by omega)) (v3 i (by omega)).2.1 (fun k hk => r5.1 _ _ (by omega)) (fun k hk => r5.1 _ _ (by omega))
end MU
