/-! the reference's rows, one behind the other; the best of them -/
section ORM
variable {P : Nat → Nat → List Value → ee_W → Option (List Value × ee_W)} {d : Nat} {w : ee_W} {Z : ZX} {g : Nat → Nat} {a n : Nat}
theorem nxv_p {j : Nat} (h1 : 1 ≤ j) (h : j < 2147483648) : nxv j + -1 = nxv (j - 1) := by
  rw [nxv_n h1, ← Int32.sub_eq_add_neg]
  exact nxv_1 (by omega)
theorem m_isNext (hd : 2 ≤ d) (hR : RW w g n) (hn : n ≤ 6) (hb : ∀ i, i < n → g i < 64) :
    (ee_run ee_B P d 327 [.ref 236, .int (Int32.ofNat n)] w = some ([.int 0], w) ∧ ∀ x, 0 ≤ x → x + 1 < n → g (x + 1) ≤ g x) ∨
    (∃ w' i k, ee_run ee_B P d 327 [.ref 236, .int (Int32.ofNat n)] w = some ([.int 1], w') ∧ i < k ∧ k < n ∧ g i < g k ∧ (∀ x, i + 1 ≤ x → x + 1 < n → g (x + 1) ≤ g x) ∧ (∀ x, k < x → x < n → g x ≤ g i) ∧ RW w' (nxr g n i k) n ∧ (∀ t, oc (nxr g n i k) n t = oc g n t) ∧ chk p247 w w') := by
  obtain ⟨d, rfl⟩ : ∃ k, d = k + 1 := ⟨d - 1, by omega⟩
  have hd1 : 1 ≤ d := by omega
  rw [rn_327 mz_0]
  by_cases n0 : n = 0
  · left
    subst n0
    refine ⟨?_, fun x _ h => by omega⟩
    have hl : ee_wh (ee_turn (ee_ev es_sh es_rf (ee_run ee_B P d) lx_327_1) (ee_evS es_sh es_rf (ee_run ee_B P d) lb_327_1)) ([some (.ref 236), some (.int 0), some (.int (-2)), none, none, none], w) = some (.inl ([some (.ref 236), some (.int 0), some (.int (-2)), none, none, none], w)) := by
      have e : ee_turn (ee_ev es_sh es_rf (ee_run ee_B P d) lx_327_1) (ee_evS es_sh es_rf (ee_run ee_B P d) lb_327_1) ([some (.ref 236), some (.int 0), some (.int (-2)), none, none, none], w) = some (.inr (.inl ([some (.ref 236), some (.int 0), some (.int (-2)), none, none, none], w))) := by
        have h9 : ¬ (0 : Int32) ≤ -2 := by decide
        simp only [h9, lx_327_1, lb_327_1, ee_turn, k_0, k_1, k_2, nz_1, nz_2, v_and, v_bin, v_call, v_cmp, v_cons, v_get, v_idx, v_int, v_loc, v_nil, v_z, w_exp0, w_exp1, w_if, w_incm1, w_incm2, w_incm8, w_incp1, w_ret, w_seq, w_set, List.getElem?_cons_zero, List.getElem?_cons_succ, List.set_cons_zero, List.set_cons_succ, ee_cmp0, ee_cmp1, ee_cmp2, ee_cmp3, ee_cmp4, ee_cmp5, ee_cmpL0, ee_cmpL1, ee_cmpL2, ee_cmpL3, ee_cmpL4, ee_cmpL5, ee_tru_eb, decide_eq_true_eq, ib_i, ie_b, ie_f, ie_t, ib_l, fin_i, fin_l, fin_v, fin_z, fin_a, fin_n, ee_b_0, ee_fld0, ee_fld1, ee_fld2, ee_fld3, bi_0, bi_1, bi_2, bi_3, bi_4, bi_5, bi_6, bi_7, bi_8, bi_9, bi_10, bl_20, bl_21, bl_22, bl_23, bl_24, bl_25, bl_26, bl_48, bl_49, un_0, un_1, un_2, un_3, if_true, if_false, ite_true, ite_false, Bool.false_eq_true, Bool.not_eq_false, decide_not, Bool.not_not, reduceCtorEq, st_i, st_l, st_r, st_n, ee_noL, ee_noL.eq_1, List.length_cons, List.length_nil, Nat.reduceAdd, Nat.reduceLT, Nat.zero_add, and_true, true_and, and_self, fin_ite, pu_0, pu_1, pu_3, sto_0, el_0, Bool.not_eq_true, decide_eq_false_iff_not, Bool.decide_eq_true, Bool.decide_eq_false, decide_true, decide_false, Bool.not_true, Bool.not_false, Bool.and_self, Bool.and_true, Bool.and_false, Bool.true_and, Bool.false_and, Bool.or_true, Bool.or_false, Bool.true_or, Bool.false_or, if_true, if_false, Bool.false_eq_true, tc_0, ix_0, tc_1, ix_1, tc_2, ix_2, mz_0, mz_1, mz_a, rvs, j_s, j_a, wI_at, Nat.reduceEqDiff, zero_ne_one_n, one_ne_zero_n]
      rw [ee_wh_eq, e]
    have e2 : (0 : Int32) - 2 = -2 := by decide
    have h9 : (-2 : Int32) < 0 := by decide
    simp only [e2, h9, w_while, hl, be_327, k_0, k_1, k_2, k_4294967295, nz_1, nz_2, v_and, v_bin, v_call, v_cmp, v_cons, v_get, v_idx, v_int, v_loc, v_nil, v_z, w_exp0, w_exp1, w_if, w_inc, w_ret, w_seq, w_set, List.getElem?_cons_zero, List.getElem?_cons_succ, List.set_cons_zero, List.set_cons_succ, ee_cmp0, ee_cmp1, ee_cmp2, ee_cmp3, ee_cmp4, ee_cmp5, ee_cmpL0, ee_cmpL1, ee_cmpL2, ee_cmpL3, ee_cmpL4, ee_cmpL5, ee_tru_eb, decide_eq_true_eq, ib_i, ie_b, ie_f, ie_t, ib_l, fin_i, fin_l, fin_v, fin_z, fin_a, fin_n, ee_b_0, ee_fld0, ee_fld1, ee_fld2, ee_fld3, bi_0, bi_1, bi_2, bi_3, bi_4, bi_5, bi_6, bi_7, bi_8, bi_9, bi_10, bl_20, bl_21, bl_22, bl_23, bl_24, bl_25, bl_26, bl_48, bl_49, un_0, un_1, un_2, un_3, if_true, if_false, ite_true, ite_false, Bool.false_eq_true, Bool.not_eq_false, decide_not, Bool.not_not, reduceCtorEq, st_i, st_l, st_r, st_n, ee_noL, ee_noL.eq_1, List.length_cons, List.length_nil, Nat.reduceAdd, Nat.reduceLT, Nat.zero_add, and_true, true_and, and_self, fin_ite, pu_0, pu_1, pu_3, sto_0, el_0, Bool.not_eq_true, decide_eq_false_iff_not, Bool.decide_eq_true, Bool.decide_eq_false, decide_true, decide_false, Bool.not_true, Bool.not_false, Bool.and_self, Bool.and_true, Bool.and_false, Bool.true_and, Bool.false_and, Bool.or_true, Bool.or_false, Bool.true_or, Bool.false_or, if_true, if_false, Bool.false_eq_true, ix_0, ix_1, ix_2, tc_0, tc_1, tc_2, mz_0, mz_1, mz_a, rvs, j_s, j_a, wI_at, Nat.reduceEqDiff, zero_ne_one_n, one_ne_zero_n]
    rfl
  have e2 : Int32.ofNat n - 2 = nxv (n - 1) := by
    by_cases n1 : n = 1
    · subst n1; decide
    · rw [nxv_n (by omega)]
      exact j_dd (b := 2) (by omega) (by omega)
  obtain ⟨r, hr, j, rfl, j1, j2, j3⟩ := wh_n (f := ee_turn (ee_ev es_sh es_rf (ee_run ee_B P d) lx_327_1) (ee_evS es_sh es_rf (ee_run ee_B P d) lb_327_1))
    (I := fun m y => ∃ j, m = j ∧ j + 1 ≤ n ∧ y = ([some (.ref 236), some (.int (Int32.ofNat n)), some (.int (nxv j)), none, none, none], w) ∧ ∀ x, j ≤ x → x + 1 < n → g (x + 1) ≤ g x)
    (Q := fun r => ∃ j, r = .inl ([some (.ref 236), some (.int (Int32.ofNat n)), some (.int (nxv j)), none, none, none], w) ∧ j + 1 ≤ n ∧ (∀ x, j ≤ x → x + 1 < n → g (x + 1) ≤ g x) ∧ (j = 0 ∨ g (j - 1) < g j))
    (by
      rintro m y ⟨j, rfl, h1, rfl, h2⟩
      have z0 := nxv_0 (m := m) (by omega)
      by_cases j0 : m = 0
      · right
        have h9 : ¬ (0 : Int32) ≤ nxv m := fun z => by have := z0.1 z; omega
        refine ⟨_, ?_, m, rfl, h1, h2, Or.inl j0⟩
        simp only [h9, lx_327_1, lb_327_1, ee_turn, k_0, k_1, k_2, nz_1, nz_2, v_and, v_bin, v_call, v_cmp, v_cons, v_get, v_idx, v_int, v_loc, v_nil, v_z, w_exp0, w_exp1, w_if, w_incm1, w_incm2, w_incm8, w_incp1, w_ret, w_seq, w_set, List.getElem?_cons_zero, List.getElem?_cons_succ, List.set_cons_zero, List.set_cons_succ, ee_cmp0, ee_cmp1, ee_cmp2, ee_cmp3, ee_cmp4, ee_cmp5, ee_cmpL0, ee_cmpL1, ee_cmpL2, ee_cmpL3, ee_cmpL4, ee_cmpL5, ee_tru_eb, decide_eq_true_eq, ib_i, ie_b, ie_f, ie_t, ib_l, fin_i, fin_l, fin_v, fin_z, fin_a, fin_n, ee_b_0, ee_fld0, ee_fld1, ee_fld2, ee_fld3, bi_0, bi_1, bi_2, bi_3, bi_4, bi_5, bi_6, bi_7, bi_8, bi_9, bi_10, bl_20, bl_21, bl_22, bl_23, bl_24, bl_25, bl_26, bl_48, bl_49, un_0, un_1, un_2, un_3, if_true, if_false, ite_true, ite_false, Bool.false_eq_true, Bool.not_eq_false, decide_not, Bool.not_not, reduceCtorEq, st_i, st_l, st_r, st_n, ee_noL, ee_noL.eq_1, List.length_cons, List.length_nil, Nat.reduceAdd, Nat.reduceLT, Nat.zero_add, and_true, true_and, and_self, fin_ite, pu_0, pu_1, pu_3, sto_0, el_0, Bool.not_eq_true, decide_eq_false_iff_not, Bool.decide_eq_true, Bool.decide_eq_false, decide_true, decide_false, Bool.not_true, Bool.not_false, Bool.and_self, Bool.and_true, Bool.and_false, Bool.true_and, Bool.false_and, Bool.or_true, Bool.or_false, Bool.true_or, Bool.false_or, if_true, if_false, Bool.false_eq_true, tc_0, ix_0, tc_1, ix_1, tc_2, ix_2, mz_0, mz_1, mz_a, rvs, j_s, j_a, wI_at, Nat.reduceEqDiff, zero_ne_one_n, one_ne_zero_n]
      · have h9 : (0 : Int32) ≤ nxv m := z0.2 (by omega)
        have en : nxv m = Int32.ofNat (m - 1) := nxv_n (by omega)
        have es : nxv m + 1 = Int32.ofNat m := (nxv_s m).trans rfl
        have x1 : ee_ix (nxv m) 6 = true := by rw [en, ixn (by omega)]; exact decide_eq_true (by omega)
        have x2 : ee_ix (Int32.ofNat m) 6 = true := by rw [ixn (by omega)]; exact decide_eq_true (by omega)
        have t1 : (nxv m).toNatClampNeg = m - 1 := by rw [en]; exact tnc (by omega)
        have v1 := hR (m - 1) (by omega)
        have v2 := hR m (by omega)
        have b1 := hb (m - 1) (by omega)
        have b2 := hb m (by omega)
        have cc : Int32.ofNat (g m) ≤ Int32.ofNat (g (m - 1)) ↔ g m ≤ g (m - 1) := j_le (by omega) (by omega)
        have ep := nxv_p (j := m) (by omega) (by omega)
        by_cases c : g m ≤ g (m - 1)
        · left
          refine ⟨([some (.ref 236), some (.int (Int32.ofNat n)), some (.int (nxv (m - 1))), none, none, none], w), m - 1, ?_, by omega, m - 1, rfl, by omega, rfl, fun x h3 h4 => ?_⟩
          · simp only [h9, x1, x2, t1, tnc (show m < 2147483648 by omega), es, v1, v2, cc, c, ep, mz_rw, mz_rws, lx_327_1, lb_327_1, ee_turn, k_0, k_1, k_2, nz_1, nz_2, v_and, v_bin, v_call, v_cmp, v_cons, v_get, v_idx, v_int, v_loc, v_nil, v_z, w_exp0, w_exp1, w_if, w_incm1, w_incm2, w_incm8, w_incp1, w_ret, w_seq, w_set, List.getElem?_cons_zero, List.getElem?_cons_succ, List.set_cons_zero, List.set_cons_succ, ee_cmp0, ee_cmp1, ee_cmp2, ee_cmp3, ee_cmp4, ee_cmp5, ee_cmpL0, ee_cmpL1, ee_cmpL2, ee_cmpL3, ee_cmpL4, ee_cmpL5, ee_tru_eb, decide_eq_true_eq, ib_i, ie_b, ie_f, ie_t, ib_l, fin_i, fin_l, fin_v, fin_z, fin_a, fin_n, ee_b_0, ee_fld0, ee_fld1, ee_fld2, ee_fld3, bi_0, bi_1, bi_2, bi_3, bi_4, bi_5, bi_6, bi_7, bi_8, bi_9, bi_10, bl_20, bl_21, bl_22, bl_23, bl_24, bl_25, bl_26, bl_48, bl_49, un_0, un_1, un_2, un_3, if_true, if_false, ite_true, ite_false, Bool.false_eq_true, Bool.not_eq_false, decide_not, Bool.not_not, reduceCtorEq, st_i, st_l, st_r, st_n, ee_noL, ee_noL.eq_1, List.length_cons, List.length_nil, Nat.reduceAdd, Nat.reduceLT, Nat.zero_add, and_true, true_and, and_self, fin_ite, pu_0, pu_1, pu_3, sto_0, el_0, Bool.not_eq_true, decide_eq_false_iff_not, Bool.decide_eq_true, Bool.decide_eq_false, decide_true, decide_false, Bool.not_true, Bool.not_false, Bool.and_self, Bool.and_true, Bool.and_false, Bool.true_and, Bool.false_and, Bool.or_true, Bool.or_false, Bool.true_or, Bool.false_or, if_true, if_false, Bool.false_eq_true, tc_0, ix_0, tc_1, ix_1, tc_2, ix_2, mz_0, mz_1, mz_a, rvs, j_s, j_a, wI_at, Nat.reduceEqDiff, zero_ne_one_n, one_ne_zero_n]
          · by_cases y : x = m - 1
            · rw [y, show m - 1 + 1 = m by omega]; exact c
            · exact h2 x (by omega) h4
        · right
          refine ⟨_, ?_, m, rfl, h1, h2, Or.inr (by omega)⟩
          simp only [h9, x1, x2, t1, tnc (show m < 2147483648 by omega), es, v1, v2, cc, c, mz_rw, mz_rws, lx_327_1, lb_327_1, ee_turn, k_0, k_1, k_2, nz_1, nz_2, v_and, v_bin, v_call, v_cmp, v_cons, v_get, v_idx, v_int, v_loc, v_nil, v_z, w_exp0, w_exp1, w_if, w_incm1, w_incm2, w_incm8, w_incp1, w_ret, w_seq, w_set, List.getElem?_cons_zero, List.getElem?_cons_succ, List.set_cons_zero, List.set_cons_succ, ee_cmp0, ee_cmp1, ee_cmp2, ee_cmp3, ee_cmp4, ee_cmp5, ee_cmpL0, ee_cmpL1, ee_cmpL2, ee_cmpL3, ee_cmpL4, ee_cmpL5, ee_tru_eb, decide_eq_true_eq, ib_i, ie_b, ie_f, ie_t, ib_l, fin_i, fin_l, fin_v, fin_z, fin_a, fin_n, ee_b_0, ee_fld0, ee_fld1, ee_fld2, ee_fld3, bi_0, bi_1, bi_2, bi_3, bi_4, bi_5, bi_6, bi_7, bi_8, bi_9, bi_10, bl_20, bl_21, bl_22, bl_23, bl_24, bl_25, bl_26, bl_48, bl_49, un_0, un_1, un_2, un_3, if_true, if_false, ite_true, ite_false, Bool.false_eq_true, Bool.not_eq_false, decide_not, Bool.not_not, reduceCtorEq, st_i, st_l, st_r, st_n, ee_noL, ee_noL.eq_1, List.length_cons, List.length_nil, Nat.reduceAdd, Nat.reduceLT, Nat.zero_add, and_true, true_and, and_self, fin_ite, pu_0, pu_1, pu_3, sto_0, el_0, Bool.not_eq_true, decide_eq_false_iff_not, Bool.decide_eq_true, Bool.decide_eq_false, decide_true, decide_false, Bool.not_true, Bool.not_false, Bool.and_self, Bool.and_true, Bool.and_false, Bool.true_and, Bool.false_and, Bool.or_true, Bool.or_false, Bool.true_or, Bool.false_or, if_true, if_false, Bool.false_eq_true, tc_0, ix_0, tc_1, ix_1, tc_2, ix_2, mz_0, mz_1, mz_a, rvs, j_s, j_a, wI_at, Nat.reduceEqDiff, zero_ne_one_n, one_ne_zero_n])
    (n - 1) ([some (.ref 236), some (.int (Int32.ofNat n)), some (.int (nxv (n - 1))), none, none, none], w) ⟨n - 1, rfl, by omega, rfl, fun x h1 h2 => by omega⟩
  by_cases j0 : j = 0
  · left
    have h9 : nxv j < 0 := by rw [j0]; decide
    refine ⟨?_, fun x h1 h2 => j2 x (by omega) h2⟩
    simp only [e2, h9, w_while, hr, be_327, k_0, k_1, k_2, k_4294967295, nz_1, nz_2, v_and, v_bin, v_call, v_cmp, v_cons, v_get, v_idx, v_int, v_loc, v_nil, v_z, w_exp0, w_exp1, w_if, w_inc, w_ret, w_seq, w_set, List.getElem?_cons_zero, List.getElem?_cons_succ, List.set_cons_zero, List.set_cons_succ, ee_cmp0, ee_cmp1, ee_cmp2, ee_cmp3, ee_cmp4, ee_cmp5, ee_cmpL0, ee_cmpL1, ee_cmpL2, ee_cmpL3, ee_cmpL4, ee_cmpL5, ee_tru_eb, decide_eq_true_eq, ib_i, ie_b, ie_f, ie_t, ib_l, fin_i, fin_l, fin_v, fin_z, fin_a, fin_n, ee_b_0, ee_fld0, ee_fld1, ee_fld2, ee_fld3, bi_0, bi_1, bi_2, bi_3, bi_4, bi_5, bi_6, bi_7, bi_8, bi_9, bi_10, bl_20, bl_21, bl_22, bl_23, bl_24, bl_25, bl_26, bl_48, bl_49, un_0, un_1, un_2, un_3, if_true, if_false, ite_true, ite_false, Bool.false_eq_true, Bool.not_eq_false, decide_not, Bool.not_not, reduceCtorEq, st_i, st_l, st_r, st_n, ee_noL, ee_noL.eq_1, List.length_cons, List.length_nil, Nat.reduceAdd, Nat.reduceLT, Nat.zero_add, and_true, true_and, and_self, fin_ite, pu_0, pu_1, pu_3, sto_0, el_0, Bool.not_eq_true, decide_eq_false_iff_not, Bool.decide_eq_true, Bool.decide_eq_false, decide_true, decide_false, Bool.not_true, Bool.not_false, Bool.and_self, Bool.and_true, Bool.and_false, Bool.true_and, Bool.false_and, Bool.or_true, Bool.or_false, Bool.true_or, Bool.false_or, if_true, if_false, Bool.false_eq_true, ix_0, ix_1, ix_2, tc_0, tc_1, tc_2, mz_0, mz_1, mz_a, rvs, j_s, j_a, wI_at, Nat.reduceEqDiff, zero_ne_one_n, one_ne_zero_n]
    rfl
  · right
    obtain ⟨i, rfl⟩ : ∃ i, j = i + 1 := ⟨j - 1, by omega⟩
    have gi : g i < g (i + 1) := by
      rcases j3 with h | h
      · omega
      · exact h
    rw [show nxv (i + 1) = Int32.ofNat i from rfl] at hr
    have h9 : ¬ Int32.ofNat i < 0 := fun z => by have := (j_lt (b := 0) (by omega) (by omega)).1 z; omega
    have e1 : Int32.ofNat n - 1 = Int32.ofNat (n - 1) := j_sub1 (by omega) (by omega)
    have xi : ee_ix (Int32.ofNat i) 6 = true := by rw [ixn (by omega)]; exact decide_eq_true (by omega)
    have ti := tnc (n := i) (by omega)
    have vi := hR i (by omega)
    have bi := hb i (by omega)
    obtain ⟨r2, hr2, k, rfl, k1, k2, k3, k4⟩ := wh_n (f := ee_turn (ee_ev es_sh es_rf (ee_run ee_B P d) lx_327_2) (ee_evS es_sh es_rf (ee_run ee_B P d) lb_327_2))
      (I := fun m y => ∃ k, m = k ∧ i < k ∧ k < n ∧ y = ([some (.ref 236), some (.int (Int32.ofNat n)), some (.int (Int32.ofNat i)), some (.int (Int32.ofNat k)), none, none], w) ∧ ∀ x, k < x → x < n → g x ≤ g i)
      (Q := fun r => ∃ k, r = .inl ([some (.ref 236), some (.int (Int32.ofNat n)), some (.int (Int32.ofNat i)), some (.int (Int32.ofNat k)), none, none], w) ∧ i < k ∧ k < n ∧ (∀ x, k < x → x < n → g x ≤ g i) ∧ g i < g k)
      (by
        rintro m y ⟨k, rfl, h1, h2, rfl, h3⟩
        have xk : ee_ix (Int32.ofNat m) 6 = true := by rw [ixn (by omega)]; exact decide_eq_true (by omega)
        have tk := tnc (n := m) (by omega)
        have vk := hR m h2
        have bk := hb m h2
        have cc : Int32.ofNat (g m) ≤ Int32.ofNat (g i) ↔ g m ≤ g i := j_le (by omega) (by omega)
        by_cases c : g m ≤ g i
        · left
          have mi : ¬ m = i + 1 := fun z => by rw [z] at c; omega
          have ep : Int32.ofNat m + -1 = Int32.ofNat (m - 1) := by
            rw [← Int32.sub_eq_add_neg]
            exact j_sub1 (by omega) (by omega)
          refine ⟨([some (.ref 236), some (.int (Int32.ofNat n)), some (.int (Int32.ofNat i)), some (.int (Int32.ofNat (m - 1))), none, none], w), m - 1, ?_, by omega, m - 1, rfl, by omega, by omega, rfl, fun x h4 h5 => ?_⟩
          · simp only [xk, tk, vk, xi, ti, vi, cc, c, ep, mz_rw, mz_rws, lx_327_2, lb_327_2, ee_turn, k_0, k_1, k_2, nz_1, nz_2, v_and, v_bin, v_call, v_cmp, v_cons, v_get, v_idx, v_int, v_loc, v_nil, v_z, w_exp0, w_exp1, w_if, w_incm1, w_incm2, w_incm8, w_incp1, w_ret, w_seq, w_set, List.getElem?_cons_zero, List.getElem?_cons_succ, List.set_cons_zero, List.set_cons_succ, ee_cmp0, ee_cmp1, ee_cmp2, ee_cmp3, ee_cmp4, ee_cmp5, ee_cmpL0, ee_cmpL1, ee_cmpL2, ee_cmpL3, ee_cmpL4, ee_cmpL5, ee_tru_eb, decide_eq_true_eq, ib_i, ie_b, ie_f, ie_t, ib_l, fin_i, fin_l, fin_v, fin_z, fin_a, fin_n, ee_b_0, ee_fld0, ee_fld1, ee_fld2, ee_fld3, bi_0, bi_1, bi_2, bi_3, bi_4, bi_5, bi_6, bi_7, bi_8, bi_9, bi_10, bl_20, bl_21, bl_22, bl_23, bl_24, bl_25, bl_26, bl_48, bl_49, un_0, un_1, un_2, un_3, if_true, if_false, ite_true, ite_false, Bool.false_eq_true, Bool.not_eq_false, decide_not, Bool.not_not, reduceCtorEq, st_i, st_l, st_r, st_n, ee_noL, ee_noL.eq_1, List.length_cons, List.length_nil, Nat.reduceAdd, Nat.reduceLT, Nat.zero_add, and_true, true_and, and_self, fin_ite, pu_0, pu_1, pu_3, sto_0, el_0, Bool.not_eq_true, decide_eq_false_iff_not, Bool.decide_eq_true, Bool.decide_eq_false, decide_true, decide_false, Bool.not_true, Bool.not_false, Bool.and_self, Bool.and_true, Bool.and_false, Bool.true_and, Bool.false_and, Bool.or_true, Bool.or_false, Bool.true_or, Bool.false_or, if_true, if_false, Bool.false_eq_true, tc_0, ix_0, tc_1, ix_1, tc_2, ix_2, mz_0, mz_1, mz_a, rvs, j_s, j_a, wI_at, Nat.reduceEqDiff, zero_ne_one_n, one_ne_zero_n]
          · by_cases y : x = m
            · rw [y]; exact c
            · exact h3 x (by omega) h5
        · right
          refine ⟨_, ?_, m, rfl, h1, h2, h3, by omega⟩
          simp only [xk, tk, vk, xi, ti, vi, cc, c, mz_rw, mz_rws, lx_327_2, lb_327_2, ee_turn, k_0, k_1, k_2, nz_1, nz_2, v_and, v_bin, v_call, v_cmp, v_cons, v_get, v_idx, v_int, v_loc, v_nil, v_z, w_exp0, w_exp1, w_if, w_incm1, w_incm2, w_incm8, w_incp1, w_ret, w_seq, w_set, List.getElem?_cons_zero, List.getElem?_cons_succ, List.set_cons_zero, List.set_cons_succ, ee_cmp0, ee_cmp1, ee_cmp2, ee_cmp3, ee_cmp4, ee_cmp5, ee_cmpL0, ee_cmpL1, ee_cmpL2, ee_cmpL3, ee_cmpL4, ee_cmpL5, ee_tru_eb, decide_eq_true_eq, ib_i, ie_b, ie_f, ie_t, ib_l, fin_i, fin_l, fin_v, fin_z, fin_a, fin_n, ee_b_0, ee_fld0, ee_fld1, ee_fld2, ee_fld3, bi_0, bi_1, bi_2, bi_3, bi_4, bi_5, bi_6, bi_7, bi_8, bi_9, bi_10, bl_20, bl_21, bl_22, bl_23, bl_24, bl_25, bl_26, bl_48, bl_49, un_0, un_1, un_2, un_3, if_true, if_false, ite_true, ite_false, Bool.false_eq_true, Bool.not_eq_false, decide_not, Bool.not_not, reduceCtorEq, st_i, st_l, st_r, st_n, ee_noL, ee_noL.eq_1, List.length_cons, List.length_nil, Nat.reduceAdd, Nat.reduceLT, Nat.zero_add, and_true, true_and, and_self, fin_ite, pu_0, pu_1, pu_3, sto_0, el_0, Bool.not_eq_true, decide_eq_false_iff_not, Bool.decide_eq_true, Bool.decide_eq_false, decide_true, decide_false, Bool.not_true, Bool.not_false, Bool.and_self, Bool.and_true, Bool.and_false, Bool.true_and, Bool.false_and, Bool.or_true, Bool.or_false, Bool.true_or, Bool.false_or, if_true, if_false, Bool.false_eq_true, tc_0, ix_0, tc_1, ix_1, tc_2, ix_2, mz_0, mz_1, mz_a, rvs, j_s, j_a, wI_at, Nat.reduceEqDiff, zero_ne_one_n, one_ne_zero_n])
      (n - 1) ([some (.ref 236), some (.int (Int32.ofNat n)), some (.int (Int32.ofNat i)), some (.int (Int32.ofNat (n - 1))), none, none], w) ⟨n - 1, rfl, by omega, by omega, rfl, fun x h1 h2 => by omega⟩
    have hs := m_swap (P := P) (w := w) hd1 (show i < 6 by omega) (show k < 6 by omega)
    obtain ⟨r3, hr3, p, q, x, rfl, s1, s2, s3⟩ := wh_n (f := ee_turn (ee_ev es_sh es_rf (ee_run ee_B P d) lx_327_3) (ee_evS es_sh es_rf (ee_run ee_B P d) lb_327_3))
      (I := fun m y => ∃ p q h x, m = q + 1 - p ∧ p + q = n + i ∧ i < p ∧ q < n ∧ y = ([some (.ref 236), some (.int (Int32.ofNat n)), some (.int (Int32.ofNat i)), some (.int (Int32.ofNat k)), some (.int (Int32.ofNat q)), some (.int (Int32.ofNat p))], x) ∧ RW x h n ∧ (∀ t, oc h n t = oc g n t) ∧ (∀ y, y ≤ i → h y = sw g i k y) ∧ (∀ y, i < y → y < p → h y = sw g i k (n + i - y)) ∧ (∀ y, q < y → y < n → h y = sw g i k (n + i - y)) ∧ (∀ y, p ≤ y → y ≤ q → h y = sw g i k y) ∧ chk p247 w x)
      (Q := fun r => ∃ p q x, r = .inl ([some (.ref 236), some (.int (Int32.ofNat n)), some (.int (Int32.ofNat i)), some (.int (Int32.ofNat k)), some (.int (Int32.ofNat q)), some (.int (Int32.ofNat p))], x) ∧ RW x (nxr g n i k) n ∧ (∀ t, oc (nxr g n i k) n t = oc g n t) ∧ chk p247 w x)
      (by
        rintro m y ⟨p, q, h, x, rfl, f1, f2, f3, rfl, f4, f5, f6, f7, f8, f9, f10⟩
        have cc : Int32.ofNat p < Int32.ofNat q ↔ p < q := j_lt (by omega) (by omega)
        by_cases c : p < q
        · left
          have hs := m_swap (P := P) (w := x) hd1 (show p < 6 by omega) (show q < 6 by omega)
          have ep : Int32.ofNat q + -1 = Int32.ofNat (q - 1) := by
            rw [← Int32.sub_eq_add_neg]
            exact j_sub1 (by omega) (by omega)
          have hq : sw h p q q = h p := by unfold sw; rw [if_pos rfl]
          have hp : sw h p q p = h q := by unfold sw; rw [if_neg (by omega), if_pos rfl]
          have ho : ∀ y, ¬ y = p → ¬ y = q → sw h p q y = h y := fun y y1 y2 => by unfold sw; rw [if_neg y2, if_neg y1]
          refine ⟨([some (.ref 236), some (.int (Int32.ofNat n)), some (.int (Int32.ofNat i)), some (.int (Int32.ofNat k)), some (.int (Int32.ofNat (q - 1))), some (.int (Int32.ofNat (p + 1)))], sww x p q), q - 1 + 1 - (p + 1), ?_, by omega, p + 1, q - 1, sw h p q, sww x p q, rfl, by omega, by omega, by omega, rfl, RW_sw f4 (by omega) f3, fun t => (oc_sw (by omega) f3 t).trans (f5 t), fun y y1 => ?_, fun y y1 y2 => ?_, fun y y1 y2 => ?_, fun y y1 y2 => ?_, sww_chk f10⟩
          · simp only [cc, c, hs, ep, lx_327_3, lb_327_3, ee_turn, k_0, k_1, k_2, nz_1, nz_2, v_and, v_bin, v_call, v_cmp, v_cons, v_get, v_idx, v_int, v_loc, v_nil, v_z, w_exp0, w_exp1, w_if, w_incm1, w_incm2, w_incm8, w_incp1, w_ret, w_seq, w_set, List.getElem?_cons_zero, List.getElem?_cons_succ, List.set_cons_zero, List.set_cons_succ, ee_cmp0, ee_cmp1, ee_cmp2, ee_cmp3, ee_cmp4, ee_cmp5, ee_cmpL0, ee_cmpL1, ee_cmpL2, ee_cmpL3, ee_cmpL4, ee_cmpL5, ee_tru_eb, decide_eq_true_eq, ib_i, ie_b, ie_f, ie_t, ib_l, fin_i, fin_l, fin_v, fin_z, fin_a, fin_n, ee_b_0, ee_fld0, ee_fld1, ee_fld2, ee_fld3, bi_0, bi_1, bi_2, bi_3, bi_4, bi_5, bi_6, bi_7, bi_8, bi_9, bi_10, bl_20, bl_21, bl_22, bl_23, bl_24, bl_25, bl_26, bl_48, bl_49, un_0, un_1, un_2, un_3, if_true, if_false, ite_true, ite_false, Bool.false_eq_true, Bool.not_eq_false, decide_not, Bool.not_not, reduceCtorEq, st_i, st_l, st_r, st_n, ee_noL, ee_noL.eq_1, List.length_cons, List.length_nil, Nat.reduceAdd, Nat.reduceLT, Nat.zero_add, and_true, true_and, and_self, fin_ite, pu_0, pu_1, pu_3, sto_0, el_0, Bool.not_eq_true, decide_eq_false_iff_not, Bool.decide_eq_true, Bool.decide_eq_false, decide_true, decide_false, Bool.not_true, Bool.not_false, Bool.and_self, Bool.and_true, Bool.and_false, Bool.true_and, Bool.false_and, Bool.or_true, Bool.or_false, Bool.true_or, Bool.false_or, if_true, if_false, Bool.false_eq_true, tc_0, ix_0, tc_1, ix_1, tc_2, ix_2, mz_0, mz_1, mz_a, rvs, j_s, j_a, wI_at, Nat.reduceEqDiff, zero_ne_one_n, one_ne_zero_n]
          · rw [ho y (by omega) (by omega)]; exact f6 y y1
          · by_cases z : y = p
            · rw [z, hp, f9 q (by omega) (Nat.le_refl _), show n + i - p = q by omega]
            · rw [ho y z (by omega)]; exact f7 y y1 (by omega)
          · by_cases z : y = q
            · rw [z, hq, f9 p (Nat.le_refl _) (by omega), show n + i - q = p by omega]
            · rw [ho y (by omega) z]; exact f8 y (by omega) y2
          · rw [ho y (by omega) (by omega)]; exact f9 y (by omega) (by omega)
        · right
          have eh : ∀ y, y < n → h y = nxr g n i k y := by
            intro y hy
            unfold nxr
            by_cases z1 : i < y
            · rw [if_pos z1, if_pos hy]
              by_cases z2 : y < p
              · exact f7 y z1 z2
              · by_cases z3 : q < y
                · exact f8 y z3 hy
                · rw [f9 y (by omega) (by omega), show n + i - y = y by omega]
            · rw [if_neg z1]; exact f6 y (by omega)
          refine ⟨_, ?_, p, q, x, rfl, fun y hy => by rw [f4 y hy, eh y hy], fun t => ?_, f10⟩
          · simp only [cc, c, lx_327_3, lb_327_3, ee_turn, k_0, k_1, k_2, nz_1, nz_2, v_and, v_bin, v_call, v_cmp, v_cons, v_get, v_idx, v_int, v_loc, v_nil, v_z, w_exp0, w_exp1, w_if, w_incm1, w_incm2, w_incm8, w_incp1, w_ret, w_seq, w_set, List.getElem?_cons_zero, List.getElem?_cons_succ, List.set_cons_zero, List.set_cons_succ, ee_cmp0, ee_cmp1, ee_cmp2, ee_cmp3, ee_cmp4, ee_cmp5, ee_cmpL0, ee_cmpL1, ee_cmpL2, ee_cmpL3, ee_cmpL4, ee_cmpL5, ee_tru_eb, decide_eq_true_eq, ib_i, ie_b, ie_f, ie_t, ib_l, fin_i, fin_l, fin_v, fin_z, fin_a, fin_n, ee_b_0, ee_fld0, ee_fld1, ee_fld2, ee_fld3, bi_0, bi_1, bi_2, bi_3, bi_4, bi_5, bi_6, bi_7, bi_8, bi_9, bi_10, bl_20, bl_21, bl_22, bl_23, bl_24, bl_25, bl_26, bl_48, bl_49, un_0, un_1, un_2, un_3, if_true, if_false, ite_true, ite_false, Bool.false_eq_true, Bool.not_eq_false, decide_not, Bool.not_not, reduceCtorEq, st_i, st_l, st_r, st_n, ee_noL, ee_noL.eq_1, List.length_cons, List.length_nil, Nat.reduceAdd, Nat.reduceLT, Nat.zero_add, and_true, true_and, and_self, fin_ite, pu_0, pu_1, pu_3, sto_0, el_0, Bool.not_eq_true, decide_eq_false_iff_not, Bool.decide_eq_true, Bool.decide_eq_false, decide_true, decide_false, Bool.not_true, Bool.not_false, Bool.and_self, Bool.and_true, Bool.and_false, Bool.true_and, Bool.false_and, Bool.or_true, Bool.or_false, Bool.true_or, Bool.false_or, if_true, if_false, Bool.false_eq_true, tc_0, ix_0, tc_1, ix_1, tc_2, ix_2, mz_0, mz_1, mz_a, rvs, j_s, j_a, wI_at, Nat.reduceEqDiff, zero_ne_one_n, one_ne_zero_n]
          · rw [← f5 t]
            exact cn_congr n (fun y hy => by rw [eh y hy]))
      (n - 1 + 1 - (i + 1)) ([some (.ref 236), some (.int (Int32.ofNat n)), some (.int (Int32.ofNat i)), some (.int (Int32.ofNat k)), some (.int (Int32.ofNat (n - 1))), some (.int (Int32.ofNat (i + 1)))], sww w i k)
      ⟨i + 1, n - 1, sw g i k, sww w i k, rfl, by omega, by omega, by omega, rfl, RW_sw hR (by omega) k2, fun t => oc_sw (by omega) k2 t, fun y _ => rfl, fun y y1 y2 => by omega, fun y y1 y2 => by omega, fun y _ _ => rfl, sww_chk (chk_refl _ _)⟩
    refine ⟨x, i, k, ?_, k1, k2, k4, j2, k3, s1, s2, s3⟩
    simp only [e2, h9, e1, w_while, hr, hr2, hs, hr3, be_327, k_0, k_1, k_2, k_4294967295, nz_1, nz_2, v_and, v_bin, v_call, v_cmp, v_cons, v_get, v_idx, v_int, v_loc, v_nil, v_z, w_exp0, w_exp1, w_if, w_inc, w_ret, w_seq, w_set, List.getElem?_cons_zero, List.getElem?_cons_succ, List.set_cons_zero, List.set_cons_succ, ee_cmp0, ee_cmp1, ee_cmp2, ee_cmp3, ee_cmp4, ee_cmp5, ee_cmpL0, ee_cmpL1, ee_cmpL2, ee_cmpL3, ee_cmpL4, ee_cmpL5, ee_tru_eb, decide_eq_true_eq, ib_i, ie_b, ie_f, ie_t, ib_l, fin_i, fin_l, fin_v, fin_z, fin_a, fin_n, ee_b_0, ee_fld0, ee_fld1, ee_fld2, ee_fld3, bi_0, bi_1, bi_2, bi_3, bi_4, bi_5, bi_6, bi_7, bi_8, bi_9, bi_10, bl_20, bl_21, bl_22, bl_23, bl_24, bl_25, bl_26, bl_48, bl_49, un_0, un_1, un_2, un_3, if_true, if_false, ite_true, ite_false, Bool.false_eq_true, Bool.not_eq_false, decide_not, Bool.not_not, reduceCtorEq, st_i, st_l, st_r, st_n, ee_noL, ee_noL.eq_1, List.length_cons, List.length_nil, Nat.reduceAdd, Nat.reduceLT, Nat.zero_add, and_true, true_and, and_self, fin_ite, pu_0, pu_1, pu_3, sto_0, el_0, Bool.not_eq_true, decide_eq_false_iff_not, Bool.decide_eq_true, Bool.decide_eq_false, decide_true, decide_false, Bool.not_true, Bool.not_false, Bool.and_self, Bool.and_true, Bool.and_false, Bool.true_and, Bool.false_and, Bool.or_true, Bool.or_false, Bool.true_or, Bool.false_or, if_true, if_false, Bool.false_eq_true, ix_0, ix_1, ix_2, tc_0, tc_1, tc_2, mz_0, mz_1, mz_a, rvs, j_s, j_a, wI_at, Nat.reduceEqDiff, zero_ne_one_n, one_ne_zero_n]
    rfl
/-- the way of a row up to a place -/
def pa (a : Nat) (g : Nat → Nat) : Nat → Nat
  | 0 => a
  | k + 1 => g k
def ps (a : Nat) (g : Nat → Nat) : Nat → Nat
  | 0 => 0
  | k + 1 => ps a g k + ndi (pa a g k) (g k)
theorem ps_wl (a : Nat) (g : Nat → Nat) : ∀ m k, ps a g k + wl m (pa a g k) g k = ps a g (k + m) := by
  intro m
  induction m with
  | zero => intro k; rfl
  | succ m ih =>
    intro k
    have := ih (k + 1)
    rw [show k + (m + 1) = k + 1 + m by omega, ← this, wl_s]
    show ps a g k + (ndi (pa a g k) (g k) + wl m (g k) g (k + 1)) = ps a g k + ndi (pa a g k) (g k) + wl m (g k) g (k + 1)
    omega
theorem pa_b (ha : a < 64) (hb : ∀ i, i < n → g i < 64) : ∀ k, k ≤ n → pa a g k < 64 := by
  intro k
  cases k with
  | zero => intro _; exact ha
  | succ k => intro h; exact hb k (by omega)
theorem m_rowLength (hd : 2 ≤ d) (hR : RW w g n) (hn : n ≤ 6) (hb : ∀ i, i < n → g i < 64) (ha : a < 64) (m3 : w.1 237 3 = Int32.ofNat n) (m7 : w.1 237 7 / 16 = Int32.ofNat a) : ee_run ee_B P d 325 [.ref 236] w = some ([.int (Int32.ofNat (wl n a g 0))], w) := by
  obtain ⟨d, rfl⟩ : ∃ k, d = k + 1 := ⟨d - 1, by omega⟩
  have hd1 : 1 ≤ d := by omega
  have tn : ee_run ee_B P d 326 [.ref 236] w = some ([.int (Int32.ofNat a)], w) := by
    obtain ⟨d', rfl⟩ : ∃ k, d = k + 1 := ⟨d - 1, by omega⟩
    rw [rn_326 mz_0]
    simp only [m7, nz_16, bd_326, k_16, k_7, nz_16, nz_7, v_bin, v_get, v_idx, v_int, v_loc, w_ret, List.getElem?_cons_zero, List.getElem?_cons_succ, List.set_cons_zero, List.set_cons_succ, ee_cmp0, ee_cmp1, ee_cmp2, ee_cmp3, ee_cmp4, ee_cmp5, ee_cmpL0, ee_cmpL1, ee_cmpL2, ee_cmpL3, ee_cmpL4, ee_cmpL5, ee_tru_eb, decide_eq_true_eq, ib_i, ie_b, ie_f, ie_t, ib_l, fin_i, fin_l, fin_v, fin_z, fin_a, fin_n, ee_b_0, ee_fld0, ee_fld1, ee_fld2, ee_fld3, bi_0, bi_1, bi_2, bi_3, bi_4, bi_5, bi_6, bi_7, bi_8, bi_9, bi_10, bl_20, bl_21, bl_22, bl_23, bl_24, bl_25, bl_26, bl_48, bl_49, un_0, un_1, un_2, un_3, if_true, if_false, ite_true, ite_false, Bool.false_eq_true, Bool.not_eq_false, decide_not, Bool.not_not, reduceCtorEq, st_i, st_l, st_r, st_n, ee_noL, ee_noL.eq_1, List.length_cons, List.length_nil, Nat.reduceAdd, Nat.reduceLT, Nat.zero_add, and_true, true_and, and_self, fin_ite, pu_0, pu_1, pu_3, sto_0, el_0, Bool.not_eq_true, decide_eq_false_iff_not, Bool.decide_eq_true, Bool.decide_eq_false, decide_true, decide_false, Bool.not_true, Bool.not_false, Bool.and_self, Bool.and_true, Bool.and_false, Bool.true_and, Bool.false_and, Bool.or_true, Bool.or_false, Bool.true_or, Bool.false_or, if_true, if_false, Bool.false_eq_true, ix_16, ix_7, tc_16, tc_7, mz_0, mz_1, mz_a, rvs, j_s, j_a, wI_at, Nat.reduceEqDiff, zero_ne_one_n, one_ne_zero_n]
  have hl := for_q (w := w) (x := ee_ev es_sh es_rf (ee_run ee_B P d) lx_325_1) (b := ee_evS es_sh es_rf (ee_run ee_B P d) lb_325_1)
    (fun k => [some (.ref 236), some (.int (Int32.ofNat (pa a g k))), some (.int (Int32.ofNat (ps a g k))), some (.int (Int32.ofNat k))]) n
    (by
      intro k hk
      have h9 : Int32.ofNat k < Int32.ofNat n := (j_lt (by omega) (by omega)).2 hk
      have x1 : ee_ix (Int32.ofNat k) 6 = true := by rw [ixn (by omega)]; exact decide_eq_true (by omega)
      have v := hR k hk
      have e1 := ndi_m (pa a g k) (pa_b ha hb k (by omega)) (g k) (hb k hk)
      have p1 : pa a g (k + 1) = g k := rfl
      have p2 : ps a g (k + 1) = ps a g k + ndi (pa a g k) (g k) := rfl
      simp only [h9, m3, x1, v, tnc (show k < 2147483648 by omega), r_apartBy hd1, e1, p1, p2, mz_rw, mz_rws, lx_325_1, lb_325_1, ee_turn, k_0, k_3, nz_3, v_bin, v_call, v_cmp, v_cons, v_get, v_idx, v_int, v_loc, v_nil, w_inc, w_ret, w_seq, w_set, List.getElem?_cons_zero, List.getElem?_cons_succ, List.set_cons_zero, List.set_cons_succ, ee_cmp0, ee_cmp1, ee_cmp2, ee_cmp3, ee_cmp4, ee_cmp5, ee_cmpL0, ee_cmpL1, ee_cmpL2, ee_cmpL3, ee_cmpL4, ee_cmpL5, ee_tru_eb, decide_eq_true_eq, ib_i, ie_b, ie_f, ie_t, ib_l, fin_i, fin_l, fin_v, fin_z, fin_a, fin_n, ee_b_0, ee_fld0, ee_fld1, ee_fld2, ee_fld3, bi_0, bi_1, bi_2, bi_3, bi_4, bi_5, bi_6, bi_7, bi_8, bi_9, bi_10, bl_20, bl_21, bl_22, bl_23, bl_24, bl_25, bl_26, bl_48, bl_49, un_0, un_1, un_2, un_3, if_true, if_false, ite_true, ite_false, Bool.false_eq_true, Bool.not_eq_false, decide_not, Bool.not_not, reduceCtorEq, st_i, st_l, st_r, st_n, ee_noL, ee_noL.eq_1, List.length_cons, List.length_nil, Nat.reduceAdd, Nat.reduceLT, Nat.zero_add, and_true, true_and, and_self, fin_ite, pu_0, pu_1, pu_3, sto_0, el_0, Bool.not_eq_true, decide_eq_false_iff_not, Bool.decide_eq_true, Bool.decide_eq_false, decide_true, decide_false, Bool.not_true, Bool.not_false, Bool.and_self, Bool.and_true, Bool.and_false, Bool.true_and, Bool.false_and, Bool.or_true, Bool.or_false, Bool.true_or, Bool.false_or, if_true, if_false, Bool.false_eq_true, tc_0, ix_0, tc_3, ix_3, mz_0, mz_1, mz_a, rvs, j_s, j_a, wI_at, Nat.reduceEqDiff, zero_ne_one_n, one_ne_zero_n])
    (by
      have h9 : ¬ Int32.ofNat n < Int32.ofNat n := fun y => by have := (j_lt (by omega) (by omega)).1 y; omega
      simp only [h9, m3, lx_325_1, lb_325_1, ee_turn, k_0, k_3, nz_3, v_bin, v_call, v_cmp, v_cons, v_get, v_idx, v_int, v_loc, v_nil, w_inc, w_ret, w_seq, w_set, List.getElem?_cons_zero, List.getElem?_cons_succ, List.set_cons_zero, List.set_cons_succ, ee_cmp0, ee_cmp1, ee_cmp2, ee_cmp3, ee_cmp4, ee_cmp5, ee_cmpL0, ee_cmpL1, ee_cmpL2, ee_cmpL3, ee_cmpL4, ee_cmpL5, ee_tru_eb, decide_eq_true_eq, ib_i, ie_b, ie_f, ie_t, ib_l, fin_i, fin_l, fin_v, fin_z, fin_a, fin_n, ee_b_0, ee_fld0, ee_fld1, ee_fld2, ee_fld3, bi_0, bi_1, bi_2, bi_3, bi_4, bi_5, bi_6, bi_7, bi_8, bi_9, bi_10, bl_20, bl_21, bl_22, bl_23, bl_24, bl_25, bl_26, bl_48, bl_49, un_0, un_1, un_2, un_3, if_true, if_false, ite_true, ite_false, Bool.false_eq_true, Bool.not_eq_false, decide_not, Bool.not_not, reduceCtorEq, st_i, st_l, st_r, st_n, ee_noL, ee_noL.eq_1, List.length_cons, List.length_nil, Nat.reduceAdd, Nat.reduceLT, Nat.zero_add, and_true, true_and, and_self, fin_ite, pu_0, pu_1, pu_3, sto_0, el_0, Bool.not_eq_true, decide_eq_false_iff_not, Bool.decide_eq_true, Bool.decide_eq_false, decide_true, decide_false, Bool.not_true, Bool.not_false, Bool.and_self, Bool.and_true, Bool.and_false, Bool.true_and, Bool.false_and, Bool.or_true, Bool.or_false, Bool.true_or, Bool.false_or, if_true, if_false, Bool.false_eq_true, tc_0, ix_0, tc_3, ix_3, mz_0, mz_1, mz_a, rvs, j_s, j_a, wI_at, Nat.reduceEqDiff, zero_ne_one_n, one_ne_zero_n])
  rw [show pa a g 0 = a from rfl, show ps a g 0 = 0 from rfl, k_0] at hl
  have ew : wl n a g 0 = ps a g n := by
    have := ps_wl a g n 0
    rw [Nat.zero_add] at this
    rw [← this]
    show _ = 0 + wl n a g 0
    omega
  rw [rn_325 mz_0, ew]
  simp only [tn, w_while, hl, be_325, k_0, k_3, nz_3, v_bin, v_call, v_cmp, v_cons, v_get, v_idx, v_int, v_loc, v_nil, w_inc, w_ret, w_seq, w_set, List.getElem?_cons_zero, List.getElem?_cons_succ, List.set_cons_zero, List.set_cons_succ, ee_cmp0, ee_cmp1, ee_cmp2, ee_cmp3, ee_cmp4, ee_cmp5, ee_cmpL0, ee_cmpL1, ee_cmpL2, ee_cmpL3, ee_cmpL4, ee_cmpL5, ee_tru_eb, decide_eq_true_eq, ib_i, ie_b, ie_f, ie_t, ib_l, fin_i, fin_l, fin_v, fin_z, fin_a, fin_n, ee_b_0, ee_fld0, ee_fld1, ee_fld2, ee_fld3, bi_0, bi_1, bi_2, bi_3, bi_4, bi_5, bi_6, bi_7, bi_8, bi_9, bi_10, bl_20, bl_21, bl_22, bl_23, bl_24, bl_25, bl_26, bl_48, bl_49, un_0, un_1, un_2, un_3, if_true, if_false, ite_true, ite_false, Bool.false_eq_true, Bool.not_eq_false, decide_not, Bool.not_not, reduceCtorEq, st_i, st_l, st_r, st_n, ee_noL, ee_noL.eq_1, List.length_cons, List.length_nil, Nat.reduceAdd, Nat.reduceLT, Nat.zero_add, and_true, true_and, and_self, fin_ite, pu_0, pu_1, pu_3, sto_0, el_0, Bool.not_eq_true, decide_eq_false_iff_not, Bool.decide_eq_true, Bool.decide_eq_false, decide_true, decide_false, Bool.not_true, Bool.not_false, Bool.and_self, Bool.and_true, Bool.and_false, Bool.true_and, Bool.false_and, Bool.or_true, Bool.or_false, Bool.true_or, Bool.false_or, if_true, if_false, Bool.false_eq_true, ix_0, ix_3, tc_0, tc_3, mz_0, mz_1, mz_a, rvs, j_s, j_a, wI_at, Nat.reduceEqDiff, zero_ne_one_n, one_ne_zero_n]
theorem wl_b : ∀ m a k, a < 64 → (∀ i, k ≤ i → i < k + m → g i < 64) → wl m a g k ≤ 64 * m := by
  intro m
  induction m with
  | zero => intro a k _ _; exact Nat.le_refl _
  | succ m ih =>
    intro a k ha h
    have b := h k (by omega) (by omega)
    have c := ndi_b ha b
    have e := ih (g k) (k + 1) b (fun i h1 h2 => h i (by omega) (by omega))
    rw [wl_s]
    omega
/-- what has been kept when a row is come to -/
def OI (n a : Nat) (c : Nat → Nat) (g : Nat → Nat) (le : Nat) (b : Nat → Nat) : Prop := (le = 1000000 ∧ ∀ q, (∀ t, oc q n t = c t) → ¬ ll n q g) ∨ ((∀ t, oc b n t = c t) ∧ wl n a b 0 = le ∧ ll n b g ∧ ∀ q, (∀ t, oc q n t = c t) → ll n q g → le ≤ wl n a q 0 ∧ (wl n a q 0 = le → ¬ ll n q b))
def OM (n a : Nat) (c : Nat → Nat) (g : Nat → Nat) (le : Nat) (b : Nat → Nat) : Prop := (∀ t, oc b n t = c t) ∧ wl n a b 0 = le ∧ (ll n b g ∨ eqn n b g) ∧ ∀ q, (∀ t, oc q n t = c t) → ¬ ll n g q → le ≤ wl n a q 0 ∧ (wl n a q 0 = le → ¬ ll n q b)
def OF (n a : Nat) (c : Nat → Nat) (le : Nat) (b : Nat → Nat) : Prop := (∀ t, oc b n t = c t) ∧ wl n a b 0 = le ∧ ∀ q, (∀ t, oc q n t = c t) → le ≤ wl n a q 0 ∧ (wl n a q 0 = le → ¬ ll n q b)
theorem OI_better {c b : Nat → Nat} {le : Nat} (h : OI n a c g le b) (hg : ∀ t, oc g n t = c t) (hb : wl n a g 0 < 1000000) (hl : wl n a g 0 < le) : OM n a c g (wl n a g 0) g := by
  refine ⟨hg, rfl, Or.inr (fun _ _ => rfl), fun q hq hn => ?_⟩
  rcases ll_tri q g n with l | l | l
  · rcases h with ⟨-, h2⟩ | ⟨-, -, -, h4⟩
    · exact absurd l (h2 q hq)
    · have := (h4 q hq l).1
      exact ⟨by omega, fun z => by omega⟩
  · have e := wl_eq n a 0 (fun j _ hj => l j (by omega))
    exact ⟨by omega, fun _ z => ll_ir (ll_eq2 z (eqn_sy l))⟩
  · exact absurd l hn
theorem OI_worse {c b : Nat → Nat} {le : Nat} (h : OI n a c g le b) (hb : wl n a g 0 < 1000000) (hl : ¬ wl n a g 0 < le) : OM n a c g le b := by
  rcases h with ⟨h1, -⟩ | ⟨h1, h2, h3, h4⟩
  · omega
  · refine ⟨h1, h2, Or.inl h3, fun q hq hn => ?_⟩
    rcases ll_tri q g n with l | l | l
    · exact h4 q hq l
    · have e := wl_eq n a 0 (fun j _ hj => l j (by omega))
      exact ⟨by omega, fun _ z => ll_ir (ll_tr z (ll_eq2 h3 (eqn_sy l)))⟩
    · exact absurd l hn
theorem OM_next {c b g' : Nat → Nat} {le : Nat} (h : OM n a c g le b) (h1 : ll n g g') (h2 : ∀ q, (∀ t, oc q n t = c t) → ll n g q → ¬ ll n q g') : OI n a c g' le b := by
  obtain ⟨m1, m2, m3, m4⟩ := h
  refine Or.inr ⟨m1, m2, ?_, fun q hq hl => m4 q hq (fun z => h2 q hq z hl)⟩
  rcases m3 with m3 | m3
  · exact ll_tr m3 h1
  · exact ll_eq m3 h1
theorem OM_last {c b : Nat → Nat} {le : Nat} (h : OM n a c g le b) (h2 : ∀ q, (∀ t, oc q n t = c t) → ¬ ll n g q) : OF n a c le b := ⟨h.1, h.2.1, fun q hq => h.2.2.2 q hq (h2 q hq)⟩
end ORM
