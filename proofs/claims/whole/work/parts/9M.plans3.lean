/-! fewest and plan, the reference's, and on both sides -/
section PLM
variable {P : Nat → Nat → List Value → ee_W → Option (List Value × ee_W)} {d : Nat} {w : ee_W} {Z : ZX} {mo s f l far : Nat}
theorem mz_cn : es_rf 236 25 = some 246 := by decide +kernel
theorem mz_cns : es_sh 246 = (1, 37210) := by decide +kernel
def p246 (c k : Nat) : Prop := c = 246 ∨ (c = 236 ∧ k = 26)
theorem m_cell (hd : 1 ≤ d) (a b c : Nat) : ee_run ee_B P d 312 [.int (Int32.ofNat a), .int (Int32.ofNat b), .int (Int32.ofNat c)] w = some ([.int (Int32.ofNat (610 * a + 61 * b + c))], w) := by
  obtain ⟨d, rfl⟩ : ∃ k, d = k + 1 := ⟨d - 1, by omega⟩
  have e1 : (610 : Int32) * Int32.ofNat a = Int32.ofNat (610 * a) := j_m 610 a
  have e2 : (61 : Int32) * Int32.ofNat b = Int32.ofNat (61 * b) := j_m 61 b
  rw [rn_312]
  simp only [e1, e2, j_a, bd_312, k_61, k_610, nz_61, nz_610, v_bin, v_int, v_loc, w_ret, List.getElem?_cons_zero, List.getElem?_cons_succ, List.set_cons_zero, List.set_cons_succ, ee_cmp0, ee_cmp1, ee_cmp2, ee_cmp3, ee_cmp4, ee_cmp5, ee_cmpL0, ee_cmpL1, ee_cmpL2, ee_cmpL3, ee_cmpL4, ee_cmpL5, ee_tru_eb, decide_eq_true_eq, ib_i, ie_b, ie_f, ie_t, ib_l, fin_i, fin_l, fin_v, fin_z, fin_a, fin_n, ee_b_0, ee_fld0, ee_fld1, ee_fld2, ee_fld3, bi_0, bi_1, bi_2, bi_3, bi_4, bi_5, bi_6, bi_7, bi_8, bi_9, bi_10, bl_20, bl_21, bl_22, bl_23, bl_24, bl_25, bl_26, bl_48, bl_49, un_0, un_1, un_2, un_3, if_true, if_false, ite_true, ite_false, Bool.false_eq_true, Bool.not_eq_false, decide_not, Bool.not_not, reduceCtorEq, st_i, st_l, st_r, st_n, ee_noL, ee_noL.eq_1, List.length_cons, List.length_nil, Nat.reduceAdd, Nat.reduceLT, Nat.zero_add, and_true, true_and, and_self, fin_ite, pu_0, pu_1, pu_3, sto_0, el_0, Bool.not_eq_true, decide_eq_false_iff_not, Bool.decide_eq_true, Bool.decide_eq_false, decide_true, decide_false, Bool.not_true, Bool.not_false, Bool.and_self, Bool.and_true, Bool.and_false, Bool.true_and, Bool.false_and, Bool.or_true, Bool.or_false, Bool.true_or, Bool.false_or, if_true, if_false, Bool.false_eq_true, ix_61, ix_610, tc_61, tc_610, mz_0, mz_1, mz_a, rvs, j_s, j_a, wI_at, Nat.reduceEqDiff, zero_ne_one_n, one_ne_zero_n]
/-- the row of so many samples -/
def cr (mo far : Nat) (w : ee_W) (l : Nat) : Prop := ∀ s f, s ≤ mo → f ≤ far → w.1 246 (610 * l + 61 * s + f) = ee_b (pc mo l s f)
theorem m_canGo (hd : 2 ≤ d) (h26 : w.1 236 26 = Int32.ofNat mo) (hm : mo ≤ 9) (hl : l ≤ 60) (hf : f ≤ far) (h60 : far ≤ 60) (hc : cr mo far w l) {m : Nat} (m20 : m < 20) :
    ee_run ee_B P d 311 [.ref 236, .int (Int32.ofNat l), .int (nxv m), .int (Int32.ofNat f)] w = some ([.int (ee_b (pg mo (pc mo l) m f))], w) := by
  obtain ⟨d, rfl⟩ : ∃ k, d = k + 1 := ⟨d - 1, by omega⟩
  have hd1 : 1 ≤ d := by omega
  have wk := wkn (k := m) (mo := mo) (by omega) (by omega)
  have lf := nxv_le (m := m) (s := f) (by omega) (by omega)
  rw [rn_311 mz_0]
  by_cases y2 : 1 ≤ m ∧ m - 1 ≤ mo
  · rw [decide_eq_true y2.1, decide_eq_true y2.2] at wk
    by_cases y3 : m - 1 ≤ f
    · have lf1 := lf.2 (by omega)
      have ek := nxv_n y2.1
      have ed : Int32.ofNat f - nxv m = Int32.ofNat (f - (m - 1)) := by rw [ek]; exact j_dd y3 (by omega)
      have hv := hc (m - 1) (f - (m - 1)) y2.2 (by omega)
      have ce := m_cell (P := P) (w := w) hd1 l (m - 1) (f - (m - 1))
      rw [← ek] at ce
      have x1 : ee_ix (Int32.ofNat (610 * l + 61 * (m - 1) + (f - (m - 1)))) 37210 = true := by rw [ixn (by omega)]; exact decide_eq_true (by omega)
      have t1 := tnc (n := 610 * l + 61 * (m - 1) + (f - (m - 1))) (by omega)
      have eg : pg mo (pc mo l) m f = pc mo l (m - 1) (f - (m - 1)) := by
        unfold pg
        rw [decide_eq_true y2.1, decide_eq_true y2.2, decide_eq_true y3]; rfl
      rw [eg]
      cases q : pc mo l (m - 1) (f - (m - 1))
      · rw [q] at hv
        simp only [h26, r_isIn hd1, wk, lf1, ed, ce, x1, t1, hv, el_1, mz_cn, mz_cns, bd_311, k_0, v_and, v_bin, v_call, v_cmp, v_cons, v_get, v_idx, v_int, v_loc, v_mat, v_nil, v_z, w_ret, List.getElem?_cons_zero, List.getElem?_cons_succ, List.set_cons_zero, List.set_cons_succ, ee_cmp0, ee_cmp1, ee_cmp2, ee_cmp3, ee_cmp4, ee_cmp5, ee_cmpL0, ee_cmpL1, ee_cmpL2, ee_cmpL3, ee_cmpL4, ee_cmpL5, ee_tru_eb, decide_eq_true_eq, ib_i, ie_b, ie_f, ie_t, ib_l, fin_i, fin_l, fin_v, fin_z, fin_a, fin_n, ee_b_0, ee_fld0, ee_fld1, ee_fld2, ee_fld3, bi_0, bi_1, bi_2, bi_3, bi_4, bi_5, bi_6, bi_7, bi_8, bi_9, bi_10, bl_20, bl_21, bl_22, bl_23, bl_24, bl_25, bl_26, bl_48, bl_49, un_0, un_1, un_2, un_3, if_true, if_false, ite_true, ite_false, Bool.false_eq_true, Bool.not_eq_false, decide_not, Bool.not_not, reduceCtorEq, st_i, st_l, st_r, st_n, ee_noL, ee_noL.eq_1, List.length_cons, List.length_nil, Nat.reduceAdd, Nat.reduceLT, Nat.zero_add, and_true, true_and, and_self, fin_ite, pu_0, pu_1, pu_3, sto_0, el_0, Bool.not_eq_true, decide_eq_false_iff_not, Bool.decide_eq_true, Bool.decide_eq_false, decide_true, decide_false, Bool.not_true, Bool.not_false, Bool.and_self, Bool.and_true, Bool.and_false, Bool.true_and, Bool.false_and, Bool.or_true, Bool.or_false, Bool.true_or, Bool.false_or, if_true, if_false, Bool.false_eq_true, ix_0, tc_0, mz_0, mz_1, mz_a, rvs, j_s, j_a, wI_at, Nat.reduceEqDiff, zero_ne_one_n, one_ne_zero_n]
      · rw [q] at hv
        simp only [h26, r_isIn hd1, wk, lf1, ed, ce, x1, t1, hv, el_1, mz_cn, mz_cns, bd_311, k_0, v_and, v_bin, v_call, v_cmp, v_cons, v_get, v_idx, v_int, v_loc, v_mat, v_nil, v_z, w_ret, List.getElem?_cons_zero, List.getElem?_cons_succ, List.set_cons_zero, List.set_cons_succ, ee_cmp0, ee_cmp1, ee_cmp2, ee_cmp3, ee_cmp4, ee_cmp5, ee_cmpL0, ee_cmpL1, ee_cmpL2, ee_cmpL3, ee_cmpL4, ee_cmpL5, ee_tru_eb, decide_eq_true_eq, ib_i, ie_b, ie_f, ie_t, ib_l, fin_i, fin_l, fin_v, fin_z, fin_a, fin_n, ee_b_0, ee_fld0, ee_fld1, ee_fld2, ee_fld3, bi_0, bi_1, bi_2, bi_3, bi_4, bi_5, bi_6, bi_7, bi_8, bi_9, bi_10, bl_20, bl_21, bl_22, bl_23, bl_24, bl_25, bl_26, bl_48, bl_49, un_0, un_1, un_2, un_3, if_true, if_false, ite_true, ite_false, Bool.false_eq_true, Bool.not_eq_false, decide_not, Bool.not_not, reduceCtorEq, st_i, st_l, st_r, st_n, ee_noL, ee_noL.eq_1, List.length_cons, List.length_nil, Nat.reduceAdd, Nat.reduceLT, Nat.zero_add, and_true, true_and, and_self, fin_ite, pu_0, pu_1, pu_3, sto_0, el_0, Bool.not_eq_true, decide_eq_false_iff_not, Bool.decide_eq_true, Bool.decide_eq_false, decide_true, decide_false, Bool.not_true, Bool.not_false, Bool.and_self, Bool.and_true, Bool.and_false, Bool.true_and, Bool.false_and, Bool.or_true, Bool.or_false, Bool.true_or, Bool.false_or, if_true, if_false, Bool.false_eq_true, ix_0, tc_0, mz_0, mz_1, mz_a, rvs, j_s, j_a, wI_at, Nat.reduceEqDiff, zero_ne_one_n, one_ne_zero_n]
    · have lf0 : ¬ nxv m ≤ Int32.ofNat f := fun z => by have := lf.1 z; omega
      rw [bf (fun z => y3 (pg_t.1 z).2.2.1)]
      simp only [h26, r_isIn hd1, wk, lf0, bd_311, k_0, v_and, v_bin, v_call, v_cmp, v_cons, v_get, v_idx, v_int, v_loc, v_mat, v_nil, v_z, w_ret, List.getElem?_cons_zero, List.getElem?_cons_succ, List.set_cons_zero, List.set_cons_succ, ee_cmp0, ee_cmp1, ee_cmp2, ee_cmp3, ee_cmp4, ee_cmp5, ee_cmpL0, ee_cmpL1, ee_cmpL2, ee_cmpL3, ee_cmpL4, ee_cmpL5, ee_tru_eb, decide_eq_true_eq, ib_i, ie_b, ie_f, ie_t, ib_l, fin_i, fin_l, fin_v, fin_z, fin_a, fin_n, ee_b_0, ee_fld0, ee_fld1, ee_fld2, ee_fld3, bi_0, bi_1, bi_2, bi_3, bi_4, bi_5, bi_6, bi_7, bi_8, bi_9, bi_10, bl_20, bl_21, bl_22, bl_23, bl_24, bl_25, bl_26, bl_48, bl_49, un_0, un_1, un_2, un_3, if_true, if_false, ite_true, ite_false, Bool.false_eq_true, Bool.not_eq_false, decide_not, Bool.not_not, reduceCtorEq, st_i, st_l, st_r, st_n, ee_noL, ee_noL.eq_1, List.length_cons, List.length_nil, Nat.reduceAdd, Nat.reduceLT, Nat.zero_add, and_true, true_and, and_self, fin_ite, pu_0, pu_1, pu_3, sto_0, el_0, Bool.not_eq_true, decide_eq_false_iff_not, Bool.decide_eq_true, Bool.decide_eq_false, decide_true, decide_false, Bool.not_true, Bool.not_false, Bool.and_self, Bool.and_true, Bool.and_false, Bool.true_and, Bool.false_and, Bool.or_true, Bool.or_false, Bool.true_or, Bool.false_or, if_true, if_false, Bool.false_eq_true, ix_0, tc_0, mz_0, mz_1, mz_a, rvs, j_s, j_a, wI_at, Nat.reduceEqDiff, zero_ne_one_n, one_ne_zero_n]
  · have wk0 : (decide (1 ≤ m) && decide (m - 1 ≤ mo)) = false := by
      by_cases a : 1 ≤ m
      · rw [decide_eq_false (show ¬ m - 1 ≤ mo by omega), Bool.and_false]
      · rw [decide_eq_false a]; rfl
    rw [wk0] at wk
    rw [bf (fun z => y2 ⟨(pg_t.1 z).1, (pg_t.1 z).2.1⟩)]
    simp only [h26, r_isIn hd1, wk, bd_311, k_0, v_and, v_bin, v_call, v_cmp, v_cons, v_get, v_idx, v_int, v_loc, v_mat, v_nil, v_z, w_ret, List.getElem?_cons_zero, List.getElem?_cons_succ, List.set_cons_zero, List.set_cons_succ, ee_cmp0, ee_cmp1, ee_cmp2, ee_cmp3, ee_cmp4, ee_cmp5, ee_cmpL0, ee_cmpL1, ee_cmpL2, ee_cmpL3, ee_cmpL4, ee_cmpL5, ee_tru_eb, decide_eq_true_eq, ib_i, ie_b, ie_f, ie_t, ib_l, fin_i, fin_l, fin_v, fin_z, fin_a, fin_n, ee_b_0, ee_fld0, ee_fld1, ee_fld2, ee_fld3, bi_0, bi_1, bi_2, bi_3, bi_4, bi_5, bi_6, bi_7, bi_8, bi_9, bi_10, bl_20, bl_21, bl_22, bl_23, bl_24, bl_25, bl_26, bl_48, bl_49, un_0, un_1, un_2, un_3, if_true, if_false, ite_true, ite_false, Bool.false_eq_true, Bool.not_eq_false, decide_not, Bool.not_not, reduceCtorEq, st_i, st_l, st_r, st_n, ee_noL, ee_noL.eq_1, List.length_cons, List.length_nil, Nat.reduceAdd, Nat.reduceLT, Nat.zero_add, and_true, true_and, and_self, fin_ite, pu_0, pu_1, pu_3, sto_0, el_0, Bool.not_eq_true, decide_eq_false_iff_not, Bool.decide_eq_true, Bool.decide_eq_false, decide_true, decide_false, Bool.not_true, Bool.not_false, Bool.and_self, Bool.and_true, Bool.and_false, Bool.true_and, Bool.false_and, Bool.or_true, Bool.or_false, Bool.true_or, Bool.false_or, if_true, if_false, Bool.false_eq_true, ix_0, tc_0, mz_0, mz_1, mz_a, rvs, j_s, j_a, wI_at, Nat.reduceEqDiff, zero_ne_one_n, one_ne_zero_n]
theorem cr_up {x : ee_W} {s f l l' : Nat} {b : Bool} (hs : s ≤ 9) (hf : f ≤ 60) (hm : mo ≤ 9) (h60 : far ≤ 60) (hl : l' ≠ l) (h : cr mo far x l') : cr mo far (ee_wI x 246 (610 * l + 61 * s + f) (ee_b b)) l' := by
  intro s' f' h1 h2
  rw [wI_at, if_neg (by omega)]
  exact h s' f' h1 h2
theorem m_lay (hd : 4 ≤ d) (h60 : far ≤ 60) (h1 : 1 ≤ mo) (hm : mo ≤ 9) : ∃ w' L, ee_run ee_B P d 310 [.ref 236, .int (Int32.ofNat far), .int (Int32.ofNat mo)] w = some ([.int (Int32.ofNat L)], w') ∧ ls mo 0 far L ∧ (∀ l, l ≤ L → cr mo far w' l) ∧ w'.1 236 26 = Int32.ofNat mo ∧ chk p246 w w' := by
  obtain ⟨d, rfl⟩ : ∃ k, d = k + 1 := ⟨d - 1, by omega⟩
  have hd1 : 1 ≤ d := by omega
  have hd2 : 2 ≤ d := by omega
  obtain ⟨r, hr, hq⟩ := wh_n (f := ee_turn (ee_ev es_sh es_rf (ee_run ee_B P d) lx_310_3) (ee_evS es_sh es_rf (ee_run ee_B P d) lb_310_3))
    (I := fun n y => ∃ k x v4 v5 v6, n = 61 - k ∧ y = ([some (.ref 236), some (.int (Int32.ofNat far)), some (.int (Int32.ofNat mo)), some (.int (Int32.ofNat k)), v4, v5, v6], x) ∧ (∀ l, l < k → pc mo l 0 far = false) ∧ (∀ l, l < k → cr mo far x l) ∧ x.1 236 26 = Int32.ofNat mo ∧ chk p246 w x)
    (Q := fun r => ∃ L w', r = .inr ([.int (Int32.ofNat L)], w') ∧ ls mo 0 far L ∧ (∀ l, l ≤ L → cr mo far w' l) ∧ w'.1 236 26 = Int32.ofNat mo ∧ chk p246 w w')
    (by
      rintro n y ⟨k, x, v4, v5, v6, rfl, rfl, i1, i2, i3, i4⟩
      have k60 : k ≤ far := by
        by_cases a : k ≤ far
        · exact a
        · have := i1 far (by omega)
          rw [pc_far h1 far] at this
          cases this
      have h9 : Int32.ofNat k ≤ 60 := (j_le (b := 60) (by omega) (by omega)).2 (by omega)
      have zk := zof (a := k) (by omega)
      obtain ⟨⟨y, u5, u6⟩, hc, c1, c2, c3, c4⟩ := for_a (x := ee_ev es_sh es_rf (ee_run ee_B P d) lx_310_2) (b := ee_evS es_sh es_rf (ee_run ee_B P d) lb_310_2)
        (fun s (b : ee_W × Option Value × Option Value) => (([some (.ref 236), some (.int (Int32.ofNat far)), some (.int (Int32.ofNat mo)), some (.int (Int32.ofNat k)), some (.int (Int32.ofNat s)), b.2.1, b.2.2], b.1) : ee_E × ee_W)) (mo + 1)
        (fun s b => (∀ l, l < k → cr mo far b.1 l) ∧ (∀ s' f', s' < s → f' ≤ far → b.1.1 246 (610 * k + 61 * s' + f') = ee_b (pc mo k s' f')) ∧ b.1.1 236 26 = Int32.ofNat mo ∧ chk p246 w b.1)
        (by
          rintro s ⟨y, u5, u6⟩ hs ⟨j1, j2, j3, j4⟩
          dsimp only at j1 j2 j3 j4
          have g9 : Int32.ofNat s ≤ Int32.ofNat mo := (j_le (by omega) (by omega)).2 (by omega)
          have s1 : Int32.ofNat s ≤ 1 ↔ s ≤ 1 := j_le (b := 1) (by omega) (by omega)
          obtain ⟨⟨z, t6⟩, hb, b1, b2, b3, b4⟩ := for_a (x := ee_ev es_sh es_rf (ee_run ee_B P d) lx_310_1) (b := ee_evS es_sh es_rf (ee_run ee_B P d) lb_310_1)
            (fun f (b : ee_W × Option Value) => (([some (.ref 236), some (.int (Int32.ofNat far)), some (.int (Int32.ofNat mo)), some (.int (Int32.ofNat k)), some (.int (Int32.ofNat s)), some (.int (Int32.ofNat f)), b.2], b.1) : ee_E × ee_W)) (far + 1)
            (fun f b => (∀ l, l < k → cr mo far b.1 l) ∧ (∀ s' f', (s' < s ∧ f' ≤ far) ∨ (s' = s ∧ f' < f) → b.1.1 246 (610 * k + 61 * s' + f') = ee_b (pc mo k s' f')) ∧ b.1.1 236 26 = Int32.ofNat mo ∧ chk p246 w b.1)
            (by
              rintro f ⟨z, t6⟩ hf ⟨e1, e2, e3, e4⟩
              dsimp only at e1 e2 e3 e4
              have f9 : Int32.ofNat f ≤ Int32.ofNat far := (j_le (by omega) (by omega)).2 (by omega)
              have zf := zof (a := f) (by omega)
              have ce := m_cell (P := P) (w := z) hd1 k s f
              have x1 : ee_ix (Int32.ofNat (610 * k + 61 * s + f)) 37210 = true := by rw [ixn (by omega)]; exact decide_eq_true (by omega)
              have t1 := tnc (n := 610 * k + 61 * s + f) (by omega)
              refine ⟨(ee_wI z 246 (610 * k + 61 * s + f) (ee_b (pc mo k s f)), some (.int (ee_b (pc mo k s f)))), ?_, fun l hl => cr_up (by omega) (by omega) hm h60 (by omega) (e1 l hl), fun s' f' q => ?_, ?_, chk_I (Or.inl rfl) e4⟩
              · by_cases k0 : k = 0
                · have kz : (k = 0) = True := eq_true k0
                  have ep : pc mo k s f = (decide (f = 0) && decide (s ≤ 1)) := by rw [k0]; rfl
                  rw [ep]
                  by_cases a1 : f = 0
                  · have a2 : (f = 0) = True := eq_true a1
                    by_cases a3 : s ≤ 1 <;> simp only [f9, zk, kz, zf, a2, s1, a3, ce, x1, t1, sto_1, mz_cn, mz_cns, lx_310_1, lb_310_1, ee_turn, k_0, k_1, k_4294967295, k_60, nz_1, nz_60, v_and, v_bin, v_call, v_cmp, v_cons, v_get, v_idx, v_int, v_loc, v_mat, v_nil, v_or, v_tern, v_z, w_if, w_inc, w_put, w_ret, w_seq, w_set, w_skip, w_sto, List.getElem?_cons_zero, List.getElem?_cons_succ, List.set_cons_zero, List.set_cons_succ, ee_cmp0, ee_cmp1, ee_cmp2, ee_cmp3, ee_cmp4, ee_cmp5, ee_cmpL0, ee_cmpL1, ee_cmpL2, ee_cmpL3, ee_cmpL4, ee_cmpL5, ee_tru_eb, decide_eq_true_eq, ib_i, ie_b, ie_f, ie_t, ib_l, fin_i, fin_l, fin_v, fin_z, fin_a, fin_n, ee_b_0, ee_fld0, ee_fld1, ee_fld2, ee_fld3, bi_0, bi_1, bi_2, bi_3, bi_4, bi_5, bi_6, bi_7, bi_8, bi_9, bi_10, bl_20, bl_21, bl_22, bl_23, bl_24, bl_25, bl_26, bl_48, bl_49, un_0, un_1, un_2, un_3, if_true, if_false, ite_true, ite_false, Bool.false_eq_true, Bool.not_eq_false, decide_not, Bool.not_not, reduceCtorEq, st_i, st_l, st_r, st_n, ee_noL, ee_noL.eq_1, List.length_cons, List.length_nil, Nat.reduceAdd, Nat.reduceLT, Nat.zero_add, and_true, true_and, and_self, fin_ite, pu_0, pu_1, pu_3, sto_0, el_0, Bool.not_eq_true, decide_eq_false_iff_not, Bool.decide_eq_true, Bool.decide_eq_false, decide_true, decide_false, Bool.not_true, Bool.not_false, Bool.and_self, Bool.and_true, Bool.and_false, Bool.true_and, Bool.false_and, Bool.or_true, Bool.or_false, Bool.true_or, Bool.false_or, if_true, if_false, Bool.false_eq_true, tc_0, ix_0, tc_1, ix_1, tc_60, ix_60, mz_0, mz_1, mz_a, rvs, j_s, j_a, wI_at, Nat.reduceEqDiff, zero_ne_one_n, one_ne_zero_n]
                  · have a2 : (f = 0) = False := eq_false a1
                    simp only [f9, zk, kz, zf, a2, s1, ce, x1, t1, sto_1, mz_cn, mz_cns, lx_310_1, lb_310_1, ee_turn, k_0, k_1, k_4294967295, k_60, nz_1, nz_60, v_and, v_bin, v_call, v_cmp, v_cons, v_get, v_idx, v_int, v_loc, v_mat, v_nil, v_or, v_tern, v_z, w_if, w_inc, w_put, w_ret, w_seq, w_set, w_skip, w_sto, List.getElem?_cons_zero, List.getElem?_cons_succ, List.set_cons_zero, List.set_cons_succ, ee_cmp0, ee_cmp1, ee_cmp2, ee_cmp3, ee_cmp4, ee_cmp5, ee_cmpL0, ee_cmpL1, ee_cmpL2, ee_cmpL3, ee_cmpL4, ee_cmpL5, ee_tru_eb, decide_eq_true_eq, ib_i, ie_b, ie_f, ie_t, ib_l, fin_i, fin_l, fin_v, fin_z, fin_a, fin_n, ee_b_0, ee_fld0, ee_fld1, ee_fld2, ee_fld3, bi_0, bi_1, bi_2, bi_3, bi_4, bi_5, bi_6, bi_7, bi_8, bi_9, bi_10, bl_20, bl_21, bl_22, bl_23, bl_24, bl_25, bl_26, bl_48, bl_49, un_0, un_1, un_2, un_3, if_true, if_false, ite_true, ite_false, Bool.false_eq_true, Bool.not_eq_false, decide_not, Bool.not_not, reduceCtorEq, st_i, st_l, st_r, st_n, ee_noL, ee_noL.eq_1, List.length_cons, List.length_nil, Nat.reduceAdd, Nat.reduceLT, Nat.zero_add, and_true, true_and, and_self, fin_ite, pu_0, pu_1, pu_3, sto_0, el_0, Bool.not_eq_true, decide_eq_false_iff_not, Bool.decide_eq_true, Bool.decide_eq_false, decide_true, decide_false, Bool.not_true, Bool.not_false, Bool.and_self, Bool.and_true, Bool.and_false, Bool.true_and, Bool.false_and, Bool.or_true, Bool.or_false, Bool.true_or, Bool.false_or, if_true, if_false, Bool.false_eq_true, tc_0, ix_0, tc_1, ix_1, tc_60, ix_60, mz_0, mz_1, mz_a, rvs, j_s, j_a, wI_at, Nat.reduceEqDiff, zero_ne_one_n, one_ne_zero_n]
                · have kz : (k = 0) = False := eq_false k0
                  obtain ⟨l, rfl⟩ : ∃ l, k = l + 1 := ⟨k - 1, by omega⟩
                  have el : Int32.ofNat (l + 1) - 1 = Int32.ofNat l := j_sub1 (by omega) (by omega)
                  have es : Int32.ofNat s - 1 = nxv s := nxv_1 (by omega)
                  have g1 := m_canGo (P := P) hd2 e3 hm (show l ≤ 60 by omega) (show f ≤ far by omega) h60 (e1 l (by omega)) (m := s) (by omega)
                  have g2 := m_canGo (P := P) hd2 e3 hm (show l ≤ 60 by omega) (show f ≤ far by omega) h60 (e1 l (by omega)) (m := s + 1) (by omega)
                  have g3 := m_canGo (P := P) hd2 e3 hm (show l ≤ 60 by omega) (show f ≤ far by omega) h60 (e1 l (by omega)) (m := s + 2) (by omega)
                  rw [show nxv (s + 1) = Int32.ofNat s from rfl] at g2
                  rw [show nxv (s + 2) = Int32.ofNat (s + 1) from rfl] at g3
                  rw [pc_s]
                  cases a1 : pg mo (pc mo l) s f <;> cases a2 : pg mo (pc mo l) (s + 1) f <;> cases a3 : pg mo (pc mo l) (s + 2) f <;> rw [a1] at g1 <;> rw [a2] at g2 <;> rw [a3] at g3 <;>
                    simp only [f9, zk, kz, el, es, g1, g2, g3, ce, x1, t1, sto_1, mz_cn, mz_cns, lx_310_1, lb_310_1, ee_turn, k_0, k_1, k_4294967295, k_60, nz_1, nz_60, v_and, v_bin, v_call, v_cmp, v_cons, v_get, v_idx, v_int, v_loc, v_mat, v_nil, v_or, v_tern, v_z, w_if, w_inc, w_put, w_ret, w_seq, w_set, w_skip, w_sto, List.getElem?_cons_zero, List.getElem?_cons_succ, List.set_cons_zero, List.set_cons_succ, ee_cmp0, ee_cmp1, ee_cmp2, ee_cmp3, ee_cmp4, ee_cmp5, ee_cmpL0, ee_cmpL1, ee_cmpL2, ee_cmpL3, ee_cmpL4, ee_cmpL5, ee_tru_eb, decide_eq_true_eq, ib_i, ie_b, ie_f, ie_t, ib_l, fin_i, fin_l, fin_v, fin_z, fin_a, fin_n, ee_b_0, ee_fld0, ee_fld1, ee_fld2, ee_fld3, bi_0, bi_1, bi_2, bi_3, bi_4, bi_5, bi_6, bi_7, bi_8, bi_9, bi_10, bl_20, bl_21, bl_22, bl_23, bl_24, bl_25, bl_26, bl_48, bl_49, un_0, un_1, un_2, un_3, if_true, if_false, ite_true, ite_false, Bool.false_eq_true, Bool.not_eq_false, decide_not, Bool.not_not, reduceCtorEq, st_i, st_l, st_r, st_n, ee_noL, ee_noL.eq_1, List.length_cons, List.length_nil, Nat.reduceAdd, Nat.reduceLT, Nat.zero_add, and_true, true_and, and_self, fin_ite, pu_0, pu_1, pu_3, sto_0, el_0, Bool.not_eq_true, decide_eq_false_iff_not, Bool.decide_eq_true, Bool.decide_eq_false, decide_true, decide_false, Bool.not_true, Bool.not_false, Bool.and_self, Bool.and_true, Bool.and_false, Bool.true_and, Bool.false_and, Bool.or_true, Bool.or_false, Bool.true_or, Bool.false_or, if_true, if_false, Bool.false_eq_true, tc_0, ix_0, tc_1, ix_1, tc_60, ix_60, mz_0, mz_1, mz_a, rvs, j_s, j_a, wI_at, Nat.reduceEqDiff, zero_ne_one_n, one_ne_zero_n]
              · rw [wI_at]
                by_cases a : s' = s ∧ f' = f
                · obtain ⟨rfl, rfl⟩ := a
                  rw [if_pos ⟨rfl, rfl⟩]
                · rw [if_neg (by omega)]
                  exact e2 s' f' (by omega)
              · rw [wI_at, if_neg (by omega)]; exact e3)
            (by
              rintro ⟨z, t6⟩ -
              have f9 : ¬ Int32.ofNat (far + 1) ≤ Int32.ofNat far := fun z => by have := (j_le (by omega) (by omega)).1 z; omega
              simp only [f9, lx_310_1, lb_310_1, ee_turn, k_0, k_1, k_4294967295, k_60, nz_1, nz_60, v_and, v_bin, v_call, v_cmp, v_cons, v_get, v_idx, v_int, v_loc, v_mat, v_nil, v_or, v_tern, v_z, w_if, w_inc, w_put, w_ret, w_seq, w_set, w_skip, w_sto, List.getElem?_cons_zero, List.getElem?_cons_succ, List.set_cons_zero, List.set_cons_succ, ee_cmp0, ee_cmp1, ee_cmp2, ee_cmp3, ee_cmp4, ee_cmp5, ee_cmpL0, ee_cmpL1, ee_cmpL2, ee_cmpL3, ee_cmpL4, ee_cmpL5, ee_tru_eb, decide_eq_true_eq, ib_i, ie_b, ie_f, ie_t, ib_l, fin_i, fin_l, fin_v, fin_z, fin_a, fin_n, ee_b_0, ee_fld0, ee_fld1, ee_fld2, ee_fld3, bi_0, bi_1, bi_2, bi_3, bi_4, bi_5, bi_6, bi_7, bi_8, bi_9, bi_10, bl_20, bl_21, bl_22, bl_23, bl_24, bl_25, bl_26, bl_48, bl_49, un_0, un_1, un_2, un_3, if_true, if_false, ite_true, ite_false, Bool.false_eq_true, Bool.not_eq_false, decide_not, Bool.not_not, reduceCtorEq, st_i, st_l, st_r, st_n, ee_noL, ee_noL.eq_1, List.length_cons, List.length_nil, Nat.reduceAdd, Nat.reduceLT, Nat.zero_add, and_true, true_and, and_self, fin_ite, pu_0, pu_1, pu_3, sto_0, el_0, Bool.not_eq_true, decide_eq_false_iff_not, Bool.decide_eq_true, Bool.decide_eq_false, decide_true, decide_false, Bool.not_true, Bool.not_false, Bool.and_self, Bool.and_true, Bool.and_false, Bool.true_and, Bool.false_and, Bool.or_true, Bool.or_false, Bool.true_or, Bool.false_or, if_true, if_false, Bool.false_eq_true, tc_0, ix_0, tc_1, ix_1, tc_60, ix_60, mz_0, mz_1, mz_a, rvs, j_s, j_a, wI_at, Nat.reduceEqDiff, zero_ne_one_n, one_ne_zero_n])
            (far + 1) 0 (y, u6) (by omega) ⟨j1, fun s' f' q => j2 s' f' (by omega) (by omega), j3, j4⟩
          dsimp only at hb b1 b2 b3 b4
          rw [k_0] at hb
          refine ⟨(z, some (.int (Int32.ofNat (far + 1))), t6), ?_, b1, fun s' f' q1 q2 => b2 s' f' (by omega), b3, b4⟩
          simp only [g9, w_while, hb, lx_310_2, lb_310_2, ee_turn, k_0, k_1, k_4294967295, k_60, nz_1, nz_60, v_and, v_bin, v_call, v_cmp, v_cons, v_get, v_idx, v_int, v_loc, v_mat, v_nil, v_or, v_tern, v_z, w_if, w_inc, w_put, w_ret, w_seq, w_set, w_skip, w_sto, List.getElem?_cons_zero, List.getElem?_cons_succ, List.set_cons_zero, List.set_cons_succ, ee_cmp0, ee_cmp1, ee_cmp2, ee_cmp3, ee_cmp4, ee_cmp5, ee_cmpL0, ee_cmpL1, ee_cmpL2, ee_cmpL3, ee_cmpL4, ee_cmpL5, ee_tru_eb, decide_eq_true_eq, ib_i, ie_b, ie_f, ie_t, ib_l, fin_i, fin_l, fin_v, fin_z, fin_a, fin_n, ee_b_0, ee_fld0, ee_fld1, ee_fld2, ee_fld3, bi_0, bi_1, bi_2, bi_3, bi_4, bi_5, bi_6, bi_7, bi_8, bi_9, bi_10, bl_20, bl_21, bl_22, bl_23, bl_24, bl_25, bl_26, bl_48, bl_49, un_0, un_1, un_2, un_3, if_true, if_false, ite_true, ite_false, Bool.false_eq_true, Bool.not_eq_false, decide_not, Bool.not_not, reduceCtorEq, st_i, st_l, st_r, st_n, ee_noL, ee_noL.eq_1, List.length_cons, List.length_nil, Nat.reduceAdd, Nat.reduceLT, Nat.zero_add, and_true, true_and, and_self, fin_ite, pu_0, pu_1, pu_3, sto_0, el_0, Bool.not_eq_true, decide_eq_false_iff_not, Bool.decide_eq_true, Bool.decide_eq_false, decide_true, decide_false, Bool.not_true, Bool.not_false, Bool.and_self, Bool.and_true, Bool.and_false, Bool.true_and, Bool.false_and, Bool.or_true, Bool.or_false, Bool.true_or, Bool.false_or, if_true, if_false, Bool.false_eq_true, tc_0, ix_0, tc_1, ix_1, tc_60, ix_60, mz_0, mz_1, mz_a, rvs, j_s, j_a, wI_at, Nat.reduceEqDiff, zero_ne_one_n, one_ne_zero_n])
        (by
          rintro ⟨y, u5, u6⟩ -
          have g9 : ¬ Int32.ofNat (mo + 1) ≤ Int32.ofNat mo := fun z => by have := (j_le (by omega) (by omega)).1 z; omega
          simp only [g9, lx_310_2, lb_310_2, ee_turn, k_0, k_1, k_4294967295, k_60, nz_1, nz_60, v_and, v_bin, v_call, v_cmp, v_cons, v_get, v_idx, v_int, v_loc, v_mat, v_nil, v_or, v_tern, v_z, w_if, w_inc, w_put, w_ret, w_seq, w_set, w_skip, w_sto, List.getElem?_cons_zero, List.getElem?_cons_succ, List.set_cons_zero, List.set_cons_succ, ee_cmp0, ee_cmp1, ee_cmp2, ee_cmp3, ee_cmp4, ee_cmp5, ee_cmpL0, ee_cmpL1, ee_cmpL2, ee_cmpL3, ee_cmpL4, ee_cmpL5, ee_tru_eb, decide_eq_true_eq, ib_i, ie_b, ie_f, ie_t, ib_l, fin_i, fin_l, fin_v, fin_z, fin_a, fin_n, ee_b_0, ee_fld0, ee_fld1, ee_fld2, ee_fld3, bi_0, bi_1, bi_2, bi_3, bi_4, bi_5, bi_6, bi_7, bi_8, bi_9, bi_10, bl_20, bl_21, bl_22, bl_23, bl_24, bl_25, bl_26, bl_48, bl_49, un_0, un_1, un_2, un_3, if_true, if_false, ite_true, ite_false, Bool.false_eq_true, Bool.not_eq_false, decide_not, Bool.not_not, reduceCtorEq, st_i, st_l, st_r, st_n, ee_noL, ee_noL.eq_1, List.length_cons, List.length_nil, Nat.reduceAdd, Nat.reduceLT, Nat.zero_add, and_true, true_and, and_self, fin_ite, pu_0, pu_1, pu_3, sto_0, el_0, Bool.not_eq_true, decide_eq_false_iff_not, Bool.decide_eq_true, Bool.decide_eq_false, decide_true, decide_false, Bool.not_true, Bool.not_false, Bool.and_self, Bool.and_true, Bool.and_false, Bool.true_and, Bool.false_and, Bool.or_true, Bool.or_false, Bool.true_or, Bool.false_or, if_true, if_false, Bool.false_eq_true, tc_0, ix_0, tc_1, ix_1, tc_60, ix_60, mz_0, mz_1, mz_a, rvs, j_s, j_a, wI_at, Nat.reduceEqDiff, zero_ne_one_n, one_ne_zero_n])
        (mo + 1) 0 (x, v5, v6) (by omega) ⟨i2, fun s' f' q => by omega, i3, i4⟩
      dsimp only at hc c1 c2 c3 c4
      rw [k_0] at hc
      have ce := m_cell (P := P) (w := y) hd1 k 0 far
      rw [k_0] at ce
      have x1 : ee_ix (Int32.ofNat (610 * k + 61 * 0 + far)) 37210 = true := by rw [ixn (by omega)]; exact decide_eq_true (by omega)
      have t1 := tnc (n := 610 * k + 61 * 0 + far) (by omega)
      have hv := c2 0 far (by omega) (Nat.le_refl _)
      cases q : pc mo k 0 far
      · left
        rw [q] at hv
        refine ⟨([some (.ref 236), some (.int (Int32.ofNat far)), some (.int (Int32.ofNat mo)), some (.int (Int32.ofNat (k + 1))), some (.int (Int32.ofNat (mo + 1))), u5, u6], y), 61 - (k + 1), ?_, by omega, k + 1, y, _, _, _, rfl, rfl, fun l hl => ?_, fun l hl => ?_, c3, c4⟩
        · simp only [h9, w_while, hc, ce, x1, t1, hv, el_1, mz_cn, mz_cns, lx_310_3, lb_310_3, ee_turn, k_0, k_1, k_4294967295, k_60, nz_1, nz_60, v_and, v_bin, v_call, v_cmp, v_cons, v_get, v_idx, v_int, v_loc, v_mat, v_nil, v_or, v_tern, v_z, w_if, w_inc, w_put, w_ret, w_seq, w_set, w_skip, w_sto, List.getElem?_cons_zero, List.getElem?_cons_succ, List.set_cons_zero, List.set_cons_succ, ee_cmp0, ee_cmp1, ee_cmp2, ee_cmp3, ee_cmp4, ee_cmp5, ee_cmpL0, ee_cmpL1, ee_cmpL2, ee_cmpL3, ee_cmpL4, ee_cmpL5, ee_tru_eb, decide_eq_true_eq, ib_i, ie_b, ie_f, ie_t, ib_l, fin_i, fin_l, fin_v, fin_z, fin_a, fin_n, ee_b_0, ee_fld0, ee_fld1, ee_fld2, ee_fld3, bi_0, bi_1, bi_2, bi_3, bi_4, bi_5, bi_6, bi_7, bi_8, bi_9, bi_10, bl_20, bl_21, bl_22, bl_23, bl_24, bl_25, bl_26, bl_48, bl_49, un_0, un_1, un_2, un_3, if_true, if_false, ite_true, ite_false, Bool.false_eq_true, Bool.not_eq_false, decide_not, Bool.not_not, reduceCtorEq, st_i, st_l, st_r, st_n, ee_noL, ee_noL.eq_1, List.length_cons, List.length_nil, Nat.reduceAdd, Nat.reduceLT, Nat.zero_add, and_true, true_and, and_self, fin_ite, pu_0, pu_1, pu_3, sto_0, el_0, Bool.not_eq_true, decide_eq_false_iff_not, Bool.decide_eq_true, Bool.decide_eq_false, decide_true, decide_false, Bool.not_true, Bool.not_false, Bool.and_self, Bool.and_true, Bool.and_false, Bool.true_and, Bool.false_and, Bool.or_true, Bool.or_false, Bool.true_or, Bool.false_or, if_true, if_false, Bool.false_eq_true, tc_0, ix_0, tc_1, ix_1, tc_60, ix_60, mz_0, mz_1, mz_a, rvs, j_s, j_a, wI_at, Nat.reduceEqDiff, zero_ne_one_n, one_ne_zero_n]
        · by_cases a : l = k
          · rw [a]; exact q
          · exact i1 l (by omega)
        · by_cases a : l = k
          · rw [a]; exact fun s' f' q1 q2 => c2 s' f' (by omega) q2
          · exact c1 l (by omega)
      · right
        rw [q] at hv
        refine ⟨.inr ([.int (Int32.ofNat k)], y), ?_, k, y, rfl, ⟨q, i1⟩, fun l hl => ?_, c3, c4⟩
        · simp only [h9, w_while, hc, ce, x1, t1, hv, el_1, mz_cn, mz_cns, lx_310_3, lb_310_3, ee_turn, k_0, k_1, k_4294967295, k_60, nz_1, nz_60, v_and, v_bin, v_call, v_cmp, v_cons, v_get, v_idx, v_int, v_loc, v_mat, v_nil, v_or, v_tern, v_z, w_if, w_inc, w_put, w_ret, w_seq, w_set, w_skip, w_sto, List.getElem?_cons_zero, List.getElem?_cons_succ, List.set_cons_zero, List.set_cons_succ, ee_cmp0, ee_cmp1, ee_cmp2, ee_cmp3, ee_cmp4, ee_cmp5, ee_cmpL0, ee_cmpL1, ee_cmpL2, ee_cmpL3, ee_cmpL4, ee_cmpL5, ee_tru_eb, decide_eq_true_eq, ib_i, ie_b, ie_f, ie_t, ib_l, fin_i, fin_l, fin_v, fin_z, fin_a, fin_n, ee_b_0, ee_fld0, ee_fld1, ee_fld2, ee_fld3, bi_0, bi_1, bi_2, bi_3, bi_4, bi_5, bi_6, bi_7, bi_8, bi_9, bi_10, bl_20, bl_21, bl_22, bl_23, bl_24, bl_25, bl_26, bl_48, bl_49, un_0, un_1, un_2, un_3, if_true, if_false, ite_true, ite_false, Bool.false_eq_true, Bool.not_eq_false, decide_not, Bool.not_not, reduceCtorEq, st_i, st_l, st_r, st_n, ee_noL, ee_noL.eq_1, List.length_cons, List.length_nil, Nat.reduceAdd, Nat.reduceLT, Nat.zero_add, and_true, true_and, and_self, fin_ite, pu_0, pu_1, pu_3, sto_0, el_0, Bool.not_eq_true, decide_eq_false_iff_not, Bool.decide_eq_true, Bool.decide_eq_false, decide_true, decide_false, Bool.not_true, Bool.not_false, Bool.and_self, Bool.and_true, Bool.and_false, Bool.true_and, Bool.false_and, Bool.or_true, Bool.or_false, Bool.true_or, Bool.false_or, if_true, if_false, Bool.false_eq_true, tc_0, ix_0, tc_1, ix_1, tc_60, ix_60, mz_0, mz_1, mz_a, rvs, j_s, j_a, wI_at, Nat.reduceEqDiff, zero_ne_one_n, one_ne_zero_n]
        · by_cases a : l = k
          · rw [a]; exact fun s' f' q1 q2 => c2 s' f' (by omega) q2
          · exact c1 l (by omega))
    61 ([some (.ref 236), some (.int (Int32.ofNat far)), some (.int (Int32.ofNat mo)), some (.int (Int32.ofNat 0)), none, none, none], ee_wI w 236 26 (Int32.ofNat mo))
    ⟨0, _, _, _, _, rfl, rfl, fun l hl => by omega, fun l hl => by omega, by rw [wI_at, if_pos ⟨rfl, rfl⟩], chk_I (Or.inr ⟨rfl, rfl⟩) (chk_refl _ _)⟩
  obtain ⟨L, w', rfl, q1, q2, q3, q4⟩ := hq
  rw [k_0] at hr
  refine ⟨w', L, ?_, q1, q2, q3, q4⟩
  rw [rn_310 mz_0]
  simp only [w_while, hr, be_310, k_0, k_1, k_4294967295, k_60, nz_1, nz_60, v_and, v_bin, v_call, v_cmp, v_cons, v_get, v_idx, v_int, v_loc, v_mat, v_nil, v_or, v_tern, v_z, w_if, w_inc, w_put, w_ret, w_seq, w_set, w_skip, w_sto, List.getElem?_cons_zero, List.getElem?_cons_succ, List.set_cons_zero, List.set_cons_succ, ee_cmp0, ee_cmp1, ee_cmp2, ee_cmp3, ee_cmp4, ee_cmp5, ee_cmpL0, ee_cmpL1, ee_cmpL2, ee_cmpL3, ee_cmpL4, ee_cmpL5, ee_tru_eb, decide_eq_true_eq, ib_i, ie_b, ie_f, ie_t, ib_l, fin_i, fin_l, fin_v, fin_z, fin_a, fin_n, ee_b_0, ee_fld0, ee_fld1, ee_fld2, ee_fld3, bi_0, bi_1, bi_2, bi_3, bi_4, bi_5, bi_6, bi_7, bi_8, bi_9, bi_10, bl_20, bl_21, bl_22, bl_23, bl_24, bl_25, bl_26, bl_48, bl_49, un_0, un_1, un_2, un_3, if_true, if_false, ite_true, ite_false, Bool.false_eq_true, Bool.not_eq_false, decide_not, Bool.not_not, reduceCtorEq, st_i, st_l, st_r, st_n, ee_noL, ee_noL.eq_1, List.length_cons, List.length_nil, Nat.reduceAdd, Nat.reduceLT, Nat.zero_add, and_true, true_and, and_self, fin_ite, pu_0, pu_1, pu_3, sto_0, el_0, Bool.not_eq_true, decide_eq_false_iff_not, Bool.decide_eq_true, Bool.decide_eq_false, decide_true, decide_false, Bool.not_true, Bool.not_false, Bool.and_self, Bool.and_true, Bool.and_false, Bool.true_and, Bool.false_and, Bool.or_true, Bool.or_false, Bool.true_or, Bool.false_or, if_true, if_false, Bool.false_eq_true, ix_0, ix_1, ix_60, tc_0, tc_1, tc_60, mz_0, mz_1, mz_a, rvs, j_s, j_a, wI_at, Nat.reduceEqDiff, zero_ne_one_n, one_ne_zero_n]
theorem m_isWay (hd : 2 ≤ d) (a b : Int32) : ee_run ee_B P d 309 [.int a, .int b] w = some ([.int (ee_b ((decide (0 ≤ a) && decide (a ≤ 60)) && (decide (1 ≤ b) && decide (b ≤ 9))))], w) := by
  obtain ⟨d, rfl⟩ : ∃ k, d = k + 1 := ⟨d - 1, by omega⟩
  have hd1 : 1 ≤ d := by omega
  rw [rn_309]
  cases q1 : (decide (0 ≤ a) && decide (a ≤ 60)) <;> cases q2 : (decide (1 ≤ b) && decide (b ≤ 9)) <;> simp only [r_isIn hd1, q1, q2, bd_309, k_0, k_1, k_60, k_9, nz_1, nz_60, nz_9, v_and, v_call, v_cons, v_int, v_loc, v_mat, v_nil, v_z, w_ret, List.getElem?_cons_zero, List.getElem?_cons_succ, List.set_cons_zero, List.set_cons_succ, ee_cmp0, ee_cmp1, ee_cmp2, ee_cmp3, ee_cmp4, ee_cmp5, ee_cmpL0, ee_cmpL1, ee_cmpL2, ee_cmpL3, ee_cmpL4, ee_cmpL5, ee_tru_eb, decide_eq_true_eq, ib_i, ie_b, ie_f, ie_t, ib_l, fin_i, fin_l, fin_v, fin_z, fin_a, fin_n, ee_b_0, ee_fld0, ee_fld1, ee_fld2, ee_fld3, bi_0, bi_1, bi_2, bi_3, bi_4, bi_5, bi_6, bi_7, bi_8, bi_9, bi_10, bl_20, bl_21, bl_22, bl_23, bl_24, bl_25, bl_26, bl_48, bl_49, un_0, un_1, un_2, un_3, if_true, if_false, ite_true, ite_false, Bool.false_eq_true, Bool.not_eq_false, decide_not, Bool.not_not, reduceCtorEq, st_i, st_l, st_r, st_n, ee_noL, ee_noL.eq_1, List.length_cons, List.length_nil, Nat.reduceAdd, Nat.reduceLT, Nat.zero_add, and_true, true_and, and_self, fin_ite, pu_0, pu_1, pu_3, sto_0, el_0, Bool.not_eq_true, decide_eq_false_iff_not, Bool.decide_eq_true, Bool.decide_eq_false, decide_true, decide_false, Bool.not_true, Bool.not_false, Bool.and_self, Bool.and_true, Bool.and_false, Bool.true_and, Bool.false_and, Bool.or_true, Bool.or_false, Bool.true_or, Bool.false_or, if_true, if_false, Bool.false_eq_true, ix_0, ix_1, ix_60, ix_9, tc_0, tc_1, tc_60, tc_9, mz_0, mz_1, mz_a, rvs, j_s, j_a, wI_at, Nat.reduceEqDiff, zero_ne_one_n, one_ne_zero_n]
def pw8 (mo L far : Nat) : Nat → Option Value
  | 0 => none
  | j + 1 => some (.int (Int32.ofNat (pl mo L far (j + 1)).1))
theorem m_plan (hd : 5 ≤ d) {i : Nat} (h60 : far ≤ 60) (h1 : 1 ≤ mo) (hm : mo ≤ 9) {L : Nat} (hL : ls mo 0 far L) (hi : i < L) : ∃ w', ee_run ee_B P d 313 [.ref 236, .int (Int32.ofNat far), .int (Int32.ofNat mo), .int (Int32.ofNat i)] w = some ([.int (Int32.ofNat (pl mo L far (i + 1)).1)], w') ∧ chk p246 w w' := by
  obtain ⟨d, rfl⟩ : ∃ k, d = k + 1 := ⟨d - 1, by omega⟩
  have hd2 : 2 ≤ d := by omega
  obtain ⟨w', L', c1, c2, c3, c4, c5⟩ := m_lay (P := P) (w := w) (d := d) (by omega) h60 h1 hm
  have eL := ls_un c2 hL
  rw [eL] at c1 c3
  have L60 := ls_le h1 hL
  have q1 : (decide ((0 : Int32) ≤ Int32.ofNat far) && decide (Int32.ofNat far ≤ 60)) = true := (inb (b := 60) (by omega) (by omega)).trans (decide_eq_true h60)
  have q2 : (decide ((1 : Int32) ≤ Int32.ofNat mo) && decide (Int32.ofNat mo ≤ 9)) = true := by
    rw [decide_eq_true (show (1 : Int32) ≤ Int32.ofNat mo from (j_le (a := 1) (by omega) (by omega)).2 h1), decide_eq_true (show Int32.ofNat mo ≤ (9 : Int32) from (j_le (b := 9) (by omega) (by omega)).2 hm)]; rfl
  have i0 : ¬ Int32.ofNat i < 0 := fun z => by have := (j_lt (b := 0) (by omega) (by omega)).1 z; omega
  have iL : ¬ Int32.ofNat L ≤ Int32.ofNat i := fun z => by have := (j_le (by omega) (by omega)).1 z; omega
  refine ⟨w', ?_, c5⟩
  have hl := for_q (w := w') (x := ee_ev es_sh es_rf (ee_run ee_B P d) lx_313_2) (b := ee_evS es_sh es_rf (ee_run ee_B P d) lb_313_2)
    (fun k => [some (.ref 236), some (.int (Int32.ofNat far)), some (.int (Int32.ofNat mo)), some (.int (Int32.ofNat i)), some (.int (Int32.ofNat (L - k))), some (.int (Int32.ofNat (pl mo L far k).1)), some (.int (Int32.ofNat (pl mo L far k).2)), some (.int (Int32.ofNat k)), pw8 mo L far k]) (i + 1)
    (by
      intro k hk
      obtain ⟨p1, p2, p3⟩ := pl_ok hL k (by omega)
      obtain ⟨l, hl⟩ : ∃ l, L - (k + 1) = l := ⟨_, rfl⟩
      have hlk : L - k = l + 1 := by omega
      rw [hlk] at p1
      obtain ⟨t1, t2, t3⟩ := pn_t p1.1
      obtain ⟨n1, n2, n3, n4⟩ := pg_t.1 t3
      have es := pl_s (mo := mo) L far k
      rw [hl] at es
      have e1 : (pl mo L far (k + 1)).1 = pn mo l (pl mo L far k).1 (pl mo L far k).2 - 1 := by rw [es]
      have e2 : (pl mo L far (k + 1)).2 = (pl mo L far k).2 - (pn mo l (pl mo L far k).1 (pl mo L far k).2 - 1) := by rw [es]
      have h9 : Int32.ofNat k ≤ Int32.ofNat i := (j_le (by omega) (by omega)).2 (by omega)
      have em : Int32.ofNat (l + 1) + -1 = Int32.ofNat l := j_p1 (n := l) (by omega)
      have cg := fun m (h : m < 20) => m_canGo (P := P) hd2 c4 hm (show l ≤ 60 by omega) p3 h60 (c3 l (by omega)) h
      rw [hl, hlk]
      have e8 : pw8 mo L far (k + 1) = some (.int (Int32.ofNat (pl mo L far (k + 1)).1)) := rfl
      rw [e8]
      generalize pw8 mo L far k = u8
      generalize (pl mo L far k).1 = s at *
      generalize (pl mo L far k).2 = f at *
      have ed := j_dd n3 (by omega)
      have tt : ∀ m, m < 20 → ee_turn (ee_ev es_sh es_rf (ee_run ee_B P d) lx_313_1) (ee_evS es_sh es_rf (ee_run ee_B P d) lb_313_1) ([some (.ref 236), some (.int (Int32.ofNat far)), some (.int (Int32.ofNat mo)), some (.int (Int32.ofNat i)), some (.int (Int32.ofNat l)), some (.int (Int32.ofNat s)), some (.int (Int32.ofNat f)), some (.int (Int32.ofNat k)), some (.int (nxv m))], w') =
          if pg mo (pc mo l) m f = true then some (.inr (.inl ([some (.ref 236), some (.int (Int32.ofNat far)), some (.int (Int32.ofNat mo)), some (.int (Int32.ofNat i)), some (.int (Int32.ofNat l)), some (.int (Int32.ofNat s)), some (.int (Int32.ofNat f)), some (.int (Int32.ofNat k)), some (.int (nxv m))], w')))
          else some (.inl ([some (.ref 236), some (.int (Int32.ofNat far)), some (.int (Int32.ofNat mo)), some (.int (Int32.ofNat i)), some (.int (Int32.ofNat l)), some (.int (Int32.ofNat s)), some (.int (Int32.ofNat f)), some (.int (Int32.ofNat k)), some (.int (nxv (m + 1)))], w')) := by
        intro m m20
        have g := cg m m20
        have ns := nxv_s m
        cases q : pg mo (pc mo l) m f
        · rw [q] at g
          rw [if_neg (by decide)]
          simp -implicitDefEqProofs only [g, ns, lx_313_1, lb_313_1, ee_turn, k_0, k_1, nz_1, v_bin, v_call, v_cmp, v_cons, v_int, v_loc, v_nil, v_not, v_or, v_z, w_if, w_incm1, w_incm2, w_incm8, w_incp1, w_ret, w_seq, w_set, List.getElem?_cons_zero, List.getElem?_cons_succ, List.set_cons_zero, List.set_cons_succ, ee_cmp0, ee_cmp1, ee_cmp2, ee_cmp3, ee_cmp4, ee_cmp5, ee_cmpL0, ee_cmpL1, ee_cmpL2, ee_cmpL3, ee_cmpL4, ee_cmpL5, ee_tru_eb, decide_eq_true_eq, ib_i, ie_b, ie_f, ie_t, ib_l, fin_i, fin_l, fin_v, fin_z, fin_a, fin_n, ee_b_0, ee_fld0, ee_fld1, ee_fld2, ee_fld3, bi_0, bi_1, bi_2, bi_3, bi_4, bi_5, bi_6, bi_7, bi_8, bi_9, bi_10, bl_20, bl_21, bl_22, bl_23, bl_24, bl_25, bl_26, bl_48, bl_49, un_0, un_1, un_2, un_3, if_true, if_false, ite_true, ite_false, Bool.false_eq_true, Bool.not_eq_false, decide_not, Bool.not_not, reduceCtorEq, st_i, st_l, st_r, st_n, ee_noL, ee_noL.eq_1, List.length_cons, List.length_nil, Nat.reduceAdd, Nat.reduceLT, Nat.zero_add, and_true, true_and, and_self, fin_ite, pu_0, pu_1, pu_3, sto_0, el_0, Bool.not_eq_true, decide_eq_false_iff_not, Bool.decide_eq_true, Bool.decide_eq_false, decide_true, decide_false, Bool.not_true, Bool.not_false, Bool.and_self, Bool.and_true, Bool.and_false, Bool.true_and, Bool.false_and, Bool.or_true, Bool.or_false, Bool.true_or, Bool.false_or, if_true, if_false, Bool.false_eq_true, tc_0, ix_0, tc_1, ix_1, mz_0, mz_1, mz_a, rvs, j_s, j_a, wI_at, Nat.reduceEqDiff, zero_ne_one_n, one_ne_zero_n]
        · rw [q] at g
          rw [if_pos rfl]
          simp -implicitDefEqProofs only [g, ns, lx_313_1, lb_313_1, ee_turn, k_0, k_1, nz_1, v_bin, v_call, v_cmp, v_cons, v_int, v_loc, v_nil, v_not, v_or, v_z, w_if, w_incm1, w_incm2, w_incm8, w_incp1, w_ret, w_seq, w_set, List.getElem?_cons_zero, List.getElem?_cons_succ, List.set_cons_zero, List.set_cons_succ, ee_cmp0, ee_cmp1, ee_cmp2, ee_cmp3, ee_cmp4, ee_cmp5, ee_cmpL0, ee_cmpL1, ee_cmpL2, ee_cmpL3, ee_cmpL4, ee_cmpL5, ee_tru_eb, decide_eq_true_eq, ib_i, ie_b, ie_f, ie_t, ib_l, fin_i, fin_l, fin_v, fin_z, fin_a, fin_n, ee_b_0, ee_fld0, ee_fld1, ee_fld2, ee_fld3, bi_0, bi_1, bi_2, bi_3, bi_4, bi_5, bi_6, bi_7, bi_8, bi_9, bi_10, bl_20, bl_21, bl_22, bl_23, bl_24, bl_25, bl_26, bl_48, bl_49, un_0, un_1, un_2, un_3, if_true, if_false, ite_true, ite_false, Bool.false_eq_true, Bool.not_eq_false, decide_not, Bool.not_not, reduceCtorEq, st_i, st_l, st_r, st_n, ee_noL, ee_noL.eq_1, List.length_cons, List.length_nil, Nat.reduceAdd, Nat.reduceLT, Nat.zero_add, and_true, true_and, and_self, fin_ite, pu_0, pu_1, pu_3, sto_0, el_0, Bool.not_eq_true, decide_eq_false_iff_not, Bool.decide_eq_true, Bool.decide_eq_false, decide_true, decide_false, Bool.not_true, Bool.not_false, Bool.and_self, Bool.and_true, Bool.and_false, Bool.true_and, Bool.false_and, Bool.or_true, Bool.or_false, Bool.true_or, Bool.false_or, if_true, if_false, Bool.false_eq_true, tc_0, ix_0, tc_1, ix_1, mz_0, mz_1, mz_a, rvs, j_s, j_a, wI_at, Nat.reduceEqDiff, zero_ne_one_n, one_ne_zero_n]
      have hw : ee_wh (ee_turn (ee_ev es_sh es_rf (ee_run ee_B P d) lx_313_1) (ee_evS es_sh es_rf (ee_run ee_B P d) lb_313_1)) ([some (.ref 236), some (.int (Int32.ofNat far)), some (.int (Int32.ofNat mo)), some (.int (Int32.ofNat i)), some (.int (Int32.ofNat l)), some (.int (Int32.ofNat s)), some (.int (Int32.ofNat f)), some (.int (Int32.ofNat k)), some (.int (nxv s))], w') = some (.inl ([some (.ref 236), some (.int (Int32.ofNat far)), some (.int (Int32.ofNat mo)), some (.int (Int32.ofNat i)), some (.int (Int32.ofNat l)), some (.int (Int32.ofNat s)), some (.int (Int32.ofNat f)), some (.int (Int32.ofNat k)), some (.int (nxv (pn mo l s f)))], w')) := by
        have t3' := t3
        unfold pn at t3' ⊢
        rw [ee_wh_eq, tt s (by omega)]
        by_cases a : pg mo (pc mo l) s f = true
        · rw [if_pos a, if_pos a]
        · rw [if_neg a, if_neg a]
          dsimp only
          rw [if_neg a] at t3'
          rw [ee_wh_eq, tt (s + 1) (by omega)]
          by_cases b : pg mo (pc mo l) (s + 1) f = true
          · rw [if_pos b, if_pos b]
          · rw [if_neg b, if_neg b]
            dsimp only
            rw [if_neg b] at t3'
            rw [ee_wh_eq, tt (s + 2) (by omega), if_pos t3']
      rw [nxv_n n1] at hw
      have es1 : Int32.ofNat s - 1 = nxv s := nxv_1 (by omega)
      simp -implicitDefEqProofs only [h9, em, es1, w_while, hw, ed, e1, e2, lx_313_2, lb_313_2, ee_turn, k_0, k_1, nz_1, v_bin, v_call, v_cmp, v_cons, v_int, v_loc, v_nil, v_not, v_or, v_z, w_if, w_incm1, w_incm2, w_incm8, w_incp1, w_ret, w_seq, w_set, List.getElem?_cons_zero, List.getElem?_cons_succ, List.set_cons_zero, List.set_cons_succ, ee_cmp0, ee_cmp1, ee_cmp2, ee_cmp3, ee_cmp4, ee_cmp5, ee_cmpL0, ee_cmpL1, ee_cmpL2, ee_cmpL3, ee_cmpL4, ee_cmpL5, ee_tru_eb, decide_eq_true_eq, ib_i, ie_b, ie_f, ie_t, ib_l, fin_i, fin_l, fin_v, fin_z, fin_a, fin_n, ee_b_0, ee_fld0, ee_fld1, ee_fld2, ee_fld3, bi_0, bi_1, bi_2, bi_3, bi_4, bi_5, bi_6, bi_7, bi_8, bi_9, bi_10, bl_20, bl_21, bl_22, bl_23, bl_24, bl_25, bl_26, bl_48, bl_49, un_0, un_1, un_2, un_3, if_true, if_false, ite_true, ite_false, Bool.false_eq_true, Bool.not_eq_false, decide_not, Bool.not_not, reduceCtorEq, st_i, st_l, st_r, st_n, ee_noL, ee_noL.eq_1, List.length_cons, List.length_nil, Nat.reduceAdd, Nat.reduceLT, Nat.zero_add, and_true, true_and, and_self, fin_ite, pu_0, pu_1, pu_3, sto_0, el_0, Bool.not_eq_true, decide_eq_false_iff_not, Bool.decide_eq_true, Bool.decide_eq_false, decide_true, decide_false, Bool.not_true, Bool.not_false, Bool.and_self, Bool.and_true, Bool.and_false, Bool.true_and, Bool.false_and, Bool.or_true, Bool.or_false, Bool.true_or, Bool.false_or, if_true, if_false, Bool.false_eq_true, tc_0, ix_0, tc_1, ix_1, mz_0, mz_1, mz_a, rvs, j_s, j_a, wI_at, Nat.reduceEqDiff, zero_ne_one_n, one_ne_zero_n])
    (by
      have h9 : ¬ Int32.ofNat (i + 1) ≤ Int32.ofNat i := fun y => by have := (j_le (by omega) (by omega)).1 y; omega
      simp -implicitDefEqProofs only [h9, lx_313_2, lb_313_2, ee_turn, k_0, k_1, nz_1, v_bin, v_call, v_cmp, v_cons, v_int, v_loc, v_nil, v_not, v_or, v_z, w_if, w_incm1, w_incm2, w_incm8, w_incp1, w_ret, w_seq, w_set, List.getElem?_cons_zero, List.getElem?_cons_succ, List.set_cons_zero, List.set_cons_succ, ee_cmp0, ee_cmp1, ee_cmp2, ee_cmp3, ee_cmp4, ee_cmp5, ee_cmpL0, ee_cmpL1, ee_cmpL2, ee_cmpL3, ee_cmpL4, ee_cmpL5, ee_tru_eb, decide_eq_true_eq, ib_i, ie_b, ie_f, ie_t, ib_l, fin_i, fin_l, fin_v, fin_z, fin_a, fin_n, ee_b_0, ee_fld0, ee_fld1, ee_fld2, ee_fld3, bi_0, bi_1, bi_2, bi_3, bi_4, bi_5, bi_6, bi_7, bi_8, bi_9, bi_10, bl_20, bl_21, bl_22, bl_23, bl_24, bl_25, bl_26, bl_48, bl_49, un_0, un_1, un_2, un_3, if_true, if_false, ite_true, ite_false, Bool.false_eq_true, Bool.not_eq_false, decide_not, Bool.not_not, reduceCtorEq, st_i, st_l, st_r, st_n, ee_noL, ee_noL.eq_1, List.length_cons, List.length_nil, Nat.reduceAdd, Nat.reduceLT, Nat.zero_add, and_true, true_and, and_self, fin_ite, pu_0, pu_1, pu_3, sto_0, el_0, Bool.not_eq_true, decide_eq_false_iff_not, Bool.decide_eq_true, Bool.decide_eq_false, decide_true, decide_false, Bool.not_true, Bool.not_false, Bool.and_self, Bool.and_true, Bool.and_false, Bool.true_and, Bool.false_and, Bool.or_true, Bool.or_false, Bool.true_or, Bool.false_or, if_true, if_false, Bool.false_eq_true, tc_0, ix_0, tc_1, ix_1, mz_0, mz_1, mz_a, rvs, j_s, j_a, wI_at, Nat.reduceEqDiff, zero_ne_one_n, one_ne_zero_n])
  rw [k_0, show pw8 mo L far 0 = none from rfl, show (pl mo L far 0).1 = 0 from rfl, show (pl mo L far 0).2 = far from rfl, k_0, Nat.sub_zero] at hl
  rw [rn_313 mz_0]
  simp only [m_isWay (P := P) hd2, q1, q2, i0, c1, iL, w_while, hl, be_313, k_0, k_1, k_4294967295, nz_1, v_bin, v_call, v_cmp, v_cons, v_int, v_loc, v_nil, v_not, v_or, v_z, w_if, w_inc, w_ret, w_seq, w_set, List.getElem?_cons_zero, List.getElem?_cons_succ, List.set_cons_zero, List.set_cons_succ, ee_cmp0, ee_cmp1, ee_cmp2, ee_cmp3, ee_cmp4, ee_cmp5, ee_cmpL0, ee_cmpL1, ee_cmpL2, ee_cmpL3, ee_cmpL4, ee_cmpL5, ee_tru_eb, decide_eq_true_eq, ib_i, ie_b, ie_f, ie_t, ib_l, fin_i, fin_l, fin_v, fin_z, fin_a, fin_n, ee_b_0, ee_fld0, ee_fld1, ee_fld2, ee_fld3, bi_0, bi_1, bi_2, bi_3, bi_4, bi_5, bi_6, bi_7, bi_8, bi_9, bi_10, bl_20, bl_21, bl_22, bl_23, bl_24, bl_25, bl_26, bl_48, bl_49, un_0, un_1, un_2, un_3, if_true, if_false, ite_true, ite_false, Bool.false_eq_true, Bool.not_eq_false, decide_not, Bool.not_not, reduceCtorEq, st_i, st_l, st_r, st_n, ee_noL, ee_noL.eq_1, List.length_cons, List.length_nil, Nat.reduceAdd, Nat.reduceLT, Nat.zero_add, and_true, true_and, and_self, fin_ite, pu_0, pu_1, pu_3, sto_0, el_0, Bool.not_eq_true, decide_eq_false_iff_not, Bool.decide_eq_true, Bool.decide_eq_false, decide_true, decide_false, Bool.not_true, Bool.not_false, Bool.and_self, Bool.and_true, Bool.and_false, Bool.true_and, Bool.false_and, Bool.or_true, Bool.or_false, Bool.true_or, Bool.false_or, if_true, if_false, Bool.false_eq_true, ix_0, ix_1, tc_0, tc_1, mz_0, mz_1, mz_a, rvs, j_s, j_a, wI_at, Nat.reduceEqDiff, zero_ne_one_n, one_ne_zero_n]
theorem MZ_26 {w' : ee_W} (hM : MZ w Z) (hW : WZ Z) (hc : chk p246 w w') : MZ w' Z := by
  obtain ⟨c1, c2, c3, ⟨c4, c5⟩, ⟨c6, c7⟩, c8⟩ := hM
  have e : ∀ c k, 236 ≤ c → c ≤ 240 → ¬ (c = 236 ∧ k = 26) → w'.1 c k = w.1 c k := fun c k h1 h2 h3 => hc.1 c k (fun z => by unfold p246 at z; omega)
  exact ⟨MA_eq c1 hW.1 (fun k _ => e _ _ (by omega) (by omega) (by omega)), MA_eq c2 hW.2.1 (fun k _ => e _ _ (by omega) (by omega) (by omega)), fun i hi h4 => MT_eq (c3 i hi h4) (fun k => e _ _ (by omega) (by omega) (by omega)),
    ⟨(e _ _ (by omega) (by omega) (by omega)).trans c4, fun i hi => (e _ _ (by omega) (by omega) (by omega)).trans (c5 i hi)⟩, ⟨(e _ _ (by omega) (by omega) (by omega)).trans c6, (e _ _ (by omega) (by omega) (by omega)).trans c7⟩, (e _ _ (by omega) (by omega) (by omega)).trans c8⟩
theorem CZ_234 {w' : ee_W} (hZ : CZ w Z) (hc : chg c234 w w') : CZ w' Z :=
  CZ_rest hZ hc (by decide) (by decide) (by decide) (fun c q1 q2 => by unfold c234; exact decide_eq_false (by omega)) (CA_chg hZ.1 hc (fun c q1 q2 => by unfold c234; exact decide_eq_false (by omega))) (CA_chg hZ.2.1 hc (fun c q1 q2 => by unfold c234; exact decide_eq_false (by omega))) (Nat.le_refl _)
theorem c234_lo : ∀ c, plo c = false → c234 c = false := fun c h => by
  have := plo_f.1 h
  unfold c234
  exact decide_eq_false (by omega)
theorem p246_hi : ∀ c k, p246 c k → phi c k := fun c k h => by
  unfold p246 at h
  unfold phi
  omega
theorem way_n {a b : Int32} (h : ((decide (0 ≤ a) && decide (a ≤ 60)) && (decide (1 ≤ b) && decide (b ≤ 9))) = true) : ∃ far mo : Nat, a = Int32.ofNat far ∧ b = Int32.ofNat mo ∧ far ≤ 60 ∧ 1 ≤ mo ∧ mo ≤ 9 := by
  rw [Bool.and_eq_true] at h
  have h1 := (in_iff a 0 60).1 h.1
  have h2 := (in_iff b 1 9).1 h.2
  rw [show (0 : Int32).toInt = 0 from rfl, show (60 : Int32).toInt = 60 from rfl] at h1
  rw [show (1 : Int32).toInt = 1 from rfl, show (9 : Int32).toInt = 9 from rfl] at h2
  exact ⟨a.toInt.toNat, b.toInt.toNat, ofN h1.1, ofN (by omega), by omega, by omega, by omega⟩
theorem nxv_t {m : Nat} (h : m < 2147483648) : (nxv m).toInt = (m : Int) - 1 := by
  cases m with
  | zero => decide
  | succ k =>
    show (Int32.ofNat k).toInt = _
    rw [nI_t (by omega)]; omega
theorem b_fewest (hd : 6 ≤ d) (hS : Sim w) (a b : Int32) : Both P d 136 308 [.int a, .int b] w := by
  obtain ⟨Z, h1, h2, h3⟩ := hS
  cases q : ((decide (0 ≤ a) && decide (a ≤ 60)) && (decide (1 ≤ b) && decide (b ≤ 9)))
  · obtain ⟨d, rfl⟩ : ∃ k, d = k + 1 := ⟨d - 1, by omega⟩
    have hd1 : 1 ≤ d := by omega
    have hd2 : 2 ≤ d := by omega
    refine both_q h1 h2 h3 (r := .int (-1)) ?_ ?_
    · rw [rn_136 cz_0]
      cases q1 : (decide (0 ≤ a) && decide (a ≤ 60))
      · simp only [r_within hd1, q1, bd_136, k_0, k_1, k_4294967295, k_60, k_9, nz_1, nz_60, nz_9, v_call, v_cons, v_int, v_loc, v_nil, v_not, v_or, v_z, w_exp0, w_exp1, w_if, w_ret, w_seq, List.getElem?_cons_zero, List.getElem?_cons_succ, List.set_cons_zero, List.set_cons_succ, ee_cmp0, ee_cmp1, ee_cmp2, ee_cmp3, ee_cmp4, ee_cmp5, ee_cmpL0, ee_cmpL1, ee_cmpL2, ee_cmpL3, ee_cmpL4, ee_cmpL5, ee_tru_eb, decide_eq_true_eq, ib_i, ie_b, ie_f, ie_t, ib_l, fin_i, fin_l, fin_v, fin_z, fin_a, fin_n, ee_b_0, ee_fld0, ee_fld1, ee_fld2, ee_fld3, bi_0, bi_1, bi_2, bi_3, bi_4, bi_5, bi_6, bi_7, bi_8, bi_9, bi_10, bl_20, bl_21, bl_22, bl_23, bl_24, bl_25, bl_26, bl_48, bl_49, un_0, un_1, un_2, un_3, if_true, if_false, ite_true, ite_false, Bool.false_eq_true, Bool.not_eq_false, decide_not, Bool.not_not, reduceCtorEq, st_i, st_l, st_r, st_n, ee_noL, ee_noL.eq_1, List.length_cons, List.length_nil, Nat.reduceAdd, Nat.reduceLT, Nat.zero_add, and_true, true_and, and_self, fin_ite, pu_0, pu_1, pu_3, sto_0, el_0, Bool.not_eq_true, decide_eq_false_iff_not, Bool.decide_eq_true, Bool.decide_eq_false, decide_true, decide_false, Bool.not_true, Bool.not_false, Bool.and_self, Bool.and_true, Bool.and_false, Bool.true_and, Bool.false_and, Bool.or_true, Bool.or_false, Bool.true_or, Bool.false_or, if_true, if_false, Bool.false_eq_true]
      · rw [q1, Bool.true_and] at q
        simp only [r_within hd1, q1, q, bd_136, k_0, k_1, k_4294967295, k_60, k_9, nz_1, nz_60, nz_9, v_call, v_cons, v_int, v_loc, v_nil, v_not, v_or, v_z, w_exp0, w_exp1, w_if, w_ret, w_seq, List.getElem?_cons_zero, List.getElem?_cons_succ, List.set_cons_zero, List.set_cons_succ, ee_cmp0, ee_cmp1, ee_cmp2, ee_cmp3, ee_cmp4, ee_cmp5, ee_cmpL0, ee_cmpL1, ee_cmpL2, ee_cmpL3, ee_cmpL4, ee_cmpL5, ee_tru_eb, decide_eq_true_eq, ib_i, ie_b, ie_f, ie_t, ib_l, fin_i, fin_l, fin_v, fin_z, fin_a, fin_n, ee_b_0, ee_fld0, ee_fld1, ee_fld2, ee_fld3, bi_0, bi_1, bi_2, bi_3, bi_4, bi_5, bi_6, bi_7, bi_8, bi_9, bi_10, bl_20, bl_21, bl_22, bl_23, bl_24, bl_25, bl_26, bl_48, bl_49, un_0, un_1, un_2, un_3, if_true, if_false, ite_true, ite_false, Bool.false_eq_true, Bool.not_eq_false, decide_not, Bool.not_not, reduceCtorEq, st_i, st_l, st_r, st_n, ee_noL, ee_noL.eq_1, List.length_cons, List.length_nil, Nat.reduceAdd, Nat.reduceLT, Nat.zero_add, and_true, true_and, and_self, fin_ite, pu_0, pu_1, pu_3, sto_0, el_0, Bool.not_eq_true, decide_eq_false_iff_not, Bool.decide_eq_true, Bool.decide_eq_false, decide_true, decide_false, Bool.not_true, Bool.not_false, Bool.and_self, Bool.and_true, Bool.and_false, Bool.true_and, Bool.false_and, Bool.or_true, Bool.or_false, Bool.true_or, Bool.false_or, if_true, if_false, Bool.false_eq_true]
    · rw [rn_308 mz_0]
      simp only [m_isWay (P := P) hd2, q, bd_308, k_4294967295, v_call, v_cons, v_int, v_loc, v_nil, v_tern, v_z, w_ret, List.getElem?_cons_zero, List.getElem?_cons_succ, List.set_cons_zero, List.set_cons_succ, ee_cmp0, ee_cmp1, ee_cmp2, ee_cmp3, ee_cmp4, ee_cmp5, ee_cmpL0, ee_cmpL1, ee_cmpL2, ee_cmpL3, ee_cmpL4, ee_cmpL5, ee_tru_eb, decide_eq_true_eq, ib_i, ie_b, ie_f, ie_t, ib_l, fin_i, fin_l, fin_v, fin_z, fin_a, fin_n, ee_b_0, ee_fld0, ee_fld1, ee_fld2, ee_fld3, bi_0, bi_1, bi_2, bi_3, bi_4, bi_5, bi_6, bi_7, bi_8, bi_9, bi_10, bl_20, bl_21, bl_22, bl_23, bl_24, bl_25, bl_26, bl_48, bl_49, un_0, un_1, un_2, un_3, if_true, if_false, ite_true, ite_false, Bool.false_eq_true, Bool.not_eq_false, decide_not, Bool.not_not, reduceCtorEq, st_i, st_l, st_r, st_n, ee_noL, ee_noL.eq_1, List.length_cons, List.length_nil, Nat.reduceAdd, Nat.reduceLT, Nat.zero_add, and_true, true_and, and_self, fin_ite, pu_0, pu_1, pu_3, sto_0, el_0, Bool.not_eq_true, decide_eq_false_iff_not, Bool.decide_eq_true, Bool.decide_eq_false, decide_true, decide_false, Bool.not_true, Bool.not_false, Bool.and_self, Bool.and_true, Bool.and_false, Bool.true_and, Bool.false_and, Bool.or_true, Bool.or_false, Bool.true_or, Bool.false_or, if_true, if_false, Bool.false_eq_true, mz_0, mz_1, mz_a, rvs, j_s, j_a, wI_at, Nat.reduceEqDiff, zero_ne_one_n, one_ne_zero_n]
  · obtain ⟨far, mo, rfl, rfl, f1, f2, f3⟩ := way_n q
    obtain ⟨w1, L, c1, c2, c3, c4⟩ := c_fewest (P := P) (w := w) hd f1 f2 f3
    refine both_of (Z' := Z) (r := .int (Int32.ofNat L)) h2 h3 h3 ⟨w1, c1, CZ_234 h1 c4, chg_mono c4 c234_lo⟩ (fun w2 hM => ?_)
    obtain ⟨d, rfl⟩ : ∃ k, d = k + 1 := ⟨d - 1, by omega⟩
    have hd2 : 2 ≤ d := by omega
    obtain ⟨w3, L', m1, m2, m3, m4, m5⟩ := m_lay (P := P) (w := w2) (d := d) (by omega) f1 f2 f3
    rw [ls_un m2 c2] at m1
    refine ⟨w3, ?_, MZ_26 hM h3 m5, chk_mono m5 p246_hi⟩
    rw [rn_308 mz_0]
    simp only [m_isWay (P := P) hd2, q, m1, bd_308, k_4294967295, v_call, v_cons, v_int, v_loc, v_nil, v_tern, v_z, w_ret, List.getElem?_cons_zero, List.getElem?_cons_succ, List.set_cons_zero, List.set_cons_succ, ee_cmp0, ee_cmp1, ee_cmp2, ee_cmp3, ee_cmp4, ee_cmp5, ee_cmpL0, ee_cmpL1, ee_cmpL2, ee_cmpL3, ee_cmpL4, ee_cmpL5, ee_tru_eb, decide_eq_true_eq, ib_i, ie_b, ie_f, ie_t, ib_l, fin_i, fin_l, fin_v, fin_z, fin_a, fin_n, ee_b_0, ee_fld0, ee_fld1, ee_fld2, ee_fld3, bi_0, bi_1, bi_2, bi_3, bi_4, bi_5, bi_6, bi_7, bi_8, bi_9, bi_10, bl_20, bl_21, bl_22, bl_23, bl_24, bl_25, bl_26, bl_48, bl_49, un_0, un_1, un_2, un_3, if_true, if_false, ite_true, ite_false, Bool.false_eq_true, Bool.not_eq_false, decide_not, Bool.not_not, reduceCtorEq, st_i, st_l, st_r, st_n, ee_noL, ee_noL.eq_1, List.length_cons, List.length_nil, Nat.reduceAdd, Nat.reduceLT, Nat.zero_add, and_true, true_and, and_self, fin_ite, pu_0, pu_1, pu_3, sto_0, el_0, Bool.not_eq_true, decide_eq_false_iff_not, Bool.decide_eq_true, Bool.decide_eq_false, decide_true, decide_false, Bool.not_true, Bool.not_false, Bool.and_self, Bool.and_true, Bool.and_false, Bool.true_and, Bool.false_and, Bool.or_true, Bool.or_false, Bool.true_or, Bool.false_or, if_true, if_false, Bool.false_eq_true, mz_0, mz_1, mz_a, rvs, j_s, j_a, wI_at, Nat.reduceEqDiff, zero_ne_one_n, one_ne_zero_n]
theorem b_plan (hd : 7 ≤ d) (hS : Sim w) (a b i : Int32) : Both P d 141 313 [.int a, .int b, .int i] w := by
  obtain ⟨Z, h1, h2, h3⟩ := hS
  cases q : ((decide (0 ≤ a) && decide (a ≤ 60)) && (decide (1 ≤ b) && decide (b ≤ 9)))
  · obtain ⟨d, rfl⟩ : ∃ k, d = k + 1 := ⟨d - 1, by omega⟩
    have hd1 : 1 ≤ d := by omega
    have hd2 : 2 ≤ d := by omega
    have cf : ee_run ee_B P d 136 [.ref 0, .int a, .int b] w = some ([.int (-1)], w) := by
      obtain ⟨d, rfl⟩ : ∃ k, d = k + 1 := ⟨d - 1, by omega⟩
      have hd1 : 1 ≤ d := by omega
      rw [rn_136 cz_0]
      cases q1 : (decide (0 ≤ a) && decide (a ≤ 60))
      · simp only [r_within hd1, q1, bd_136, k_0, k_1, k_4294967295, k_60, k_9, nz_1, nz_60, nz_9, v_call, v_cons, v_int, v_loc, v_nil, v_not, v_or, v_z, w_exp0, w_exp1, w_if, w_ret, w_seq, List.getElem?_cons_zero, List.getElem?_cons_succ, List.set_cons_zero, List.set_cons_succ, ee_cmp0, ee_cmp1, ee_cmp2, ee_cmp3, ee_cmp4, ee_cmp5, ee_cmpL0, ee_cmpL1, ee_cmpL2, ee_cmpL3, ee_cmpL4, ee_cmpL5, ee_tru_eb, decide_eq_true_eq, ib_i, ie_b, ie_f, ie_t, ib_l, fin_i, fin_l, fin_v, fin_z, fin_a, fin_n, ee_b_0, ee_fld0, ee_fld1, ee_fld2, ee_fld3, bi_0, bi_1, bi_2, bi_3, bi_4, bi_5, bi_6, bi_7, bi_8, bi_9, bi_10, bl_20, bl_21, bl_22, bl_23, bl_24, bl_25, bl_26, bl_48, bl_49, un_0, un_1, un_2, un_3, if_true, if_false, ite_true, ite_false, Bool.false_eq_true, Bool.not_eq_false, decide_not, Bool.not_not, reduceCtorEq, st_i, st_l, st_r, st_n, ee_noL, ee_noL.eq_1, List.length_cons, List.length_nil, Nat.reduceAdd, Nat.reduceLT, Nat.zero_add, and_true, true_and, and_self, fin_ite, pu_0, pu_1, pu_3, sto_0, el_0, Bool.not_eq_true, decide_eq_false_iff_not, Bool.decide_eq_true, Bool.decide_eq_false, decide_true, decide_false, Bool.not_true, Bool.not_false, Bool.and_self, Bool.and_true, Bool.and_false, Bool.true_and, Bool.false_and, Bool.or_true, Bool.or_false, Bool.true_or, Bool.false_or, if_true, if_false, Bool.false_eq_true]
      · rw [q1, Bool.true_and] at q
        simp only [r_within hd1, q1, q, bd_136, k_0, k_1, k_4294967295, k_60, k_9, nz_1, nz_60, nz_9, v_call, v_cons, v_int, v_loc, v_nil, v_not, v_or, v_z, w_exp0, w_exp1, w_if, w_ret, w_seq, List.getElem?_cons_zero, List.getElem?_cons_succ, List.set_cons_zero, List.set_cons_succ, ee_cmp0, ee_cmp1, ee_cmp2, ee_cmp3, ee_cmp4, ee_cmp5, ee_cmpL0, ee_cmpL1, ee_cmpL2, ee_cmpL3, ee_cmpL4, ee_cmpL5, ee_tru_eb, decide_eq_true_eq, ib_i, ie_b, ie_f, ie_t, ib_l, fin_i, fin_l, fin_v, fin_z, fin_a, fin_n, ee_b_0, ee_fld0, ee_fld1, ee_fld2, ee_fld3, bi_0, bi_1, bi_2, bi_3, bi_4, bi_5, bi_6, bi_7, bi_8, bi_9, bi_10, bl_20, bl_21, bl_22, bl_23, bl_24, bl_25, bl_26, bl_48, bl_49, un_0, un_1, un_2, un_3, if_true, if_false, ite_true, ite_false, Bool.false_eq_true, Bool.not_eq_false, decide_not, Bool.not_not, reduceCtorEq, st_i, st_l, st_r, st_n, ee_noL, ee_noL.eq_1, List.length_cons, List.length_nil, Nat.reduceAdd, Nat.reduceLT, Nat.zero_add, and_true, true_and, and_self, fin_ite, pu_0, pu_1, pu_3, sto_0, el_0, Bool.not_eq_true, decide_eq_false_iff_not, Bool.decide_eq_true, Bool.decide_eq_false, decide_true, decide_false, Bool.not_true, Bool.not_false, Bool.and_self, Bool.and_true, Bool.and_false, Bool.true_and, Bool.false_and, Bool.or_true, Bool.or_false, Bool.true_or, Bool.false_or, if_true, if_false, Bool.false_eq_true]
    refine both_q h1 h2 h3 (r := .int (-1)) ?_ ?_
    · have e2 : (-1 : Int32) - 1 = -2 := by decide
      have wi : (decide ((0 : Int32) ≤ i) && decide (i ≤ -2)) = false := bf (fun z => by
        have := (in_iff i 0 (-2)).1 z
        rw [show (0 : Int32).toInt = 0 from rfl, show (-2 : Int32).toInt = -2 from rfl] at this
        omega)
      rw [rn_141 cz_0]
      simp only [cf, e2, r_within hd1, wi, be_141, k_0, k_1, k_4294967295, nz_1, v_bin, v_call, v_cmp, v_cons, v_int, v_loc, v_nil, v_not, v_z, w_if, w_inc, w_ret, w_seq, w_set, List.getElem?_cons_zero, List.getElem?_cons_succ, List.set_cons_zero, List.set_cons_succ, ee_cmp0, ee_cmp1, ee_cmp2, ee_cmp3, ee_cmp4, ee_cmp5, ee_cmpL0, ee_cmpL1, ee_cmpL2, ee_cmpL3, ee_cmpL4, ee_cmpL5, ee_tru_eb, decide_eq_true_eq, ib_i, ie_b, ie_f, ie_t, ib_l, fin_i, fin_l, fin_v, fin_z, fin_a, fin_n, ee_b_0, ee_fld0, ee_fld1, ee_fld2, ee_fld3, bi_0, bi_1, bi_2, bi_3, bi_4, bi_5, bi_6, bi_7, bi_8, bi_9, bi_10, bl_20, bl_21, bl_22, bl_23, bl_24, bl_25, bl_26, bl_48, bl_49, un_0, un_1, un_2, un_3, if_true, if_false, ite_true, ite_false, Bool.false_eq_true, Bool.not_eq_false, decide_not, Bool.not_not, reduceCtorEq, st_i, st_l, st_r, st_n, ee_noL, ee_noL.eq_1, List.length_cons, List.length_nil, Nat.reduceAdd, Nat.reduceLT, Nat.zero_add, and_true, true_and, and_self, fin_ite, pu_0, pu_1, pu_3, sto_0, el_0, Bool.not_eq_true, decide_eq_false_iff_not, Bool.decide_eq_true, Bool.decide_eq_false, decide_true, decide_false, Bool.not_true, Bool.not_false, Bool.and_self, Bool.and_true, Bool.and_false, Bool.true_and, Bool.false_and, Bool.or_true, Bool.or_false, Bool.true_or, Bool.false_or, if_true, if_false, Bool.false_eq_true]
    · rw [rn_313 mz_0]
      simp only [m_isWay (P := P) hd2, q, be_313, k_0, k_1, k_4294967295, nz_1, v_bin, v_call, v_cmp, v_cons, v_int, v_loc, v_nil, v_not, v_or, v_z, w_if, w_inc, w_ret, w_seq, w_set, List.getElem?_cons_zero, List.getElem?_cons_succ, List.set_cons_zero, List.set_cons_succ, ee_cmp0, ee_cmp1, ee_cmp2, ee_cmp3, ee_cmp4, ee_cmp5, ee_cmpL0, ee_cmpL1, ee_cmpL2, ee_cmpL3, ee_cmpL4, ee_cmpL5, ee_tru_eb, decide_eq_true_eq, ib_i, ie_b, ie_f, ie_t, ib_l, fin_i, fin_l, fin_v, fin_z, fin_a, fin_n, ee_b_0, ee_fld0, ee_fld1, ee_fld2, ee_fld3, bi_0, bi_1, bi_2, bi_3, bi_4, bi_5, bi_6, bi_7, bi_8, bi_9, bi_10, bl_20, bl_21, bl_22, bl_23, bl_24, bl_25, bl_26, bl_48, bl_49, un_0, un_1, un_2, un_3, if_true, if_false, ite_true, ite_false, Bool.false_eq_true, Bool.not_eq_false, decide_not, Bool.not_not, reduceCtorEq, st_i, st_l, st_r, st_n, ee_noL, ee_noL.eq_1, List.length_cons, List.length_nil, Nat.reduceAdd, Nat.reduceLT, Nat.zero_add, and_true, true_and, and_self, fin_ite, pu_0, pu_1, pu_3, sto_0, el_0, Bool.not_eq_true, decide_eq_false_iff_not, Bool.decide_eq_true, Bool.decide_eq_false, decide_true, decide_false, Bool.not_true, Bool.not_false, Bool.and_self, Bool.and_true, Bool.and_false, Bool.true_and, Bool.false_and, Bool.or_true, Bool.or_false, Bool.true_or, Bool.false_or, if_true, if_false, Bool.false_eq_true, ix_0, ix_1, tc_0, tc_1, mz_0, mz_1, mz_a, rvs, j_s, j_a, wI_at, Nat.reduceEqDiff, zero_ne_one_n, one_ne_zero_n]
  · obtain ⟨far, mo, rfl, rfl, f1, f2, f3⟩ := way_n q
    obtain ⟨d, rfl⟩ : ∃ k, d = k + 1 := ⟨d - 1, by omega⟩
    have hd1 : 1 ≤ d := by omega
    have hd2 : 2 ≤ d := by omega
    obtain ⟨w1, L, c1, c2, c3, c4⟩ := c_fewest (P := P) (w := w) (d := d) (by omega) f1 f2 f3
    have L60 := ls_le f2 c2
    by_cases hi : 0 ≤ i.toInt ∧ i.toInt < L
    · have ei := ofN hi.1
      obtain ⟨k, hk⟩ : ∃ k, i.toInt.toNat = k := ⟨_, rfl⟩
      rw [hk] at ei
      have kL : k < L := by omega
      rw [ei]
      obtain ⟨w1, p1, p2⟩ := c_plan (P := P) (w := w) hd f1 f2 f3 c2 kL
      refine both_of (Z' := Z) h2 h3 h3 ⟨w1, p1, CZ_234 h1 p2, chg_mono p2 c234_lo⟩ (fun w2 hM => ?_)
      obtain ⟨w3, m1, m2⟩ := m_plan (P := P) (w := w2) (d := d + 1) (by omega) f1 f2 f3 c2 kL
      exact ⟨w3, m1, MZ_26 hM h3 m2, chk_mono m2 p246_hi⟩
    · refine both_of (Z' := Z) (r := .int (-1)) h2 h3 h3 ⟨w1, ?_, CZ_234 h1 c4, chg_mono c4 c234_lo⟩ (fun w2 hM => ?_)
      · have wi : (decide ((0 : Int32) ≤ i) && decide (i ≤ nxv L)) = false := bf (fun z => by
          have := (in_iff i 0 (nxv L)).1 z
          rw [nxv_t (show L < 2147483648 by omega), show (0 : Int32).toInt = 0 from rfl] at this
          omega)
        rw [rn_141 cz_0]
        simp only [c1, nxv_1 (show L < 2147483648 by omega), r_within hd1, wi, be_141, k_0, k_1, k_4294967295, nz_1, v_bin, v_call, v_cmp, v_cons, v_int, v_loc, v_nil, v_not, v_z, w_if, w_inc, w_ret, w_seq, w_set, List.getElem?_cons_zero, List.getElem?_cons_succ, List.set_cons_zero, List.set_cons_succ, ee_cmp0, ee_cmp1, ee_cmp2, ee_cmp3, ee_cmp4, ee_cmp5, ee_cmpL0, ee_cmpL1, ee_cmpL2, ee_cmpL3, ee_cmpL4, ee_cmpL5, ee_tru_eb, decide_eq_true_eq, ib_i, ie_b, ie_f, ie_t, ib_l, fin_i, fin_l, fin_v, fin_z, fin_a, fin_n, ee_b_0, ee_fld0, ee_fld1, ee_fld2, ee_fld3, bi_0, bi_1, bi_2, bi_3, bi_4, bi_5, bi_6, bi_7, bi_8, bi_9, bi_10, bl_20, bl_21, bl_22, bl_23, bl_24, bl_25, bl_26, bl_48, bl_49, un_0, un_1, un_2, un_3, if_true, if_false, ite_true, ite_false, Bool.false_eq_true, Bool.not_eq_false, decide_not, Bool.not_not, reduceCtorEq, st_i, st_l, st_r, st_n, ee_noL, ee_noL.eq_1, List.length_cons, List.length_nil, Nat.reduceAdd, Nat.reduceLT, Nat.zero_add, and_true, true_and, and_self, fin_ite, pu_0, pu_1, pu_3, sto_0, el_0, Bool.not_eq_true, decide_eq_false_iff_not, Bool.decide_eq_true, Bool.decide_eq_false, decide_true, decide_false, Bool.not_true, Bool.not_false, Bool.and_self, Bool.and_true, Bool.and_false, Bool.true_and, Bool.false_and, Bool.or_true, Bool.or_false, Bool.true_or, Bool.false_or, if_true, if_false, Bool.false_eq_true]
      · by_cases i0 : i < 0
        · refine ⟨w2, ?_, hM, chk_refl _ _⟩
          rw [rn_313 mz_0]
          simp only [m_isWay (P := P) hd2, q, i0, be_313, k_0, k_1, k_4294967295, nz_1, v_bin, v_call, v_cmp, v_cons, v_int, v_loc, v_nil, v_not, v_or, v_z, w_if, w_inc, w_ret, w_seq, w_set, List.getElem?_cons_zero, List.getElem?_cons_succ, List.set_cons_zero, List.set_cons_succ, ee_cmp0, ee_cmp1, ee_cmp2, ee_cmp3, ee_cmp4, ee_cmp5, ee_cmpL0, ee_cmpL1, ee_cmpL2, ee_cmpL3, ee_cmpL4, ee_cmpL5, ee_tru_eb, decide_eq_true_eq, ib_i, ie_b, ie_f, ie_t, ib_l, fin_i, fin_l, fin_v, fin_z, fin_a, fin_n, ee_b_0, ee_fld0, ee_fld1, ee_fld2, ee_fld3, bi_0, bi_1, bi_2, bi_3, bi_4, bi_5, bi_6, bi_7, bi_8, bi_9, bi_10, bl_20, bl_21, bl_22, bl_23, bl_24, bl_25, bl_26, bl_48, bl_49, un_0, un_1, un_2, un_3, if_true, if_false, ite_true, ite_false, Bool.false_eq_true, Bool.not_eq_false, decide_not, Bool.not_not, reduceCtorEq, st_i, st_l, st_r, st_n, ee_noL, ee_noL.eq_1, List.length_cons, List.length_nil, Nat.reduceAdd, Nat.reduceLT, Nat.zero_add, and_true, true_and, and_self, fin_ite, pu_0, pu_1, pu_3, sto_0, el_0, Bool.not_eq_true, decide_eq_false_iff_not, Bool.decide_eq_true, Bool.decide_eq_false, decide_true, decide_false, Bool.not_true, Bool.not_false, Bool.and_self, Bool.and_true, Bool.and_false, Bool.true_and, Bool.false_and, Bool.or_true, Bool.or_false, Bool.true_or, Bool.false_or, if_true, if_false, Bool.false_eq_true, ix_0, ix_1, tc_0, tc_1, mz_0, mz_1, mz_a, rvs, j_s, j_a, wI_at, Nat.reduceEqDiff, zero_ne_one_n, one_ne_zero_n]
        · obtain ⟨w3, L', m1, m2, m3, m4, m5⟩ := m_lay (P := P) (w := w2) (d := d) (by omega) f1 f2 f3
          rw [ls_un m2 c2] at m1
          have iL : Int32.ofNat L ≤ i := by
            rw [i32_lt, show (0 : Int32).toInt = 0 from rfl] at i0
            rw [i32_le, nI_t (by omega)]
            omega
          refine ⟨w3, ?_, MZ_26 hM h3 m5, chk_mono m5 p246_hi⟩
          rw [rn_313 mz_0]
          simp only [m_isWay (P := P) hd2, q, i0, m1, iL, be_313, k_0, k_1, k_4294967295, nz_1, v_bin, v_call, v_cmp, v_cons, v_int, v_loc, v_nil, v_not, v_or, v_z, w_if, w_inc, w_ret, w_seq, w_set, List.getElem?_cons_zero, List.getElem?_cons_succ, List.set_cons_zero, List.set_cons_succ, ee_cmp0, ee_cmp1, ee_cmp2, ee_cmp3, ee_cmp4, ee_cmp5, ee_cmpL0, ee_cmpL1, ee_cmpL2, ee_cmpL3, ee_cmpL4, ee_cmpL5, ee_tru_eb, decide_eq_true_eq, ib_i, ie_b, ie_f, ie_t, ib_l, fin_i, fin_l, fin_v, fin_z, fin_a, fin_n, ee_b_0, ee_fld0, ee_fld1, ee_fld2, ee_fld3, bi_0, bi_1, bi_2, bi_3, bi_4, bi_5, bi_6, bi_7, bi_8, bi_9, bi_10, bl_20, bl_21, bl_22, bl_23, bl_24, bl_25, bl_26, bl_48, bl_49, un_0, un_1, un_2, un_3, if_true, if_false, ite_true, ite_false, Bool.false_eq_true, Bool.not_eq_false, decide_not, Bool.not_not, reduceCtorEq, st_i, st_l, st_r, st_n, ee_noL, ee_noL.eq_1, List.length_cons, List.length_nil, Nat.reduceAdd, Nat.reduceLT, Nat.zero_add, and_true, true_and, and_self, fin_ite, pu_0, pu_1, pu_3, sto_0, el_0, Bool.not_eq_true, decide_eq_false_iff_not, Bool.decide_eq_true, Bool.decide_eq_false, decide_true, decide_false, Bool.not_true, Bool.not_false, Bool.and_self, Bool.and_true, Bool.and_false, Bool.true_and, Bool.false_and, Bool.or_true, Bool.or_false, Bool.true_or, Bool.false_or, if_true, if_false, Bool.false_eq_true, ix_0, ix_1, tc_0, tc_1, mz_0, mz_1, mz_a, rvs, j_s, j_a, wI_at, Nat.reduceEqDiff, zero_ne_one_n, one_ne_zero_n]
end PLM
