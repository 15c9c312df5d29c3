/-! the reference's best row -/
section ORB
variable {P : Nat → Nat → List Value → ee_W → Option (List Value × ee_W)} {d : Nat} {w : ee_W} {Z : ZX} {g : Nat → Nat} {a n : Nat}
theorem mz_rb : es_rf 236 28 = some 248 := by decide +kernel
theorem mz_rbs : es_sh 248 = (0, 6) := by decide +kernel
def p248 (c _k : Nat) : Prop := c = 247 ∨ c = 248
theorem p248_no (k : Nat) : ¬ p248 237 k := by unfold p248; omega
def RB (w : ee_W) (g : Nat → Nat) (n : Nat) : Prop := ∀ k, k < n → w.1 248 k = Int32.ofNat (g k)
theorem m_best (hd : 3 ≤ d) (hM : MZ w Z) (hq : RQ Z n g) (ha : a < 64) (hf : frm Z = Int32.ofNat a) (vi : Int32) : ∃ w0 w' le b v4, ee_run ee_B P d 323 [.ref 236] w = some ([], w0) ∧
    ee_wh (ee_turn (ee_ev es_sh es_rf (ee_run ee_B P d) lx_322_2) (ee_evS es_sh es_rf (ee_run ee_B P d) lb_322_2)) ([some (.ref 236), some (.int vi), some (.int 1000000), some (.int 1), none], w0) = some (.inl ([some (.ref 236), some (.int vi), some (.int (Int32.ofNat le)), some (.int 0), v4], w')) ∧
    OF n a (oc g n) le b ∧ RB w' b n ∧ chk p248 w w' := by
  have hd2 : 2 ≤ d := by omega
  obtain ⟨q1, q2, q3⟩ := hq
  have m7 : w.1 237 7 / 16 = Int32.ofNat a := by
    rw [show w.1 237 7 = Z.1.1.1 2 from hM.1.2.1.1 2 (by omega) (by omega)]
    exact hf
  have m3 : w.1 237 3 = Int32.ofNat n := by rw [← q1]; exact hM.1.1.2.2.2.1
  have mr : ∀ i, i < n → w.1 237 (32 + i) = Int32.ofNat (g i) := fun i hi => (hM.1.2.2.2.2.2.1 i (by omega)).trans (q3 i hi).1
  obtain ⟨w0, g0, l1, l2, l3, l4, l5⟩ := m_layRow (P := P) hd2 m3 mr (fun i hi => (q3 i hi).2) q2
  have nn : ¬ Int32.ofNat n < Int32.ofNat n := fun y => by have := (j_lt (by omega) (by omega)).1 y; omega
  have hb : ∀ h : Nat → Nat, (∀ t, oc h n t = oc g n t) → ∀ i, i < n → h i < 64 := fun h hh i hi => by
    obtain ⟨p, hp, e⟩ := oc_in hh hi
    rw [← e]; exact (q3 p hp).2
  obtain ⟨r, hr, le, b, x, v4, rfl, f1, f2, f3⟩ := wh_n (f := ee_turn (ee_ev es_sh es_rf (ee_run ee_B P d) lx_322_2) (ee_evS es_sh es_rf (ee_run ee_B P d) lb_322_2))
    (I := fun m y => ∃ le b x v4, (le = 1000000 ∨ RB x b n) ∧ chk p248 w x ∧ le ≤ 1000000 ∧ ((∃ h, m = 68719476736 - vv h n ∧ y = ([some (.ref 236), some (.int vi), some (.int (Int32.ofNat le)), some (.int 1), v4], x) ∧ RW x h n ∧ (∀ t, oc h n t = oc g n t) ∧ OI n a (oc g n) h le b) ∨ (m = 0 ∧ y = ([some (.ref 236), some (.int vi), some (.int (Int32.ofNat le)), some (.int 0), v4], x) ∧ OF n a (oc g n) le b)))
    (Q := fun r => ∃ le b x v4, r = .inl ([some (.ref 236), some (.int vi), some (.int (Int32.ofNat le)), some (.int 0), v4], x) ∧ OF n a (oc g n) le b ∧ RB x b n ∧ chk p248 w x)
    (by
      rintro m y ⟨le, b, x, v4, i1, i2, i0, ⟨h, rfl, rfl, i3, i4, i5⟩ | ⟨rfl, rfl, i3⟩⟩
      · left
        have hh := hb h i4
        have v6 := vv_6 q2 hh
        have e3 : x.1 237 3 = Int32.ofNat n := (i2.1 _ _ (p248_no _)).trans m3
        have e7 : x.1 237 7 / 16 = Int32.ofNat a := by rw [i2.1 _ _ (p248_no _)]; exact m7
        have rl := m_rowLength (P := P) hd2 i3 q2 hh ha e3 e7
        have wb := wl_b n a 0 ha (fun i _ hi => hh i (by omega))
        have cc : Int32.ofNat (wl n a h 0) < Int32.ofNat le ↔ wl n a h 0 < le := j_lt (by omega) (by omega)
        have done : ∀ le' b' x' v4', (le' = 1000000 ∨ RB x' b' n) → chk p248 w x' → le' ≤ 1000000 → RW x' h n → OM n a (oc g n) h le' b' →
            ∃ r x2, ee_run ee_B P d 327 [.ref 236, .int (Int32.ofNat n)] x' = some ([.int r], x2) ∧ ∃ m, m < 68719476736 - vv h n ∧ ∃ le b x v4, (le = 1000000 ∨ RB x b n) ∧ chk p248 w x ∧ le ≤ 1000000 ∧ ((∃ h, m = 68719476736 - vv h n ∧ (([some (.ref 236), some (.int vi), some (.int (Int32.ofNat le')), some (.int r), v4'], x2) : ee_E × ee_W) = ([some (.ref 236), some (.int vi), some (.int (Int32.ofNat le)), some (.int 1), v4], x) ∧ RW x h n ∧ (∀ t, oc h n t = oc g n t) ∧ OI n a (oc g n) h le b) ∨ (m = 0 ∧ (([some (.ref 236), some (.int vi), some (.int (Int32.ofNat le')), some (.int r), v4'], x2) : ee_E × ee_W) = ([some (.ref 236), some (.int vi), some (.int (Int32.ofNat le)), some (.int 0), v4], x) ∧ OF n a (oc g n) le b)) := by
          intro le' b' x' v4' j1 j2 j0 j3 j4
          rcases m_isNext (P := P) hd2 j3 q2 hh with ⟨k1, k2⟩ | ⟨x2, i, k, k1, k2, k3, k4, k5, k6, k7, k8, k9⟩
          · exact ⟨0, x', k1, 0, by omega, le', b', x', v4', j1, j2, j0, Or.inr ⟨rfl, rfl, OM_last j4 (fun q hq => lx_last k2 (fun t => (hq t).trans (i4 t).symm))⟩⟩
          · have ll1 := nxr_ll (g := h) k2 k3 k4
            have lv := vv_lt n ll1 hh
            have v7 := vv_6 q2 (hb (nxr h n i k) (fun t => (k8 t).trans (i4 t)))
            refine ⟨1, x2, k1, 68719476736 - vv (nxr h n i k) n, by omega, le', b', x2, v4', j1.imp id (fun j1 y hy => (k9.1 _ _ (by unfold p247; omega)).trans (j1 y hy)), chk_trans j2 (chk_mono k9 (fun c k z => Or.inl z)), j0, Or.inl ⟨nxr h n i k, rfl, rfl, k7, fun t => (k8 t).trans (i4 t), OM_next j4 ll1 (fun q hq hl => nxr_no k5 k2 k3 k4 k6 k8 (fun t => (hq t).trans (i4 t).symm) hl)⟩⟩
        by_cases c : wl n a h 0 < le
        · obtain ⟨x1, hc, c1, c2, c3⟩ := for_a (x := ee_ev es_sh es_rf (ee_run ee_B P d) lx_322_1) (b := ee_evS es_sh es_rf (ee_run ee_B P d) lb_322_1)
            (fun k (z : ee_W) => (([some (.ref 236), some (.int vi), some (.int (Int32.ofNat (wl n a h 0))), some (.int 1), some (.int (Int32.ofNat k))], z) : ee_E × ee_W)) n
            (fun k z => (∀ j, j < k → z.1 248 j = Int32.ofNat (h j)) ∧ RW z h n ∧ chk p248 w z)
            (by
              rintro k z hk ⟨e1, e2, e4⟩
              have h9 : Int32.ofNat k < Int32.ofNat n := (j_lt (by omega) (by omega)).2 hk
              have e3 : z.1 237 3 = Int32.ofNat n := (e4.1 _ _ (p248_no _)).trans m3
              have x1 : ee_ix (Int32.ofNat k) 6 = true := by rw [ixn (by omega)]; exact decide_eq_true (by omega)
              have v := e2 k hk
              refine ⟨ee_wI z 248 k (Int32.ofNat (h k)), ?_, fun j hj => ?_, fun j hj => ?_, chk_I (Or.inr rfl) e4⟩
              · simp only [h9, e3, x1, v, tnc (show k < 2147483648 by omega), mz_rw, mz_rws, mz_rb, mz_rbs, lx_322_1, lb_322_1, ee_turn, k_0, k_1, k_1000000, k_3, k_4294967294, k_4294967295, nz_1, nz_1000000, nz_3, v_bin, v_call, v_cmp, v_cons, v_get, v_idx, v_int, v_loc, v_nil, v_not, v_tern, v_z, w_exp0, w_exp1, w_if, w_inc, w_ret, w_seq, w_set, w_skip, w_sto, List.getElem?_cons_zero, List.getElem?_cons_succ, List.set_cons_zero, List.set_cons_succ, ee_cmp0, ee_cmp1, ee_cmp2, ee_cmp3, ee_cmp4, ee_cmp5, ee_cmpL0, ee_cmpL1, ee_cmpL2, ee_cmpL3, ee_cmpL4, ee_cmpL5, ee_tru_eb, decide_eq_true_eq, ib_i, ie_b, ie_f, ie_t, ib_l, fin_i, fin_l, fin_v, fin_z, fin_a, fin_n, ee_b_0, ee_fld0, ee_fld1, ee_fld2, ee_fld3, bi_0, bi_1, bi_2, bi_3, bi_4, bi_5, bi_6, bi_7, bi_8, bi_9, bi_10, bl_20, bl_21, bl_22, bl_23, bl_24, bl_25, bl_26, bl_48, bl_49, un_0, un_1, un_2, un_3, if_true, if_false, ite_true, ite_false, Bool.false_eq_true, Bool.not_eq_false, decide_not, Bool.not_not, reduceCtorEq, st_i, st_l, st_r, st_n, ee_noL, ee_noL.eq_1, List.length_cons, List.length_nil, Nat.reduceAdd, Nat.reduceLT, Nat.zero_add, and_true, true_and, and_self, fin_ite, pu_0, pu_1, pu_3, sto_0, el_0, Bool.not_eq_true, decide_eq_false_iff_not, Bool.decide_eq_true, Bool.decide_eq_false, decide_true, decide_false, Bool.not_true, Bool.not_false, Bool.and_self, Bool.and_true, Bool.and_false, Bool.true_and, Bool.false_and, Bool.or_true, Bool.or_false, Bool.true_or, Bool.false_or, if_true, if_false, Bool.false_eq_true, tc_0, ix_0, tc_1, ix_1, tc_1000000, ix_1000000, tc_3, ix_3, mz_0, mz_1, mz_a, rvs, j_s, j_a, wI_at, Nat.reduceEqDiff, zero_ne_one_n, one_ne_zero_n]
              · rw [wI_at]
                by_cases y : j = k
                · rw [if_pos ⟨rfl, y⟩, y]
                · rw [if_neg (fun z => y z.2)]; exact e1 j (by omega)
              · rw [wI_at, if_neg (by omega)]; exact e2 j hj)
            (by
              rintro z ⟨-, -, e4⟩
              have e3 : z.1 237 3 = Int32.ofNat n := (e4.1 _ _ (p248_no _)).trans m3
              simp only [nn, e3, lx_322_1, lb_322_1, ee_turn, k_0, k_1, k_1000000, k_3, k_4294967294, k_4294967295, nz_1, nz_1000000, nz_3, v_bin, v_call, v_cmp, v_cons, v_get, v_idx, v_int, v_loc, v_nil, v_not, v_tern, v_z, w_exp0, w_exp1, w_if, w_inc, w_ret, w_seq, w_set, w_skip, w_sto, List.getElem?_cons_zero, List.getElem?_cons_succ, List.set_cons_zero, List.set_cons_succ, ee_cmp0, ee_cmp1, ee_cmp2, ee_cmp3, ee_cmp4, ee_cmp5, ee_cmpL0, ee_cmpL1, ee_cmpL2, ee_cmpL3, ee_cmpL4, ee_cmpL5, ee_tru_eb, decide_eq_true_eq, ib_i, ie_b, ie_f, ie_t, ib_l, fin_i, fin_l, fin_v, fin_z, fin_a, fin_n, ee_b_0, ee_fld0, ee_fld1, ee_fld2, ee_fld3, bi_0, bi_1, bi_2, bi_3, bi_4, bi_5, bi_6, bi_7, bi_8, bi_9, bi_10, bl_20, bl_21, bl_22, bl_23, bl_24, bl_25, bl_26, bl_48, bl_49, un_0, un_1, un_2, un_3, if_true, if_false, ite_true, ite_false, Bool.false_eq_true, Bool.not_eq_false, decide_not, Bool.not_not, reduceCtorEq, st_i, st_l, st_r, st_n, ee_noL, ee_noL.eq_1, List.length_cons, List.length_nil, Nat.reduceAdd, Nat.reduceLT, Nat.zero_add, and_true, true_and, and_self, fin_ite, pu_0, pu_1, pu_3, sto_0, el_0, Bool.not_eq_true, decide_eq_false_iff_not, Bool.decide_eq_true, Bool.decide_eq_false, decide_true, decide_false, Bool.not_true, Bool.not_false, Bool.and_self, Bool.and_true, Bool.and_false, Bool.true_and, Bool.false_and, Bool.or_true, Bool.or_false, Bool.true_or, Bool.false_or, if_true, if_false, Bool.false_eq_true, tc_0, ix_0, tc_1, ix_1, tc_1000000, ix_1000000, tc_3, ix_3, mz_0, mz_1, mz_a, rvs, j_s, j_a, wI_at, Nat.reduceEqDiff, zero_ne_one_n, one_ne_zero_n])
            n 0 x (by omega) ⟨fun j hj => by omega, i3, i2⟩
          rw [k_0] at hc
          have e3' : x1.1 237 3 = Int32.ofNat n := (c3.1 _ _ (p248_no _)).trans m3
          obtain ⟨r, x2, n1, m, n2, n3⟩ := done (wl n a h 0) h x1 (some (.int (Int32.ofNat n))) (Or.inr c1) c3 (by omega) c2 (OI_better i5 i4 (by omega) c)
          refine ⟨([some (.ref 236), some (.int vi), some (.int (Int32.ofNat (wl n a h 0))), some (.int r), some (.int (Int32.ofNat n))], x2), m, ?_, n2, n3⟩
          simp only [rl, cc, c, w_while, hc, e3', n1, lx_322_2, lb_322_2, ee_turn, k_0, k_1, k_1000000, k_3, k_4294967294, k_4294967295, nz_1, nz_1000000, nz_3, v_bin, v_call, v_cmp, v_cons, v_get, v_idx, v_int, v_loc, v_nil, v_not, v_tern, v_z, w_exp0, w_exp1, w_if, w_inc, w_ret, w_seq, w_set, w_skip, w_sto, List.getElem?_cons_zero, List.getElem?_cons_succ, List.set_cons_zero, List.set_cons_succ, ee_cmp0, ee_cmp1, ee_cmp2, ee_cmp3, ee_cmp4, ee_cmp5, ee_cmpL0, ee_cmpL1, ee_cmpL2, ee_cmpL3, ee_cmpL4, ee_cmpL5, ee_tru_eb, decide_eq_true_eq, ib_i, ie_b, ie_f, ie_t, ib_l, fin_i, fin_l, fin_v, fin_z, fin_a, fin_n, ee_b_0, ee_fld0, ee_fld1, ee_fld2, ee_fld3, bi_0, bi_1, bi_2, bi_3, bi_4, bi_5, bi_6, bi_7, bi_8, bi_9, bi_10, bl_20, bl_21, bl_22, bl_23, bl_24, bl_25, bl_26, bl_48, bl_49, un_0, un_1, un_2, un_3, if_true, if_false, ite_true, ite_false, Bool.false_eq_true, Bool.not_eq_false, decide_not, Bool.not_not, reduceCtorEq, st_i, st_l, st_r, st_n, ee_noL, ee_noL.eq_1, List.length_cons, List.length_nil, Nat.reduceAdd, Nat.reduceLT, Nat.zero_add, and_true, true_and, and_self, fin_ite, pu_0, pu_1, pu_3, sto_0, el_0, Bool.not_eq_true, decide_eq_false_iff_not, Bool.decide_eq_true, Bool.decide_eq_false, decide_true, decide_false, Bool.not_true, Bool.not_false, Bool.and_self, Bool.and_true, Bool.and_false, Bool.true_and, Bool.false_and, Bool.or_true, Bool.or_false, Bool.true_or, Bool.false_or, if_true, if_false, Bool.false_eq_true, tc_0, ix_0, tc_1, ix_1, tc_1000000, ix_1000000, tc_3, ix_3, mz_0, mz_1, mz_a, rvs, j_s, j_a, wI_at, Nat.reduceEqDiff, zero_ne_one_n, one_ne_zero_n]
        · obtain ⟨r, x2, n1, m, n2, n3⟩ := done le b x v4 i1 i2 i0 i3 (OI_worse i5 (by omega) c)
          refine ⟨([some (.ref 236), some (.int vi), some (.int (Int32.ofNat le)), some (.int r), v4], x2), m, ?_, n2, n3⟩
          simp only [rl, cc, c, e3, n1, lx_322_2, lb_322_2, ee_turn, k_0, k_1, k_1000000, k_3, k_4294967294, k_4294967295, nz_1, nz_1000000, nz_3, v_bin, v_call, v_cmp, v_cons, v_get, v_idx, v_int, v_loc, v_nil, v_not, v_tern, v_z, w_exp0, w_exp1, w_if, w_inc, w_ret, w_seq, w_set, w_skip, w_sto, List.getElem?_cons_zero, List.getElem?_cons_succ, List.set_cons_zero, List.set_cons_succ, ee_cmp0, ee_cmp1, ee_cmp2, ee_cmp3, ee_cmp4, ee_cmp5, ee_cmpL0, ee_cmpL1, ee_cmpL2, ee_cmpL3, ee_cmpL4, ee_cmpL5, ee_tru_eb, decide_eq_true_eq, ib_i, ie_b, ie_f, ie_t, ib_l, fin_i, fin_l, fin_v, fin_z, fin_a, fin_n, ee_b_0, ee_fld0, ee_fld1, ee_fld2, ee_fld3, bi_0, bi_1, bi_2, bi_3, bi_4, bi_5, bi_6, bi_7, bi_8, bi_9, bi_10, bl_20, bl_21, bl_22, bl_23, bl_24, bl_25, bl_26, bl_48, bl_49, un_0, un_1, un_2, un_3, if_true, if_false, ite_true, ite_false, Bool.false_eq_true, Bool.not_eq_false, decide_not, Bool.not_not, reduceCtorEq, st_i, st_l, st_r, st_n, ee_noL, ee_noL.eq_1, List.length_cons, List.length_nil, Nat.reduceAdd, Nat.reduceLT, Nat.zero_add, and_true, true_and, and_self, fin_ite, pu_0, pu_1, pu_3, sto_0, el_0, Bool.not_eq_true, decide_eq_false_iff_not, Bool.decide_eq_true, Bool.decide_eq_false, decide_true, decide_false, Bool.not_true, Bool.not_false, Bool.and_self, Bool.and_true, Bool.and_false, Bool.true_and, Bool.false_and, Bool.or_true, Bool.or_false, Bool.true_or, Bool.false_or, if_true, if_false, Bool.false_eq_true, tc_0, ix_0, tc_1, ix_1, tc_1000000, ix_1000000, tc_3, ix_3, mz_0, mz_1, mz_a, rvs, j_s, j_a, wI_at, Nat.reduceEqDiff, zero_ne_one_n, one_ne_zero_n]
      · right
        have ib : RB x b n := by
          rcases i1 with i1 | i1
          · have := wl_b n a 0 ha (fun i _ hi => hb b i3.1 i (by omega))
            have := i3.2.1
            omega
          · exact i1
        refine ⟨_, ?_, le, b, x, v4, rfl, i3, ib, i2⟩
        simp only [lx_322_2, lb_322_2, ee_turn, k_0, k_1, k_1000000, k_3, k_4294967294, k_4294967295, nz_1, nz_1000000, nz_3, v_bin, v_call, v_cmp, v_cons, v_get, v_idx, v_int, v_loc, v_nil, v_not, v_tern, v_z, w_exp0, w_exp1, w_if, w_inc, w_ret, w_seq, w_set, w_skip, w_sto, List.getElem?_cons_zero, List.getElem?_cons_succ, List.set_cons_zero, List.set_cons_succ, ee_cmp0, ee_cmp1, ee_cmp2, ee_cmp3, ee_cmp4, ee_cmp5, ee_cmpL0, ee_cmpL1, ee_cmpL2, ee_cmpL3, ee_cmpL4, ee_cmpL5, ee_tru_eb, decide_eq_true_eq, ib_i, ie_b, ie_f, ie_t, ib_l, fin_i, fin_l, fin_v, fin_z, fin_a, fin_n, ee_b_0, ee_fld0, ee_fld1, ee_fld2, ee_fld3, bi_0, bi_1, bi_2, bi_3, bi_4, bi_5, bi_6, bi_7, bi_8, bi_9, bi_10, bl_20, bl_21, bl_22, bl_23, bl_24, bl_25, bl_26, bl_48, bl_49, un_0, un_1, un_2, un_3, if_true, if_false, ite_true, ite_false, Bool.false_eq_true, Bool.not_eq_false, decide_not, Bool.not_not, reduceCtorEq, st_i, st_l, st_r, st_n, ee_noL, ee_noL.eq_1, List.length_cons, List.length_nil, Nat.reduceAdd, Nat.reduceLT, Nat.zero_add, and_true, true_and, and_self, fin_ite, pu_0, pu_1, pu_3, sto_0, el_0, Bool.not_eq_true, decide_eq_false_iff_not, Bool.decide_eq_true, Bool.decide_eq_false, decide_true, decide_false, Bool.not_true, Bool.not_false, Bool.and_self, Bool.and_true, Bool.and_false, Bool.true_and, Bool.false_and, Bool.or_true, Bool.or_false, Bool.true_or, Bool.false_or, if_true, if_false, Bool.false_eq_true, tc_0, ix_0, tc_1, ix_1, tc_1000000, ix_1000000, tc_3, ix_3, mz_0, mz_1, mz_a, rvs, j_s, j_a, wI_at, Nat.reduceEqDiff, zero_ne_one_n, one_ne_zero_n])
    (68719476736 - vv g0 n) ([some (.ref 236), some (.int vi), some (.int (Int32.ofNat 1000000)), some (.int 1), none], w0)
    ⟨1000000, g0, w0, none, Or.inl rfl, chk_mono l5 (fun c k z => Or.inl z), Nat.le_refl _, Or.inl ⟨g0, rfl, rfl, l2, l3, Or.inl ⟨rfl, fun q hq => lx_first l4 (fun t => (hq t).trans (l3 t).symm)⟩⟩⟩
  rw [show Int32.ofNat 1000000 = 1000000 from rfl] at hr
  exact ⟨w0, x, le, b, v4, l1, hr, f1, f2, f3⟩
end ORB
