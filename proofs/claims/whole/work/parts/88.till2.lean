/-! till on both sides -/
section BI
variable {P : Nat → Nat → List Value → ee_W → Option (List Value × ee_W)} {d : Nat} {w : ee_W} {Z : ZX} {X : HX}
def zg (Z : ZX) (t : Int32) (k : Nat) : Bool := decide (3 ≤ (zt Z (xaim Z.1.1 t) k).1 6)
theorem fs_n (q : Nat → Bool) (lo m : Nat) : fs q lo (m + 1) = if q lo = true then some lo else fs q (lo + 1) m := rfl
theorem fs_z (q : Nat → Bool) (lo : Nat) : fs q lo 0 = none := rfl
theorem xaim_1 (X : HX) (t : Int32) : (xaim X t).1 = up (up X.1 4 t) 6 0 := by
  unfold xaim
  rw [xnote_1]
theorem b_till (hd : 12 ≤ d) (hS : Sim w) (t : Int32) : Both P d 113 284 [.int t] w := by
  obtain ⟨Z, h1, h2, h3⟩ := hS
  obtain ⟨d, rfl⟩ : ∃ k, d = k + 1 := ⟨d - 1, by omega⟩
  have hd1 : 1 ≤ d := by omega
  have hd2 : 2 ≤ d := by omega
  have hd3 : 3 ≤ d := by omega
  have hd8 : 8 ≤ d := by omega
  have hd10 : 10 ≤ d := by omega
  have em := fun (w : ee_W) => r_isTrackM (P := P) (w := w) hd2 t
  simp only [i63] at em
  cases q : (decide (0 ≤ t) && decide (t < 64))
  · refine both_q h1 h2 h3 (r := .int (-1)) ?_ ?_
    · rw [rn_113 cz_0]; simp only [r_isTrack hd1, q, be_113, k_1, k_200, k_4294967295, nz_1, nz_200, v_call, v_cmp, v_cons, v_get, v_int, v_loc, v_nil, v_not, v_z, w_exp0, w_exp1, w_if, w_inc, w_ret, w_seq, w_set, w_skip, List.getElem?_cons_zero, List.getElem?_cons_succ, List.set_cons_zero, List.set_cons_succ, ee_cmp0, ee_cmp1, ee_cmp2, ee_cmp3, ee_cmp4, ee_cmp5, ee_cmpL0, ee_cmpL1, ee_cmpL2, ee_cmpL3, ee_cmpL4, ee_cmpL5, ee_tru_eb, decide_eq_true_eq, ib_i, ie_b, ie_f, ie_t, ib_l, fin_i, fin_l, fin_v, fin_z, fin_a, fin_n, ee_b_0, ee_fld0, ee_fld1, ee_fld2, ee_fld3, bi_0, bi_1, bi_2, bi_3, bi_4, bi_5, bi_6, bi_7, bi_8, bi_9, bi_10, bl_20, bl_21, bl_22, bl_23, bl_24, bl_25, bl_26, bl_48, bl_49, un_0, un_1, un_2, un_3, if_true, if_false, ite_true, ite_false, Bool.false_eq_true, Bool.not_eq_false, decide_not, Bool.not_not, reduceCtorEq, st_i, st_l, st_r, st_n, ee_noL, ee_noL.eq_1, List.length_cons, List.length_nil, Nat.reduceAdd, Nat.reduceLT, Nat.zero_add, and_true, true_and, and_self, fin_ite, pu_0, pu_1, pu_3, sto_0, el_0, Bool.not_eq_true, decide_eq_false_iff_not, Bool.decide_eq_true, Bool.decide_eq_false, decide_true, decide_false, Bool.not_true, Bool.not_false, Bool.and_self, Bool.and_true, Bool.and_false, Bool.true_and, Bool.false_and, Bool.or_true, Bool.or_false, Bool.true_or, Bool.false_or, if_true, if_false, Bool.false_eq_true]
    · rw [rn_284 mz_0]; simp only [em, q, be_284, k_0, k_11, k_200, k_3, k_4294967295, k_9, nz_11, nz_200, nz_3, nz_9, v_and, v_call, v_cmp, v_cons, v_get, v_idx, v_int, v_loc, v_mat, v_nil, v_not, v_tern, v_z, w_exp0, w_exp1, w_if, w_inc, w_ret, w_seq, w_set, w_sto, List.getElem?_cons_zero, List.getElem?_cons_succ, List.set_cons_zero, List.set_cons_succ, ee_cmp0, ee_cmp1, ee_cmp2, ee_cmp3, ee_cmp4, ee_cmp5, ee_cmpL0, ee_cmpL1, ee_cmpL2, ee_cmpL3, ee_cmpL4, ee_cmpL5, ee_tru_eb, decide_eq_true_eq, ib_i, ie_b, ie_f, ie_t, ib_l, fin_i, fin_l, fin_v, fin_z, fin_a, fin_n, ee_b_0, ee_fld0, ee_fld1, ee_fld2, ee_fld3, bi_0, bi_1, bi_2, bi_3, bi_4, bi_5, bi_6, bi_7, bi_8, bi_9, bi_10, bl_20, bl_21, bl_22, bl_23, bl_24, bl_25, bl_26, bl_48, bl_49, un_0, un_1, un_2, un_3, if_true, if_false, ite_true, ite_false, Bool.false_eq_true, Bool.not_eq_false, decide_not, Bool.not_not, reduceCtorEq, st_i, st_l, st_r, st_n, ee_noL, ee_noL.eq_1, List.length_cons, List.length_nil, Nat.reduceAdd, Nat.reduceLT, Nat.zero_add, and_true, true_and, and_self, fin_ite, pu_0, pu_1, pu_3, sto_0, el_0, Bool.not_eq_true, decide_eq_false_iff_not, Bool.decide_eq_true, Bool.decide_eq_false, decide_true, decide_false, Bool.not_true, Bool.not_false, Bool.and_self, Bool.and_true, Bool.and_false, Bool.true_and, Bool.false_and, Bool.or_true, Bool.or_false, Bool.true_or, Bool.false_or, if_true, if_false, Bool.false_eq_true, ix_0, ix_11, ix_200, ix_3, ix_9, tc_0, tc_11, tc_200, tc_3, tc_9, mz_0, mz_1, mz_a, rvs, j_s, j_a, wI_at, Nat.reduceEqDiff, zero_ne_one_n, one_ne_zero_n]
  · have ht := (in_iff t 0 63).1 (by rw [i63]; exact q)
    have hb : bI t 0 63 := ⟨ht.1, ht.2⟩
    have c0 := h3.1.1.1.1.1
    have c9 := h3.1.1.2.2.1
    have wfX : wfS (xaim Z.1.1 t).1 := by rw [xaim_1]; exact wf_up (wf_up h3.1.1.1 4 hb) 6 (zb (by omega) (by omega))
    have nX : (xaim Z.1.1 t).2.1 ≤ 25 := by
      unfold xaim
      exact xnote_le2 _ _ h3.1.1.2.1 _ _
    have e00 : (xaim Z.1.1 t).1 0 = Z.1.1.1 0 := by rw [xaim_1, up_at, if_neg (by omega), up_at, if_neg (by omega)]
    have e06 : (xaim Z.1.1 t).1 6 = 0 := by rw [xaim_1, up_at, if_pos rfl]
    have zwf : ∀ k : Nat, k ≤ 200 → wfS (zt Z (xaim Z.1.1 t) k).1 ∧ (zt Z (xaim Z.1.1 t) k).2.1 ≤ 25 := fun k hk => by
      obtain ⟨i1, i2, -⟩ := zt_wf (Z := Z) wfX nX k (by rw [e00]; omega)
      exact ⟨i1, i2⟩
    have g0 : zg Z t 0 = false := by
      unfold zg
      rw [zt_0, e06]
      decide
    refine both_of h2 h3 h3 (r := .int (oI (fs (zg Z t) 1 200))) ?_ ?_
    · obtain ⟨w1, n1, n2, n3⟩ := c_copyFrom (P := P) hd1 hd_222 hd2_ok (by omega) h1.1.1 h3.1.1.2.1
      obtain ⟨w2, m1, m2, m3⟩ := c_aim (P := P) hd3 hd_222 n2 h3.1.1.2.1 t
      obtain ⟨r, hr, hq⟩ := wh_n (f := ee_turn (ee_ev es_sh es_rf (ee_run ee_B P d) lx_113_1) (ee_evS es_sh es_rf (ee_run ee_B P d) lb_113_1))
        (I := fun m x => ∃ k, m = 200 - k ∧ k ≤ 200 ∧ x.1 = [some (.ref 0), some (.int t), some (.int (Int32.ofNat (k + 1)))] ∧ CH x.2 222 (zt Z (xaim Z.1.1 t) k) ∧ chg (smrg 222) w x.2 ∧ fs (zg Z t) (k + 1) (200 - k) = fs (zg Z t) 1 200)
        (Q := fun r => ∃ w', ((∃ env', r = .inl (env', w') ∧ fs (zg Z t) 1 200 = none) ∨ (∃ k, fs (zg Z t) 1 200 = some k ∧ r = .inr ([.int (Int32.ofNat k)], w'))) ∧ chg (smrg 222) w w')
        (by
          rintro m ⟨env, x⟩ ⟨k, rfl, hk, he, hz, hcc, hf⟩
          dsimp only at he hz hcc
          subst he
          have h9 : (Int32.ofNat (k + 1) ≤ 200) ↔ k + 1 ≤ 200 := j_le (b := 200) (by omega) (by omega)
          by_cases g : k < 200
          · have g' : k + 1 ≤ 200 := by omega
            obtain ⟨i1, i2⟩ := zwf k (by omega)
            obtain ⟨w2, m1, m2, m3⟩ := c_trial (P := P) hd8 h1 h3 hcc hz i2 i1.1.1
            rw [← zt_s] at m2
            have go := c_gateOpen (P := P) hd1 hd_222 m2
            have go2 : decide (3 ≤ (zt Z (xaim Z.1.1 t) (k + 1)).1 6) = zg Z t (k + 1) := rfl
            rw [go2] at go
            obtain ⟨m', hm'⟩ : ∃ m', 200 - k = m' + 1 := ⟨200 - k - 1, by omega⟩
            rw [hm', fs_n] at hf
            cases b : zg Z t (k + 1)
            · left
              rw [b] at go
              rw [b, if_neg (by decide)] at hf
              refine ⟨([some (.ref 0), some (.int t), some (.int (Int32.ofNat (k + 1 + 1)))], w2), 200 - (k + 1), ?_, by omega, k + 1, rfl, by omega, rfl, m2, m3, ?_⟩
              · simp only [h9, g', m1, go, j_s, j_a, cz_0, cz_r3, rvs, lx_113_1, lb_113_1, ee_turn, k_1, k_200, k_4294967295, nz_1, nz_200, v_call, v_cmp, v_cons, v_get, v_int, v_loc, v_nil, v_not, v_z, w_exp0, w_exp1, w_if, w_inc, w_ret, w_seq, w_set, w_skip, List.getElem?_cons_zero, List.getElem?_cons_succ, List.set_cons_zero, List.set_cons_succ, ee_cmp0, ee_cmp1, ee_cmp2, ee_cmp3, ee_cmp4, ee_cmp5, ee_cmpL0, ee_cmpL1, ee_cmpL2, ee_cmpL3, ee_cmpL4, ee_cmpL5, ee_tru_eb, decide_eq_true_eq, ib_i, ie_b, ie_f, ie_t, ib_l, fin_i, fin_l, fin_v, fin_z, fin_a, fin_n, ee_b_0, ee_fld0, ee_fld1, ee_fld2, ee_fld3, bi_0, bi_1, bi_2, bi_3, bi_4, bi_5, bi_6, bi_7, bi_8, bi_9, bi_10, bl_20, bl_21, bl_22, bl_23, bl_24, bl_25, bl_26, bl_48, bl_49, un_0, un_1, un_2, un_3, if_true, if_false, ite_true, ite_false, Bool.false_eq_true, Bool.not_eq_false, decide_not, Bool.not_not, reduceCtorEq, st_i, st_l, st_r, st_n, ee_noL, ee_noL.eq_1, List.length_cons, List.length_nil, Nat.reduceAdd, Nat.reduceLT, Nat.zero_add, and_true, true_and, and_self, fin_ite, pu_0, pu_1, pu_3, sto_0, el_0, Bool.not_eq_true, decide_eq_false_iff_not, Bool.decide_eq_true, Bool.decide_eq_false, decide_true, decide_false, Bool.not_true, Bool.not_false, Bool.and_self, Bool.and_true, Bool.and_false, Bool.true_and, Bool.false_and, Bool.or_true, Bool.or_false, Bool.true_or, Bool.false_or, if_true, if_false, Bool.false_eq_true]
              · rw [show 200 - (k + 1) = m' by omega]; exact hf
            · right
              rw [b] at go
              rw [b, if_pos rfl] at hf
              refine ⟨.inr ([.int (Int32.ofNat (k + 1))], w2), ?_, w2, Or.inr ⟨k + 1, hf.symm, rfl⟩, m3⟩
              simp only [h9, g', m1, go, j_s, j_a, cz_0, cz_r3, rvs, lx_113_1, lb_113_1, ee_turn, k_1, k_200, k_4294967295, nz_1, nz_200, v_call, v_cmp, v_cons, v_get, v_int, v_loc, v_nil, v_not, v_z, w_exp0, w_exp1, w_if, w_inc, w_ret, w_seq, w_set, w_skip, List.getElem?_cons_zero, List.getElem?_cons_succ, List.set_cons_zero, List.set_cons_succ, ee_cmp0, ee_cmp1, ee_cmp2, ee_cmp3, ee_cmp4, ee_cmp5, ee_cmpL0, ee_cmpL1, ee_cmpL2, ee_cmpL3, ee_cmpL4, ee_cmpL5, ee_tru_eb, decide_eq_true_eq, ib_i, ie_b, ie_f, ie_t, ib_l, fin_i, fin_l, fin_v, fin_z, fin_a, fin_n, ee_b_0, ee_fld0, ee_fld1, ee_fld2, ee_fld3, bi_0, bi_1, bi_2, bi_3, bi_4, bi_5, bi_6, bi_7, bi_8, bi_9, bi_10, bl_20, bl_21, bl_22, bl_23, bl_24, bl_25, bl_26, bl_48, bl_49, un_0, un_1, un_2, un_3, if_true, if_false, ite_true, ite_false, Bool.false_eq_true, Bool.not_eq_false, decide_not, Bool.not_not, reduceCtorEq, st_i, st_l, st_r, st_n, ee_noL, ee_noL.eq_1, List.length_cons, List.length_nil, Nat.reduceAdd, Nat.reduceLT, Nat.zero_add, and_true, true_and, and_self, fin_ite, pu_0, pu_1, pu_3, sto_0, el_0, Bool.not_eq_true, decide_eq_false_iff_not, Bool.decide_eq_true, Bool.decide_eq_false, decide_true, decide_false, Bool.not_true, Bool.not_false, Bool.and_self, Bool.and_true, Bool.and_false, Bool.true_and, Bool.false_and, Bool.or_true, Bool.or_false, Bool.true_or, Bool.false_or, if_true, if_false, Bool.false_eq_true]
          · right
            have hk2 : k = 200 := by omega
            subst hk2
            have g' : ¬ 200 + 1 ≤ 200 := by omega
            refine ⟨.inl ([some (.ref 0), some (.int t), some (.int (Int32.ofNat (200 + 1)))], x), ?_, x, Or.inl ⟨_, rfl, ?_⟩, hcc⟩
            · simp only [h9, g', lx_113_1, lb_113_1, ee_turn, k_1, k_200, k_4294967295, nz_1, nz_200, v_call, v_cmp, v_cons, v_get, v_int, v_loc, v_nil, v_not, v_z, w_exp0, w_exp1, w_if, w_inc, w_ret, w_seq, w_set, w_skip, List.getElem?_cons_zero, List.getElem?_cons_succ, List.set_cons_zero, List.set_cons_succ, ee_cmp0, ee_cmp1, ee_cmp2, ee_cmp3, ee_cmp4, ee_cmp5, ee_cmpL0, ee_cmpL1, ee_cmpL2, ee_cmpL3, ee_cmpL4, ee_cmpL5, ee_tru_eb, decide_eq_true_eq, ib_i, ie_b, ie_f, ie_t, ib_l, fin_i, fin_l, fin_v, fin_z, fin_a, fin_n, ee_b_0, ee_fld0, ee_fld1, ee_fld2, ee_fld3, bi_0, bi_1, bi_2, bi_3, bi_4, bi_5, bi_6, bi_7, bi_8, bi_9, bi_10, bl_20, bl_21, bl_22, bl_23, bl_24, bl_25, bl_26, bl_48, bl_49, un_0, un_1, un_2, un_3, if_true, if_false, ite_true, ite_false, Bool.false_eq_true, Bool.not_eq_false, decide_not, Bool.not_not, reduceCtorEq, st_i, st_l, st_r, st_n, ee_noL, ee_noL.eq_1, List.length_cons, List.length_nil, Nat.reduceAdd, Nat.reduceLT, Nat.zero_add, and_true, true_and, and_self, fin_ite, pu_0, pu_1, pu_3, sto_0, el_0, Bool.not_eq_true, decide_eq_false_iff_not, Bool.decide_eq_true, Bool.decide_eq_false, decide_true, decide_false, Bool.not_true, Bool.not_false, Bool.and_self, Bool.and_true, Bool.and_false, Bool.true_and, Bool.false_and, Bool.or_true, Bool.or_false, Bool.true_or, Bool.false_or, if_true, if_false, Bool.false_eq_true]
            · rw [← hf]; rfl)
        (200 - 0) ([some (.ref 0), some (.int t), some (.int (Int32.ofNat (0 + 1)))], w2) ⟨0, rfl, Nat.zero_le _, rfl, m2, chg_trans (chg_mono n3 (smrg_h 222)) (chg_mono m3 (smrg_h 222)), rfl⟩
      rw [show Int32.ofNat (0 + 1) = 1 from rfl] at hr
      obtain ⟨w', hq1, hq2⟩ := hq
      refine ⟨w', ?_, CZ_trial h1 hq2, chg_mono hq2 smrg_lo⟩
      rw [rn_113 cz_0]
      rcases hq1 with ⟨env', rfl, hf⟩ | ⟨k, hf, rfl⟩
      · rw [hf]
        simp only [r_isTrack hd1, q, n1, m1, w_while, hr, oI, cz_0, cz_r0, cz_r3, al_1.1, al_1.2.1, rvs, be_113, k_1, k_200, k_4294967295, nz_1, nz_200, v_call, v_cmp, v_cons, v_get, v_int, v_loc, v_nil, v_not, v_z, w_exp0, w_exp1, w_if, w_inc, w_ret, w_seq, w_set, w_skip, List.getElem?_cons_zero, List.getElem?_cons_succ, List.set_cons_zero, List.set_cons_succ, ee_cmp0, ee_cmp1, ee_cmp2, ee_cmp3, ee_cmp4, ee_cmp5, ee_cmpL0, ee_cmpL1, ee_cmpL2, ee_cmpL3, ee_cmpL4, ee_cmpL5, ee_tru_eb, decide_eq_true_eq, ib_i, ie_b, ie_f, ie_t, ib_l, fin_i, fin_l, fin_v, fin_z, fin_a, fin_n, ee_b_0, ee_fld0, ee_fld1, ee_fld2, ee_fld3, bi_0, bi_1, bi_2, bi_3, bi_4, bi_5, bi_6, bi_7, bi_8, bi_9, bi_10, bl_20, bl_21, bl_22, bl_23, bl_24, bl_25, bl_26, bl_48, bl_49, un_0, un_1, un_2, un_3, if_true, if_false, ite_true, ite_false, Bool.false_eq_true, Bool.not_eq_false, decide_not, Bool.not_not, reduceCtorEq, st_i, st_l, st_r, st_n, ee_noL, ee_noL.eq_1, List.length_cons, List.length_nil, Nat.reduceAdd, Nat.reduceLT, Nat.zero_add, and_true, true_and, and_self, fin_ite, pu_0, pu_1, pu_3, sto_0, el_0, Bool.not_eq_true, decide_eq_false_iff_not, Bool.decide_eq_true, Bool.decide_eq_false, decide_true, decide_false, Bool.not_true, Bool.not_false, Bool.and_self, Bool.and_true, Bool.and_false, Bool.true_and, Bool.false_and, Bool.or_true, Bool.or_false, Bool.true_or, Bool.false_or, if_true, if_false, Bool.false_eq_true]
      · rw [hf]
        simp only [r_isTrack hd1, q, n1, m1, w_while, hr, oI, cz_0, cz_r0, cz_r3, al_1.1, al_1.2.1, rvs, be_113, k_1, k_200, k_4294967295, nz_1, nz_200, v_call, v_cmp, v_cons, v_get, v_int, v_loc, v_nil, v_not, v_z, w_exp0, w_exp1, w_if, w_inc, w_ret, w_seq, w_set, w_skip, List.getElem?_cons_zero, List.getElem?_cons_succ, List.set_cons_zero, List.set_cons_succ, ee_cmp0, ee_cmp1, ee_cmp2, ee_cmp3, ee_cmp4, ee_cmp5, ee_cmpL0, ee_cmpL1, ee_cmpL2, ee_cmpL3, ee_cmpL4, ee_cmpL5, ee_tru_eb, decide_eq_true_eq, ib_i, ie_b, ie_f, ie_t, ib_l, fin_i, fin_l, fin_v, fin_z, fin_a, fin_n, ee_b_0, ee_fld0, ee_fld1, ee_fld2, ee_fld3, bi_0, bi_1, bi_2, bi_3, bi_4, bi_5, bi_6, bi_7, bi_8, bi_9, bi_10, bl_20, bl_21, bl_22, bl_23, bl_24, bl_25, bl_26, bl_48, bl_49, un_0, un_1, un_2, un_3, if_true, if_false, ite_true, ite_false, Bool.false_eq_true, Bool.not_eq_false, decide_not, Bool.not_not, reduceCtorEq, st_i, st_l, st_r, st_n, ee_noL, ee_noL.eq_1, List.length_cons, List.length_nil, Nat.reduceAdd, Nat.reduceLT, Nat.zero_add, and_true, true_and, and_self, fin_ite, pu_0, pu_1, pu_3, sto_0, el_0, Bool.not_eq_true, decide_eq_false_iff_not, Bool.decide_eq_true, Bool.decide_eq_false, decide_true, decide_false, Bool.not_true, Bool.not_false, Bool.and_self, Bool.and_true, Bool.and_false, Bool.true_and, Bool.false_and, Bool.or_true, Bool.or_false, Bool.true_or, Bool.false_or, if_true, if_false, Bool.false_eq_true]
    · intro w1 hM
      obtain ⟨wa, a1, a2, a3, a4⟩ := m_aside (P := P) (w := w1) hd1
      have hX0 : MHz false (ee_wI (ee_wI wa 237 9 t) 237 11 0) (xaim Z.1.1 t) := by
        refine ⟨?_, fun k y1 y2 => ?_, fun y => by cases y⟩
        · rw [wI_at, if_neg (by omega), wI_at, if_neg (by omega)]; exact a3
        · rw [xaim_1, wI_at, wI_at, up_at, up_at]
          by_cases y3 : k = 6
          · rw [if_pos ⟨rfl, by omega⟩, if_pos y3]
          · rw [if_neg (by omega), if_neg y3]
            by_cases y4 : k = 4
            · rw [if_pos ⟨rfl, by omega⟩, if_pos y4]
            · rw [if_neg (by omega), if_neg y4, a4.1 _ _ (by unfold pas; omega)]
              exact hM.1.2.1.1 k y1 y2
      obtain ⟨r, hr, hq⟩ := wh_n (f := ee_turn (ee_ev es_sh es_rf (ee_run ee_B P d) lx_284_1) (ee_evS es_sh es_rf (ee_run ee_B P d) lb_284_1))
        (I := fun m x => ∃ k, m = 200 - k ∧ k ≤ 200 ∧ x.1 = [some (.ref 236), some (.int t), some (.int (Int32.ofNat k)), none] ∧ MHz false x.2 (zt Z (xaim Z.1.1 t) k) ∧ chk ptr wa x.2 ∧ (if zg Z t k = true then some k else fs (zg Z t) (k + 1) (200 - k)) = fs (zg Z t) 1 200)
        (Q := fun r => ∃ k w', k ≤ 200 ∧ r = .inl ([some (.ref 236), some (.int t), some (.int (Int32.ofNat k)), none], w') ∧ MHz false w' (zt Z (xaim Z.1.1 t) k) ∧ chk ptr wa w' ∧ oI (fs (zg Z t) 1 200) = if zg Z t k = true then Int32.ofNat k else -1)
        (by
          rintro m ⟨env, x⟩ ⟨k, rfl, hk, he, hz, hcc, hf⟩
          dsimp only at he hz hcc
          subst he
          have h9 : (Int32.ofNat k < 200) ↔ k < 200 := j_lt (b := 200) (by omega) (by omega)
          have e11 : x.1 237 11 = (zt Z (xaim Z.1.1 t) k).1 6 := hz.2.1 6 (by omega) (by omega)
          have hg : ((zt Z (xaim Z.1.1 t) k).1 6 < 3) ↔ zg Z t k = false := by
            unfold zg
            rw [decide_eq_false_iff_not, i32_lt, i32_le]
            omega
          by_cases g : k < 200
          · cases b : zg Z t k
            · left
              obtain ⟨i1, i2⟩ := zwf k (by omega)
              obtain ⟨w2, m1, m2, m3⟩ := m_trial (P := P) hd10 hM h3 a4 hcc hz i1
              rw [← zt_s] at m2
              obtain ⟨m', hm'⟩ : ∃ m', 200 - k = m' + 1 := ⟨200 - k - 1, by omega⟩
              rw [b, if_neg (by decide), hm', fs_n] at hf
              refine ⟨([some (.ref 236), some (.int t), some (.int (Int32.ofNat (k + 1))), none], w2), 200 - (k + 1), ?_, by omega, k + 1, rfl, by omega, rfl, m2, m3, ?_⟩
              · rw [b] at hg
                simp only [h9, g, e11, hg, m1, lx_284_1, lb_284_1, ee_turn, k_0, k_11, k_200, k_3, k_4294967295, k_9, nz_11, nz_200, nz_3, nz_9, v_and, v_call, v_cmp, v_cons, v_get, v_idx, v_int, v_loc, v_mat, v_nil, v_not, v_tern, v_z, w_exp0, w_exp1, w_if, w_inc, w_ret, w_seq, w_set, w_sto, List.getElem?_cons_zero, List.getElem?_cons_succ, List.set_cons_zero, List.set_cons_succ, ee_cmp0, ee_cmp1, ee_cmp2, ee_cmp3, ee_cmp4, ee_cmp5, ee_cmpL0, ee_cmpL1, ee_cmpL2, ee_cmpL3, ee_cmpL4, ee_cmpL5, ee_tru_eb, decide_eq_true_eq, ib_i, ie_b, ie_f, ie_t, ib_l, fin_i, fin_l, fin_v, fin_z, fin_a, fin_n, ee_b_0, ee_fld0, ee_fld1, ee_fld2, ee_fld3, bi_0, bi_1, bi_2, bi_3, bi_4, bi_5, bi_6, bi_7, bi_8, bi_9, bi_10, bl_20, bl_21, bl_22, bl_23, bl_24, bl_25, bl_26, bl_48, bl_49, un_0, un_1, un_2, un_3, if_true, if_false, ite_true, ite_false, Bool.false_eq_true, Bool.not_eq_false, decide_not, Bool.not_not, reduceCtorEq, st_i, st_l, st_r, st_n, ee_noL, ee_noL.eq_1, List.length_cons, List.length_nil, Nat.reduceAdd, Nat.reduceLT, Nat.zero_add, and_true, true_and, and_self, fin_ite, pu_0, pu_1, pu_3, sto_0, el_0, Bool.not_eq_true, decide_eq_false_iff_not, Bool.decide_eq_true, Bool.decide_eq_false, decide_true, decide_false, Bool.not_true, Bool.not_false, Bool.and_self, Bool.and_true, Bool.and_false, Bool.true_and, Bool.false_and, Bool.or_true, Bool.or_false, Bool.true_or, Bool.false_or, if_true, if_false, Bool.false_eq_true, tc_0, ix_0, tc_11, ix_11, tc_200, ix_200, tc_3, ix_3, tc_9, ix_9, mz_0, mz_1, mz_a, rvs, j_s, j_a, wI_at, Nat.reduceEqDiff, zero_ne_one_n, one_ne_zero_n]
              · rw [show 200 - (k + 1) = m' by omega]; exact hf
            · right
              refine ⟨.inl ([some (.ref 236), some (.int t), some (.int (Int32.ofNat k)), none], x), ?_, k, x, hk, rfl, hz, hcc, ?_⟩
              · rw [b] at hg
                have hg' : ¬ (zt Z (xaim Z.1.1 t) k).1 6 < 3 := fun y => by have := hg.1 y; cases this
                simp only [h9, g, e11, hg', lx_284_1, lb_284_1, ee_turn, k_0, k_11, k_200, k_3, k_4294967295, k_9, nz_11, nz_200, nz_3, nz_9, v_and, v_call, v_cmp, v_cons, v_get, v_idx, v_int, v_loc, v_mat, v_nil, v_not, v_tern, v_z, w_exp0, w_exp1, w_if, w_inc, w_ret, w_seq, w_set, w_sto, List.getElem?_cons_zero, List.getElem?_cons_succ, List.set_cons_zero, List.set_cons_succ, ee_cmp0, ee_cmp1, ee_cmp2, ee_cmp3, ee_cmp4, ee_cmp5, ee_cmpL0, ee_cmpL1, ee_cmpL2, ee_cmpL3, ee_cmpL4, ee_cmpL5, ee_tru_eb, decide_eq_true_eq, ib_i, ie_b, ie_f, ie_t, ib_l, fin_i, fin_l, fin_v, fin_z, fin_a, fin_n, ee_b_0, ee_fld0, ee_fld1, ee_fld2, ee_fld3, bi_0, bi_1, bi_2, bi_3, bi_4, bi_5, bi_6, bi_7, bi_8, bi_9, bi_10, bl_20, bl_21, bl_22, bl_23, bl_24, bl_25, bl_26, bl_48, bl_49, un_0, un_1, un_2, un_3, if_true, if_false, ite_true, ite_false, Bool.false_eq_true, Bool.not_eq_false, decide_not, Bool.not_not, reduceCtorEq, st_i, st_l, st_r, st_n, ee_noL, ee_noL.eq_1, List.length_cons, List.length_nil, Nat.reduceAdd, Nat.reduceLT, Nat.zero_add, and_true, true_and, and_self, fin_ite, pu_0, pu_1, pu_3, sto_0, el_0, Bool.not_eq_true, decide_eq_false_iff_not, Bool.decide_eq_true, Bool.decide_eq_false, decide_true, decide_false, Bool.not_true, Bool.not_false, Bool.and_self, Bool.and_true, Bool.and_false, Bool.true_and, Bool.false_and, Bool.or_true, Bool.or_false, Bool.true_or, Bool.false_or, if_true, if_false, Bool.false_eq_true, tc_0, ix_0, tc_11, ix_11, tc_200, ix_200, tc_3, ix_3, tc_9, ix_9, mz_0, mz_1, mz_a, rvs, j_s, j_a, wI_at, Nat.reduceEqDiff, zero_ne_one_n, one_ne_zero_n]
              · rw [b, if_pos rfl] at hf
                rw [← hf, b, if_pos rfl]
                rfl
          · right
            have hk2 : k = 200 := by omega
            subst hk2
            refine ⟨.inl ([some (.ref 236), some (.int t), some (.int (Int32.ofNat 200)), none], x), ?_, 200, x, hk, rfl, hz, hcc, ?_⟩
            · have g2 : ¬ (200 : Int32) < 200 := by decide
              simp only [k_200, g2, lx_284_1, lb_284_1, ee_turn, k_0, k_11, k_200, k_3, k_4294967295, k_9, nz_11, nz_200, nz_3, nz_9, v_and, v_call, v_cmp, v_cons, v_get, v_idx, v_int, v_loc, v_mat, v_nil, v_not, v_tern, v_z, w_exp0, w_exp1, w_if, w_inc, w_ret, w_seq, w_set, w_sto, List.getElem?_cons_zero, List.getElem?_cons_succ, List.set_cons_zero, List.set_cons_succ, ee_cmp0, ee_cmp1, ee_cmp2, ee_cmp3, ee_cmp4, ee_cmp5, ee_cmpL0, ee_cmpL1, ee_cmpL2, ee_cmpL3, ee_cmpL4, ee_cmpL5, ee_tru_eb, decide_eq_true_eq, ib_i, ie_b, ie_f, ie_t, ib_l, fin_i, fin_l, fin_v, fin_z, fin_a, fin_n, ee_b_0, ee_fld0, ee_fld1, ee_fld2, ee_fld3, bi_0, bi_1, bi_2, bi_3, bi_4, bi_5, bi_6, bi_7, bi_8, bi_9, bi_10, bl_20, bl_21, bl_22, bl_23, bl_24, bl_25, bl_26, bl_48, bl_49, un_0, un_1, un_2, un_3, if_true, if_false, ite_true, ite_false, Bool.false_eq_true, Bool.not_eq_false, decide_not, Bool.not_not, reduceCtorEq, st_i, st_l, st_r, st_n, ee_noL, ee_noL.eq_1, List.length_cons, List.length_nil, Nat.reduceAdd, Nat.reduceLT, Nat.zero_add, and_true, true_and, and_self, fin_ite, pu_0, pu_1, pu_3, sto_0, el_0, Bool.not_eq_true, decide_eq_false_iff_not, Bool.decide_eq_true, Bool.decide_eq_false, decide_true, decide_false, Bool.not_true, Bool.not_false, Bool.and_self, Bool.and_true, Bool.and_false, Bool.true_and, Bool.false_and, Bool.or_true, Bool.or_false, Bool.true_or, Bool.false_or, if_true, if_false, Bool.false_eq_true, tc_0, ix_0, tc_11, ix_11, tc_200, ix_200, tc_3, ix_3, tc_9, ix_9, mz_0, mz_1, mz_a, rvs, j_s, j_a, wI_at, Nat.reduceEqDiff, zero_ne_one_n, one_ne_zero_n]
            · rw [← hf]
              cases b : zg Z t 200
              · rw [if_neg (by decide), if_neg (by decide)]; rfl
              · rw [if_pos rfl, if_pos rfl]; rfl)
        (200 - 0) ([some (.ref 236), some (.int t), some (.int (Int32.ofNat 0)), none], ee_wI (ee_wI wa 237 9 t) 237 11 0) ⟨0, rfl, Nat.zero_le _, rfl, hX0, chk_I (by unfold ptr; omega) (chk_I (by unfold ptr; omega) (chk_refl _ _)), by rw [g0, if_neg (by decide)]⟩
      rw [k_0] at hr
      obtain ⟨k, w', hk, rfl, q3, q4, q5⟩ := hq
      obtain ⟨wb, b1, b2, b3, b4⟩ := m_bring (P := P) (w := w') hd1
      obtain ⟨s1, s2, s3⟩ := m_backd hM h3 a2 a4 q4 b2 b3 b4
      have e11 : w'.1 237 11 = (zt Z (xaim Z.1.1 t) k).1 6 := q3.2.1 6 (by omega) (by omega)
      refine ⟨wb, ?_, s1, ⟨s3, s2⟩⟩
      rw [rn_284 mz_0, q5]
      have eg : decide (3 ≤ (zt Z (xaim Z.1.1 t) k).1 6) = zg Z t k := rfl
      cases b : zg Z t k <;> rw [b] at eg <;> simp only [em, q, a1, w_while, hr, e11, eg, b1, be_284, k_0, k_11, k_200, k_3, k_4294967295, k_9, nz_11, nz_200, nz_3, nz_9, v_and, v_call, v_cmp, v_cons, v_get, v_idx, v_int, v_loc, v_mat, v_nil, v_not, v_tern, v_z, w_exp0, w_exp1, w_if, w_inc, w_ret, w_seq, w_set, w_sto, List.getElem?_cons_zero, List.getElem?_cons_succ, List.set_cons_zero, List.set_cons_succ, ee_cmp0, ee_cmp1, ee_cmp2, ee_cmp3, ee_cmp4, ee_cmp5, ee_cmpL0, ee_cmpL1, ee_cmpL2, ee_cmpL3, ee_cmpL4, ee_cmpL5, ee_tru_eb, decide_eq_true_eq, ib_i, ie_b, ie_f, ie_t, ib_l, fin_i, fin_l, fin_v, fin_z, fin_a, fin_n, ee_b_0, ee_fld0, ee_fld1, ee_fld2, ee_fld3, bi_0, bi_1, bi_2, bi_3, bi_4, bi_5, bi_6, bi_7, bi_8, bi_9, bi_10, bl_20, bl_21, bl_22, bl_23, bl_24, bl_25, bl_26, bl_48, bl_49, un_0, un_1, un_2, un_3, if_true, if_false, ite_true, ite_false, Bool.false_eq_true, Bool.not_eq_false, decide_not, Bool.not_not, reduceCtorEq, st_i, st_l, st_r, st_n, ee_noL, ee_noL.eq_1, List.length_cons, List.length_nil, Nat.reduceAdd, Nat.reduceLT, Nat.zero_add, and_true, true_and, and_self, fin_ite, pu_0, pu_1, pu_3, sto_0, el_0, Bool.not_eq_true, decide_eq_false_iff_not, Bool.decide_eq_true, Bool.decide_eq_false, decide_true, decide_false, Bool.not_true, Bool.not_false, Bool.and_self, Bool.and_true, Bool.and_false, Bool.true_and, Bool.false_and, Bool.or_true, Bool.or_false, Bool.true_or, Bool.false_or, if_true, if_false, Bool.false_eq_true, ix_0, ix_11, ix_200, ix_3, ix_9, tc_0, tc_11, tc_200, tc_3, tc_9, mz_0, mz_1, mz_a, rvs, j_s, j_a, wI_at, Nat.reduceEqDiff, zero_ne_one_n, one_ne_zero_n]
end BI
