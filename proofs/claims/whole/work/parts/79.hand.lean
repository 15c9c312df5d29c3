/-! seek, shake, write, undo -/
section BH
variable {P : Nat → Nat → List Value → ee_W → Option (List Value × ee_W)} {d : Nat} {w : ee_W} {Z : ZX}
def hmrg : Nat → Bool := rgo (rg 2 97) mrg
theorem hmrg_f {c : Nat} (h : c < 2 ∨ 97 ≤ c) (h2 : c < 229 ∨ 231 ≤ c) : hmrg c = false := by
  unfold hmrg mrg
  rw [rgo_f, rg_f, rg_f]
  omega
theorem srg_hm : ∀ c, hmrg c = false → srg 5 c = false := by
  intro c h
  unfold hmrg at h
  rw [rgo_f, rg_f] at h
  unfold srg
  rw [rg_f]
  omega
theorem hrg_hm : ∀ c, hmrg c = false → hrg 2 c = false := by
  intro c h
  unfold hmrg at h
  rw [rgo_f, rg_f] at h
  exact hrg_ne (by omega)
theorem mrg_hm : ∀ c, hmrg c = false → mrg c = false := fun c h => (rgo_f.1 h).2
theorem hm_lo : ∀ c, plo c = false → hmrg c = false := fun c h => by
  have := plo_f.1 h
  exact hmrg_f (by omega) (by omega)
/-- a step of the class: it is kept, the head is another -/
theorem c_step {w1 w2 : ee_W} {X' : HX} (h1 : CZ w Z) (hn : X'.2.1 ≤ 25) (hk1 : CS w1 5 (xkeep Z.1.2.1 Z.1.1)) (hk2 : chg (srg 5) w w1) (hx1 : CH w2 2 X') (hx2 : chg (hrg 2) w1 w2) : CZ w2 ((X', xkeep Z.1.2.1 Z.1.1, Z.1.2.2), Z.2) ∧ chg hmrg w w2 := by
  have hc : chg hmrg w w2 := chg_trans (chg_mono hk2 srg_hm) (chg_mono hx2 hrg_hm)
  have a := CA_hs h1.1 hc (hmrg_f (by omega) (by omega)) (fun c q1 q2 => hmrg_f (by omega) (by omega)) hx1 hn (CS_chg hk1 hx2 (fun c q1 q2 => hrg_ne (by omega)))
  exact ⟨CZ_rest h1 hc (hmrg_f (by omega) (by omega)) (hmrg_f (by omega) (by omega)) (hmrg_f (by omega) (by omega)) (fun c q1 q2 => hmrg_f (by omega) (by omega)) a (CA_chg h1.2.1 hc (fun c q1 q2 => hmrg_f (by omega) (by omega))) (Nat.le_refl _), hc⟩
def pst (c k : Nat) : Prop := (c = 237 ∧ (k = 2 ∨ (5 ≤ k ∧ k < 23) ∨ (54 ≤ k ∧ k < 1369))) ∨ c = 242 ∨ c = 244
theorem pst_hi : ∀ c k, pst c k → phi c k := fun c k h => by
  unfold pst at h
  unfold phi
  omega
theorem psm_pst : ∀ c k, psm true c k → pst c k := fun c k h => by
  have h1 := psm_c h
  unfold pst
  rcases h1 with rfl | h1
  · have := psm_k h; omega
  · omega
theorem m_step {p : Nat → Nat → Prop} {w1 w2 : ee_W} {X' : HX} (hM : MZ w Z) (hW : WZ Z) (hk1 : MA w1 237 (Z.1.1, xkeep Z.1.2.1 Z.1.1, Z.1.2.2)) (hk2 : chk pkp w w1) (hx1 : MHz true w2 X') (hx2 : chk (psm true) w1 w2) : MZ w2 ((X', xkeep Z.1.2.1 Z.1.1, Z.1.2.2), Z.2) ∧ chk pst w w2 := by
  have hc : chk pst w w2 := chk_trans (chk_mono hk2 (fun c k h => by unfold pkp at h; unfold pst; omega)) (chk_mono hx2 psm_pst)
  have hW1 : WA (Z.1.1, xkeep Z.1.2.1 Z.1.1, Z.1.2.2) := WA_step hW.1 hW.1.1
  have a := MA_head hk1 hW1 hx2 (fun k hk h => by have := psm_k h; omega) hx1
  exact ⟨MZ_rest hM hc (fun k => by unfold pst; omega) a (MA_eq hM.2.1 hW.2.1 (fun k _ => hc.1 _ _ (by unfold pst; omega))) (Nat.le_refl _), hc⟩
theorem WZ_step (hW : WZ Z) {X' : HX} (hX : WH X') : WZ ((X', xkeep Z.1.2.1 Z.1.1, Z.1.2.2), Z.2) := ⟨WA_step hW.1 hX, hW.2.1, hW.2.2.1, hW.2.2.2⟩
theorem st5 : st_ok 5 := al_1.2.2.2.2.2.2.2.2.2.2.2.2
theorem hd2_ok : hd_ok 2 := al_1.2.2.2.2.2.2.2.2.2.2.2.1
theorem b_seek (hd : 4 ≤ d) (hS : Sim w) (t : Int32) : Both P d 63 233 [.int t] w := by
  obtain ⟨Z, h1, h2, h3⟩ := hS
  obtain ⟨d, rfl⟩ : ∃ k, d = k + 1 := ⟨d - 1, by omega⟩
  have hd1 : 1 ≤ d := by omega
  have hd2 : 2 ≤ d := by omega
  have hd3 : 3 ≤ d := by omega
  have a4 : w.1 2 2 = Z.1.1.1 4 := h1.1.1.1.2.2.2.2.1
  have it := r_isTrack (P := P) (w := w) hd1 t
  have hMz := MHz_of h2.1 h2.2.2.2.2.2 h3.1.1.2.1
  cases q : ((decide (0 ≤ t) && decide (t < 64)) && !decide (t = Z.1.1.1 4))
  · refine both_q h1 h2 h3 (r := .int 0) ?_ ?_
    · rw [rn_63 cz_0]
      cases q1 : (decide (0 ≤ t) && decide (t < 64)) <;> cases q2 : decide (t = Z.1.1.1 4) <;> rw [q1, q2] at q <;> first | (cases q; done) | (simp only [it, q1, q2, a4, cz_0, cz_r0, al_1.1, al_1.2.1, hd2_ok.1, rvs, bd_63, k_0, k_1, nz_1, v_call, v_cmp, v_cons, v_get, v_int, v_loc, v_nil, v_not, v_or, v_z, w_exp0, w_exp1, w_if, w_ret, w_seq, List.getElem?_cons_zero, List.getElem?_cons_succ, List.set_cons_zero, List.set_cons_succ, ee_cmp0, ee_cmp1, ee_cmp2, ee_cmp3, ee_cmp4, ee_cmp5, ee_cmpL0, ee_cmpL1, ee_cmpL2, ee_cmpL3, ee_cmpL4, ee_cmpL5, ee_tru_eb, decide_eq_true_eq, ib_i, ie_b, ie_f, ie_t, ib_l, fin_i, fin_l, fin_v, fin_z, fin_a, fin_n, ee_b_0, ee_fld0, ee_fld1, ee_fld2, ee_fld3, bi_0, bi_1, bi_2, bi_3, bi_4, bi_5, bi_6, bi_7, bi_8, bi_9, bi_10, bl_20, bl_21, bl_22, bl_23, bl_24, bl_25, bl_26, bl_48, bl_49, un_0, un_1, un_2, un_3, if_true, if_false, ite_true, ite_false, Bool.false_eq_true, Bool.not_eq_false, decide_not, Bool.not_not, reduceCtorEq, st_i, st_l, st_r, st_n, ee_noL, ee_noL.eq_1, List.length_cons, List.length_nil, Nat.reduceAdd, Nat.reduceLT, Nat.zero_add, and_true, true_and, and_self, fin_ite, pu_0, pu_1, pu_3, sto_0, el_0, Bool.not_eq_true, decide_eq_false_iff_not, Bool.decide_eq_true, Bool.decide_eq_false, decide_true, decide_false, Bool.not_true, Bool.not_false, Bool.and_self, Bool.and_true, Bool.and_false, Bool.true_and, Bool.false_and, Bool.or_true, Bool.or_false, Bool.true_or, Bool.false_or, if_true, if_false, Bool.false_eq_true]; rfl)
    · rw [rn_233 mz_0]
      have cs := m_canSeek (P := P) (w := w) hd3 hMz t
      rw [q] at cs
      simp only [cs, bd_233, k_0, k_1, nz_1, v_call, v_cons, v_int, v_loc, v_nil, v_not, v_z, w_exp0, w_exp1, w_if, w_ret, w_seq, List.getElem?_cons_zero, List.getElem?_cons_succ, List.set_cons_zero, List.set_cons_succ, ee_cmp0, ee_cmp1, ee_cmp2, ee_cmp3, ee_cmp4, ee_cmp5, ee_cmpL0, ee_cmpL1, ee_cmpL2, ee_cmpL3, ee_cmpL4, ee_cmpL5, ee_tru_eb, decide_eq_true_eq, ib_i, ie_b, ie_f, ie_t, ib_l, fin_i, fin_l, fin_v, fin_z, fin_a, fin_n, ee_b_0, ee_fld0, ee_fld1, ee_fld2, ee_fld3, bi_0, bi_1, bi_2, bi_3, bi_4, bi_5, bi_6, bi_7, bi_8, bi_9, bi_10, bl_20, bl_21, bl_22, bl_23, bl_24, bl_25, bl_26, bl_48, bl_49, un_0, un_1, un_2, un_3, if_true, if_false, ite_true, ite_false, Bool.false_eq_true, Bool.not_eq_false, decide_not, Bool.not_not, reduceCtorEq, st_i, st_l, st_r, st_n, ee_noL, ee_noL.eq_1, List.length_cons, List.length_nil, Nat.reduceAdd, Nat.reduceLT, Nat.zero_add, and_true, true_and, and_self, fin_ite, pu_0, pu_1, pu_3, sto_0, el_0, Bool.not_eq_true, decide_eq_false_iff_not, Bool.decide_eq_true, Bool.decide_eq_false, decide_true, decide_false, Bool.not_true, Bool.not_false, Bool.and_self, Bool.and_true, Bool.and_false, Bool.true_and, Bool.false_and, Bool.or_true, Bool.or_false, Bool.true_or, Bool.false_or, if_true, if_false, Bool.false_eq_true, ix_0, ix_1, tc_0, tc_1, mz_0, mz_1, mz_a, rvs, j_s, j_a, wI_at, Nat.reduceEqDiff, zero_ne_one_n, one_ne_zero_n]
      rfl
  · rw [Bool.and_eq_true] at q
    obtain ⟨q1, q2⟩ := q
    have q2' : decide (t = Z.1.1.1 4) = false := by simpa using q2
    have ht := (in_iff t 0 63).1 (by rw [i63]; exact q1)
    have hb : bI t 0 63 := ⟨ht.1, ht.2⟩
    have hX : WH (xaim Z.1.1 t) := WH_note (wf_up (wf_up h3.1.1.1 4 hb) 6 (zb (by omega) (by omega))) h3.1.1.2.2.1 h3.1.1.2.1 h3.1.1.2.2.2 (zb (by omega) (by omega)) (bI_w hb (by omega) (by omega))
    refine both_of h2 h3 (WZ_step h3 hX) (r := .int 1) ?_ ?_
    · obtain ⟨w1, n1, n2, n3⟩ := c_keep (P := P) hd3 st5 hd2_ok (by omega) h1.1.2.2.1 h1.1.1 h1.1.2.1
      have hx := CH_chg h1.1.1 n3 (by unfold srg; rw [rg_f]; omega) (by unfold srg; rw [rg_f]; omega) (by unfold srg; rw [rg_f]; omega)
      obtain ⟨w2, m1, m2, m3⟩ := c_aim (P := P) hd3 hd2_ok hx h1.1.2.1 t
      obtain ⟨s1, s2⟩ := c_step h1 hX.2.1 n2 n3 m2 m3
      refine ⟨w2, ?_, s1, chg_mono s2 hm_lo⟩
      rw [rn_63 cz_0]
      simp only [it, q1, q2', a4, n1, m1, cz_0, cz_r0, al_1.1, al_1.2.1, al_1.2.2.1, hd2_ok.1, rvs, bd_63, k_0, k_1, nz_1, v_call, v_cmp, v_cons, v_get, v_int, v_loc, v_nil, v_not, v_or, v_z, w_exp0, w_exp1, w_if, w_ret, w_seq, List.getElem?_cons_zero, List.getElem?_cons_succ, List.set_cons_zero, List.set_cons_succ, ee_cmp0, ee_cmp1, ee_cmp2, ee_cmp3, ee_cmp4, ee_cmp5, ee_cmpL0, ee_cmpL1, ee_cmpL2, ee_cmpL3, ee_cmpL4, ee_cmpL5, ee_tru_eb, decide_eq_true_eq, ib_i, ie_b, ie_f, ie_t, ib_l, fin_i, fin_l, fin_v, fin_z, fin_a, fin_n, ee_b_0, ee_fld0, ee_fld1, ee_fld2, ee_fld3, bi_0, bi_1, bi_2, bi_3, bi_4, bi_5, bi_6, bi_7, bi_8, bi_9, bi_10, bl_20, bl_21, bl_22, bl_23, bl_24, bl_25, bl_26, bl_48, bl_49, un_0, un_1, un_2, un_3, if_true, if_false, ite_true, ite_false, Bool.false_eq_true, Bool.not_eq_false, decide_not, Bool.not_not, reduceCtorEq, st_i, st_l, st_r, st_n, ee_noL, ee_noL.eq_1, List.length_cons, List.length_nil, Nat.reduceAdd, Nat.reduceLT, Nat.zero_add, and_true, true_and, and_self, fin_ite, pu_0, pu_1, pu_3, sto_0, el_0, Bool.not_eq_true, decide_eq_false_iff_not, Bool.decide_eq_true, Bool.decide_eq_false, decide_true, decide_false, Bool.not_true, Bool.not_false, Bool.and_self, Bool.and_true, Bool.and_false, Bool.true_and, Bool.false_and, Bool.or_true, Bool.or_false, Bool.true_or, Bool.false_or, if_true, if_false, Bool.false_eq_true]
      rfl
    · intro w1 hM
      obtain ⟨w2, n1, n2, n3⟩ := m_keep (P := P) hd1 hM.1 h3.1
      have hz : w2.1 236 23 = 1 := (n3.1 _ _ (by unfold pkp; omega)).trans hM.2.2.2.2.2
      obtain ⟨w3, m1, m2, m3⟩ := m_seekNow (P := P) hd2 (MHz_of n2 hz h3.1.1.2.1) t
      obtain ⟨s1, s2⟩ := m_step (p := pst) hM h3 n2 n3 m2 (chk_mono m3 ph_psm)
      have cs := m_canSeek (P := P) (w := w1) hd3 (MHz_of hM.1 hM.2.2.2.2.2 h3.1.1.2.1) t
      rw [q1, q2'] at cs
      refine ⟨w3, ?_, s1, chk_mono s2 pst_hi⟩
      rw [rn_233 mz_0]
      simp only [cs, n1, m1, bd_233, k_0, k_1, nz_1, v_call, v_cons, v_int, v_loc, v_nil, v_not, v_z, w_exp0, w_exp1, w_if, w_ret, w_seq, List.getElem?_cons_zero, List.getElem?_cons_succ, List.set_cons_zero, List.set_cons_succ, ee_cmp0, ee_cmp1, ee_cmp2, ee_cmp3, ee_cmp4, ee_cmp5, ee_cmpL0, ee_cmpL1, ee_cmpL2, ee_cmpL3, ee_cmpL4, ee_cmpL5, ee_tru_eb, decide_eq_true_eq, ib_i, ie_b, ie_f, ie_t, ib_l, fin_i, fin_l, fin_v, fin_z, fin_a, fin_n, ee_b_0, ee_fld0, ee_fld1, ee_fld2, ee_fld3, bi_0, bi_1, bi_2, bi_3, bi_4, bi_5, bi_6, bi_7, bi_8, bi_9, bi_10, bl_20, bl_21, bl_22, bl_23, bl_24, bl_25, bl_26, bl_48, bl_49, un_0, un_1, un_2, un_3, if_true, if_false, ite_true, ite_false, Bool.false_eq_true, Bool.not_eq_false, decide_not, Bool.not_not, reduceCtorEq, st_i, st_l, st_r, st_n, ee_noL, ee_noL.eq_1, List.length_cons, List.length_nil, Nat.reduceAdd, Nat.reduceLT, Nat.zero_add, and_true, true_and, and_self, fin_ite, pu_0, pu_1, pu_3, sto_0, el_0, Bool.not_eq_true, decide_eq_false_iff_not, Bool.decide_eq_true, Bool.decide_eq_false, decide_true, decide_false, Bool.not_true, Bool.not_false, Bool.and_self, Bool.and_true, Bool.and_false, Bool.true_and, Bool.false_and, Bool.or_true, Bool.or_false, Bool.true_or, Bool.false_or, if_true, if_false, Bool.false_eq_true, ix_0, ix_1, tc_0, tc_1, mz_0, mz_1, mz_a, rvs, j_s, j_a, wI_at, Nat.reduceEqDiff, zero_ne_one_n, one_ne_zero_n]
      rfl
theorem b_shake (hd : 4 ≤ d) (hS : Sim w) (t : Int32) : Both P d 71 239 [.int t] w := by
  obtain ⟨Z, h1, h2, h3⟩ := hS
  obtain ⟨d, rfl⟩ : ∃ k, d = k + 1 := ⟨d - 1, by omega⟩
  have hd1 : 1 ≤ d := by omega
  have hd2 : 2 ≤ d := by omega
  have hd3 : 3 ≤ d := by omega
  cases q1 : (decide (-40 ≤ t) && decide (t ≤ 40))
  · refine both_q h1 h2 h3 (r := .int (-1)) ?_ ?_
    · rw [rn_71 cz_0]
      simp only [r_within hd1, q1, bd_71, k_40, k_4294967256, k_4294967295, nz_40, v_call, v_cons, v_get, v_int, v_loc, v_nil, v_not, v_or, v_z, w_exp0, w_exp1, w_if, w_ret, w_seq, List.getElem?_cons_zero, List.getElem?_cons_succ, List.set_cons_zero, List.set_cons_succ, ee_cmp0, ee_cmp1, ee_cmp2, ee_cmp3, ee_cmp4, ee_cmp5, ee_cmpL0, ee_cmpL1, ee_cmpL2, ee_cmpL3, ee_cmpL4, ee_cmpL5, ee_tru_eb, decide_eq_true_eq, ib_i, ie_b, ie_f, ie_t, ib_l, fin_i, fin_l, fin_v, fin_z, fin_a, fin_n, ee_b_0, ee_fld0, ee_fld1, ee_fld2, ee_fld3, bi_0, bi_1, bi_2, bi_3, bi_4, bi_5, bi_6, bi_7, bi_8, bi_9, bi_10, bl_20, bl_21, bl_22, bl_23, bl_24, bl_25, bl_26, bl_48, bl_49, un_0, un_1, un_2, un_3, if_true, if_false, ite_true, ite_false, Bool.false_eq_true, Bool.not_eq_false, decide_not, Bool.not_not, reduceCtorEq, st_i, st_l, st_r, st_n, ee_noL, ee_noL.eq_1, List.length_cons, List.length_nil, Nat.reduceAdd, Nat.reduceLT, Nat.zero_add, and_true, true_and, and_self, fin_ite, pu_0, pu_1, pu_3, sto_0, el_0, Bool.not_eq_true, decide_eq_false_iff_not, Bool.decide_eq_true, Bool.decide_eq_false, decide_true, decide_false, Bool.not_true, Bool.not_false, Bool.and_self, Bool.and_true, Bool.and_false, Bool.true_and, Bool.false_and, Bool.or_true, Bool.or_false, Bool.true_or, Bool.false_or, if_true, if_false, Bool.false_eq_true]
    · rw [rn_239 mz_0]
      simp only [r_isIn hd1, q1, bd_239, k_40, k_4294967256, k_4294967295, k_7, nz_40, nz_7, v_call, v_cons, v_get, v_idx, v_int, v_loc, v_nil, v_not, v_or, v_z, w_exp0, w_exp1, w_if, w_ret, w_seq, List.getElem?_cons_zero, List.getElem?_cons_succ, List.set_cons_zero, List.set_cons_succ, ee_cmp0, ee_cmp1, ee_cmp2, ee_cmp3, ee_cmp4, ee_cmp5, ee_cmpL0, ee_cmpL1, ee_cmpL2, ee_cmpL3, ee_cmpL4, ee_cmpL5, ee_tru_eb, decide_eq_true_eq, ib_i, ie_b, ie_f, ie_t, ib_l, fin_i, fin_l, fin_v, fin_z, fin_a, fin_n, ee_b_0, ee_fld0, ee_fld1, ee_fld2, ee_fld3, bi_0, bi_1, bi_2, bi_3, bi_4, bi_5, bi_6, bi_7, bi_8, bi_9, bi_10, bl_20, bl_21, bl_22, bl_23, bl_24, bl_25, bl_26, bl_48, bl_49, un_0, un_1, un_2, un_3, if_true, if_false, ite_true, ite_false, Bool.false_eq_true, Bool.not_eq_false, decide_not, Bool.not_not, reduceCtorEq, st_i, st_l, st_r, st_n, ee_noL, ee_noL.eq_1, List.length_cons, List.length_nil, Nat.reduceAdd, Nat.reduceLT, Nat.zero_add, and_true, true_and, and_self, fin_ite, pu_0, pu_1, pu_3, sto_0, el_0, Bool.not_eq_true, decide_eq_false_iff_not, Bool.decide_eq_true, Bool.decide_eq_false, decide_true, decide_false, Bool.not_true, Bool.not_false, Bool.and_self, Bool.and_true, Bool.and_false, Bool.true_and, Bool.false_and, Bool.or_true, Bool.or_false, Bool.true_or, Bool.false_or, if_true, if_false, Bool.false_eq_true, ix_40, ix_7, tc_40, tc_7, mz_0, mz_1, mz_a, rvs, j_s, j_a, wI_at, Nat.reduceEqDiff, zero_ne_one_n, one_ne_zero_n]
  · cases q2 : decide (t = 0)
    · have ht := (in_iff t (-40) 40).1 q1
      have hb : bI t (-40) 40 := ⟨ht.1, ht.2⟩
      have hX : WH (xnudge Z.1.1 t) := WH_note (wf_up (wf_up h3.1.1.1 2 (bI_hold (by decide) (by decide) (by decide))) 6 (zb (by omega) (by omega))) h3.1.1.2.2.1 h3.1.1.2.1 h3.1.1.2.2.2 (by unfold bI; decide) (bI_w hb (by omega) (by omega))
      refine both_of h2 h3 (WZ_step h3 hX) (r := .int ((xnudge Z.1.1 t).1 2)) ?_ ?_
      · obtain ⟨w1, n1, n2, n3⟩ := c_keep (P := P) hd3 st5 hd2_ok (by omega) h1.1.2.2.1 h1.1.1 h1.1.2.1
        have hx := CH_chg h1.1.1 n3 (by unfold srg; rw [rg_f]; omega) (by unfold srg; rw [rg_f]; omega) (by unfold srg; rw [rg_f]; omega)
        obtain ⟨w2, m1, m2, m3⟩ := c_nudge (P := P) hd3 hd2_ok hx h1.1.2.1 t
        obtain ⟨s1, s2⟩ := c_step h1 hX.2.1 n2 n3 m2 m3
        refine ⟨w2, ?_, s1, chg_mono s2 hm_lo⟩
        have e : w2.1 2 0 = (xnudge Z.1.1 t).1 2 := m2.1.2.2.1
        rw [rn_71 cz_0]
        simp only [r_within hd1, q1, q2, n1, m1, e, cz_0, cz_r0, al_1.1, al_1.2.1, al_1.2.2.1, hd2_ok.1, rvs, bd_71, k_40, k_4294967256, k_4294967295, nz_40, v_call, v_cons, v_get, v_int, v_loc, v_nil, v_not, v_or, v_z, w_exp0, w_exp1, w_if, w_ret, w_seq, List.getElem?_cons_zero, List.getElem?_cons_succ, List.set_cons_zero, List.set_cons_succ, ee_cmp0, ee_cmp1, ee_cmp2, ee_cmp3, ee_cmp4, ee_cmp5, ee_cmpL0, ee_cmpL1, ee_cmpL2, ee_cmpL3, ee_cmpL4, ee_cmpL5, ee_tru_eb, decide_eq_true_eq, ib_i, ie_b, ie_f, ie_t, ib_l, fin_i, fin_l, fin_v, fin_z, fin_a, fin_n, ee_b_0, ee_fld0, ee_fld1, ee_fld2, ee_fld3, bi_0, bi_1, bi_2, bi_3, bi_4, bi_5, bi_6, bi_7, bi_8, bi_9, bi_10, bl_20, bl_21, bl_22, bl_23, bl_24, bl_25, bl_26, bl_48, bl_49, un_0, un_1, un_2, un_3, if_true, if_false, ite_true, ite_false, Bool.false_eq_true, Bool.not_eq_false, decide_not, Bool.not_not, reduceCtorEq, st_i, st_l, st_r, st_n, ee_noL, ee_noL.eq_1, List.length_cons, List.length_nil, Nat.reduceAdd, Nat.reduceLT, Nat.zero_add, and_true, true_and, and_self, fin_ite, pu_0, pu_1, pu_3, sto_0, el_0, Bool.not_eq_true, decide_eq_false_iff_not, Bool.decide_eq_true, Bool.decide_eq_false, decide_true, decide_false, Bool.not_true, Bool.not_false, Bool.and_self, Bool.and_true, Bool.and_false, Bool.true_and, Bool.false_and, Bool.or_true, Bool.or_false, Bool.true_or, Bool.false_or, if_true, if_false, Bool.false_eq_true]
      · intro w1 hM
        obtain ⟨w2, n1, n2, n3⟩ := m_keep (P := P) hd1 hM.1 h3.1
        have hz : w2.1 236 23 = 1 := (n3.1 _ _ (by unfold pkp; omega)).trans hM.2.2.2.2.2
        obtain ⟨w3, m1, m2, m3⟩ := m_shakeNow (P := P) hd2 (MHz_of n2 hz h3.1.1.2.1) t
        obtain ⟨s1, s2⟩ := m_step (p := pst) hM h3 n2 n3 m2 (chk_mono m3 ph_psm)
        have e : w3.1 237 7 = (xnudge Z.1.1 t).1 2 := m2.2.1 2 (by omega) (by omega)
        refine ⟨w3, ?_, s1, chk_mono s2 pst_hi⟩
        rw [rn_239 mz_0]
        simp only [r_isIn hd1, q1, q2, n1, m1, e, bd_239, k_40, k_4294967256, k_4294967295, k_7, nz_40, nz_7, v_call, v_cons, v_get, v_idx, v_int, v_loc, v_nil, v_not, v_or, v_z, w_exp0, w_exp1, w_if, w_ret, w_seq, List.getElem?_cons_zero, List.getElem?_cons_succ, List.set_cons_zero, List.set_cons_succ, ee_cmp0, ee_cmp1, ee_cmp2, ee_cmp3, ee_cmp4, ee_cmp5, ee_cmpL0, ee_cmpL1, ee_cmpL2, ee_cmpL3, ee_cmpL4, ee_cmpL5, ee_tru_eb, decide_eq_true_eq, ib_i, ie_b, ie_f, ie_t, ib_l, fin_i, fin_l, fin_v, fin_z, fin_a, fin_n, ee_b_0, ee_fld0, ee_fld1, ee_fld2, ee_fld3, bi_0, bi_1, bi_2, bi_3, bi_4, bi_5, bi_6, bi_7, bi_8, bi_9, bi_10, bl_20, bl_21, bl_22, bl_23, bl_24, bl_25, bl_26, bl_48, bl_49, un_0, un_1, un_2, un_3, if_true, if_false, ite_true, ite_false, Bool.false_eq_true, Bool.not_eq_false, decide_not, Bool.not_not, reduceCtorEq, st_i, st_l, st_r, st_n, ee_noL, ee_noL.eq_1, List.length_cons, List.length_nil, Nat.reduceAdd, Nat.reduceLT, Nat.zero_add, and_true, true_and, and_self, fin_ite, pu_0, pu_1, pu_3, sto_0, el_0, Bool.not_eq_true, decide_eq_false_iff_not, Bool.decide_eq_true, Bool.decide_eq_false, decide_true, decide_false, Bool.not_true, Bool.not_false, Bool.and_self, Bool.and_true, Bool.and_false, Bool.true_and, Bool.false_and, Bool.or_true, Bool.or_false, Bool.true_or, Bool.false_or, if_true, if_false, Bool.false_eq_true, ix_40, ix_7, tc_40, tc_7, mz_0, mz_1, mz_a, rvs, j_s, j_a, wI_at, Nat.reduceEqDiff, zero_ne_one_n, one_ne_zero_n]
    · refine both_q h1 h2 h3 (r := .int (-1)) ?_ ?_
      · rw [rn_71 cz_0]
        simp only [r_within hd1, q1, q2, bd_71, k_40, k_4294967256, k_4294967295, nz_40, v_call, v_cons, v_get, v_int, v_loc, v_nil, v_not, v_or, v_z, w_exp0, w_exp1, w_if, w_ret, w_seq, List.getElem?_cons_zero, List.getElem?_cons_succ, List.set_cons_zero, List.set_cons_succ, ee_cmp0, ee_cmp1, ee_cmp2, ee_cmp3, ee_cmp4, ee_cmp5, ee_cmpL0, ee_cmpL1, ee_cmpL2, ee_cmpL3, ee_cmpL4, ee_cmpL5, ee_tru_eb, decide_eq_true_eq, ib_i, ie_b, ie_f, ie_t, ib_l, fin_i, fin_l, fin_v, fin_z, fin_a, fin_n, ee_b_0, ee_fld0, ee_fld1, ee_fld2, ee_fld3, bi_0, bi_1, bi_2, bi_3, bi_4, bi_5, bi_6, bi_7, bi_8, bi_9, bi_10, bl_20, bl_21, bl_22, bl_23, bl_24, bl_25, bl_26, bl_48, bl_49, un_0, un_1, un_2, un_3, if_true, if_false, ite_true, ite_false, Bool.false_eq_true, Bool.not_eq_false, decide_not, Bool.not_not, reduceCtorEq, st_i, st_l, st_r, st_n, ee_noL, ee_noL.eq_1, List.length_cons, List.length_nil, Nat.reduceAdd, Nat.reduceLT, Nat.zero_add, and_true, true_and, and_self, fin_ite, pu_0, pu_1, pu_3, sto_0, el_0, Bool.not_eq_true, decide_eq_false_iff_not, Bool.decide_eq_true, Bool.decide_eq_false, decide_true, decide_false, Bool.not_true, Bool.not_false, Bool.and_self, Bool.and_true, Bool.and_false, Bool.true_and, Bool.false_and, Bool.or_true, Bool.or_false, Bool.true_or, Bool.false_or, if_true, if_false, Bool.false_eq_true]
      · rw [rn_239 mz_0]
        simp only [r_isIn hd1, q1, q2, bd_239, k_40, k_4294967256, k_4294967295, k_7, nz_40, nz_7, v_call, v_cons, v_get, v_idx, v_int, v_loc, v_nil, v_not, v_or, v_z, w_exp0, w_exp1, w_if, w_ret, w_seq, List.getElem?_cons_zero, List.getElem?_cons_succ, List.set_cons_zero, List.set_cons_succ, ee_cmp0, ee_cmp1, ee_cmp2, ee_cmp3, ee_cmp4, ee_cmp5, ee_cmpL0, ee_cmpL1, ee_cmpL2, ee_cmpL3, ee_cmpL4, ee_cmpL5, ee_tru_eb, decide_eq_true_eq, ib_i, ie_b, ie_f, ie_t, ib_l, fin_i, fin_l, fin_v, fin_z, fin_a, fin_n, ee_b_0, ee_fld0, ee_fld1, ee_fld2, ee_fld3, bi_0, bi_1, bi_2, bi_3, bi_4, bi_5, bi_6, bi_7, bi_8, bi_9, bi_10, bl_20, bl_21, bl_22, bl_23, bl_24, bl_25, bl_26, bl_48, bl_49, un_0, un_1, un_2, un_3, if_true, if_false, ite_true, ite_false, Bool.false_eq_true, Bool.not_eq_false, decide_not, Bool.not_not, reduceCtorEq, st_i, st_l, st_r, st_n, ee_noL, ee_noL.eq_1, List.length_cons, List.length_nil, Nat.reduceAdd, Nat.reduceLT, Nat.zero_add, and_true, true_and, and_self, fin_ite, pu_0, pu_1, pu_3, sto_0, el_0, Bool.not_eq_true, decide_eq_false_iff_not, Bool.decide_eq_true, Bool.decide_eq_false, decide_true, decide_false, Bool.not_true, Bool.not_false, Bool.and_self, Bool.and_true, Bool.and_false, Bool.true_and, Bool.false_and, Bool.or_true, Bool.or_false, Bool.true_or, Bool.false_or, if_true, if_false, Bool.false_eq_true, ix_40, ix_7, tc_40, tc_7, mz_0, mz_1, mz_a, rvs, j_s, j_a, wI_at, Nat.reduceEqDiff, zero_ne_one_n, one_ne_zero_n]
theorem b_write (hd : 4 ≤ d) (hS : Sim w) : Both P d 75 242 [] w := by
  obtain ⟨Z, h1, h2, h3⟩ := hS
  obtain ⟨d, rfl⟩ : ∃ k, d = k + 1 := ⟨d - 1, by omega⟩
  have hd1 : 1 ≤ d := by omega
  have hd2 : 2 ≤ d := by omega
  have hd3 : 3 ≤ d := by omega
  have g := c_gateOpen (P := P) (w := w) hd1 hd2_ok h1.1.1
  cases q1 : decide (3 ≤ Z.1.1.1 6)
  · rw [q1] at g
    refine both_q h1 h2 h3 (r := .int (-1)) ?_ ?_
    · rw [rn_75 cz_0]
      simp only [g, cz_0, cz_r0, al_1.1, al_1.2.1, rvs, bd_75, k_4294967295, v_call, v_cons, v_get, v_int, v_loc, v_nil, v_not, v_z, w_exp0, w_exp1, w_if, w_ret, w_seq, List.getElem?_cons_zero, List.getElem?_cons_succ, List.set_cons_zero, List.set_cons_succ, ee_cmp0, ee_cmp1, ee_cmp2, ee_cmp3, ee_cmp4, ee_cmp5, ee_cmpL0, ee_cmpL1, ee_cmpL2, ee_cmpL3, ee_cmpL4, ee_cmpL5, ee_tru_eb, decide_eq_true_eq, ib_i, ie_b, ie_f, ie_t, ib_l, fin_i, fin_l, fin_v, fin_z, fin_a, fin_n, ee_b_0, ee_fld0, ee_fld1, ee_fld2, ee_fld3, bi_0, bi_1, bi_2, bi_3, bi_4, bi_5, bi_6, bi_7, bi_8, bi_9, bi_10, bl_20, bl_21, bl_22, bl_23, bl_24, bl_25, bl_26, bl_48, bl_49, un_0, un_1, un_2, un_3, if_true, if_false, ite_true, ite_false, Bool.false_eq_true, Bool.not_eq_false, decide_not, Bool.not_not, reduceCtorEq, st_i, st_l, st_r, st_n, ee_noL, ee_noL.eq_1, List.length_cons, List.length_nil, Nat.reduceAdd, Nat.reduceLT, Nat.zero_add, and_true, true_and, and_self, fin_ite, pu_0, pu_1, pu_3, sto_0, el_0, Bool.not_eq_true, decide_eq_false_iff_not, Bool.decide_eq_true, Bool.decide_eq_false, decide_true, decide_false, Bool.not_true, Bool.not_false, Bool.and_self, Bool.and_true, Bool.and_false, Bool.true_and, Bool.false_and, Bool.or_true, Bool.or_false, Bool.true_or, Bool.false_or, if_true, if_false, Bool.false_eq_true]
    · have cw := m_canWrite (P := P) (w := w) hd1 (MHz_of h2.1 h2.2.2.2.2.2 h3.1.1.2.1)
      rw [q1] at cw
      rw [rn_242 mz_0]
      simp only [cw, bd_242, k_4294967295, k_9, nz_9, v_call, v_cons, v_get, v_idx, v_int, v_loc, v_nil, v_not, v_z, w_exp0, w_exp1, w_if, w_ret, w_seq, List.getElem?_cons_zero, List.getElem?_cons_succ, List.set_cons_zero, List.set_cons_succ, ee_cmp0, ee_cmp1, ee_cmp2, ee_cmp3, ee_cmp4, ee_cmp5, ee_cmpL0, ee_cmpL1, ee_cmpL2, ee_cmpL3, ee_cmpL4, ee_cmpL5, ee_tru_eb, decide_eq_true_eq, ib_i, ie_b, ie_f, ie_t, ib_l, fin_i, fin_l, fin_v, fin_z, fin_a, fin_n, ee_b_0, ee_fld0, ee_fld1, ee_fld2, ee_fld3, bi_0, bi_1, bi_2, bi_3, bi_4, bi_5, bi_6, bi_7, bi_8, bi_9, bi_10, bl_20, bl_21, bl_22, bl_23, bl_24, bl_25, bl_26, bl_48, bl_49, un_0, un_1, un_2, un_3, if_true, if_false, ite_true, ite_false, Bool.false_eq_true, Bool.not_eq_false, decide_not, Bool.not_not, reduceCtorEq, st_i, st_l, st_r, st_n, ee_noL, ee_noL.eq_1, List.length_cons, List.length_nil, Nat.reduceAdd, Nat.reduceLT, Nat.zero_add, and_true, true_and, and_self, fin_ite, pu_0, pu_1, pu_3, sto_0, el_0, Bool.not_eq_true, decide_eq_false_iff_not, Bool.decide_eq_true, Bool.decide_eq_false, decide_true, decide_false, Bool.not_true, Bool.not_false, Bool.and_self, Bool.and_true, Bool.and_false, Bool.true_and, Bool.false_and, Bool.or_true, Bool.or_false, Bool.true_or, Bool.false_or, if_true, if_false, Bool.false_eq_true, ix_9, tc_9, mz_0, mz_1, mz_a, rvs, j_s, j_a, wI_at, Nat.reduceEqDiff, zero_ne_one_n, one_ne_zero_n]
  · rw [q1] at g
    have wf := h3.1.1.1
    have hX : WH (xmark Z.1.1) := WH_note (wf_up wf 7 (xmin_b wf.2.2.2.2.2.2.2.1.1 wf.2.2.2.2.2.2.2.1.2 (m := 9999) (by decide))) h3.1.1.2.2.1 h3.1.1.2.1 h3.1.1.2.2.2 (by unfold bI; decide) (bI_w wf.2.2.2.2.1 (by omega) (by omega))
    have e4 : (xmark Z.1.1).1 4 = Z.1.1.1 4 := by
      unfold xmark
      rw [xnote_1]
      rfl
    refine both_of h2 h3 (WZ_step h3 hX) (r := .int (Z.1.1.1 4)) ?_ ?_
    · obtain ⟨w1, n1, n2, n3⟩ := c_keep (P := P) hd3 st5 hd2_ok (by omega) h1.1.2.2.1 h1.1.1 h1.1.2.1
      have hx := CH_chg h1.1.1 n3 (by unfold srg; rw [rg_f]; omega) (by unfold srg; rw [rg_f]; omega) (by unfold srg; rw [rg_f]; omega)
      obtain ⟨w2, m1, m2, m3⟩ := c_mark (P := P) hd3 hd2_ok hx h1.1.2.1
      obtain ⟨s1, s2⟩ := c_step h1 hX.2.1 n2 n3 m2 m3
      refine ⟨w2, ?_, s1, chg_mono s2 hm_lo⟩
      have e : w2.1 2 2 = Z.1.1.1 4 := m2.1.2.2.2.2.1.trans e4
      rw [rn_75 cz_0]
      simp only [g, n1, m1, e, cz_0, cz_r0, al_1.1, al_1.2.1, al_1.2.2.1, hd2_ok.1, rvs, bd_75, k_4294967295, v_call, v_cons, v_get, v_int, v_loc, v_nil, v_not, v_z, w_exp0, w_exp1, w_if, w_ret, w_seq, List.getElem?_cons_zero, List.getElem?_cons_succ, List.set_cons_zero, List.set_cons_succ, ee_cmp0, ee_cmp1, ee_cmp2, ee_cmp3, ee_cmp4, ee_cmp5, ee_cmpL0, ee_cmpL1, ee_cmpL2, ee_cmpL3, ee_cmpL4, ee_cmpL5, ee_tru_eb, decide_eq_true_eq, ib_i, ie_b, ie_f, ie_t, ib_l, fin_i, fin_l, fin_v, fin_z, fin_a, fin_n, ee_b_0, ee_fld0, ee_fld1, ee_fld2, ee_fld3, bi_0, bi_1, bi_2, bi_3, bi_4, bi_5, bi_6, bi_7, bi_8, bi_9, bi_10, bl_20, bl_21, bl_22, bl_23, bl_24, bl_25, bl_26, bl_48, bl_49, un_0, un_1, un_2, un_3, if_true, if_false, ite_true, ite_false, Bool.false_eq_true, Bool.not_eq_false, decide_not, Bool.not_not, reduceCtorEq, st_i, st_l, st_r, st_n, ee_noL, ee_noL.eq_1, List.length_cons, List.length_nil, Nat.reduceAdd, Nat.reduceLT, Nat.zero_add, and_true, true_and, and_self, fin_ite, pu_0, pu_1, pu_3, sto_0, el_0, Bool.not_eq_true, decide_eq_false_iff_not, Bool.decide_eq_true, Bool.decide_eq_false, decide_true, decide_false, Bool.not_true, Bool.not_false, Bool.and_self, Bool.and_true, Bool.and_false, Bool.true_and, Bool.false_and, Bool.or_true, Bool.or_false, Bool.true_or, Bool.false_or, if_true, if_false, Bool.false_eq_true]
    · intro w1 hM
      obtain ⟨w2, n1, n2, n3⟩ := m_keep (P := P) hd1 hM.1 h3.1
      have hz : w2.1 236 23 = 1 := (n3.1 _ _ (by unfold pkp; omega)).trans hM.2.2.2.2.2
      obtain ⟨w3, m1, m2, m3⟩ := m_writeNow (P := P) hd2 (MHz_of n2 hz h3.1.1.2.1) wf.2.2.2.2.2.2.2.1.1 wf.2.2.2.2.2.2.2.1.2
      obtain ⟨s1, s2⟩ := m_step (p := pst) hM h3 n2 n3 m2 (chk_mono m3 ph_psm)
      have cw := m_canWrite (P := P) (w := w1) hd1 (MHz_of hM.1 hM.2.2.2.2.2 h3.1.1.2.1)
      rw [q1] at cw
      have e : w3.1 237 9 = Z.1.1.1 4 := (m2.2.1 4 (by omega) (by omega)).trans e4
      refine ⟨w3, ?_, s1, chk_mono s2 pst_hi⟩
      rw [rn_242 mz_0]
      simp only [cw, n1, m1, e, bd_242, k_4294967295, k_9, nz_9, v_call, v_cons, v_get, v_idx, v_int, v_loc, v_nil, v_not, v_z, w_exp0, w_exp1, w_if, w_ret, w_seq, List.getElem?_cons_zero, List.getElem?_cons_succ, List.set_cons_zero, List.set_cons_succ, ee_cmp0, ee_cmp1, ee_cmp2, ee_cmp3, ee_cmp4, ee_cmp5, ee_cmpL0, ee_cmpL1, ee_cmpL2, ee_cmpL3, ee_cmpL4, ee_cmpL5, ee_tru_eb, decide_eq_true_eq, ib_i, ie_b, ie_f, ie_t, ib_l, fin_i, fin_l, fin_v, fin_z, fin_a, fin_n, ee_b_0, ee_fld0, ee_fld1, ee_fld2, ee_fld3, bi_0, bi_1, bi_2, bi_3, bi_4, bi_5, bi_6, bi_7, bi_8, bi_9, bi_10, bl_20, bl_21, bl_22, bl_23, bl_24, bl_25, bl_26, bl_48, bl_49, un_0, un_1, un_2, un_3, if_true, if_false, ite_true, ite_false, Bool.false_eq_true, Bool.not_eq_false, decide_not, Bool.not_not, reduceCtorEq, st_i, st_l, st_r, st_n, ee_noL, ee_noL.eq_1, List.length_cons, List.length_nil, Nat.reduceAdd, Nat.reduceLT, Nat.zero_add, and_true, true_and, and_self, fin_ite, pu_0, pu_1, pu_3, sto_0, el_0, Bool.not_eq_true, decide_eq_false_iff_not, Bool.decide_eq_true, Bool.decide_eq_false, decide_true, decide_false, Bool.not_true, Bool.not_false, Bool.and_self, Bool.and_true, Bool.and_false, Bool.true_and, Bool.false_and, Bool.or_true, Bool.or_false, Bool.true_or, Bool.false_or, if_true, if_false, Bool.false_eq_true, ix_9, tc_9, mz_0, mz_1, mz_a, rvs, j_s, j_a, wI_at, Nat.reduceEqDiff, zero_ne_one_n, one_ne_zero_n]
theorem b_undo (hd : 4 ≤ d) (hS : Sim w) : Both P d 105 232 [] w := by
  obtain ⟨Z, h1, h2, h3⟩ := hS
  obtain ⟨d, rfl⟩ : ∃ k, d = k + 1 := ⟨d - 1, by omega⟩
  have hd1 : 1 ≤ d := by omega
  have hd3 : 3 ≤ d := by omega
  by_cases q : Z.1.2.1.1 = 0
  · refine both_q h1 h2 h3 (r := .int (-1)) ?_ (m_undo0 (by omega) h2.1 q)
    have g := c_giveBack0 (P := P) (w := w) (g := 2) hd1 st5 h1.1.2.2.1 q
    rw [rn_105 cz_0]
    simp only [g, cz_0, cz_r0, al_1.1, al_1.2.1, al_1.2.2.1, rvs, bd_105, k_4294967295, v_call, v_cons, v_get, v_int, v_loc, v_nil, v_not, v_z, w_if, w_ret, List.getElem?_cons_zero, List.getElem?_cons_succ, List.set_cons_zero, List.set_cons_succ, ee_cmp0, ee_cmp1, ee_cmp2, ee_cmp3, ee_cmp4, ee_cmp5, ee_cmpL0, ee_cmpL1, ee_cmpL2, ee_cmpL3, ee_cmpL4, ee_cmpL5, ee_tru_eb, decide_eq_true_eq, ib_i, ie_b, ie_f, ie_t, ib_l, fin_i, fin_l, fin_v, fin_z, fin_a, fin_n, ee_b_0, ee_fld0, ee_fld1, ee_fld2, ee_fld3, bi_0, bi_1, bi_2, bi_3, bi_4, bi_5, bi_6, bi_7, bi_8, bi_9, bi_10, bl_20, bl_21, bl_22, bl_23, bl_24, bl_25, bl_26, bl_48, bl_49, un_0, un_1, un_2, un_3, if_true, if_false, ite_true, ite_false, Bool.false_eq_true, Bool.not_eq_false, decide_not, Bool.not_not, reduceCtorEq, st_i, st_l, st_r, st_n, ee_noL, ee_noL.eq_1, List.length_cons, List.length_nil, Nat.reduceAdd, Nat.reduceLT, Nat.zero_add, and_true, true_and, and_self, fin_ite, pu_0, pu_1, pu_3, sto_0, el_0, Bool.not_eq_true, decide_eq_false_iff_not, Bool.decide_eq_true, Bool.decide_eq_false, decide_true, decide_false, Bool.not_true, Bool.not_false, Bool.and_self, Bool.and_true, Bool.and_false, Bool.true_and, Bool.false_and, Bool.or_true, Bool.or_false, Bool.true_or, Bool.false_or, if_true, if_false, Bool.false_eq_true]
  · obtain ⟨v1, ⟨v2, v3⟩, v4⟩ := h3.1
    have hW : WZ ((Z.1.2.1.2 (Z.1.2.1.1 - 1), (Z.1.2.1.1 - 1, Z.1.2.1.2), Z.1.2.2), Z.2) := ⟨⟨v3 _ (by omega), ⟨by show Z.1.2.1.1 - 1 ≤ 30; omega, fun i hi => v3 i (by have hi : i < Z.1.2.1.1 - 1 := hi; omega)⟩, v4⟩, h3.2.1, h3.2.2.1, h3.2.2.2⟩
    refine both_of h2 h3 hW (r := .int (Int32.ofNat (Z.1.2.1.1 - 1))) ?_ ?_
    · obtain ⟨w1, n1, n2, n3, n4⟩ := c_giveBack (P := P) hd3 st5 hd2_ok (by omega) h1.1.2.2.1 q
      have hc : chg hmrg w w1 := chg_mono n4 (fun c h => by rw [rgo_f]; exact ⟨srg_hm c h, hrg_hm c h⟩)
      have a := CA_hs h1.1 hc (hmrg_f (by omega) (by omega)) (fun c q1 q2 => hmrg_f (by omega) (by omega)) n3 (v3 _ (by omega)).2.1 n2
      refine ⟨w1, ?_, CZ_rest h1 hc (hmrg_f (by omega) (by omega)) (hmrg_f (by omega) (by omega)) (hmrg_f (by omega) (by omega)) (fun c q1 q2 => hmrg_f (by omega) (by omega)) a (CA_chg h1.2.1 hc (fun c q1 q2 => hmrg_f (by omega) (by omega))) (Nat.le_refl _), chg_mono hc hm_lo⟩
      have e : w1.1 5 2 = Int32.ofNat (Z.1.2.1.1 - 1) := n2.2.1
      rw [rn_105 cz_0]
      simp only [n1, e, cz_0, cz_r0, al_1.1, al_1.2.1, al_1.2.2.1, st5.1, rvs, bd_105, k_4294967295, v_call, v_cons, v_get, v_int, v_loc, v_nil, v_not, v_z, w_if, w_ret, List.getElem?_cons_zero, List.getElem?_cons_succ, List.set_cons_zero, List.set_cons_succ, ee_cmp0, ee_cmp1, ee_cmp2, ee_cmp3, ee_cmp4, ee_cmp5, ee_cmpL0, ee_cmpL1, ee_cmpL2, ee_cmpL3, ee_cmpL4, ee_cmpL5, ee_tru_eb, decide_eq_true_eq, ib_i, ie_b, ie_f, ie_t, ib_l, fin_i, fin_l, fin_v, fin_z, fin_a, fin_n, ee_b_0, ee_fld0, ee_fld1, ee_fld2, ee_fld3, bi_0, bi_1, bi_2, bi_3, bi_4, bi_5, bi_6, bi_7, bi_8, bi_9, bi_10, bl_20, bl_21, bl_22, bl_23, bl_24, bl_25, bl_26, bl_48, bl_49, un_0, un_1, un_2, un_3, if_true, if_false, ite_true, ite_false, Bool.false_eq_true, Bool.not_eq_false, decide_not, Bool.not_not, reduceCtorEq, st_i, st_l, st_r, st_n, ee_noL, ee_noL.eq_1, List.length_cons, List.length_nil, Nat.reduceAdd, Nat.reduceLT, Nat.zero_add, and_true, true_and, and_self, fin_ite, pu_0, pu_1, pu_3, sto_0, el_0, Bool.not_eq_true, decide_eq_false_iff_not, Bool.decide_eq_true, Bool.decide_eq_false, decide_true, decide_false, Bool.not_true, Bool.not_false, Bool.and_self, Bool.and_true, Bool.and_false, Bool.true_and, Bool.false_and, Bool.or_true, Bool.or_false, Bool.true_or, Bool.false_or, if_true, if_false, Bool.false_eq_true]
    · intro w1 hM
      obtain ⟨w2, n1, n2, n3⟩ := m_undo (P := P) (d := d + 1) (by omega) hM.1 h3.1 q
      exact ⟨w2, n1, MZ_rest hM n3 (fun k => by unfold pun; omega) n2 (MA_eq hM.2.1 h3.2.1 (fun k _ => n3.1 _ _ (by unfold pun; omega))) (Nat.le_refl _), chk_mono n3 (fun c k h => by unfold pun at h; unfold phi; omega)⟩
end BH
