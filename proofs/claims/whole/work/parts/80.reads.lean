/-! what is, on both sides -/
section BR
variable {P : Nat → Nat → List Value → ee_W → Option (List Value × ee_W)} {d : Nat} {w : ee_W} {Z : ZX}
theorem memc (v : Int32) (a : Nat) (b : ee_T) : (v ∈ (ee_list (n_p (n_n a) b)).map Int32.ofNat) = (v = Int32.ofNat a ∨ v ∈ (ee_list b).map Int32.ofNat) := by
  show (v ∈ (a :: ee_list b).map Int32.ofNat) = _
  rw [List.map_cons, List.mem_cons]
theorem memn (v : Int32) (a : Nat) : (v ∈ (ee_list (n_n a)).map Int32.ofNat) = False := by
  show (v ∈ ([] : List Nat).map Int32.ofNat) = _
  rw [List.map_nil]
  simp
def rul (Z : ZX) : Option TX := if Z.1.2.2.2.1 2 = -1 then none else some (Z.2.2.1 (Z.1.2.2.2.1 2).toInt.toNat)
theorem ofN_ne {i : Nat} (h : i < 2147483648) : ¬ Int32.ofNat i = -1 := fun z => by
  have := i32_eq.1 z
  rw [nI_t h, show (-1 : Int32).toInt = -1 from rfl] at this
  omega
theorem rul_of (hW : WZ Z) : ∃ n, n ≤ 4 ∧ Z.1.2.2.2.1 1 = Int32.ofNat n ∧ nT Z.1 = n ∧ ((Z.1.2.2.2.1 2 = -1 ∧ rul Z = none) ∨ ∃ i, i < n ∧ Z.1.2.2.2.1 2 = Int32.ofNat i ∧ rul Z = some (Z.2.2.1 i)) := by
  obtain ⟨n, h1, h2, h3, h4⟩ := nT_of hW.1
  refine ⟨n, h1, h2, h3, ?_⟩
  rcases h4 with h4 | ⟨i, h4, h5⟩
  · left
    refine ⟨h4, ?_⟩
    unfold rul
    rw [if_pos h4]
  · right
    refine ⟨i, h4, h5, ?_⟩
    unfold rul
    rw [h5, if_neg (ofN_ne (by omega)), nI_t (by omega)]
    rfl
theorem RL_of (hZ : CZ w Z) (hW : WZ Z) : RL w (rul Z) := by
  obtain ⟨n, h1, h2, h3, h4⟩ := rul_of hW
  obtain ⟨b1, b2, b3, b4, b5⟩ := hZ.1.2.2.2.1
  refine ⟨n, h1, b3.trans h2, ?_⟩
  rcases h4 with ⟨h4, h5⟩ | ⟨i, h4, h5, h6⟩
  · exact Or.inr ⟨b4.trans h4, h5⟩
  · exact Or.inl ⟨i, _, h4, b4.trans h5, h6, hZ.2.2.1 i (by omega) (by omega)⟩
theorem RM_of (hM : MZ w Z) (hW : WZ Z) : RMi w (w.1 237 1) (rul Z) := by
  obtain ⟨n, h1, h2, h3, h4⟩ := rul_of hW
  rw [hM.1.1.2.1]
  rcases h4 with ⟨h4, h5⟩ | ⟨i, h4, h5, h6⟩
  · exact Or.inl ⟨h4, h5⟩
  · exact Or.inr ⟨i, _, by omega, h5, h6, hM.2.2.1 i (by omega) (by omega)⟩
theorem CZ_mach {w' : ee_W} (hZ : CZ w Z) (hc : chg mrg w w') : CZ w' Z :=
  CZ_rest hZ hc (mrg_f (by omega)) (mrg_f (by omega)) (by unfold mrg; rw [rg_f]; omega) (fun c q1 q2 => mrg_f (by omega)) (CA_chg hZ.1 hc (fun c q1 q2 => mrg_f (by omega))) (CA_chg hZ.2.1 hc (fun c q1 q2 => mrg_f (by omega))) (Nat.le_refl _)
theorem MZ_scr {p : Nat → Nat → Prop} {w' : ee_W} (hM : MZ w Z) (hW : WZ Z) (hc : chk p w w') (hp : ∀ c k, 236 ≤ c → c ≤ 240 → ¬ p c k) : MZ w' Z :=
  MZ_rest hM hc (fun k => ⟨hp _ _ (by omega) (by omega), hp _ _ (by omega) (by omega), hp _ _ (by omega) (by omega)⟩) (MA_eq hM.1 hW.1 (fun k _ => hc.1 _ _ (hp _ _ (by omega) (by omega)))) (MA_eq hM.2.1 hW.2.1 (fun k _ => hc.1 _ _ (hp _ _ (by omega) (by omega)))) (Nat.le_refl _)
theorem mrg_lo : ∀ c, plo c = false → mrg c = false := fun c h => by
  have := plo_f.1 h
  unfold mrg
  rw [rg_f]
  omega
theorem b_pulls (hd : 9 ≤ d) (hS : Sim w) : Both P d 109 274 [] w := by
  obtain ⟨Z, h1, h2, h3⟩ := hS
  obtain ⟨d, rfl⟩ : ∃ k, d = k + 1 := ⟨d - 1, by omega⟩
  have hd2 : 2 ≤ d := by omega
  have hd6 : 6 ≤ d := by omega
  have hd8 : 8 ≤ d := by omega
  refine both_of h2 h3 h3 (r := .int (pv Z.1.1 (lawP (rul Z)))) ?_ ?_
  · obtain ⟨lv, n1, n2⟩ := c_ruling (P := P) hd2 (RL_of h1 h3)
    obtain ⟨w', m1, m2⟩ := c_pullL (P := P) hd6 n1 hd2_ok (by omega) h1.1.1 h3.1.1.1.1.1
    refine ⟨w', ?_, CZ_mach h1 m2, chg_mono m2 mrg_lo⟩
    rw [rn_109 cz_0]
    simp only [n2, m1, cz_0, cz_r0, al_1.1, al_1.2.1, rvs, bd_109, v_call, v_cons, v_get, v_loc, v_nil, w_ret, List.getElem?_cons_zero, List.getElem?_cons_succ, List.set_cons_zero, List.set_cons_succ, ee_cmp0, ee_cmp1, ee_cmp2, ee_cmp3, ee_cmp4, ee_cmp5, ee_cmpL0, ee_cmpL1, ee_cmpL2, ee_cmpL3, ee_cmpL4, ee_cmpL5, ee_tru_eb, decide_eq_true_eq, ib_i, ie_b, ie_f, ie_t, ib_l, fin_i, fin_l, fin_v, fin_z, fin_a, fin_n, ee_b_0, ee_fld0, ee_fld1, ee_fld2, ee_fld3, bi_0, bi_1, bi_2, bi_3, bi_4, bi_5, bi_6, bi_7, bi_8, bi_9, bi_10, bl_20, bl_21, bl_22, bl_23, bl_24, bl_25, bl_26, bl_48, bl_49, un_0, un_1, un_2, un_3, if_true, if_false, ite_true, ite_false, Bool.false_eq_true, Bool.not_eq_false, decide_not, Bool.not_not, reduceCtorEq, st_i, st_l, st_r, st_n, ee_noL, ee_noL.eq_1, List.length_cons, List.length_nil, Nat.reduceAdd, Nat.reduceLT, Nat.zero_add, and_true, true_and, and_self, fin_ite, pu_0, pu_1, pu_3, sto_0, el_0, Bool.not_eq_true, decide_eq_false_iff_not, Bool.decide_eq_true, Bool.decide_eq_false, decide_true, decide_false, Bool.not_true, Bool.not_false, Bool.and_self, Bool.and_true, Bool.and_false, Bool.true_and, Bool.false_and, Bool.or_true, Bool.or_false, Bool.true_or, Bool.false_or, if_true, if_false, Bool.false_eq_true]
  · intro w1 hM
    have h10 : w1.1 237 10 = Z.1.1.1 5 := hM.1.2.1.1 5 (by omega) (by omega)
    obtain ⟨w', m1, m2⟩ := m_pulls (P := P) hd8 hM.1.2.1.1 h3.1.1.1 h3.1.1.1.2.2.2.2.2.1 (RM_of hM h3)
    rw [xe_self] at m1
    refine ⟨w', ?_, MZ_scr hM h3 m2 (fun c k q1 q2 => by unfold plw; omega), chk_mono m2 (fun c k h => by unfold plw at h; unfold phi; omega)⟩
    rw [rn_274 mz_0]
    simp only [h10, m1, bd_274, k_1, k_10, nz_1, nz_10, v_call, v_cons, v_get, v_idx, v_int, v_loc, v_nil, w_ret, List.getElem?_cons_zero, List.getElem?_cons_succ, List.set_cons_zero, List.set_cons_succ, ee_cmp0, ee_cmp1, ee_cmp2, ee_cmp3, ee_cmp4, ee_cmp5, ee_cmpL0, ee_cmpL1, ee_cmpL2, ee_cmpL3, ee_cmpL4, ee_cmpL5, ee_tru_eb, decide_eq_true_eq, ib_i, ie_b, ie_f, ie_t, ib_l, fin_i, fin_l, fin_v, fin_z, fin_a, fin_n, ee_b_0, ee_fld0, ee_fld1, ee_fld2, ee_fld3, bi_0, bi_1, bi_2, bi_3, bi_4, bi_5, bi_6, bi_7, bi_8, bi_9, bi_10, bl_20, bl_21, bl_22, bl_23, bl_24, bl_25, bl_26, bl_48, bl_49, un_0, un_1, un_2, un_3, if_true, if_false, ite_true, ite_false, Bool.false_eq_true, Bool.not_eq_false, decide_not, Bool.not_not, reduceCtorEq, st_i, st_l, st_r, st_n, ee_noL, ee_noL.eq_1, List.length_cons, List.length_nil, Nat.reduceAdd, Nat.reduceLT, Nat.zero_add, and_true, true_and, and_self, fin_ite, pu_0, pu_1, pu_3, sto_0, el_0, Bool.not_eq_true, decide_eq_false_iff_not, Bool.decide_eq_true, Bool.decide_eq_false, decide_true, decide_false, Bool.not_true, Bool.not_false, Bool.and_self, Bool.and_true, Bool.and_false, Bool.true_and, Bool.false_and, Bool.or_true, Bool.or_false, Bool.true_or, Bool.false_or, if_true, if_false, Bool.false_eq_true, ix_1, ix_10, tc_1, tc_10, mz_0, mz_1, mz_a, rvs, j_s, j_a, wI_at, Nat.reduceEqDiff, zero_ne_one_n, one_ne_zero_n]
theorem b_lost (hd : 1 ≤ d) (hS : Sim w) : Both P d 170 272 [] w := by
  obtain ⟨Z, h1, h2, h3⟩ := hS
  obtain ⟨d, rfl⟩ : ∃ k, d = k + 1 := ⟨d - 1, by omega⟩
  refine both_q h1 h2 h3 (r := .int (Z.1.2.2.2.1 0)) ?_ ?_
  · rw [rn_170 cz_0]
    simp only [cz_0, cz_r0, al_1.1, rvs, h1.1.2.2.2.1.2.1, bd_170, v_get, v_loc, w_ret, List.getElem?_cons_zero, List.getElem?_cons_succ, List.set_cons_zero, List.set_cons_succ, ee_cmp0, ee_cmp1, ee_cmp2, ee_cmp3, ee_cmp4, ee_cmp5, ee_cmpL0, ee_cmpL1, ee_cmpL2, ee_cmpL3, ee_cmpL4, ee_cmpL5, ee_tru_eb, decide_eq_true_eq, ib_i, ie_b, ie_f, ie_t, ib_l, fin_i, fin_l, fin_v, fin_z, fin_a, fin_n, ee_b_0, ee_fld0, ee_fld1, ee_fld2, ee_fld3, bi_0, bi_1, bi_2, bi_3, bi_4, bi_5, bi_6, bi_7, bi_8, bi_9, bi_10, bl_20, bl_21, bl_22, bl_23, bl_24, bl_25, bl_26, bl_48, bl_49, un_0, un_1, un_2, un_3, if_true, if_false, ite_true, ite_false, Bool.false_eq_true, Bool.not_eq_false, decide_not, Bool.not_not, reduceCtorEq, st_i, st_l, st_r, st_n, ee_noL, ee_noL.eq_1, List.length_cons, List.length_nil, Nat.reduceAdd, Nat.reduceLT, Nat.zero_add, and_true, true_and, and_self, fin_ite, pu_0, pu_1, pu_3, sto_0, el_0, Bool.not_eq_true, decide_eq_false_iff_not, Bool.decide_eq_true, Bool.decide_eq_false, decide_true, decide_false, Bool.not_true, Bool.not_false, Bool.and_self, Bool.and_true, Bool.and_false, Bool.true_and, Bool.false_and, Bool.or_true, Bool.or_false, Bool.true_or, Bool.false_or, if_true, if_false, Bool.false_eq_true]
  · rw [rn_272 mz_0]
    simp only [h2.1.2.2.2.2.1, bd_272, k_31, nz_31, v_get, v_idx, v_int, v_loc, w_ret, List.getElem?_cons_zero, List.getElem?_cons_succ, List.set_cons_zero, List.set_cons_succ, ee_cmp0, ee_cmp1, ee_cmp2, ee_cmp3, ee_cmp4, ee_cmp5, ee_cmpL0, ee_cmpL1, ee_cmpL2, ee_cmpL3, ee_cmpL4, ee_cmpL5, ee_tru_eb, decide_eq_true_eq, ib_i, ie_b, ie_f, ie_t, ib_l, fin_i, fin_l, fin_v, fin_z, fin_a, fin_n, ee_b_0, ee_fld0, ee_fld1, ee_fld2, ee_fld3, bi_0, bi_1, bi_2, bi_3, bi_4, bi_5, bi_6, bi_7, bi_8, bi_9, bi_10, bl_20, bl_21, bl_22, bl_23, bl_24, bl_25, bl_26, bl_48, bl_49, un_0, un_1, un_2, un_3, if_true, if_false, ite_true, ite_false, Bool.false_eq_true, Bool.not_eq_false, decide_not, Bool.not_not, reduceCtorEq, st_i, st_l, st_r, st_n, ee_noL, ee_noL.eq_1, List.length_cons, List.length_nil, Nat.reduceAdd, Nat.reduceLT, Nat.zero_add, and_true, true_and, and_self, fin_ite, pu_0, pu_1, pu_3, sto_0, el_0, Bool.not_eq_true, decide_eq_false_iff_not, Bool.decide_eq_true, Bool.decide_eq_false, decide_true, decide_false, Bool.not_true, Bool.not_false, Bool.and_self, Bool.and_true, Bool.and_false, Bool.true_and, Bool.false_and, Bool.or_true, Bool.or_false, Bool.true_or, Bool.false_or, if_true, if_false, Bool.false_eq_true, ix_31, tc_31, mz_0, mz_1, mz_a, rvs, j_s, j_a, wI_at, Nat.reduceEqDiff, zero_ne_one_n, one_ne_zero_n]
theorem far_eq (p t : Int32) : p - 16 * t - 8 = p - (t * 16 + 8) := by grind
theorem b_far (hd : 3 ≤ d) (hS : Sim w) (t : Int32) : Both P d 171 273 [.int t] w := by
  obtain ⟨Z, h1, h2, h3⟩ := hS
  obtain ⟨d, rfl⟩ : ∃ k, d = k + 1 := ⟨d - 1, by omega⟩
  have hd1 : 1 ≤ d := by omega
  have hd2 : 2 ≤ d := by omega
  have h7 : w.1 237 7 = Z.1.1.1 2 := h2.1.2.1.1 2 (by omega) (by omega)
  have em := r_isTrackM (P := P) (w := w) hd2 t
  rw [i63] at em
  refine both_q h1 h2 h3 (r := .int (if (decide (0 ≤ t) && decide (t < 64)) = true then Z.1.1.1 2 - (t * 16 + 8) else -10000)) ?_ ?_
  · rw [rn_171 cz_0]
    cases q : (decide (0 ≤ t) && decide (t < 64)) <;> simp only [r_isTrack hd1, r_middle hd1, q, cz_0, cz_r0, al_1.1, al_1.2.1, hd2_ok.1, rvs, h1.1.1.1.2.2.1, bd_171, k_4294957296, v_bin, v_call, v_cons, v_get, v_int, v_loc, v_nil, v_tern, v_z, w_ret, List.getElem?_cons_zero, List.getElem?_cons_succ, List.set_cons_zero, List.set_cons_succ, ee_cmp0, ee_cmp1, ee_cmp2, ee_cmp3, ee_cmp4, ee_cmp5, ee_cmpL0, ee_cmpL1, ee_cmpL2, ee_cmpL3, ee_cmpL4, ee_cmpL5, ee_tru_eb, decide_eq_true_eq, ib_i, ie_b, ie_f, ie_t, ib_l, fin_i, fin_l, fin_v, fin_z, fin_a, fin_n, ee_b_0, ee_fld0, ee_fld1, ee_fld2, ee_fld3, bi_0, bi_1, bi_2, bi_3, bi_4, bi_5, bi_6, bi_7, bi_8, bi_9, bi_10, bl_20, bl_21, bl_22, bl_23, bl_24, bl_25, bl_26, bl_48, bl_49, un_0, un_1, un_2, un_3, if_true, if_false, ite_true, ite_false, Bool.false_eq_true, Bool.not_eq_false, decide_not, Bool.not_not, reduceCtorEq, st_i, st_l, st_r, st_n, ee_noL, ee_noL.eq_1, List.length_cons, List.length_nil, Nat.reduceAdd, Nat.reduceLT, Nat.zero_add, and_true, true_and, and_self, fin_ite, pu_0, pu_1, pu_3, sto_0, el_0, Bool.not_eq_true, decide_eq_false_iff_not, Bool.decide_eq_true, Bool.decide_eq_false, decide_true, decide_false, Bool.not_true, Bool.not_false, Bool.and_self, Bool.and_true, Bool.and_false, Bool.true_and, Bool.false_and, Bool.or_true, Bool.or_false, Bool.true_or, Bool.false_or, if_true, if_false, Bool.false_eq_true]
  · rw [rn_273 mz_0]
    cases q : (decide (0 ≤ t) && decide (t < 64)) <;> simp only [em, q, h7, far_eq, bd_273, k_16, k_4294957296, k_7, k_8, nz_16, nz_7, nz_8, v_bin, v_call, v_cons, v_get, v_idx, v_int, v_loc, v_nil, v_tern, v_z, w_ret, List.getElem?_cons_zero, List.getElem?_cons_succ, List.set_cons_zero, List.set_cons_succ, ee_cmp0, ee_cmp1, ee_cmp2, ee_cmp3, ee_cmp4, ee_cmp5, ee_cmpL0, ee_cmpL1, ee_cmpL2, ee_cmpL3, ee_cmpL4, ee_cmpL5, ee_tru_eb, decide_eq_true_eq, ib_i, ie_b, ie_f, ie_t, ib_l, fin_i, fin_l, fin_v, fin_z, fin_a, fin_n, ee_b_0, ee_fld0, ee_fld1, ee_fld2, ee_fld3, bi_0, bi_1, bi_2, bi_3, bi_4, bi_5, bi_6, bi_7, bi_8, bi_9, bi_10, bl_20, bl_21, bl_22, bl_23, bl_24, bl_25, bl_26, bl_48, bl_49, un_0, un_1, un_2, un_3, if_true, if_false, ite_true, ite_false, Bool.false_eq_true, Bool.not_eq_false, decide_not, Bool.not_not, reduceCtorEq, st_i, st_l, st_r, st_n, ee_noL, ee_noL.eq_1, List.length_cons, List.length_nil, Nat.reduceAdd, Nat.reduceLT, Nat.zero_add, and_true, true_and, and_self, fin_ite, pu_0, pu_1, pu_3, sto_0, el_0, Bool.not_eq_true, decide_eq_false_iff_not, Bool.decide_eq_true, Bool.decide_eq_false, decide_true, decide_false, Bool.not_true, Bool.not_false, Bool.and_self, Bool.and_true, Bool.and_false, Bool.true_and, Bool.false_and, Bool.or_true, Bool.or_false, Bool.true_or, Bool.false_or, if_true, if_false, Bool.false_eq_true, ix_16, ix_7, ix_8, tc_16, tc_7, tc_8, mz_0, mz_1, mz_a, rvs, j_s, j_a, wI_at, Nat.reduceEqDiff, zero_ne_one_n, one_ne_zero_n]
theorem b_is (hd : 2 ≤ d) (hS : Sim w) (x : Int32) : Both P d 108 271 [.int x] w := by
  obtain ⟨Z, h1, h2, h3⟩ := hS
  obtain ⟨d, rfl⟩ : ∃ k, d = k + 1 := ⟨d - 1, by omega⟩
  have hd1 : 1 ≤ d := by omega
  obtain ⟨⟨a0, a1, a2, a3, a4, a5, a6, a7, a8⟩, -⟩ := h1.1.1
  have a0 : w.1 2 7 = _ := a0
  cases q : (decide (0 ≤ x) && decide (x ≤ 8))
  · have g : ∀ k : Nat, k ≤ 8 → ¬ x = Int32.ofNat k := by
      intro k hk h
      rw [h] at q
      have : k = 0 ∨ k = 1 ∨ k = 2 ∨ k = 3 ∨ k = 4 ∨ k = 5 ∨ k = 6 ∨ k = 7 ∨ k = 8 := by omega
      rcases this with rfl | rfl | rfl | rfl | rfl | rfl | rfl | rfl | rfl <;> exact absurd q (by decide)
    have g0 := g 0 (by omega)
    have g1 := g 1 (by omega)
    have g2 := g 2 (by omega)
    have g3 := g 3 (by omega)
    have g4 := g 4 (by omega)
    have g5 := g 5 (by omega)
    have g6 := g 6 (by omega)
    have g7 := g 7 (by omega)
    have g8 := g 8 (by omega)
    rw [k_0] at g0
    rw [k_1] at g1
    rw [k_2] at g2
    rw [k_3] at g3
    rw [k_4] at g4
    rw [k_5] at g5
    rw [k_6] at g6
    rw [k_7] at g7
    rw [k_8] at g8
    refine both_q h1 h2 h3 (r := .int (-10000)) ?_ ?_
    · rw [rn_108 cz_0]
      simp only [g0, g1, g2, g3, g4, g5, g6, g7, g8, memc, memn, or_false, k_0, k_1, k_2, k_3, k_4, k_5, k_6, k_7, k_8, cz_0, cz_r0, al_1.1, al_1.2.1, rvs, bd_108, k_4294957296, v_get, v_int, v_loc, w_case, w_dflt, w_ret, w_seq, w_set, w_switch, List.getElem?_cons_zero, List.getElem?_cons_succ, List.set_cons_zero, List.set_cons_succ, ee_cmp0, ee_cmp1, ee_cmp2, ee_cmp3, ee_cmp4, ee_cmp5, ee_cmpL0, ee_cmpL1, ee_cmpL2, ee_cmpL3, ee_cmpL4, ee_cmpL5, ee_tru_eb, decide_eq_true_eq, ib_i, ie_b, ie_f, ie_t, ib_l, fin_i, fin_l, fin_v, fin_z, fin_a, fin_n, ee_b_0, ee_fld0, ee_fld1, ee_fld2, ee_fld3, bi_0, bi_1, bi_2, bi_3, bi_4, bi_5, bi_6, bi_7, bi_8, bi_9, bi_10, bl_20, bl_21, bl_22, bl_23, bl_24, bl_25, bl_26, bl_48, bl_49, un_0, un_1, un_2, un_3, if_true, if_false, ite_true, ite_false, Bool.false_eq_true, Bool.not_eq_false, decide_not, Bool.not_not, reduceCtorEq, st_i, st_l, st_r, st_n, ee_noL, ee_noL.eq_1, List.length_cons, List.length_nil, Nat.reduceAdd, Nat.reduceLT, Nat.zero_add, and_true, true_and, and_self, fin_ite, pu_0, pu_1, pu_3, sto_0, el_0, Bool.not_eq_true, decide_eq_false_iff_not, Bool.decide_eq_true, Bool.decide_eq_false, decide_true, decide_false, Bool.not_true, Bool.not_false, Bool.and_self, Bool.and_true, Bool.and_false, Bool.true_and, Bool.false_and, Bool.or_true, Bool.or_false, Bool.true_or, Bool.false_or, if_true, if_false, Bool.false_eq_true]
    · rw [rn_271 mz_0]
      simp only [r_isIn hd1, q, bd_271, k_0, k_4294957296, k_5, k_8, nz_5, nz_8, v_bin, v_call, v_cons, v_get, v_idx, v_int, v_loc, v_nil, v_tern, v_z, w_ret, List.getElem?_cons_zero, List.getElem?_cons_succ, List.set_cons_zero, List.set_cons_succ, ee_cmp0, ee_cmp1, ee_cmp2, ee_cmp3, ee_cmp4, ee_cmp5, ee_cmpL0, ee_cmpL1, ee_cmpL2, ee_cmpL3, ee_cmpL4, ee_cmpL5, ee_tru_eb, decide_eq_true_eq, ib_i, ie_b, ie_f, ie_t, ib_l, fin_i, fin_l, fin_v, fin_z, fin_a, fin_n, ee_b_0, ee_fld0, ee_fld1, ee_fld2, ee_fld3, bi_0, bi_1, bi_2, bi_3, bi_4, bi_5, bi_6, bi_7, bi_8, bi_9, bi_10, bl_20, bl_21, bl_22, bl_23, bl_24, bl_25, bl_26, bl_48, bl_49, un_0, un_1, un_2, un_3, if_true, if_false, ite_true, ite_false, Bool.false_eq_true, Bool.not_eq_false, decide_not, Bool.not_not, reduceCtorEq, st_i, st_l, st_r, st_n, ee_noL, ee_noL.eq_1, List.length_cons, List.length_nil, Nat.reduceAdd, Nat.reduceLT, Nat.zero_add, and_true, true_and, and_self, fin_ite, pu_0, pu_1, pu_3, sto_0, el_0, Bool.not_eq_true, decide_eq_false_iff_not, Bool.decide_eq_true, Bool.decide_eq_false, decide_true, decide_false, Bool.not_true, Bool.not_false, Bool.and_self, Bool.and_true, Bool.and_false, Bool.true_and, Bool.false_and, Bool.or_true, Bool.or_false, Bool.true_or, Bool.false_or, if_true, if_false, Bool.false_eq_true, ix_0, ix_5, ix_8, tc_0, tc_5, tc_8, mz_0, mz_1, mz_a, rvs, j_s, j_a, wI_at, Nat.reduceEqDiff, zero_ne_one_n, one_ne_zero_n]
  · obtain ⟨n, hn, rfl⟩ := in_nat 8 (by omega) q
    refine both_q h1 h2 h3 (r := .int (Z.1.1.1 n)) ?_ ?_
    · rw [rn_108 cz_0]
      have : n = 0 ∨ n = 1 ∨ n = 2 ∨ n = 3 ∨ n = 4 ∨ n = 5 ∨ n = 6 ∨ n = 7 ∨ n = 8 := by omega
      rcases this with rfl | rfl | rfl | rfl | rfl | rfl | rfl | rfl | rfl <;> simp +decide only [memc, memn, or_false, cz_0, cz_r0, al_1.1, al_1.2.1, hd2_ok.1, rvs, a0, a1, a2, a3, a4, a5, a6, a7, a8, bd_108, k_4294957296, v_get, v_int, v_loc, w_case, w_dflt, w_ret, w_seq, w_set, w_switch, List.getElem?_cons_zero, List.getElem?_cons_succ, List.set_cons_zero, List.set_cons_succ, ee_cmp0, ee_cmp1, ee_cmp2, ee_cmp3, ee_cmp4, ee_cmp5, ee_cmpL0, ee_cmpL1, ee_cmpL2, ee_cmpL3, ee_cmpL4, ee_cmpL5, ee_tru_eb, decide_eq_true_eq, ib_i, ie_b, ie_f, ie_t, ib_l, fin_i, fin_l, fin_v, fin_z, fin_a, fin_n, ee_b_0, ee_fld0, ee_fld1, ee_fld2, ee_fld3, bi_0, bi_1, bi_2, bi_3, bi_4, bi_5, bi_6, bi_7, bi_8, bi_9, bi_10, bl_20, bl_21, bl_22, bl_23, bl_24, bl_25, bl_26, bl_48, bl_49, un_0, un_1, un_2, un_3, if_true, if_false, ite_true, ite_false, Bool.false_eq_true, Bool.not_eq_false, decide_not, Bool.not_not, reduceCtorEq, st_i, st_l, st_r, st_n, ee_noL, ee_noL.eq_1, List.length_cons, List.length_nil, Nat.reduceAdd, Nat.reduceLT, Nat.zero_add, and_true, true_and, and_self, fin_ite, pu_0, pu_1, pu_3, sto_0, el_0, Bool.not_eq_true, decide_eq_false_iff_not, Bool.decide_eq_true, Bool.decide_eq_false, decide_true, decide_false, Bool.not_true, Bool.not_false, Bool.and_self, Bool.and_true, Bool.and_false, Bool.true_and, Bool.false_and, Bool.or_true, Bool.or_false, Bool.true_or, Bool.false_or, if_true, if_false, Bool.false_eq_true]
    · have e5 : (5 : Int32) + Int32.ofNat n = Int32.ofNat (5 + n) := j_a 5 n
      have x1 : ee_ix (Int32.ofNat (5 + n)) 1369 = true := by rw [ixn (by omega)]; exact decide_eq_true (by omega)
      have v := h2.1.2.1.1 n (by omega) (by omega)
      rw [rn_271 mz_0]
      simp only [r_isIn hd1, q, e5, x1, tnc (show 5 + n < 2147483648 by omega), v, bd_271, k_0, k_4294957296, k_5, k_8, nz_5, nz_8, v_bin, v_call, v_cons, v_get, v_idx, v_int, v_loc, v_nil, v_tern, v_z, w_ret, List.getElem?_cons_zero, List.getElem?_cons_succ, List.set_cons_zero, List.set_cons_succ, ee_cmp0, ee_cmp1, ee_cmp2, ee_cmp3, ee_cmp4, ee_cmp5, ee_cmpL0, ee_cmpL1, ee_cmpL2, ee_cmpL3, ee_cmpL4, ee_cmpL5, ee_tru_eb, decide_eq_true_eq, ib_i, ie_b, ie_f, ie_t, ib_l, fin_i, fin_l, fin_v, fin_z, fin_a, fin_n, ee_b_0, ee_fld0, ee_fld1, ee_fld2, ee_fld3, bi_0, bi_1, bi_2, bi_3, bi_4, bi_5, bi_6, bi_7, bi_8, bi_9, bi_10, bl_20, bl_21, bl_22, bl_23, bl_24, bl_25, bl_26, bl_48, bl_49, un_0, un_1, un_2, un_3, if_true, if_false, ite_true, ite_false, Bool.false_eq_true, Bool.not_eq_false, decide_not, Bool.not_not, reduceCtorEq, st_i, st_l, st_r, st_n, ee_noL, ee_noL.eq_1, List.length_cons, List.length_nil, Nat.reduceAdd, Nat.reduceLT, Nat.zero_add, and_true, true_and, and_self, fin_ite, pu_0, pu_1, pu_3, sto_0, el_0, Bool.not_eq_true, decide_eq_false_iff_not, Bool.decide_eq_true, Bool.decide_eq_false, decide_true, decide_false, Bool.not_true, Bool.not_false, Bool.and_self, Bool.and_true, Bool.and_false, Bool.true_and, Bool.false_and, Bool.or_true, Bool.or_false, Bool.true_or, Bool.false_or, if_true, if_false, Bool.false_eq_true, ix_0, ix_5, ix_8, tc_0, tc_5, tc_8, mz_0, mz_1, mz_a, rvs, j_s, j_a, wI_at, Nat.reduceEqDiff, zero_ne_one_n, one_ne_zero_n]
end BR
