/-! years on both sides -/
section BY2
variable {P : Nat → Nat → List Value → ee_W → Option (List Value × ee_W)} {d : Nat} {w : ee_W} {Z : ZX}
def zh (Z : ZX) (X : HX) : ZX := ((X, Z.1.2), Z.2)
theorem WZ_zh (hW : WZ Z) {X : HX} (hX : WH X) : WZ (zh Z X) := ⟨⟨hX, hW.1.2⟩, hW.2.1, hW.2.2.1, hW.2.2.2⟩
theorem c_head {w' : ee_W} {X' : HX} (h1 : CZ w Z) (hc : chg (smrg 2) w w') (hX : CH w' 2 X') (hn : X'.2.1 ≤ 25) : CZ w' (zh Z X') ∧ chg hmrg w w' := by
  have hc2 : chg hmrg w w' := chg_mono hc (fun c h => by unfold smrg; rw [rgo_f]; exact ⟨hrg_hm c h, mrg_hm c h⟩)
  have a := CA_hs h1.1 hc2 (hmrg_f (by omega) (by omega)) (fun c q1 q2 => hmrg_f (by omega) (by omega)) hX hn (CS_chg h1.1.2.2.1 hc (fun c q1 q2 => smrg_f (by omega) (by omega)))
  exact ⟨CZ_rest h1 hc2 (hmrg_f (by omega) (by omega)) (hmrg_f (by omega) (by omega)) (hmrg_f (by omega) (by omega)) (fun c q1 q2 => hmrg_f (by omega) (by omega)) a (CA_chg h1.2.1 hc2 (fun c q1 q2 => hmrg_f (by omega) (by omega))) (Nat.le_refl _), hc2⟩
theorem m_head {w' : ee_W} {X' : HX} (hM : MZ w Z) (hW : WZ Z) (hc : chk (psm true) w w') (hX : MHz true w' X') : MZ w' (zh Z X') ∧ chk pst w w' := by
  have hc2 : chk pst w w' := chk_mono hc psm_pst
  have a := MA_head hM.1 hW.1 hc (fun k hk h => by have := psm_k h; omega) hX
  exact ⟨MZ_rest hM hc2 (fun k => by unfold pst; omega) a (MA_eq hM.2.1 hW.2.1 (fun k _ => hc2.1 _ _ (by unfold pst; omega))) (Nat.le_refl _), hc2⟩
def rm (x m : Int32) : Int32 := x - x / m * m
def xhap (Z : ZX) (x : Int32) : HX :=
  if rm x 6 = 0 then (if rm x 4 = 2 ∧ ¬ rm (x / 6) 64 = Z.1.1.1 4 then xaim Z.1.1 (rm (x / 6) 64) else Z.1.1)
  else if rm x 6 = 1 then (if rm x 4 = 3 ∧ ¬ rm x 11 = 5 then xnudge Z.1.1 (rm x 11 - 5) else Z.1.1)
  else if rm x 6 = 2 then (if 3 ≤ Z.1.1.1 6 then xmark Z.1.1 else Z.1.1)
  else (if Z.1.1.1 0 < 9999 then xsample Z.1.2.2.1 (Z.1.2.2.2.1 0) (rul Z) Z.1.1 else Z.1.1)
theorem rm_b {x : Int32} (hx : okX x) {m : Nat} (h0 : 0 < m) (hm : m < 2147483648) : bI (rm x (Int32.ofNat m)) 0 (m - 1) := by
  obtain ⟨n, n1, n2, n3⟩ := j_of hx.1
  have e := ofnat_rem n1 hm h0
  have hl := Nat.mod_lt n h0
  unfold rm
  rw [n2, e]
  unfold bI
  rw [nI_t (by omega)]
  omega
theorem rm64_b {x : Int32} (hx : okX x) : bI (rm (x / 6) 64) 0 63 := by
  obtain ⟨n, n1, n2, n3⟩ := j_of hx.1
  have e6 : x / 6 = Int32.ofNat (n / 6) := by
    have := Int32.ofNat_div (show n < 2 ^ 31 by omega) (show 6 < 2 ^ 31 by omega)
    rw [n2]
    exact this.symm
  rw [e6]
  have h : okX (Int32.ofNat (n / 6)) := by
    unfold okX at hx ⊢
    rw [nI_t (by omega)]
    omega
  exact rm_b h (m := 64) (by omega) (by omega)
theorem WH_hap (hW : WZ Z) {x : Int32} (hx : okX x) : WH (xhap Z x) := by
  have hX := hW.1.1
  have wf := hX.1
  unfold xhap
  split
  · split
    · exact WH_note (wf_up (wf_up wf 4 (rm64_b hx)) 6 (zb (by omega) (by omega))) hX.2.2.1 hX.2.1 hX.2.2.2 (zb (by omega) (by omega)) (bI_w (rm64_b hx) (by omega) (by omega))
    · exact hX
  · split
    · split
      · have b11 : bI (rm x 11) 0 10 := rm_b hx (m := 11) (by omega) (by omega)
        have b5 : bI (rm x 11 - 5) (-5) 5 := by
          unfold bI at b11 ⊢
          rw [i32_sub] <;> rw [show (5 : Int32).toInt = 5 from rfl] <;> omega
        exact WH_note (wf_up (wf_up wf 2 (bI_hold (by decide) (by decide) (by decide))) 6 (zb (by omega) (by omega))) hX.2.2.1 hX.2.1 hX.2.2.2 (by unfold bI; decide) (bI_w b5 (by omega) (by omega))
      · exact hX
    · split
      · split
        · exact WH_note (wf_up wf 7 (xmin_b wf.2.2.2.2.2.2.2.1.1 wf.2.2.2.2.2.2.2.1.2 (m := 9999) (by decide))) hX.2.2.1 hX.2.1 hX.2.2.2 (by unfold bI; decide) (bI_w wf.2.2.2.2.1 (by omega) (by omega))
        · exact hX
      · split
        · rename_i q
          rw [i32_lt] at q
          exact WH_sample hX q
        · exact hX
theorem c_sampleZ (hd : 8 ≤ d) (h1 : CZ w Z) (h3 : WZ Z) : ∃ w', ee_run ee_B P d 80 [.ref 0, .ref 2] w = some ([], w') ∧ CH w' 2 (xsample Z.1.2.2.1 (Z.1.2.2.2.1 0) (rul Z) Z.1.1) ∧ chg (smrg 2) w w' :=
  c_sample hd hd2_ok (by omega) h1.1.1 h1.1.2.1 h3.1.1.1.1.1 (RL_of h1 h3) h1.1.2.2.2.1.1 h1.1.2.2.2.1.2.1
theorem c_happen (hd : 9 ≤ d) (h1 : CZ w Z) (h3 : WZ Z) {x : Int32} (hx : okX x) : ∃ w', ee_run ee_B P d 104 [.ref 0, .ref 2, .int x] w = some ([], w') ∧ CZ w' (zh Z (xhap Z x)) ∧ chg hmrg w w' := by
  have hW := WH_hap h3 hx
  obtain ⟨d, rfl⟩ : ∃ k, d = k + 1 := ⟨d - 1, by omega⟩
  have hd1 : 1 ≤ d := by omega
  have hd3 : 3 ≤ d := by omega
  have hd8 : 8 ≤ d := by omega
  have n25 := h1.1.2.1
  have e4 : w.1 2 2 = Z.1.1.1 4 := h1.1.1.1.2.2.2.2.1
  have e0 : w.1 2 7 = Z.1.1.1 0 := h1.1.1.1.1
  have s0 := hd2_ok.1
  have k6 : x - x / 6 * 6 = rm x 6 := rfl
  have k4 : x - x / 4 * 4 = rm x 4 := rfl
  have k11 : x - x / 11 * 11 = rm x 11 := rfl
  have k64 : x / 6 - x / 6 / 64 * 64 = rm (x / 6) 64 := rfl
  have same : CZ w (zh Z Z.1.1) := h1
  have mono : ∀ {w'}, chg (hrg 2) w w' → chg (smrg 2) w w' := fun h => chg_mono h (smrg_h 2)
  rw [rn_104 cz_0]
  unfold xhap at hW ⊢
  by_cases q0 : rm x 6 = 0
  · rw [if_pos q0] at hW ⊢
    by_cases q1 : rm x 4 = 2
    · by_cases q2 : rm (x / 6) 64 = Z.1.1.1 4
      · rw [if_neg (fun h => h.2 q2)] at hW ⊢
        refine ⟨w, ?_, same, chg_refl _ _⟩
        simp +decide only [k6, k4, k11, k64, q0, q1, q2, e4, memc, memn, s0, bd_104, k_11, k_2, k_3, k_4, k_5, k_6, k_64, k_9999, nz_11, nz_2, nz_3, nz_4, nz_5, nz_6, nz_64, nz_9999, v_and, v_bin, v_call, v_cmp, v_cons, v_get, v_int, v_loc, v_nil, v_z, w_case, w_dflt, w_exp0, w_exp1, w_if, w_retv, w_seq, w_skip, w_switch, List.getElem?_cons_zero, List.getElem?_cons_succ, List.set_cons_zero, List.set_cons_succ, ee_cmp0, ee_cmp1, ee_cmp2, ee_cmp3, ee_cmp4, ee_cmp5, ee_cmpL0, ee_cmpL1, ee_cmpL2, ee_cmpL3, ee_cmpL4, ee_cmpL5, ee_tru_eb, decide_eq_true_eq, ib_i, ie_b, ie_f, ie_t, ib_l, fin_i, fin_l, fin_v, fin_z, fin_a, fin_n, ee_b_0, ee_fld0, ee_fld1, ee_fld2, ee_fld3, bi_0, bi_1, bi_2, bi_3, bi_4, bi_5, bi_6, bi_7, bi_8, bi_9, bi_10, bl_20, bl_21, bl_22, bl_23, bl_24, bl_25, bl_26, bl_48, bl_49, un_0, un_1, un_2, un_3, if_true, if_false, ite_true, ite_false, Bool.false_eq_true, Bool.not_eq_false, decide_not, Bool.not_not, reduceCtorEq, st_i, st_l, st_r, st_n, ee_noL, ee_noL.eq_1, List.length_cons, List.length_nil, Nat.reduceAdd, Nat.reduceLT, Nat.zero_add, and_true, true_and, and_self, fin_ite, pu_0, pu_1, pu_3, sto_0, el_0, Bool.not_eq_true, decide_eq_false_iff_not, Bool.decide_eq_true, Bool.decide_eq_false, decide_true, decide_false, Bool.not_true, Bool.not_false, Bool.and_self, Bool.and_true, Bool.and_false, Bool.true_and, Bool.false_and, Bool.or_true, Bool.or_false, Bool.true_or, Bool.false_or, if_true, if_false, Bool.false_eq_true]
      · rw [if_pos ⟨q1, q2⟩] at hW ⊢
        obtain ⟨w', m1, m2, m3⟩ := c_aim (P := P) hd3 hd2_ok h1.1.1 n25 (rm (x / 6) 64)
        obtain ⟨r1, r2⟩ := c_head h1 (mono m3) m2 hW.2.1
        refine ⟨w', ?_, r1, r2⟩
        simp +decide only [k6, k4, k11, k64, q0, q1, q2, e4, memc, memn, s0, m1, bd_104, k_11, k_2, k_3, k_4, k_5, k_6, k_64, k_9999, nz_11, nz_2, nz_3, nz_4, nz_5, nz_6, nz_64, nz_9999, v_and, v_bin, v_call, v_cmp, v_cons, v_get, v_int, v_loc, v_nil, v_z, w_case, w_dflt, w_exp0, w_exp1, w_if, w_retv, w_seq, w_skip, w_switch, List.getElem?_cons_zero, List.getElem?_cons_succ, List.set_cons_zero, List.set_cons_succ, ee_cmp0, ee_cmp1, ee_cmp2, ee_cmp3, ee_cmp4, ee_cmp5, ee_cmpL0, ee_cmpL1, ee_cmpL2, ee_cmpL3, ee_cmpL4, ee_cmpL5, ee_tru_eb, decide_eq_true_eq, ib_i, ie_b, ie_f, ie_t, ib_l, fin_i, fin_l, fin_v, fin_z, fin_a, fin_n, ee_b_0, ee_fld0, ee_fld1, ee_fld2, ee_fld3, bi_0, bi_1, bi_2, bi_3, bi_4, bi_5, bi_6, bi_7, bi_8, bi_9, bi_10, bl_20, bl_21, bl_22, bl_23, bl_24, bl_25, bl_26, bl_48, bl_49, un_0, un_1, un_2, un_3, if_true, if_false, ite_true, ite_false, Bool.false_eq_true, Bool.not_eq_false, decide_not, Bool.not_not, reduceCtorEq, st_i, st_l, st_r, st_n, ee_noL, ee_noL.eq_1, List.length_cons, List.length_nil, Nat.reduceAdd, Nat.reduceLT, Nat.zero_add, and_true, true_and, and_self, fin_ite, pu_0, pu_1, pu_3, sto_0, el_0, Bool.not_eq_true, decide_eq_false_iff_not, Bool.decide_eq_true, Bool.decide_eq_false, decide_true, decide_false, Bool.not_true, Bool.not_false, Bool.and_self, Bool.and_true, Bool.and_false, Bool.true_and, Bool.false_and, Bool.or_true, Bool.or_false, Bool.true_or, Bool.false_or, if_true, if_false, Bool.false_eq_true]
    · rw [if_neg (fun h => q1 h.1)] at hW ⊢
      refine ⟨w, ?_, same, chg_refl _ _⟩
      simp +decide only [k6, k4, k11, k64, q0, q1, e4, memc, memn, s0, bd_104, k_11, k_2, k_3, k_4, k_5, k_6, k_64, k_9999, nz_11, nz_2, nz_3, nz_4, nz_5, nz_6, nz_64, nz_9999, v_and, v_bin, v_call, v_cmp, v_cons, v_get, v_int, v_loc, v_nil, v_z, w_case, w_dflt, w_exp0, w_exp1, w_if, w_retv, w_seq, w_skip, w_switch, List.getElem?_cons_zero, List.getElem?_cons_succ, List.set_cons_zero, List.set_cons_succ, ee_cmp0, ee_cmp1, ee_cmp2, ee_cmp3, ee_cmp4, ee_cmp5, ee_cmpL0, ee_cmpL1, ee_cmpL2, ee_cmpL3, ee_cmpL4, ee_cmpL5, ee_tru_eb, decide_eq_true_eq, ib_i, ie_b, ie_f, ie_t, ib_l, fin_i, fin_l, fin_v, fin_z, fin_a, fin_n, ee_b_0, ee_fld0, ee_fld1, ee_fld2, ee_fld3, bi_0, bi_1, bi_2, bi_3, bi_4, bi_5, bi_6, bi_7, bi_8, bi_9, bi_10, bl_20, bl_21, bl_22, bl_23, bl_24, bl_25, bl_26, bl_48, bl_49, un_0, un_1, un_2, un_3, if_true, if_false, ite_true, ite_false, Bool.false_eq_true, Bool.not_eq_false, decide_not, Bool.not_not, reduceCtorEq, st_i, st_l, st_r, st_n, ee_noL, ee_noL.eq_1, List.length_cons, List.length_nil, Nat.reduceAdd, Nat.reduceLT, Nat.zero_add, and_true, true_and, and_self, fin_ite, pu_0, pu_1, pu_3, sto_0, el_0, Bool.not_eq_true, decide_eq_false_iff_not, Bool.decide_eq_true, Bool.decide_eq_false, decide_true, decide_false, Bool.not_true, Bool.not_false, Bool.and_self, Bool.and_true, Bool.and_false, Bool.true_and, Bool.false_and, Bool.or_true, Bool.or_false, Bool.true_or, Bool.false_or, if_true, if_false, Bool.false_eq_true]
  · rw [if_neg q0] at hW ⊢
    by_cases q1 : rm x 6 = 1
    · rw [if_pos q1] at hW ⊢
      by_cases q2 : rm x 4 = 3
      · by_cases q3 : rm x 11 = 5
        · rw [if_neg (fun h => h.2 q3)] at hW ⊢
          refine ⟨w, ?_, same, chg_refl _ _⟩
          simp +decide only [k6, k4, k11, k64, q1, q2, q3, memc, memn, s0, bd_104, k_11, k_2, k_3, k_4, k_5, k_6, k_64, k_9999, nz_11, nz_2, nz_3, nz_4, nz_5, nz_6, nz_64, nz_9999, v_and, v_bin, v_call, v_cmp, v_cons, v_get, v_int, v_loc, v_nil, v_z, w_case, w_dflt, w_exp0, w_exp1, w_if, w_retv, w_seq, w_skip, w_switch, List.getElem?_cons_zero, List.getElem?_cons_succ, List.set_cons_zero, List.set_cons_succ, ee_cmp0, ee_cmp1, ee_cmp2, ee_cmp3, ee_cmp4, ee_cmp5, ee_cmpL0, ee_cmpL1, ee_cmpL2, ee_cmpL3, ee_cmpL4, ee_cmpL5, ee_tru_eb, decide_eq_true_eq, ib_i, ie_b, ie_f, ie_t, ib_l, fin_i, fin_l, fin_v, fin_z, fin_a, fin_n, ee_b_0, ee_fld0, ee_fld1, ee_fld2, ee_fld3, bi_0, bi_1, bi_2, bi_3, bi_4, bi_5, bi_6, bi_7, bi_8, bi_9, bi_10, bl_20, bl_21, bl_22, bl_23, bl_24, bl_25, bl_26, bl_48, bl_49, un_0, un_1, un_2, un_3, if_true, if_false, ite_true, ite_false, Bool.false_eq_true, Bool.not_eq_false, decide_not, Bool.not_not, reduceCtorEq, st_i, st_l, st_r, st_n, ee_noL, ee_noL.eq_1, List.length_cons, List.length_nil, Nat.reduceAdd, Nat.reduceLT, Nat.zero_add, and_true, true_and, and_self, fin_ite, pu_0, pu_1, pu_3, sto_0, el_0, Bool.not_eq_true, decide_eq_false_iff_not, Bool.decide_eq_true, Bool.decide_eq_false, decide_true, decide_false, Bool.not_true, Bool.not_false, Bool.and_self, Bool.and_true, Bool.and_false, Bool.true_and, Bool.false_and, Bool.or_true, Bool.or_false, Bool.true_or, Bool.false_or, if_true, if_false, Bool.false_eq_true]
        · rw [if_pos ⟨q2, q3⟩] at hW ⊢
          obtain ⟨w', m1, m2, m3⟩ := c_nudge (P := P) hd3 hd2_ok h1.1.1 n25 (rm x 11 - 5)
          obtain ⟨r1, r2⟩ := c_head h1 (mono m3) m2 hW.2.1
          refine ⟨w', ?_, r1, r2⟩
          simp +decide only [k6, k4, k11, k64, q1, q2, q3, memc, memn, s0, m1, bd_104, k_11, k_2, k_3, k_4, k_5, k_6, k_64, k_9999, nz_11, nz_2, nz_3, nz_4, nz_5, nz_6, nz_64, nz_9999, v_and, v_bin, v_call, v_cmp, v_cons, v_get, v_int, v_loc, v_nil, v_z, w_case, w_dflt, w_exp0, w_exp1, w_if, w_retv, w_seq, w_skip, w_switch, List.getElem?_cons_zero, List.getElem?_cons_succ, List.set_cons_zero, List.set_cons_succ, ee_cmp0, ee_cmp1, ee_cmp2, ee_cmp3, ee_cmp4, ee_cmp5, ee_cmpL0, ee_cmpL1, ee_cmpL2, ee_cmpL3, ee_cmpL4, ee_cmpL5, ee_tru_eb, decide_eq_true_eq, ib_i, ie_b, ie_f, ie_t, ib_l, fin_i, fin_l, fin_v, fin_z, fin_a, fin_n, ee_b_0, ee_fld0, ee_fld1, ee_fld2, ee_fld3, bi_0, bi_1, bi_2, bi_3, bi_4, bi_5, bi_6, bi_7, bi_8, bi_9, bi_10, bl_20, bl_21, bl_22, bl_23, bl_24, bl_25, bl_26, bl_48, bl_49, un_0, un_1, un_2, un_3, if_true, if_false, ite_true, ite_false, Bool.false_eq_true, Bool.not_eq_false, decide_not, Bool.not_not, reduceCtorEq, st_i, st_l, st_r, st_n, ee_noL, ee_noL.eq_1, List.length_cons, List.length_nil, Nat.reduceAdd, Nat.reduceLT, Nat.zero_add, and_true, true_and, and_self, fin_ite, pu_0, pu_1, pu_3, sto_0, el_0, Bool.not_eq_true, decide_eq_false_iff_not, Bool.decide_eq_true, Bool.decide_eq_false, decide_true, decide_false, Bool.not_true, Bool.not_false, Bool.and_self, Bool.and_true, Bool.and_false, Bool.true_and, Bool.false_and, Bool.or_true, Bool.or_false, Bool.true_or, Bool.false_or, if_true, if_false, Bool.false_eq_true]
      · rw [if_neg (fun h => q2 h.1)] at hW ⊢
        refine ⟨w, ?_, same, chg_refl _ _⟩
        simp +decide only [k6, k4, k11, k64, q1, q2, memc, memn, s0, bd_104, k_11, k_2, k_3, k_4, k_5, k_6, k_64, k_9999, nz_11, nz_2, nz_3, nz_4, nz_5, nz_6, nz_64, nz_9999, v_and, v_bin, v_call, v_cmp, v_cons, v_get, v_int, v_loc, v_nil, v_z, w_case, w_dflt, w_exp0, w_exp1, w_if, w_retv, w_seq, w_skip, w_switch, List.getElem?_cons_zero, List.getElem?_cons_succ, List.set_cons_zero, List.set_cons_succ, ee_cmp0, ee_cmp1, ee_cmp2, ee_cmp3, ee_cmp4, ee_cmp5, ee_cmpL0, ee_cmpL1, ee_cmpL2, ee_cmpL3, ee_cmpL4, ee_cmpL5, ee_tru_eb, decide_eq_true_eq, ib_i, ie_b, ie_f, ie_t, ib_l, fin_i, fin_l, fin_v, fin_z, fin_a, fin_n, ee_b_0, ee_fld0, ee_fld1, ee_fld2, ee_fld3, bi_0, bi_1, bi_2, bi_3, bi_4, bi_5, bi_6, bi_7, bi_8, bi_9, bi_10, bl_20, bl_21, bl_22, bl_23, bl_24, bl_25, bl_26, bl_48, bl_49, un_0, un_1, un_2, un_3, if_true, if_false, ite_true, ite_false, Bool.false_eq_true, Bool.not_eq_false, decide_not, Bool.not_not, reduceCtorEq, st_i, st_l, st_r, st_n, ee_noL, ee_noL.eq_1, List.length_cons, List.length_nil, Nat.reduceAdd, Nat.reduceLT, Nat.zero_add, and_true, true_and, and_self, fin_ite, pu_0, pu_1, pu_3, sto_0, el_0, Bool.not_eq_true, decide_eq_false_iff_not, Bool.decide_eq_true, Bool.decide_eq_false, decide_true, decide_false, Bool.not_true, Bool.not_false, Bool.and_self, Bool.and_true, Bool.and_false, Bool.true_and, Bool.false_and, Bool.or_true, Bool.or_false, Bool.true_or, Bool.false_or, if_true, if_false, Bool.false_eq_true]
    · rw [if_neg q1] at hW ⊢
      by_cases q2 : rm x 6 = 2
      · rw [if_pos q2] at hW ⊢
        have go := c_gateOpen (P := P) (w := w) hd1 hd2_ok h1.1.1
        by_cases q3 : 3 ≤ Z.1.1.1 6
        · rw [if_pos q3] at hW ⊢
          rw [decide_eq_true q3] at go
          obtain ⟨w', m1, m2, m3⟩ := c_mark (P := P) hd3 hd2_ok h1.1.1 n25
          obtain ⟨r1, r2⟩ := c_head h1 (mono m3) m2 hW.2.1
          refine ⟨w', ?_, r1, r2⟩
          simp +decide only [k6, k4, k11, k64, q2, go, memc, memn, s0, m1, bd_104, k_11, k_2, k_3, k_4, k_5, k_6, k_64, k_9999, nz_11, nz_2, nz_3, nz_4, nz_5, nz_6, nz_64, nz_9999, v_and, v_bin, v_call, v_cmp, v_cons, v_get, v_int, v_loc, v_nil, v_z, w_case, w_dflt, w_exp0, w_exp1, w_if, w_retv, w_seq, w_skip, w_switch, List.getElem?_cons_zero, List.getElem?_cons_succ, List.set_cons_zero, List.set_cons_succ, ee_cmp0, ee_cmp1, ee_cmp2, ee_cmp3, ee_cmp4, ee_cmp5, ee_cmpL0, ee_cmpL1, ee_cmpL2, ee_cmpL3, ee_cmpL4, ee_cmpL5, ee_tru_eb, decide_eq_true_eq, ib_i, ie_b, ie_f, ie_t, ib_l, fin_i, fin_l, fin_v, fin_z, fin_a, fin_n, ee_b_0, ee_fld0, ee_fld1, ee_fld2, ee_fld3, bi_0, bi_1, bi_2, bi_3, bi_4, bi_5, bi_6, bi_7, bi_8, bi_9, bi_10, bl_20, bl_21, bl_22, bl_23, bl_24, bl_25, bl_26, bl_48, bl_49, un_0, un_1, un_2, un_3, if_true, if_false, ite_true, ite_false, Bool.false_eq_true, Bool.not_eq_false, decide_not, Bool.not_not, reduceCtorEq, st_i, st_l, st_r, st_n, ee_noL, ee_noL.eq_1, List.length_cons, List.length_nil, Nat.reduceAdd, Nat.reduceLT, Nat.zero_add, and_true, true_and, and_self, fin_ite, pu_0, pu_1, pu_3, sto_0, el_0, Bool.not_eq_true, decide_eq_false_iff_not, Bool.decide_eq_true, Bool.decide_eq_false, decide_true, decide_false, Bool.not_true, Bool.not_false, Bool.and_self, Bool.and_true, Bool.and_false, Bool.true_and, Bool.false_and, Bool.or_true, Bool.or_false, Bool.true_or, Bool.false_or, if_true, if_false, Bool.false_eq_true]
        · rw [if_neg q3] at hW ⊢
          rw [decide_eq_false q3] at go
          refine ⟨w, ?_, same, chg_refl _ _⟩
          simp +decide only [k6, k4, k11, k64, q2, go, memc, memn, s0, bd_104, k_11, k_2, k_3, k_4, k_5, k_6, k_64, k_9999, nz_11, nz_2, nz_3, nz_4, nz_5, nz_6, nz_64, nz_9999, v_and, v_bin, v_call, v_cmp, v_cons, v_get, v_int, v_loc, v_nil, v_z, w_case, w_dflt, w_exp0, w_exp1, w_if, w_retv, w_seq, w_skip, w_switch, List.getElem?_cons_zero, List.getElem?_cons_succ, List.set_cons_zero, List.set_cons_succ, ee_cmp0, ee_cmp1, ee_cmp2, ee_cmp3, ee_cmp4, ee_cmp5, ee_cmpL0, ee_cmpL1, ee_cmpL2, ee_cmpL3, ee_cmpL4, ee_cmpL5, ee_tru_eb, decide_eq_true_eq, ib_i, ie_b, ie_f, ie_t, ib_l, fin_i, fin_l, fin_v, fin_z, fin_a, fin_n, ee_b_0, ee_fld0, ee_fld1, ee_fld2, ee_fld3, bi_0, bi_1, bi_2, bi_3, bi_4, bi_5, bi_6, bi_7, bi_8, bi_9, bi_10, bl_20, bl_21, bl_22, bl_23, bl_24, bl_25, bl_26, bl_48, bl_49, un_0, un_1, un_2, un_3, if_true, if_false, ite_true, ite_false, Bool.false_eq_true, Bool.not_eq_false, decide_not, Bool.not_not, reduceCtorEq, st_i, st_l, st_r, st_n, ee_noL, ee_noL.eq_1, List.length_cons, List.length_nil, Nat.reduceAdd, Nat.reduceLT, Nat.zero_add, and_true, true_and, and_self, fin_ite, pu_0, pu_1, pu_3, sto_0, el_0, Bool.not_eq_true, decide_eq_false_iff_not, Bool.decide_eq_true, Bool.decide_eq_false, decide_true, decide_false, Bool.not_true, Bool.not_false, Bool.and_self, Bool.and_true, Bool.and_false, Bool.true_and, Bool.false_and, Bool.or_true, Bool.or_false, Bool.true_or, Bool.false_or, if_true, if_false, Bool.false_eq_true]
      · rw [if_neg q2] at hW ⊢
        by_cases q3 : Z.1.1.1 0 < 9999
        · rw [if_pos q3] at hW ⊢
          obtain ⟨w', m1, m2, m3⟩ := c_sampleZ (P := P) hd8 h1 h3
          obtain ⟨r1, r2⟩ := c_head h1 m3 m2 hW.2.1
          refine ⟨w', ?_, r1, r2⟩
          simp +decide only [k6, k4, k11, k64, q0, q1, q2, q3, e0, k_0, k_1, k_2, or_false, memc, memn, s0, m1, bd_104, k_11, k_2, k_3, k_4, k_5, k_6, k_64, k_9999, nz_11, nz_2, nz_3, nz_4, nz_5, nz_6, nz_64, nz_9999, v_and, v_bin, v_call, v_cmp, v_cons, v_get, v_int, v_loc, v_nil, v_z, w_case, w_dflt, w_exp0, w_exp1, w_if, w_retv, w_seq, w_skip, w_switch, List.getElem?_cons_zero, List.getElem?_cons_succ, List.set_cons_zero, List.set_cons_succ, ee_cmp0, ee_cmp1, ee_cmp2, ee_cmp3, ee_cmp4, ee_cmp5, ee_cmpL0, ee_cmpL1, ee_cmpL2, ee_cmpL3, ee_cmpL4, ee_cmpL5, ee_tru_eb, decide_eq_true_eq, ib_i, ie_b, ie_f, ie_t, ib_l, fin_i, fin_l, fin_v, fin_z, fin_a, fin_n, ee_b_0, ee_fld0, ee_fld1, ee_fld2, ee_fld3, bi_0, bi_1, bi_2, bi_3, bi_4, bi_5, bi_6, bi_7, bi_8, bi_9, bi_10, bl_20, bl_21, bl_22, bl_23, bl_24, bl_25, bl_26, bl_48, bl_49, un_0, un_1, un_2, un_3, if_true, if_false, ite_true, ite_false, Bool.false_eq_true, Bool.not_eq_false, decide_not, Bool.not_not, reduceCtorEq, st_i, st_l, st_r, st_n, ee_noL, ee_noL.eq_1, List.length_cons, List.length_nil, Nat.reduceAdd, Nat.reduceLT, Nat.zero_add, and_true, true_and, and_self, fin_ite, pu_0, pu_1, pu_3, sto_0, el_0, Bool.not_eq_true, decide_eq_false_iff_not, Bool.decide_eq_true, Bool.decide_eq_false, decide_true, decide_false, Bool.not_true, Bool.not_false, Bool.and_self, Bool.and_true, Bool.and_false, Bool.true_and, Bool.false_and, Bool.or_true, Bool.or_false, Bool.true_or, Bool.false_or, if_true, if_false, Bool.false_eq_true]
        · rw [if_neg q3] at hW ⊢
          refine ⟨w, ?_, same, chg_refl _ _⟩
          simp +decide only [k6, k4, k11, k64, q0, q1, q2, q3, e0, k_0, k_1, k_2, or_false, memc, memn, s0, bd_104, k_11, k_2, k_3, k_4, k_5, k_6, k_64, k_9999, nz_11, nz_2, nz_3, nz_4, nz_5, nz_6, nz_64, nz_9999, v_and, v_bin, v_call, v_cmp, v_cons, v_get, v_int, v_loc, v_nil, v_z, w_case, w_dflt, w_exp0, w_exp1, w_if, w_retv, w_seq, w_skip, w_switch, List.getElem?_cons_zero, List.getElem?_cons_succ, List.set_cons_zero, List.set_cons_succ, ee_cmp0, ee_cmp1, ee_cmp2, ee_cmp3, ee_cmp4, ee_cmp5, ee_cmpL0, ee_cmpL1, ee_cmpL2, ee_cmpL3, ee_cmpL4, ee_cmpL5, ee_tru_eb, decide_eq_true_eq, ib_i, ie_b, ie_f, ie_t, ib_l, fin_i, fin_l, fin_v, fin_z, fin_a, fin_n, ee_b_0, ee_fld0, ee_fld1, ee_fld2, ee_fld3, bi_0, bi_1, bi_2, bi_3, bi_4, bi_5, bi_6, bi_7, bi_8, bi_9, bi_10, bl_20, bl_21, bl_22, bl_23, bl_24, bl_25, bl_26, bl_48, bl_49, un_0, un_1, un_2, un_3, if_true, if_false, ite_true, ite_false, Bool.false_eq_true, Bool.not_eq_false, decide_not, Bool.not_not, reduceCtorEq, st_i, st_l, st_r, st_n, ee_noL, ee_noL.eq_1, List.length_cons, List.length_nil, Nat.reduceAdd, Nat.reduceLT, Nat.zero_add, and_true, true_and, and_self, fin_ite, pu_0, pu_1, pu_3, sto_0, el_0, Bool.not_eq_true, decide_eq_false_iff_not, Bool.decide_eq_true, Bool.decide_eq_false, decide_true, decide_false, Bool.not_true, Bool.not_false, Bool.and_self, Bool.and_true, Bool.and_false, Bool.true_and, Bool.false_and, Bool.or_true, Bool.or_false, Bool.true_or, Bool.false_or, if_true, if_false, Bool.false_eq_true]
end BY2
