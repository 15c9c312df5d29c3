/-! a sample, the reference's, whole -/
section NP
variable {P : Nat → Nat → List Value → ee_W → Option (List Value × ee_W)} {d : Nat} {w : ee_W} {X : HX} {z : Bool} {R : Option TX} {wob : Nat → Int32} {lost : Int32}
def bw (k : Nat) (x : Int32) : Prop := if k = 0 then bI x 0 20000 else if k = 1 then okX x else if k = 2 then bI x 0 1023 else if k = 3 then bI x (-64) 64 else if k = 4 then bI x 0 63 else if k = 5 then bI x (-999) 999 else if k = 6 then bI x 0 99 else if k = 7 then bI x 0 9999 else if k = 8 then bI x 0 9999 else bI x (-99) 99
theorem bw_10 {k : Nat} {x : Int32} : bw (10 + k) x = bI x (-99) 99 := by
  unfold bw
  rw [if_neg (by omega), if_neg (by omega), if_neg (by omega), if_neg (by omega), if_neg (by omega), if_neg (by omega), if_neg (by omega), if_neg (by omega), if_neg (by omega)]
theorem wf_up {f : Nat → Int32} (hf : wfS f) (k : Nat) {x : Int32} (h : bw k x) : wfS (up f k x) := by
  have g : ∀ j, bw j (f j) → bw j (up f k x j) := fun j hj => by
    rw [up_at]
    split
    · rename_i q; rw [q]; exact h
    · exact hj
  obtain ⟨h0, h1, h2, h3, h4, h5, h6, h7, h8, h9⟩ := hf
  refine ⟨g 0 h0, g 1 h1, g 2 h2, g 3 h3, g 4 h4, g 5 h5, g 6 h6, g 7 h7, g 8 h8, fun j hj => ?_⟩
  have := g (10 + j) (by rw [bw_10]; exact h9 j hj)
  rw [bw_10] at this
  exact this
theorem xmin_b {x m : Int32} (h : 0 ≤ x.toInt) (h2 : x.toInt ≤ 9999) (hm : 0 ≤ m.toInt) : bI (xmin (x + 1) m) 0 m.toInt := by
  have e := min_held h h2 hm
  have e2 : xmin (x + 1) m = hold32 (x + 1) 0 m := e.symm
  rw [e2]
  exact hold_b (by show (0 : Int) ≤ _; exact hm)
theorem zb {a b : Int} (h1 : a ≤ 0) (h2 : 0 ≤ b) : bI (0 : Int32) a b := by
  unfold bI
  rw [show (0 : Int32).toInt = 0 from rfl]
  omega
theorem wf_m2 (hX : wfS X.1) (p : Int32) : wfS (xm_2 X p).1 := by
  have a : wfS (xm_1 X p).1 := wf_up (wf_up hX 3 (bI_hold (by decide) (by decide) (by decide))) 2 (bI_hold (by decide) (by decide) (by decide))
  unfold xm_2
  split
  · rw [xnote_1]
    exact wf_up (wf_up a 3 (zb (by omega) (by omega))) 8 (xmin_b hX.2.2.2.2.2.2.2.2.1.1 hX.2.2.2.2.2.2.2.2.1.2 (by decide))
  · exact a
theorem wf_m3 (hX : wfS X.1) : wfS (xm_3 X).1 := by
  refine wf_up hX 6 ?_
  show bI _ 0 99
  split
  · exact xmin_b hX.2.2.2.2.2.2.1.1 (by have := hX.2.2.2.2.2.2.1.2; omega) (by decide)
  · exact zb (by omega) (by omega)
theorem xm_4_1 : (xm_4 X).1 = (xm_3 X).1 := by
  unfold xm_4
  split
  · rw [xnote_1]
  · rfl
theorem wf_m5 (hX : wfS X.1) (h : (X.1 0).toInt < 20000) : wfS (xm_5 X).1 := by
  refine wf_up hX 0 ?_
  show bI _ 0 20000
  have := hX.1
  unfold bI at this ⊢
  rw [i32_add] <;> rw [show (1 : Int32).toInt = 1 from rfl] <;> omega
theorem xm_2_0 (p : Int32) : (xm_2 X p).1 0 = X.1 0 := by
  unfold xm_2
  split
  · rw [xnote_1]
    show up (up (xm_1 X p).1 3 0) 8 (xmin (X.1 8 + 1) 9999) 0 = X.1 0
    rw [up_at, if_neg (by omega), up_at, if_neg (by omega)]
    show up (up X.1 3 (xm_v X p)) 2 (hold32 (xm_n X p) 0 1023) 0 = X.1 0
    rw [up_at, if_neg (by omega), up_at, if_neg (by omega)]
  · show up (up X.1 3 (xm_v X p)) 2 (hold32 (xm_n X p) 0 1023) 0 = X.1 0
    rw [up_at, if_neg (by omega), up_at, if_neg (by omega)]
theorem xm_3_0 : (xm_3 X).1 0 = X.1 0 := by
  unfold xm_3
  dsimp only
  rw [up_at, if_neg (by omega)]
theorem xmove_0 (p : Int32) : (xmove X p).1 0 = X.1 0 + 1 := by
  unfold xmove
  show up (xm_4 (xm_2 X p)).1 0 ((xm_4 (xm_2 X p)).1 0 + 1) 0 = _
  rw [up_at, if_pos rfl, xm_4_1, xm_3_0, xm_2_0]
theorem wf_move (hX : wfS X.1) (h : (X.1 0).toInt < 20000) (p : Int32) : wfS (xmove X p).1 := by
  unfold xmove
  refine wf_m5 ?_ ?_
  · rw [xm_4_1]; exact wf_m3 (wf_m2 hX p)
  · rw [xm_4_1, xm_3_0, xm_2_0]; exact h
theorem xsec_lt (X : HX) : xsec X < 8 := Nat.mod_lt _ (by omega)
theorem wf_s1 (hX : wfS X.1) : wfS (xs_1 wob lost R X).1 := by
  unfold xs_1
  split
  · exact hX
  · exact wf_read hX _ (xsec_lt X)
theorem wf_sample (hX : wfS X.1) (h : (X.1 0).toInt < 20000) : wfS (xsample wob lost R X).1 := by
  unfold xsample
  refine wf_move (wf_s1 hX) ?_ _
  rw [xs_1_0]; exact h
theorem xsample_0 : (xsample wob lost R X).1 0 = X.1 0 + 1 := by
  unfold xsample
  rw [xmove_0, xs_1_0]
theorem xsample_le (hn : X.2.1 ≤ 25) : (xsample wob lost R X).2.1 ≤ 25 := by
  unfold xsample
  refine xmove_le ?_ _
  rw [xs_1_2]; exact hn
theorem m_isLost (hd : 2 ≤ d) (hl : w.1 237 31 = lost) (s : Int32) : ee_run ee_B P d 248 [.ref 236, .int s] w = some ([.int (ee_b (isl lost s))], w) := by
  obtain ⟨d, rfl⟩ : ∃ k, d = k + 1 := ⟨d - 1, by omega⟩
  have hd1 : 1 ≤ d := by omega
  rw [rn_248 mz_0]
  simp only [hl, r_bitM hd1, isl, bd_248, k_31, nz_31, v_call, v_cons, v_get, v_idx, v_int, v_loc, v_nil, w_ret, List.getElem?_cons_zero, List.getElem?_cons_succ, List.set_cons_zero, List.set_cons_succ, ee_cmp0, ee_cmp1, ee_cmp2, ee_cmp3, ee_cmp4, ee_cmp5, ee_cmpL0, ee_cmpL1, ee_cmpL2, ee_cmpL3, ee_cmpL4, ee_cmpL5, ee_tru_eb, decide_eq_true_eq, ib_i, ie_b, ie_f, ie_t, ib_l, fin_i, fin_l, fin_v, fin_z, fin_a, fin_n, ee_b_0, ee_fld0, ee_fld1, ee_fld2, ee_fld3, bi_0, bi_1, bi_2, bi_3, bi_4, bi_5, bi_6, bi_7, bi_8, bi_9, bi_10, bl_20, bl_21, bl_22, bl_23, bl_24, bl_25, bl_26, bl_48, bl_49, un_0, un_1, un_2, un_3, if_true, if_false, ite_true, ite_false, Bool.false_eq_true, Bool.not_eq_false, decide_not, Bool.not_not, reduceCtorEq, st_i, st_l, st_r, st_n, ee_noL, ee_noL.eq_1, List.length_cons, List.length_nil, Nat.reduceAdd, Nat.reduceLT, Nat.zero_add, and_true, true_and, and_self, fin_ite, pu_0, pu_1, pu_3, sto_0, el_0, Bool.not_eq_true, decide_eq_false_iff_not, Bool.decide_eq_true, Bool.decide_eq_false, decide_true, decide_false, Bool.not_true, Bool.not_false, Bool.and_self, Bool.and_true, Bool.and_false, Bool.true_and, Bool.false_and, Bool.or_true, Bool.or_false, Bool.true_or, Bool.false_or, if_true, if_false, Bool.false_eq_true, ix_31, tc_31, mz_0, mz_1, mz_a, rvs, j_s, j_a, wI_at, Nat.reduceEqDiff, zero_ne_one_n, one_ne_zero_n]
theorem m_sample (hd : 10 ≤ d) (hM : MHz z w X) (hX : wfS X.1) (hR : RMi w (w.1 237 1) R) (hw : ∀ k, k < 8 → w.1 237 (23 + k) = wob k) (hl : w.1 237 31 = lost) : ∃ w', ee_run ee_B P d 247 [.ref 236] w = some ([], w') ∧ MHz z w' (xsample wob lost R X) ∧ chk (psm z) w w' := by
  obtain ⟨d, rfl⟩ : ∃ k, d = k + 1 := ⟨d - 1, by omega⟩
  have hd1 : 1 ≤ d := by omega
  have hd2 : 2 ≤ d := by omega
  have hd9 : 9 ≤ d := by omega
  obtain ⟨k, k1, k2, k3⟩ := rem8_of hX.1.1
  have k4 : xsec X = k := k3.symm
  have h5 : w.1 237 5 = X.1 0 := hM.2.1 0 (by omega) (by omega)
  have e8 : X.1 0 - X.1 0 / 8 * 8 = Int32.ofNat k := k2
  have s3 := m_isLost (P := P) (w := w) hd2 hl (Int32.ofNat k)
  have key : ∃ w1, (∀ q, isl lost (Int32.ofNat k) = q → q = false → ee_run ee_B P d 249 [.ref 236, .int (Int32.ofNat k)] w = some ([], w1)) ∧ (∀ q, isl lost (Int32.ofNat k) = q → q = true → w1 = w) ∧ MHz z w1 (xs_1 wob lost R X) ∧ chk (psm z) w w1 := by
    cases q : isl lost (Int32.ofNat k)
    · obtain ⟨w1, n1, n2, n3⟩ := m_readNow (P := P) hd9 hM hX hR k1 (hw k k1)
      refine ⟨w1, fun _ _ _ => n1, fun q' h1 h2 => (by rw [← h1] at h2; cases h2), ?_, n3⟩
      unfold xs_1
      rw [k4, q, if_neg (by decide)]
      exact n2
    · refine ⟨w, fun q' h1 h2 => (by rw [← h1] at h2; cases h2), fun _ _ _ => rfl, ?_, chk_refl _ _⟩
      unfold xs_1
      rw [k4, q, if_pos rfl]
      exact hM
  obtain ⟨w1, r1, r2, r3, r4⟩ := key
  have hR1 : RMi w1 (w1.1 237 1) R := by
    rw [r4.1 237 1 (fun h => by have := psm_k h; omega)]
    exact RMi_eq hR (fun j => r4.1 _ _ (fun h => by have := psm_c h; omega))
  obtain ⟨w2, t1, t2, t3⟩ := m_moveNow (P := P) hd9 r3 (wf_s1 hX) hR1
  have wf2 := wf_m2 (wf_s1 (wob := wob) (lost := lost) (R := R) hX) (pv (xs_1 wob lost R X) (lawP R))
  have ex : xsample wob lost R X = xm_5 (xm_4 (xm_2 (xs_1 wob lost R X) (pv (xs_1 wob lost R X) (lawP R)))) := rfl
  rw [ex]
  generalize hY : xm_2 (xs_1 wob lost R X) (pv (xs_1 wob lost R X) (lawP R)) = Y at *
  clear hY ex
  have h10 : w2.1 237 10 = Y.1 5 := t2.2.1 5 (by omega) (by omega)
  have h8 : w2.1 237 8 = Y.1 3 := t2.2.1 3 (by omega) (by omega)
  have h11 : w2.1 237 11 = Y.1 6 := t2.2.1 6 (by omega) (by omega)
  have h9 : w2.1 237 9 = Y.1 4 := t2.2.1 4 (by omega) (by omega)
  have h52 : w2.1 237 5 = Y.1 0 := t2.2.1 0 (by omega) (by omega)
  have c02 := chk_trans r4 t3
  have i1 : (decide (-3 ≤ Y.1 5) && decide (Y.1 5 ≤ 3)) = inS (Y.1 5) (-3) 3 := rfl
  have i2 : (decide (-1 ≤ Y.1 3) && decide (Y.1 3 ≤ 1)) = inS (Y.1 3) (-1) 1 := rfl
  have b6 := wf2.2.2.2.2.2.2.1
  have mh : hold32 (Y.1 6 + 1) 0 99 = xmin (Y.1 6 + 1) 99 := min_held b6.1 (by have := b6.2; omega) (by decide)
  have hpk : ∀ k : Nat, 5 ≤ k → k < 23 → k ≠ 14 → psm z 237 k := fun k a b c => Or.inl (Or.inl ⟨rfl, a, b, c⟩)
  have lostc : ∀ q, isl lost (Int32.ofNat k) = q → (q = true ∧ w1 = w) ∨ (q = false ∧ ee_run ee_B P d 249 [.ref 236, .int (Int32.ofNat k)] w = some ([], w1)) := by
    intro q hq
    cases q
    · exact Or.inr ⟨rfl, r1 _ hq rfl⟩
    · exact Or.inl ⟨rfl, r2 _ hq rfl⟩
  rw [rn_247 mz_0]
  cases c : xcalm Y
  · have hc : (inS (Y.1 5) (-3) 3 && inS (Y.1 3) (-1) 1) = false := c
    have e3 : xm_3 Y = (up Y.1 6 0, Y.2) := by unfold xm_3; rw [c]; rfl
    have e4 : xm_4 Y = xm_3 Y := by unfold xm_4; rw [c]; rfl
    have m5 := MHz_put (MHz_put t2 6 (by omega) (by omega) 0) 0 (by omega) (by omega) (Y.1 0 + 1)
    refine ⟨ee_wI (ee_wI w2 237 11 0) 237 5 (Y.1 0 + 1), ?_, ?_, chk_I (hpk 5 (by omega) (by omega) (by omega)) (chk_I (hpk 11 (by omega) (by omega) (by omega)) c02)⟩
    · have z3 : ¬ (0 : Int32) = 3 := by decide
      rcases lostc _ rfl with ⟨l1, l2⟩ | ⟨l1, l2⟩ <;> cases c1 : inS (Y.1 5) (-3) 3 <;> cases c2 : inS (Y.1 3) (-1) 1 <;> rw [c1, c2] at hc <;> first | (cases hc; done) | (subst l2; rw [l1] at s3; simp -implicitDefEqProofs only [r_isIn hd1, h5, e8, s3, t1, h10, h8, h52, i1, i2, c1, c2, z3, nz_8, w_opa, bd_247, k_0, k_1, k_10, k_11, k_3, k_4294967293, k_4294967295, k_5, k_8, k_9, k_99, nz_1, nz_10, nz_11, nz_3, nz_5, nz_8, nz_9, nz_99, v_and, v_bin, v_call, v_cmp, v_cons, v_get, v_idx, v_int, v_loc, v_nil, v_not, v_tern, v_un, v_z, w_exp0, w_exp1, w_if, w_opa, w_retv, w_seq, w_set, w_skip, w_sto, List.getElem?_cons_zero, List.getElem?_cons_succ, List.set_cons_zero, List.set_cons_succ, ee_cmp0, ee_cmp1, ee_cmp2, ee_cmp3, ee_cmp4, ee_cmp5, ee_cmpL0, ee_cmpL1, ee_cmpL2, ee_cmpL3, ee_cmpL4, ee_cmpL5, ee_tru_eb, decide_eq_true_eq, ib_i, ie_b, ie_f, ie_t, ib_l, fin_i, fin_l, fin_v, fin_z, fin_a, fin_n, ee_b_0, ee_fld0, ee_fld1, ee_fld2, ee_fld3, bi_0, bi_1, bi_2, bi_3, bi_4, bi_5, bi_6, bi_7, bi_8, bi_9, bi_10, bl_20, bl_21, bl_22, bl_23, bl_24, bl_25, bl_26, bl_48, bl_49, un_0, un_1, un_2, un_3, if_true, if_false, ite_true, ite_false, Bool.false_eq_true, Bool.not_eq_false, decide_not, Bool.not_not, reduceCtorEq, st_i, st_l, st_r, st_n, ee_noL, ee_noL.eq_1, List.length_cons, List.length_nil, Nat.reduceAdd, Nat.reduceLT, Nat.zero_add, and_true, true_and, and_self, fin_ite, pu_0, pu_1, pu_3, sto_0, el_0, Bool.not_eq_true, decide_eq_false_iff_not, Bool.decide_eq_true, Bool.decide_eq_false, decide_true, decide_false, Bool.not_true, Bool.not_false, Bool.and_self, Bool.and_true, Bool.and_false, Bool.true_and, Bool.false_and, Bool.or_true, Bool.or_false, Bool.true_or, Bool.false_or, if_true, if_false, Bool.false_eq_true, ix_0, ix_1, ix_10, ix_11, ix_3, ix_5, ix_8, ix_9, ix_99, tc_0, tc_1, tc_10, tc_11, tc_3, tc_5, tc_8, tc_9, tc_99, mz_0, mz_1, mz_a, rvs, j_s, j_a, wI_at, Nat.reduceEqDiff, zero_ne_one_n, one_ne_zero_n]) | (rw [l1] at s3; simp -implicitDefEqProofs only [r_isIn hd1, h5, e8, s3, l2, t1, h10, h8, h52, i1, i2, c1, c2, z3, nz_8, w_opa, bd_247, k_0, k_1, k_10, k_11, k_3, k_4294967293, k_4294967295, k_5, k_8, k_9, k_99, nz_1, nz_10, nz_11, nz_3, nz_5, nz_8, nz_9, nz_99, v_and, v_bin, v_call, v_cmp, v_cons, v_get, v_idx, v_int, v_loc, v_nil, v_not, v_tern, v_un, v_z, w_exp0, w_exp1, w_if, w_opa, w_retv, w_seq, w_set, w_skip, w_sto, List.getElem?_cons_zero, List.getElem?_cons_succ, List.set_cons_zero, List.set_cons_succ, ee_cmp0, ee_cmp1, ee_cmp2, ee_cmp3, ee_cmp4, ee_cmp5, ee_cmpL0, ee_cmpL1, ee_cmpL2, ee_cmpL3, ee_cmpL4, ee_cmpL5, ee_tru_eb, decide_eq_true_eq, ib_i, ie_b, ie_f, ie_t, ib_l, fin_i, fin_l, fin_v, fin_z, fin_a, fin_n, ee_b_0, ee_fld0, ee_fld1, ee_fld2, ee_fld3, bi_0, bi_1, bi_2, bi_3, bi_4, bi_5, bi_6, bi_7, bi_8, bi_9, bi_10, bl_20, bl_21, bl_22, bl_23, bl_24, bl_25, bl_26, bl_48, bl_49, un_0, un_1, un_2, un_3, if_true, if_false, ite_true, ite_false, Bool.false_eq_true, Bool.not_eq_false, decide_not, Bool.not_not, reduceCtorEq, st_i, st_l, st_r, st_n, ee_noL, ee_noL.eq_1, List.length_cons, List.length_nil, Nat.reduceAdd, Nat.reduceLT, Nat.zero_add, and_true, true_and, and_self, fin_ite, pu_0, pu_1, pu_3, sto_0, el_0, Bool.not_eq_true, decide_eq_false_iff_not, Bool.decide_eq_true, Bool.decide_eq_false, decide_true, decide_false, Bool.not_true, Bool.not_false, Bool.and_self, Bool.and_true, Bool.and_false, Bool.true_and, Bool.false_and, Bool.or_true, Bool.or_false, Bool.true_or, Bool.false_or, if_true, if_false, Bool.false_eq_true, ix_0, ix_1, ix_10, ix_11, ix_3, ix_5, ix_8, ix_9, ix_99, tc_0, tc_1, tc_10, tc_11, tc_3, tc_5, tc_8, tc_9, tc_99, mz_0, mz_1, mz_a, rvs, j_s, j_a, wI_at, Nat.reduceEqDiff, zero_ne_one_n, one_ne_zero_n])
    · rw [e4, e3]
      exact m5
  · have hc : (inS (Y.1 5) (-3) 3 && inS (Y.1 3) (-1) 1) = true := c
    rw [Bool.and_eq_true] at hc
    obtain ⟨c1, c2⟩ := hc
    have e3 : xm_3 Y = (up Y.1 6 (xmin (Y.1 6 + 1) 99), Y.2) := by unfold xm_3; rw [c]; rfl
    have m5 := MHz_put t2 6 (by omega) (by omega) (xmin (Y.1 6 + 1) 99)
    have c5 : chk (psm z) w (ee_wI w2 237 11 (xmin (Y.1 6 + 1) 99)) := chk_I (hpk 11 (by omega) (by omega) (by omega)) c02
    by_cases o : Y.1 6 = 2
    · have e4 : xm_4 Y = xnote (xm_3 Y) 3 (Y.1 4) := by unfold xm_4; rw [c, decide_eq_true o]; rfl
      rw [e3] at e4
      obtain ⟨w', n1, n2, n3⟩ := m_note (P := P) hd1 m5 3 (Y.1 4)
      have v3 : xmin (Y.1 6 + 1) 99 = 3 := by rw [o]; decide
      have g5 : w'.1 237 5 = (xm_4 Y).1 0 := by rw [e4]; exact n2.2.1 0 (by omega) (by omega)
      have n4 := MHz_put n2 0 (by omega) (by omega) (w'.1 237 5 + 1)
      refine ⟨ee_wI w' 237 5 (w'.1 237 5 + 1), ?_, ?_, chk_I (hpk 5 (by omega) (by omega) (by omega)) (chk_trans c5 (chk_mono n3 (fun c k h => Or.inl (pb_ph c k h))))⟩
      · rw [show 5 + 6 = 11 from rfl, v3] at n1
        rw [v3] at mh
        have t33 : (3 : Int32) = 3 := rfl
        rcases lostc _ rfl with ⟨l1, l2⟩ | ⟨l1, l2⟩
        · subst l2
          rw [l1] at s3
          simp -implicitDefEqProofs only [r_isIn hd1, h5, e8, s3, t1, h10, h8, h9, h11, i1, i2, c1, c2, m_held hd1 _ 0 99 (by decide), mh, n1, nz_8, w_opa, bd_247, k_0, k_1, k_10, k_11, k_3, k_4294967293, k_4294967295, k_5, k_8, k_9, k_99, nz_1, nz_10, nz_11, nz_3, nz_5, nz_8, nz_9, nz_99, v_and, v_bin, v_call, v_cmp, v_cons, v_get, v_idx, v_int, v_loc, v_nil, v_not, v_tern, v_un, v_z, w_exp0, w_exp1, w_if, w_opa, w_retv, w_seq, w_set, w_skip, w_sto, List.getElem?_cons_zero, List.getElem?_cons_succ, List.set_cons_zero, List.set_cons_succ, ee_cmp0, ee_cmp1, ee_cmp2, ee_cmp3, ee_cmp4, ee_cmp5, ee_cmpL0, ee_cmpL1, ee_cmpL2, ee_cmpL3, ee_cmpL4, ee_cmpL5, ee_tru_eb, decide_eq_true_eq, ib_i, ie_b, ie_f, ie_t, ib_l, fin_i, fin_l, fin_v, fin_z, fin_a, fin_n, ee_b_0, ee_fld0, ee_fld1, ee_fld2, ee_fld3, bi_0, bi_1, bi_2, bi_3, bi_4, bi_5, bi_6, bi_7, bi_8, bi_9, bi_10, bl_20, bl_21, bl_22, bl_23, bl_24, bl_25, bl_26, bl_48, bl_49, un_0, un_1, un_2, un_3, if_true, if_false, ite_true, ite_false, Bool.false_eq_true, Bool.not_eq_false, decide_not, Bool.not_not, reduceCtorEq, st_i, st_l, st_r, st_n, ee_noL, ee_noL.eq_1, List.length_cons, List.length_nil, Nat.reduceAdd, Nat.reduceLT, Nat.zero_add, and_true, true_and, and_self, fin_ite, pu_0, pu_1, pu_3, sto_0, el_0, Bool.not_eq_true, decide_eq_false_iff_not, Bool.decide_eq_true, Bool.decide_eq_false, decide_true, decide_false, Bool.not_true, Bool.not_false, Bool.and_self, Bool.and_true, Bool.and_false, Bool.true_and, Bool.false_and, Bool.or_true, Bool.or_false, Bool.true_or, Bool.false_or, if_true, if_false, Bool.false_eq_true, ix_0, ix_1, ix_10, ix_11, ix_3, ix_5, ix_8, ix_9, ix_99, tc_0, tc_1, tc_10, tc_11, tc_3, tc_5, tc_8, tc_9, tc_99, mz_0, mz_1, mz_a, rvs, j_s, j_a, wI_at, Nat.reduceEqDiff, zero_ne_one_n, one_ne_zero_n]
        · rw [l1] at s3
          simp -implicitDefEqProofs only [r_isIn hd1, h5, e8, s3, l2, t1, h10, h8, h9, h11, i1, i2, c1, c2, m_held hd1 _ 0 99 (by decide), mh, n1, nz_8, w_opa, bd_247, k_0, k_1, k_10, k_11, k_3, k_4294967293, k_4294967295, k_5, k_8, k_9, k_99, nz_1, nz_10, nz_11, nz_3, nz_5, nz_8, nz_9, nz_99, v_and, v_bin, v_call, v_cmp, v_cons, v_get, v_idx, v_int, v_loc, v_nil, v_not, v_tern, v_un, v_z, w_exp0, w_exp1, w_if, w_opa, w_retv, w_seq, w_set, w_skip, w_sto, List.getElem?_cons_zero, List.getElem?_cons_succ, List.set_cons_zero, List.set_cons_succ, ee_cmp0, ee_cmp1, ee_cmp2, ee_cmp3, ee_cmp4, ee_cmp5, ee_cmpL0, ee_cmpL1, ee_cmpL2, ee_cmpL3, ee_cmpL4, ee_cmpL5, ee_tru_eb, decide_eq_true_eq, ib_i, ie_b, ie_f, ie_t, ib_l, fin_i, fin_l, fin_v, fin_z, fin_a, fin_n, ee_b_0, ee_fld0, ee_fld1, ee_fld2, ee_fld3, bi_0, bi_1, bi_2, bi_3, bi_4, bi_5, bi_6, bi_7, bi_8, bi_9, bi_10, bl_20, bl_21, bl_22, bl_23, bl_24, bl_25, bl_26, bl_48, bl_49, un_0, un_1, un_2, un_3, if_true, if_false, ite_true, ite_false, Bool.false_eq_true, Bool.not_eq_false, decide_not, Bool.not_not, reduceCtorEq, st_i, st_l, st_r, st_n, ee_noL, ee_noL.eq_1, List.length_cons, List.length_nil, Nat.reduceAdd, Nat.reduceLT, Nat.zero_add, and_true, true_and, and_self, fin_ite, pu_0, pu_1, pu_3, sto_0, el_0, Bool.not_eq_true, decide_eq_false_iff_not, Bool.decide_eq_true, Bool.decide_eq_false, decide_true, decide_false, Bool.not_true, Bool.not_false, Bool.and_self, Bool.and_true, Bool.and_false, Bool.true_and, Bool.false_and, Bool.or_true, Bool.or_false, Bool.true_or, Bool.false_or, if_true, if_false, Bool.false_eq_true, ix_0, ix_1, ix_10, ix_11, ix_3, ix_5, ix_8, ix_9, ix_99, tc_0, tc_1, tc_10, tc_11, tc_3, tc_5, tc_8, tc_9, tc_99, mz_0, mz_1, mz_a, rvs, j_s, j_a, wI_at, Nat.reduceEqDiff, zero_ne_one_n, one_ne_zero_n]
      · rw [g5] at n4 ⊢
        have : xm_5 (xm_4 Y) = (up (xm_4 Y).1 0 ((xm_4 Y).1 0 + 1), (xm_4 Y).2) := rfl
        rw [this]
        rw [e4] at n4 ⊢
        exact n4
    · have e4 : xm_4 Y = xm_3 Y := by unfold xm_4; rw [c, decide_eq_false o]; rfl
      have v3 : ¬ xmin (Y.1 6 + 1) 99 = 3 := by
        intro h
        apply o
        unfold xmin at h
        have e1 : (Y.1 6 + 1).toInt = (Y.1 6).toInt + 1 := by have := b6.1; have := b6.2; rw [i32_add] <;> rw [show (1 : Int32).toInt = 1 from rfl] <;> omega
        split at h
        · rw [i32_eq] at h ⊢
          rw [e1, show (3 : Int32).toInt = 3 from rfl] at h
          rw [show (2 : Int32).toInt = 2 from rfl]
          omega
        · exact absurd h (by decide)
      have m6 := MHz_put m5 0 (by omega) (by omega) (Y.1 0 + 1)
      refine ⟨ee_wI (ee_wI w2 237 11 (xmin (Y.1 6 + 1) 99)) 237 5 (Y.1 0 + 1), ?_, ?_, chk_I (hpk 5 (by omega) (by omega) (by omega)) c5⟩
      · rcases lostc _ rfl with ⟨l1, l2⟩ | ⟨l1, l2⟩
        · subst l2
          rw [l1] at s3
          simp -implicitDefEqProofs only [r_isIn hd1, h5, e8, s3, t1, h10, h8, h11, h52, i1, i2, c1, c2, m_held hd1 _ 0 99 (by decide), mh, v3, nz_8, w_opa, bd_247, k_0, k_1, k_10, k_11, k_3, k_4294967293, k_4294967295, k_5, k_8, k_9, k_99, nz_1, nz_10, nz_11, nz_3, nz_5, nz_8, nz_9, nz_99, v_and, v_bin, v_call, v_cmp, v_cons, v_get, v_idx, v_int, v_loc, v_nil, v_not, v_tern, v_un, v_z, w_exp0, w_exp1, w_if, w_opa, w_retv, w_seq, w_set, w_skip, w_sto, List.getElem?_cons_zero, List.getElem?_cons_succ, List.set_cons_zero, List.set_cons_succ, ee_cmp0, ee_cmp1, ee_cmp2, ee_cmp3, ee_cmp4, ee_cmp5, ee_cmpL0, ee_cmpL1, ee_cmpL2, ee_cmpL3, ee_cmpL4, ee_cmpL5, ee_tru_eb, decide_eq_true_eq, ib_i, ie_b, ie_f, ie_t, ib_l, fin_i, fin_l, fin_v, fin_z, fin_a, fin_n, ee_b_0, ee_fld0, ee_fld1, ee_fld2, ee_fld3, bi_0, bi_1, bi_2, bi_3, bi_4, bi_5, bi_6, bi_7, bi_8, bi_9, bi_10, bl_20, bl_21, bl_22, bl_23, bl_24, bl_25, bl_26, bl_48, bl_49, un_0, un_1, un_2, un_3, if_true, if_false, ite_true, ite_false, Bool.false_eq_true, Bool.not_eq_false, decide_not, Bool.not_not, reduceCtorEq, st_i, st_l, st_r, st_n, ee_noL, ee_noL.eq_1, List.length_cons, List.length_nil, Nat.reduceAdd, Nat.reduceLT, Nat.zero_add, and_true, true_and, and_self, fin_ite, pu_0, pu_1, pu_3, sto_0, el_0, Bool.not_eq_true, decide_eq_false_iff_not, Bool.decide_eq_true, Bool.decide_eq_false, decide_true, decide_false, Bool.not_true, Bool.not_false, Bool.and_self, Bool.and_true, Bool.and_false, Bool.true_and, Bool.false_and, Bool.or_true, Bool.or_false, Bool.true_or, Bool.false_or, if_true, if_false, Bool.false_eq_true, ix_0, ix_1, ix_10, ix_11, ix_3, ix_5, ix_8, ix_9, ix_99, tc_0, tc_1, tc_10, tc_11, tc_3, tc_5, tc_8, tc_9, tc_99, mz_0, mz_1, mz_a, rvs, j_s, j_a, wI_at, Nat.reduceEqDiff, zero_ne_one_n, one_ne_zero_n]
        · rw [l1] at s3
          simp -implicitDefEqProofs only [r_isIn hd1, h5, e8, s3, l2, t1, h10, h8, h11, h52, i1, i2, c1, c2, m_held hd1 _ 0 99 (by decide), mh, v3, nz_8, w_opa, bd_247, k_0, k_1, k_10, k_11, k_3, k_4294967293, k_4294967295, k_5, k_8, k_9, k_99, nz_1, nz_10, nz_11, nz_3, nz_5, nz_8, nz_9, nz_99, v_and, v_bin, v_call, v_cmp, v_cons, v_get, v_idx, v_int, v_loc, v_nil, v_not, v_tern, v_un, v_z, w_exp0, w_exp1, w_if, w_opa, w_retv, w_seq, w_set, w_skip, w_sto, List.getElem?_cons_zero, List.getElem?_cons_succ, List.set_cons_zero, List.set_cons_succ, ee_cmp0, ee_cmp1, ee_cmp2, ee_cmp3, ee_cmp4, ee_cmp5, ee_cmpL0, ee_cmpL1, ee_cmpL2, ee_cmpL3, ee_cmpL4, ee_cmpL5, ee_tru_eb, decide_eq_true_eq, ib_i, ie_b, ie_f, ie_t, ib_l, fin_i, fin_l, fin_v, fin_z, fin_a, fin_n, ee_b_0, ee_fld0, ee_fld1, ee_fld2, ee_fld3, bi_0, bi_1, bi_2, bi_3, bi_4, bi_5, bi_6, bi_7, bi_8, bi_9, bi_10, bl_20, bl_21, bl_22, bl_23, bl_24, bl_25, bl_26, bl_48, bl_49, un_0, un_1, un_2, un_3, if_true, if_false, ite_true, ite_false, Bool.false_eq_true, Bool.not_eq_false, decide_not, Bool.not_not, reduceCtorEq, st_i, st_l, st_r, st_n, ee_noL, ee_noL.eq_1, List.length_cons, List.length_nil, Nat.reduceAdd, Nat.reduceLT, Nat.zero_add, and_true, true_and, and_self, fin_ite, pu_0, pu_1, pu_3, sto_0, el_0, Bool.not_eq_true, decide_eq_false_iff_not, Bool.decide_eq_true, Bool.decide_eq_false, decide_true, decide_false, Bool.not_true, Bool.not_false, Bool.and_self, Bool.and_true, Bool.and_false, Bool.true_and, Bool.false_and, Bool.or_true, Bool.or_false, Bool.true_or, Bool.false_or, if_true, if_false, Bool.false_eq_true, ix_0, ix_1, ix_10, ix_11, ix_3, ix_5, ix_8, ix_9, ix_99, tc_0, tc_1, tc_10, tc_11, tc_3, tc_5, tc_8, tc_9, tc_99, mz_0, mz_1, mz_a, rvs, j_s, j_a, wI_at, Nat.reduceEqDiff, zero_ne_one_n, one_ne_zero_n]
      · rw [e4, e3]
        exact m6
end NP
