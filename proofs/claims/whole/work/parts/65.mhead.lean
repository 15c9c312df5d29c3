/-! the reference's head -/
section MH
variable {P : Nat → Nat → List Value → ee_W → Option (List Value × ee_W)} {d : Nat} {w : ee_W} {X : HX} {z : Bool}
theorem held_eq (x b c : Int32) (h : b.toInt ≤ c.toInt) : (if x.toInt64 < b.toInt64 then b else if c.toInt64 < x.toInt64 then c else x.toInt64.toInt32) = hold32 x b c := by
  simp only [Int32.toInt64_lt, Int32.toInt32_toInt64]
  unfold hold32
  by_cases q1 : x < b
  · have r1 : ¬ c ≤ x := by rw [i32_le]; rw [i32_lt] at q1; omega
    have r2 : x ≤ b := by rw [i32_le]; rw [i32_lt] at q1; omega
    rw [if_pos q1, if_neg r1, if_pos r2]
  · rw [if_neg q1]
    by_cases q2 : c < x
    · have r1 : c ≤ x := by rw [i32_le]; rw [i32_lt] at q2; omega
      rw [if_pos q2, if_pos r1]
      by_cases q3 : c ≤ b
      · rw [if_pos q3, i32_eq]; rw [i32_le] at q3; omega
      · rw [if_neg q3]
    · rw [if_neg q2]
      by_cases q3 : c ≤ x
      · have e : x = c := by rw [i32_eq]; rw [i32_le] at q3; rw [i32_lt] at q2; omega
        rw [if_pos q3, e]
        by_cases q4 : c ≤ b
        · rw [if_pos q4, i32_eq]; rw [i32_le] at q4; omega
        · rw [if_neg q4]
      · rw [if_neg q3]
        by_cases q4 : x ≤ b
        · rw [if_pos q4, i32_eq]; rw [i32_le] at q4; rw [i32_lt] at q1; omega
        · rw [if_neg q4]
theorem m_held (hd : 1 ≤ d) (x b c : Int32) (h : b.toInt ≤ c.toInt) : ee_run ee_B P d 241 [.long x.toInt64, .int b, .int c] w = some ([.int (hold32 x b c)], w) := by
  rw [r_held hd, held_eq x b c h]
theorem nx_of {n : Nat} (h : n ≤ 31068) : nx (Int32.ofNat n) = Int32.ofNat ((n * 739 + 601) % 31069) ∧ ((((Int32.ofNat n).toInt64 * 739 + 601) - ((Int32.ofNat n).toInt64 * 739 + 601) / 31069 * 31069).toInt32 = Int32.ofNat ((n * 739 + 601) % 31069)) := by
  constructor
  · unfold nx
    have e : Int32.ofNat n * 739 + 601 = Int32.ofNat (n * 739 + 601) := by
      rw [Int32.ofNat_add, Int32.ofNat_mul]; rfl
    rw [e]
    exact ofnat_rem (m := 31069) (by omega) (by omega) (by omega)
  · have e0 : (Int32.ofNat n).toInt64 = Int64.ofNat n := Int32.toInt64_ofNat' (by show (n : Int) ≤ 2147483647; omega)
    have e : (Int32.ofNat n).toInt64 * 739 + 601 = Int64.ofNat (n * 739 + 601) := by
      rw [e0, Int64.ofNat_add, Int64.ofNat_mul]; rfl
    rw [e]
    have e2 : Int64.ofNat (n * 739 + 601) - Int64.ofNat (n * 739 + 601) / 31069 * 31069 = Int64.ofNat ((n * 739 + 601) % 31069) := by
      show Int64.ofNat (n * 739 + 601) - Int64.ofNat (n * 739 + 601) / Int64.ofNat 31069 * Int64.ofNat 31069 = _
      rw [← Int64.ofNat_div (by omega) (by omega), ← Int64.ofNat_mul, ← Int64.ofNat_sub _ _ (Nat.div_mul_le_self _ _)]
      exact congrArg Int64.ofNat (by omega)
    rw [e2]
    exact Int64.toInt32_ofNat'
def okX (x : Int32) : Prop := 0 ≤ x.toInt ∧ x.toInt ≤ 31068
theorem nx_eq {x : Int32} (h : okX x) : ((x.toInt64 * 739 + 601) - (x.toInt64 * 739 + 601) / 31069 * 31069).toInt32 = nx x := by
  obtain ⟨n, h1, h2, h3⟩ := j_of h.1
  have hn : n ≤ 31068 := by have := h.2; omega
  rw [h2, (nx_of hn).1, (nx_of hn).2]
theorem nx_ok {x : Int32} (h : okX x) : okX (nx x) := by
  obtain ⟨n, h1, h2, h3⟩ := j_of h.1
  have hn : n ≤ 31068 := by have := h.2; omega
  have hl : (n * 739 + 601) % 31069 < 31069 := Nat.mod_lt _ (by omega)
  rw [h2, (nx_of hn).1]
  unfold okX
  rw [nI_t (by omega)]
  omega
theorem MHz_put (hM : MHz z w X) (k : Nat) (h1 : k < 18) (h2 : k ≠ 9) (x : Int32) : MHz z (ee_wI w 237 (5 + k) x) (up X.1 k x, X.2) := by
  obtain ⟨a1, a2, a3⟩ := hM
  refine ⟨?_, ?_, fun q => ⟨⟨?_, ?_⟩, (a3 q).2⟩⟩
  · rw [wI_at, if_neg (by omega)]; exact a1
  · intro j j1 j2
    dsimp only
    rw [wI_at, up_at]
    by_cases q : j = k
    · rw [if_pos ⟨rfl, by omega⟩, if_pos q]
    · rw [if_neg (by omega), if_neg q]
      exact a2 j j1 j2
  · rw [wI_at, if_neg (by omega)]; exact (a3 q).1.1
  · intro i hi
    rw [wI_at, if_neg (by omega)]; exact (a3 q).1.2 i hi
/-- the head's places in the row -/
def ph (z : Bool) (c k : Nat) : Prop := (c = 237 ∧ 5 ≤ k ∧ k < 23 ∧ k ≠ 14) ∨ pb z c k
theorem m_anew (hd : 1 ≤ d) (hM : MHz z w X) (hx : okX (X.1 1)) : ∃ w', ee_run ee_B P d 251 [.ref 236] w = some ([], w') ∧ MHz z w' (xdraw X) ∧ chk (ph z) w w' := by
  obtain ⟨d, rfl⟩ : ∃ k, d = k + 1 := ⟨d - 1, by omega⟩
  have h6 : w.1 237 6 = X.1 1 := hM.2.1 1 (by omega) (by omega)
  refine ⟨_, ?_, MHz_put hM 1 (by omega) (by omega) (nx (X.1 1)), chk_I (Or.inl ⟨rfl, by omega⟩) (chk_refl _ _)⟩
  rw [rn_251 mz_0]
  have nz : ¬ (31069 : Int64) = 0 := by decide
  simp only [h6, nz, nx_eq hx, bd_251, k_6, kl_31069, kl_601, kl_739, nz_6, v_bin, v_get, v_idx, v_int, v_loc, v_long, v_un, w_retv, w_seq, w_sto, List.getElem?_cons_zero, List.getElem?_cons_succ, List.set_cons_zero, List.set_cons_succ, ee_cmp0, ee_cmp1, ee_cmp2, ee_cmp3, ee_cmp4, ee_cmp5, ee_cmpL0, ee_cmpL1, ee_cmpL2, ee_cmpL3, ee_cmpL4, ee_cmpL5, ee_tru_eb, decide_eq_true_eq, ib_i, ie_b, ie_f, ie_t, ib_l, fin_i, fin_l, fin_v, fin_z, fin_a, fin_n, ee_b_0, ee_fld0, ee_fld1, ee_fld2, ee_fld3, bi_0, bi_1, bi_2, bi_3, bi_4, bi_5, bi_6, bi_7, bi_8, bi_9, bi_10, bl_20, bl_21, bl_22, bl_23, bl_24, bl_25, bl_26, bl_48, bl_49, un_0, un_1, un_2, un_3, if_true, if_false, ite_true, ite_false, Bool.false_eq_true, Bool.not_eq_false, decide_not, Bool.not_not, reduceCtorEq, st_i, st_l, st_r, st_n, ee_noL, ee_noL.eq_1, List.length_cons, List.length_nil, Nat.reduceAdd, Nat.reduceLT, Nat.zero_add, and_true, true_and, and_self, fin_ite, pu_0, pu_1, pu_3, sto_0, el_0, Bool.not_eq_true, decide_eq_false_iff_not, Bool.decide_eq_true, Bool.decide_eq_false, decide_true, decide_false, Bool.not_true, Bool.not_false, Bool.and_self, Bool.and_true, Bool.and_false, Bool.true_and, Bool.false_and, Bool.or_true, Bool.or_false, Bool.true_or, Bool.false_or, if_true, if_false, Bool.false_eq_true, ix_6, tc_6, mz_0, mz_1, mz_a, rvs, j_s, j_a, wI_at, Nat.reduceEqDiff, zero_ne_one_n, one_ne_zero_n]
theorem m_drawnBy (hd : 2 ≤ d) (hM : MHz z w X) (hx : okX (X.1 1)) : ∃ w', ee_run ee_B P d 250 [.ref 236, .int 3] w = some ([.int (X.1 1 - X.1 1 / 3 * 3)], w') ∧ MHz z w' (xdraw X) ∧ chk (ph z) w w' := by
  obtain ⟨d, rfl⟩ : ∃ k, d = k + 1 := ⟨d - 1, by omega⟩
  have hd1 : 1 ≤ d := by omega
  have h6 : w.1 237 6 = X.1 1 := hM.2.1 1 (by omega) (by omega)
  obtain ⟨w', n1, n2, n3⟩ := m_anew (P := P) hd1 hM hx
  refine ⟨w', ?_, n2, n3⟩
  rw [rn_250 mz_0]
  simp only [h6, n1, nz_3, bd_250, k_6, nz_6, v_bin, v_call, v_cons, v_get, v_idx, v_int, v_loc, v_nil, w_exp0, w_exp1, w_ret, w_seq, w_set, List.getElem?_cons_zero, List.getElem?_cons_succ, List.set_cons_zero, List.set_cons_succ, ee_cmp0, ee_cmp1, ee_cmp2, ee_cmp3, ee_cmp4, ee_cmp5, ee_cmpL0, ee_cmpL1, ee_cmpL2, ee_cmpL3, ee_cmpL4, ee_cmpL5, ee_tru_eb, decide_eq_true_eq, ib_i, ie_b, ie_f, ie_t, ib_l, fin_i, fin_l, fin_v, fin_z, fin_a, fin_n, ee_b_0, ee_fld0, ee_fld1, ee_fld2, ee_fld3, bi_0, bi_1, bi_2, bi_3, bi_4, bi_5, bi_6, bi_7, bi_8, bi_9, bi_10, bl_20, bl_21, bl_22, bl_23, bl_24, bl_25, bl_26, bl_48, bl_49, un_0, un_1, un_2, un_3, if_true, if_false, ite_true, ite_false, Bool.false_eq_true, Bool.not_eq_false, decide_not, Bool.not_not, reduceCtorEq, st_i, st_l, st_r, st_n, ee_noL, ee_noL.eq_1, List.length_cons, List.length_nil, Nat.reduceAdd, Nat.reduceLT, Nat.zero_add, and_true, true_and, and_self, fin_ite, pu_0, pu_1, pu_3, sto_0, el_0, Bool.not_eq_true, decide_eq_false_iff_not, Bool.decide_eq_true, Bool.decide_eq_false, decide_true, decide_false, Bool.not_true, Bool.not_false, Bool.and_self, Bool.and_true, Bool.and_false, Bool.true_and, Bool.false_and, Bool.or_true, Bool.or_false, Bool.true_or, Bool.false_or, if_true, if_false, Bool.false_eq_true, ix_6, tc_6, mz_0, mz_1, mz_a, rvs, j_s, j_a, wI_at, Nat.reduceEqDiff, zero_ne_one_n, one_ne_zero_n]
theorem pb_ph {z : Bool} : ∀ c k, pb z c k → ph z c k := fun c k h => Or.inr h
theorem m_seekNow (hd : 2 ≤ d) (hM : MHz z w X) (t : Int32) : ∃ w', ee_run ee_B P d 237 [.ref 236, .int t] w = some ([], w') ∧ MHz z w' (xaim X t) ∧ chk (ph z) w w' := by
  obtain ⟨d, rfl⟩ : ∃ k, d = k + 1 := ⟨d - 1, by omega⟩
  have hd1 : 1 ≤ d := by omega
  obtain ⟨w', n1, n2, n3⟩ := m_note (P := P) hd1 (MHz_put (MHz_put hM 4 (by omega) (by omega) t) 6 (by omega) (by omega) 0) 0 t
  refine ⟨w', ?_, n2, chk_trans (chk_I (Or.inl ⟨rfl, by omega⟩) (chk_I (Or.inl ⟨rfl, by omega⟩) (chk_refl _ _))) (chk_mono n3 pb_ph)⟩
  rw [rn_237 mz_0]
  simp only [n1, bd_237, k_0, k_11, k_9, nz_11, nz_9, v_call, v_cons, v_get, v_int, v_loc, v_nil, w_exp0, w_exp1, w_retv, w_seq, w_sto, List.getElem?_cons_zero, List.getElem?_cons_succ, List.set_cons_zero, List.set_cons_succ, ee_cmp0, ee_cmp1, ee_cmp2, ee_cmp3, ee_cmp4, ee_cmp5, ee_cmpL0, ee_cmpL1, ee_cmpL2, ee_cmpL3, ee_cmpL4, ee_cmpL5, ee_tru_eb, decide_eq_true_eq, ib_i, ie_b, ie_f, ie_t, ib_l, fin_i, fin_l, fin_v, fin_z, fin_a, fin_n, ee_b_0, ee_fld0, ee_fld1, ee_fld2, ee_fld3, bi_0, bi_1, bi_2, bi_3, bi_4, bi_5, bi_6, bi_7, bi_8, bi_9, bi_10, bl_20, bl_21, bl_22, bl_23, bl_24, bl_25, bl_26, bl_48, bl_49, un_0, un_1, un_2, un_3, if_true, if_false, ite_true, ite_false, Bool.false_eq_true, Bool.not_eq_false, decide_not, Bool.not_not, reduceCtorEq, st_i, st_l, st_r, st_n, ee_noL, ee_noL.eq_1, List.length_cons, List.length_nil, Nat.reduceAdd, Nat.reduceLT, Nat.zero_add, and_true, true_and, and_self, fin_ite, pu_0, pu_1, pu_3, sto_0, el_0, Bool.not_eq_true, decide_eq_false_iff_not, Bool.decide_eq_true, Bool.decide_eq_false, decide_true, decide_false, Bool.not_true, Bool.not_false, Bool.and_self, Bool.and_true, Bool.and_false, Bool.true_and, Bool.false_and, Bool.or_true, Bool.or_false, Bool.true_or, Bool.false_or, if_true, if_false, Bool.false_eq_true, ix_0, ix_11, ix_9, tc_0, tc_11, tc_9, mz_0, mz_1, mz_a, rvs, j_s, j_a, wI_at, Nat.reduceEqDiff, zero_ne_one_n, one_ne_zero_n]
theorem m_shakeNow (hd : 2 ≤ d) (hM : MHz z w X) (t : Int32) : ∃ w', ee_run ee_B P d 240 [.ref 236, .int t] w = some ([], w') ∧ MHz z w' (xnudge X t) ∧ chk (ph z) w w' := by
  obtain ⟨d, rfl⟩ : ∃ k, d = k + 1 := ⟨d - 1, by omega⟩
  have hd1 : 1 ≤ d := by omega
  have h7 : w.1 237 7 = X.1 2 := hM.2.1 2 (by omega) (by omega)
  obtain ⟨w', n1, n2, n3⟩ := m_note (P := P) hd1 (MHz_put (MHz_put hM 2 (by omega) (by omega) (hold32 (X.1 2 + t) 0 1023)) 6 (by omega) (by omega) 0) 1 t
  refine ⟨w', ?_, n2, chk_trans (chk_I (Or.inl ⟨rfl, by omega⟩) (chk_I (Or.inl ⟨rfl, by omega⟩) (chk_refl _ _))) (chk_mono n3 pb_ph)⟩
  rw [rn_240 mz_0]
  simp only [h7, m_held hd1 _ 0 1023 (by decide), n1, bd_240, k_0, k_1, k_1023, k_11, k_7, nz_1, nz_1023, nz_11, nz_7, v_bin, v_call, v_cons, v_get, v_idx, v_int, v_loc, v_nil, v_un, w_exp0, w_exp1, w_retv, w_seq, w_sto, List.getElem?_cons_zero, List.getElem?_cons_succ, List.set_cons_zero, List.set_cons_succ, ee_cmp0, ee_cmp1, ee_cmp2, ee_cmp3, ee_cmp4, ee_cmp5, ee_cmpL0, ee_cmpL1, ee_cmpL2, ee_cmpL3, ee_cmpL4, ee_cmpL5, ee_tru_eb, decide_eq_true_eq, ib_i, ie_b, ie_f, ie_t, ib_l, fin_i, fin_l, fin_v, fin_z, fin_a, fin_n, ee_b_0, ee_fld0, ee_fld1, ee_fld2, ee_fld3, bi_0, bi_1, bi_2, bi_3, bi_4, bi_5, bi_6, bi_7, bi_8, bi_9, bi_10, bl_20, bl_21, bl_22, bl_23, bl_24, bl_25, bl_26, bl_48, bl_49, un_0, un_1, un_2, un_3, if_true, if_false, ite_true, ite_false, Bool.false_eq_true, Bool.not_eq_false, decide_not, Bool.not_not, reduceCtorEq, st_i, st_l, st_r, st_n, ee_noL, ee_noL.eq_1, List.length_cons, List.length_nil, Nat.reduceAdd, Nat.reduceLT, Nat.zero_add, and_true, true_and, and_self, fin_ite, pu_0, pu_1, pu_3, sto_0, el_0, Bool.not_eq_true, decide_eq_false_iff_not, Bool.decide_eq_true, Bool.decide_eq_false, decide_true, decide_false, Bool.not_true, Bool.not_false, Bool.and_self, Bool.and_true, Bool.and_false, Bool.true_and, Bool.false_and, Bool.or_true, Bool.or_false, Bool.true_or, Bool.false_or, if_true, if_false, Bool.false_eq_true, ix_0, ix_1, ix_1023, ix_11, ix_7, tc_0, tc_1, tc_1023, tc_11, tc_7, mz_0, mz_1, mz_a, rvs, j_s, j_a, wI_at, Nat.reduceEqDiff, zero_ne_one_n, one_ne_zero_n]
theorem m_canWrite (hd : 1 ≤ d) (hM : MHz z w X) : ee_run ee_B P d 243 [.ref 236] w = some ([.int (ee_b (decide (3 ≤ X.1 6)))], w) := by
  obtain ⟨d, rfl⟩ : ∃ k, d = k + 1 := ⟨d - 1, by omega⟩
  have h7 : w.1 237 11 = X.1 6 := hM.2.1 6 (by omega) (by omega)
  rw [rn_243 mz_0]
  simp only [h7, bd_243, k_11, k_3, nz_11, nz_3, v_cmp, v_get, v_idx, v_int, v_loc, v_mat, w_ret, List.getElem?_cons_zero, List.getElem?_cons_succ, List.set_cons_zero, List.set_cons_succ, ee_cmp0, ee_cmp1, ee_cmp2, ee_cmp3, ee_cmp4, ee_cmp5, ee_cmpL0, ee_cmpL1, ee_cmpL2, ee_cmpL3, ee_cmpL4, ee_cmpL5, ee_tru_eb, decide_eq_true_eq, ib_i, ie_b, ie_f, ie_t, ib_l, fin_i, fin_l, fin_v, fin_z, fin_a, fin_n, ee_b_0, ee_fld0, ee_fld1, ee_fld2, ee_fld3, bi_0, bi_1, bi_2, bi_3, bi_4, bi_5, bi_6, bi_7, bi_8, bi_9, bi_10, bl_20, bl_21, bl_22, bl_23, bl_24, bl_25, bl_26, bl_48, bl_49, un_0, un_1, un_2, un_3, if_true, if_false, ite_true, ite_false, Bool.false_eq_true, Bool.not_eq_false, decide_not, Bool.not_not, reduceCtorEq, st_i, st_l, st_r, st_n, ee_noL, ee_noL.eq_1, List.length_cons, List.length_nil, Nat.reduceAdd, Nat.reduceLT, Nat.zero_add, and_true, true_and, and_self, fin_ite, pu_0, pu_1, pu_3, sto_0, el_0, Bool.not_eq_true, decide_eq_false_iff_not, Bool.decide_eq_true, Bool.decide_eq_false, decide_true, decide_false, Bool.not_true, Bool.not_false, Bool.and_self, Bool.and_true, Bool.and_false, Bool.true_and, Bool.false_and, Bool.or_true, Bool.or_false, Bool.true_or, Bool.false_or, if_true, if_false, Bool.false_eq_true, ix_11, ix_3, tc_11, tc_3, mz_0, mz_1, mz_a, rvs, j_s, j_a, wI_at, Nat.reduceEqDiff, zero_ne_one_n, one_ne_zero_n]
theorem m_canSeek (hd : 3 ≤ d) (hM : MHz z w X) (t : Int32) : ee_run ee_B P d 234 [.ref 236, .int t] w = some ([.int (ee_b ((decide (0 ≤ t) && decide (t < 64)) && !decide (t = X.1 4)))], w) := by
  obtain ⟨d, rfl⟩ : ∃ k, d = k + 1 := ⟨d - 1, by omega⟩
  have hd2 : 2 ≤ d := by omega
  have h7 : w.1 237 9 = X.1 4 := hM.2.1 4 (by omega) (by omega)
  have e := r_isTrackM (P := P) (w := w) hd2 t
  rw [i63] at e
  rw [rn_234 mz_0]
  cases q : (decide (0 ≤ t) && decide (t < 64)) <;> cases q2 : decide (t = X.1 4) <;> simp only [h7, e, q, q2, bd_234, k_9, nz_9, v_and, v_call, v_cmp, v_cons, v_get, v_idx, v_int, v_loc, v_mat, v_nil, v_z, w_ret, List.getElem?_cons_zero, List.getElem?_cons_succ, List.set_cons_zero, List.set_cons_succ, ee_cmp0, ee_cmp1, ee_cmp2, ee_cmp3, ee_cmp4, ee_cmp5, ee_cmpL0, ee_cmpL1, ee_cmpL2, ee_cmpL3, ee_cmpL4, ee_cmpL5, ee_tru_eb, decide_eq_true_eq, ib_i, ie_b, ie_f, ie_t, ib_l, fin_i, fin_l, fin_v, fin_z, fin_a, fin_n, ee_b_0, ee_fld0, ee_fld1, ee_fld2, ee_fld3, bi_0, bi_1, bi_2, bi_3, bi_4, bi_5, bi_6, bi_7, bi_8, bi_9, bi_10, bl_20, bl_21, bl_22, bl_23, bl_24, bl_25, bl_26, bl_48, bl_49, un_0, un_1, un_2, un_3, if_true, if_false, ite_true, ite_false, Bool.false_eq_true, Bool.not_eq_false, decide_not, Bool.not_not, reduceCtorEq, st_i, st_l, st_r, st_n, ee_noL, ee_noL.eq_1, List.length_cons, List.length_nil, Nat.reduceAdd, Nat.reduceLT, Nat.zero_add, and_true, true_and, and_self, fin_ite, pu_0, pu_1, pu_3, sto_0, el_0, Bool.not_eq_true, decide_eq_false_iff_not, Bool.decide_eq_true, Bool.decide_eq_false, decide_true, decide_false, Bool.not_true, Bool.not_false, Bool.and_self, Bool.and_true, Bool.and_false, Bool.true_and, Bool.false_and, Bool.or_true, Bool.or_false, Bool.true_or, Bool.false_or, if_true, if_false, Bool.false_eq_true, ix_9, tc_9, mz_0, mz_1, mz_a, rvs, j_s, j_a, wI_at, Nat.reduceEqDiff, zero_ne_one_n, one_ne_zero_n]
/-- a count up to a bound, from 0 on -/
theorem min_held {x m : Int32} (h : 0 ≤ x.toInt) (h2 : x.toInt ≤ 9999) (hm : 0 ≤ m.toInt) : hold32 (x + 1) 0 m = if x + 1 ≤ m then x + 1 else m := by
  have e : (x + 1).toInt = x.toInt + 1 := by rw [i32_add] <;> rw [show (1 : Int32).toInt = 1 from rfl] <;> omega
  have z0 : (0 : Int32).toInt = 0 := rfl
  unfold hold32
  by_cases q : m ≤ x + 1
  · rw [if_pos q]
    by_cases q2 : m ≤ 0
    · rw [if_pos q2]
      have : m = 0 := by rw [i32_eq]; rw [i32_le] at q2; omega
      rw [this]
      rw [this, i32_le] at q
      rw [if_neg (by rw [i32_le]; omega)]
    · rw [if_neg q2]
      by_cases q3 : x + 1 ≤ m
      · rw [if_pos q3, i32_eq]; rw [i32_le] at q q3; omega
      · rw [if_neg q3]
  · have q3 : x + 1 ≤ m := by rw [i32_le]; rw [i32_le] at q; omega
    rw [if_neg q, if_pos q3, if_neg (by rw [i32_le]; omega)]
theorem m_writeNow (hd : 2 ≤ d) (hM : MHz z w X) (h0 : 0 ≤ (X.1 7).toInt) (h1 : (X.1 7).toInt ≤ 9999) : ∃ w', ee_run ee_B P d 244 [.ref 236] w = some ([], w') ∧ MHz z w' (xmark X) ∧ chk (ph z) w w' := by
  obtain ⟨d, rfl⟩ : ∃ k, d = k + 1 := ⟨d - 1, by omega⟩
  have hd1 : 1 ≤ d := by omega
  have h7 : w.1 237 12 = X.1 7 := hM.2.1 7 (by omega) (by omega)
  have h9 : w.1 237 9 = X.1 4 := hM.2.1 4 (by omega) (by omega)
  obtain ⟨w', n1, n2, n3⟩ := m_note (P := P) hd1 (MHz_put hM 7 (by omega) (by omega) (if X.1 7 + 1 ≤ 9999 then X.1 7 + 1 else 9999)) 2 (X.1 4)
  refine ⟨w', ?_, n2, chk_trans (chk_I (Or.inl ⟨rfl, by omega⟩) (chk_refl _ _)) (chk_mono n3 pb_ph)⟩
  rw [rn_244 mz_0]
  simp only [h7, h9, m_held hd1 _ 0 9999 (by decide), min_held h0 h1 (show 0 ≤ (9999 : Int32).toInt by decide), n1, bd_244, k_0, k_1, k_12, k_2, k_9, k_9999, nz_1, nz_12, nz_2, nz_9, nz_9999, v_bin, v_call, v_cons, v_get, v_idx, v_int, v_loc, v_nil, v_un, w_exp0, w_exp1, w_retv, w_seq, w_sto, List.getElem?_cons_zero, List.getElem?_cons_succ, List.set_cons_zero, List.set_cons_succ, ee_cmp0, ee_cmp1, ee_cmp2, ee_cmp3, ee_cmp4, ee_cmp5, ee_cmpL0, ee_cmpL1, ee_cmpL2, ee_cmpL3, ee_cmpL4, ee_cmpL5, ee_tru_eb, decide_eq_true_eq, ib_i, ie_b, ie_f, ie_t, ib_l, fin_i, fin_l, fin_v, fin_z, fin_a, fin_n, ee_b_0, ee_fld0, ee_fld1, ee_fld2, ee_fld3, bi_0, bi_1, bi_2, bi_3, bi_4, bi_5, bi_6, bi_7, bi_8, bi_9, bi_10, bl_20, bl_21, bl_22, bl_23, bl_24, bl_25, bl_26, bl_48, bl_49, un_0, un_1, un_2, un_3, if_true, if_false, ite_true, ite_false, Bool.false_eq_true, Bool.not_eq_false, decide_not, Bool.not_not, reduceCtorEq, st_i, st_l, st_r, st_n, ee_noL, ee_noL.eq_1, List.length_cons, List.length_nil, Nat.reduceAdd, Nat.reduceLT, Nat.zero_add, and_true, true_and, and_self, fin_ite, pu_0, pu_1, pu_3, sto_0, el_0, Bool.not_eq_true, decide_eq_false_iff_not, Bool.decide_eq_true, Bool.decide_eq_false, decide_true, decide_false, Bool.not_true, Bool.not_false, Bool.and_self, Bool.and_true, Bool.and_false, Bool.true_and, Bool.false_and, Bool.or_true, Bool.or_false, Bool.true_or, Bool.false_or, if_true, if_false, Bool.false_eq_true, ix_0, ix_1, ix_12, ix_2, ix_9, ix_9999, tc_0, tc_1, tc_12, tc_2, tc_9, tc_9999, mz_0, mz_1, mz_a, rvs, j_s, j_a, wI_at, Nat.reduceEqDiff, zero_ne_one_n, one_ne_zero_n]
end MH
