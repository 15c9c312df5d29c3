/-! heads, the class's -/
section HE
variable {P : Nat → Nat → List Value → ee_W → Option (List Value × ee_W)} {d : Nat} {w : ee_W} {h : Nat} {X : HX}
def xnote (X : HX) (a b : Int32) : HX := if X.2.1 = 25 then (X.1, 25, fun i => if i = 24 then (X.1 0, a, b) else X.2.2 (i + 1)) else (X.1, X.2.1 + 1, fun i => if i = X.2.1 then (X.1 0, a, b) else X.2.2 i)
theorem xnote_le (hn : X.2.1 ≤ 25) (a b : Int32) : (xnote X a b).2.1 ≤ 25 := by
  unfold xnote
  split
  · exact Nat.le_refl _
  · show X.2.1 + 1 ≤ 25; omega
theorem xnote_1 (a b : Int32) : (xnote X a b).1 = X.1 := by
  unfold xnote
  split <;> rfl
theorem c_note (hd : 2 ≤ d) (hh : hd_ok h) (hX : CH w h X) (hn : X.2.1 ≤ 25) (a b : Int32) : ∃ w', ee_run ee_B P d 70 [.ref h, .int a, .int b] w = some ([], w') ∧ CH w' h (xnote X a b) ∧ chg (hrg h) w w' := by
  obtain ⟨d, rfl⟩ : ∃ k, d = k + 1 := ⟨d - 1, by omega⟩
  have hd1 : 1 ≤ d := by omega
  obtain ⟨s0, s1, s2, s3, s4⟩ := hh
  obtain ⟨⟨a0, a1, a2, a3, a4, a5, a6, a7, a8⟩, a9, a10, a11⟩ := hX
  rw [rn_70 s0]
  by_cases q : X.2.1 = 25
  · have e9 : w.1 h 9 = 25 := by rw [a9, q]; rfl
    have c0 : (25 : Int32) ≤ 25 := by decide
    have ck : cpk es_sh (h + 2) 3 (h + 2) 0 72 = true := by unfold cpk; rw [s4]; decide
    have m1 : (24 : Int32) * 3 = 72 := by decide
    have m2 : (72 : Int32) + 1 = 73 := by decide
    have m3 : (72 : Int32) + 2 = 74 := by decide
    have m4 : (24 : Int32) + 1 = 25 := by decide
    have wi : (decide ((0 : Int32) ≤ 72) && decide ((72 : Int32) ≤ 72)) = true := by decide
    have x1 : ee_ix 72 75 = true := by decide
    have x2 : ee_ix 73 75 = true := by decide
    have x3 : ee_ix 74 75 = true := by decide
    have t1 : (72 : Int32).toNatClampNeg = 72 := by decide
    have t2 : (73 : Int32).toNatClampNeg = 73 := by decide
    have t3 : (74 : Int32).toNatClampNeg = 74 := by decide
    have t4 : (0 : Int32).toNatClampNeg = 0 := by decide
    have t5 : (3 : Int32).toNatClampNeg = 3 := by decide
    apply Exists.intro
    refine ⟨?_, ?_, ?_⟩
    · simp only [r_within hd1, s0, s1, s2, s3, s4, rvs, e9, c0, ck, m1, m2, m3, m4, wi, x1, x2, x3, t1, t2, t3, cpw_at, a0, zz_ce, zz_ec, zz_cf, zz_fc, zz_ef, zz_fe, wI_at, wI_2, wJ_at, wJ_1, wJ_2, and_true, true_and, and_false, false_and, if_true, if_false, Nat.reduceEqDiff, Nat.reduceAdd, zero_ne_one_n, one_ne_zero_n, bd_70, k_0, k_1, k_2, k_24, k_25, k_3, k_72, nz_1, nz_2, nz_24, nz_25, nz_3, nz_72, v_bin, v_call, v_cmp, v_cons, v_copy2, v_get, v_int, v_loc, v_nil, v_z, w_exp0, w_exp1, w_if, w_opf, w_put, w_retv, w_seq, w_set, w_skip, w_sto, List.getElem?_cons_zero, List.getElem?_cons_succ, List.set_cons_zero, List.set_cons_succ, ee_cmp0, ee_cmp1, ee_cmp2, ee_cmp3, ee_cmp4, ee_cmp5, ee_cmpL0, ee_cmpL1, ee_cmpL2, ee_cmpL3, ee_cmpL4, ee_cmpL5, ee_tru_eb, decide_eq_true_eq, ib_i, ie_b, ie_f, ie_t, ib_l, fin_i, fin_l, fin_v, fin_z, fin_a, fin_n, ee_b_0, ee_fld0, ee_fld1, ee_fld2, ee_fld3, bi_0, bi_1, bi_2, bi_3, bi_4, bi_5, bi_6, bi_7, bi_8, bi_9, bi_10, bl_20, bl_21, bl_22, bl_23, bl_24, bl_25, bl_26, bl_48, bl_49, un_0, un_1, un_2, un_3, if_true, if_false, ite_true, ite_false, Bool.false_eq_true, Bool.not_eq_false, decide_not, Bool.not_not, reduceCtorEq, st_i, st_l, st_r, st_n, ee_noL, ee_noL.eq_1, List.length_cons, List.length_nil, Nat.reduceAdd, Nat.reduceLT, Nat.zero_add, and_true, true_and, and_self, fin_ite, pu_0, pu_1, pu_3, sto_0, el_0, Bool.not_eq_true, decide_eq_false_iff_not, Bool.decide_eq_true, Bool.decide_eq_false, decide_true, decide_false, Bool.not_true, Bool.not_false, Bool.and_self, Bool.and_true, Bool.and_false, Bool.true_and, Bool.false_and, Bool.or_true, Bool.or_false, Bool.true_or, Bool.false_or, if_true, if_false, Bool.false_eq_true]
      rfl
    · refine ⟨?_, ?_, ?_, ?_⟩
      · simp only [xnote, if_pos q, cpw_at, zz_ce, zz_ec, zz_cf, zz_fc, zz_ef, zz_fe, wI_at, wI_2, wJ_at, wJ_1, wJ_2, and_true, true_and, and_false, false_and, if_true, if_false, Nat.reduceEqDiff, Nat.reduceAdd, zero_ne_one_n, one_ne_zero_n]
        exact ⟨a0, a1, a2, a3, a4, a5, a6, a7, a8⟩
      · simp only [xnote, if_pos q, cpw_at, zz_ce, zz_ec, zz_cf, zz_fc, zz_ef, zz_fe, wI_at, wI_2, wJ_at, wJ_1, wJ_2, and_true, true_and, and_false, false_and, if_true, if_false, Nat.reduceEqDiff, Nat.reduceAdd, zero_ne_one_n, one_ne_zero_n]
        rfl
      · intro k hk
        simp only [xnote, if_pos q, cpw_at, zz_ce, zz_ec, zz_cf, zz_fc, zz_ef, zz_fe, wI_at, wI_2, wJ_at, wJ_1, wJ_2, and_true, true_and, and_false, false_and, if_true, if_false, Nat.reduceEqDiff, Nat.reduceAdd, zero_ne_one_n, one_ne_zero_n]
        exact a10 k hk
      · intro i hi
        simp only [xnote, if_pos q] at hi ⊢
        by_cases z : i = 24
        · subst z
          simp only [cpw_at, zz_ce, zz_ec, zz_cf, zz_fc, zz_ef, zz_fe, wI_at, wI_2, wJ_at, wJ_1, wJ_2, and_true, true_and, and_false, false_and, if_true, if_false, Nat.reduceEqDiff, Nat.reduceAdd, zero_ne_one_n, one_ne_zero_n]
        · have b1 : 3 * i < 72 := by omega
          have b2 : 3 * i + 1 < 72 := by omega
          have b3 : 3 * i + 2 < 72 := by omega
          have := a11 (i + 1) (by omega)
          rw [if_neg z]
          simp only [wI_at, cpw_at, t1, t2, t3, t4, t5, zz_ce, zz_ec, zz_cf, zz_fc, zz_ef, zz_fe, wI_at, wI_2, wJ_at, wJ_1, wJ_2, and_true, true_and, and_false, false_and, if_true, if_false, Nat.reduceEqDiff, Nat.reduceAdd, zero_ne_one_n, one_ne_zero_n]
          rw [if_neg (by omega), if_neg (by omega), if_neg (by omega), if_pos (by omega), if_neg (by omega), if_neg (by omega), if_neg (by omega), if_pos (by omega), if_neg (by omega), if_neg (by omega), if_neg (by omega), if_pos (by omega)]
          rw [show 3 + (3 * i - 0) = 3 * (i + 1) by omega, show 3 + (3 * i + 1 - 0) = 3 * (i + 1) + 1 by omega, show 3 + (3 * i + 2 - 0) = 3 * (i + 1) + 2 by omega]
          exact this
    · exact chg_I (hrg_0 h) (chg_I (hrg_2 h) (chg_I (hrg_2 h) (chg_I (hrg_2 h) (chg_I (hrg_0 h) (chg_cp (hrg_2 h) (chg_refl _ _))))))
  · have c0 : ¬ (25 : Int32) ≤ Int32.ofNat X.2.1 := fun z => by have := (j_le (a := 25) (by omega) (by omega)).1 z; omega
    have m1 : Int32.ofNat X.2.1 * 3 = Int32.ofNat (X.2.1 * 3) := j_m X.2.1 3
    have m2 : Int32.ofNat (X.2.1 * 3) + 1 = Int32.ofNat (X.2.1 * 3 + 1) := j_a _ 1
    have m3 : Int32.ofNat (X.2.1 * 3) + 2 = Int32.ofNat (X.2.1 * 3 + 2) := j_a _ 2
    have wi : (decide ((0 : Int32) ≤ Int32.ofNat (X.2.1 * 3)) && decide (Int32.ofNat (X.2.1 * 3) ≤ 72)) = true := by
      rw [in_iff, nI_t (by omega)]
      exact ⟨by show (0 : Int) ≤ _; omega, by show _ ≤ (72 : Int); omega⟩
    have x1 : ee_ix (Int32.ofNat (X.2.1 * 3)) 75 = true := by rw [ixn (by omega)]; exact decide_eq_true (by omega)
    have x2 : ee_ix (Int32.ofNat (X.2.1 * 3 + 1)) 75 = true := by rw [ixn (by omega)]; exact decide_eq_true (by omega)
    have x3 : ee_ix (Int32.ofNat (X.2.1 * 3 + 2)) 75 = true := by rw [ixn (by omega)]; exact decide_eq_true (by omega)
    have t1 : (Int32.ofNat (X.2.1 * 3)).toNatClampNeg = X.2.1 * 3 := tnc (by omega)
    have t2 : (Int32.ofNat (X.2.1 * 3 + 1)).toNatClampNeg = X.2.1 * 3 + 1 := tnc (by omega)
    have t3 : (Int32.ofNat (X.2.1 * 3 + 2)).toNatClampNeg = X.2.1 * 3 + 2 := tnc (by omega)
    apply Exists.intro
    refine ⟨?_, ?_, ?_⟩
    · simp only [r_within hd1, s0, s1, s2, s3, s4, rvs, a9, c0, m1, m2, m3, wi, x1, x2, x3, t1, t2, t3, j_s, a0, zz_ce, zz_ec, zz_cf, zz_fc, zz_ef, zz_fe, wI_at, wI_2, wJ_at, wJ_1, wJ_2, and_true, true_and, and_false, false_and, if_true, if_false, Nat.reduceEqDiff, Nat.reduceAdd, zero_ne_one_n, one_ne_zero_n, bd_70, k_0, k_1, k_2, k_24, k_25, k_3, k_72, nz_1, nz_2, nz_24, nz_25, nz_3, nz_72, v_bin, v_call, v_cmp, v_cons, v_copy2, v_get, v_int, v_loc, v_nil, v_z, w_exp0, w_exp1, w_if, w_opf, w_put, w_retv, w_seq, w_set, w_skip, w_sto, List.getElem?_cons_zero, List.getElem?_cons_succ, List.set_cons_zero, List.set_cons_succ, ee_cmp0, ee_cmp1, ee_cmp2, ee_cmp3, ee_cmp4, ee_cmp5, ee_cmpL0, ee_cmpL1, ee_cmpL2, ee_cmpL3, ee_cmpL4, ee_cmpL5, ee_tru_eb, decide_eq_true_eq, ib_i, ie_b, ie_f, ie_t, ib_l, fin_i, fin_l, fin_v, fin_z, fin_a, fin_n, ee_b_0, ee_fld0, ee_fld1, ee_fld2, ee_fld3, bi_0, bi_1, bi_2, bi_3, bi_4, bi_5, bi_6, bi_7, bi_8, bi_9, bi_10, bl_20, bl_21, bl_22, bl_23, bl_24, bl_25, bl_26, bl_48, bl_49, un_0, un_1, un_2, un_3, if_true, if_false, ite_true, ite_false, Bool.false_eq_true, Bool.not_eq_false, decide_not, Bool.not_not, reduceCtorEq, st_i, st_l, st_r, st_n, ee_noL, ee_noL.eq_1, List.length_cons, List.length_nil, Nat.reduceAdd, Nat.reduceLT, Nat.zero_add, and_true, true_and, and_self, fin_ite, pu_0, pu_1, pu_3, sto_0, el_0, Bool.not_eq_true, decide_eq_false_iff_not, Bool.decide_eq_true, Bool.decide_eq_false, decide_true, decide_false, Bool.not_true, Bool.not_false, Bool.and_self, Bool.and_true, Bool.and_false, Bool.true_and, Bool.false_and, Bool.or_true, Bool.or_false, Bool.true_or, Bool.false_or, if_true, if_false, Bool.false_eq_true]
      rfl
    · refine ⟨?_, ?_, ?_, ?_⟩
      · simp only [xnote, if_neg q, zz_ce, zz_ec, zz_cf, zz_fc, zz_ef, zz_fe, wI_at, wI_2, wJ_at, wJ_1, wJ_2, and_true, true_and, and_false, false_and, if_true, if_false, Nat.reduceEqDiff, Nat.reduceAdd, zero_ne_one_n, one_ne_zero_n]
        exact ⟨a0, a1, a2, a3, a4, a5, a6, a7, a8⟩
      · simp only [xnote, if_neg q, zz_ce, zz_ec, zz_cf, zz_fc, zz_ef, zz_fe, wI_at, wI_2, wJ_at, wJ_1, wJ_2, and_true, true_and, and_false, false_and, if_true, if_false, Nat.reduceEqDiff, Nat.reduceAdd, zero_ne_one_n, one_ne_zero_n]
      · intro k hk
        simp only [xnote, if_neg q, zz_ce, zz_ec, zz_cf, zz_fc, zz_ef, zz_fe, wI_at, wI_2, wJ_at, wJ_1, wJ_2, and_true, true_and, and_false, false_and, if_true, if_false, Nat.reduceEqDiff, Nat.reduceAdd, zero_ne_one_n, one_ne_zero_n]
        exact a10 k hk
      · intro i hi
        simp only [xnote, if_neg q] at hi ⊢
        simp only [zz_ce, zz_ec, zz_cf, zz_fc, zz_ef, zz_fe, wI_at, wI_2, wJ_at, wJ_1, wJ_2, and_true, true_and, and_false, false_and, if_true, if_false, Nat.reduceEqDiff, Nat.reduceAdd, zero_ne_one_n, one_ne_zero_n]
        by_cases z : i = X.2.1
        · rw [if_pos z, z, if_neg (by omega), if_neg (by omega), if_pos (by omega), if_neg (by omega), if_pos (by omega), if_pos (by omega)]
          exact ⟨rfl, rfl, rfl⟩
        · rw [if_neg z, if_neg (by omega), if_neg (by omega), if_neg (by omega), if_neg (by omega), if_neg (by omega), if_neg (by omega), if_neg (by omega), if_neg (by omega), if_neg (by omega)]
          exact a11 i (by omega)
    · exact chg_I (hrg_0 h) (chg_I (hrg_2 h) (chg_I (hrg_2 h) (chg_I (hrg_2 h) (chg_refl _ _))))
theorem xor_nn {a b : Int32} (ha : 0 ≤ a.toInt) (hb : 0 ≤ b.toInt) : (a ^^^ b < 0) = False := by
  refine eq_false ?_
  rw [i32_lt]
  show ¬ (a ^^^ b).toBitVec.toInt < 0
  have h := BitVec.msb_eq_toInt (x := (a ^^^ b).toBitVec)
  have h1 := BitVec.msb_eq_toInt (x := a.toBitVec)
  have h2 := BitVec.msb_eq_toInt (x := b.toBitVec)
  have ha' : ¬ a.toBitVec.toInt < 0 := by show ¬ a.toInt < 0; omega
  have hb' : ¬ b.toBitVec.toInt < 0 := by show ¬ b.toInt < 0; omega
  rw [decide_eq_false ha'] at h1
  rw [decide_eq_false hb'] at h2
  rw [Int32.toBitVec_xor, BitVec.msb_xor, h1, h2] at h
  intro q
  rw [Int32.toBitVec_xor] at q
  rw [decide_eq_true q] at h
  cases h
def rem8 (x : Int32) : Int32 := x - x / 8 * 8
theorem c_sectorNow (hd : 2 ≤ d) (hh : hd_ok h) (hX : CH w h X) (hc : 0 ≤ (X.1 0).toInt) : ee_run ee_B P d 81 [.ref h] w = some ([.int (rem8 (X.1 0))], w) := by
  obtain ⟨d, rfl⟩ : ∃ k, d = k + 1 := ⟨d - 1, by omega⟩
  have hd1 : 1 ≤ d := by omega
  obtain ⟨s0, s1, s2, s3, s4⟩ := hh
  obtain ⟨⟨a0, a1, a2, a3, a4, a5, a6, a7, a8⟩, a9, a10, a11⟩ := hX
  rw [rn_81 s0]
  have x8 := xor_nn hc (show 0 ≤ (8 : Int32).toInt by decide)
  simp only [r_floorMod hd1, s0, a0, nz_8, not_false_eq_true, x8, rem8, bd_81, k_8, nz_8, v_call, v_cons, v_get, v_int, v_loc, v_nil, w_ret, List.getElem?_cons_zero, List.getElem?_cons_succ, List.set_cons_zero, List.set_cons_succ, ee_cmp0, ee_cmp1, ee_cmp2, ee_cmp3, ee_cmp4, ee_cmp5, ee_cmpL0, ee_cmpL1, ee_cmpL2, ee_cmpL3, ee_cmpL4, ee_cmpL5, ee_tru_eb, decide_eq_true_eq, ib_i, ie_b, ie_f, ie_t, ib_l, fin_i, fin_l, fin_v, fin_z, fin_a, fin_n, ee_b_0, ee_fld0, ee_fld1, ee_fld2, ee_fld3, bi_0, bi_1, bi_2, bi_3, bi_4, bi_5, bi_6, bi_7, bi_8, bi_9, bi_10, bl_20, bl_21, bl_22, bl_23, bl_24, bl_25, bl_26, bl_48, bl_49, un_0, un_1, un_2, un_3, if_true, if_false, ite_true, ite_false, Bool.false_eq_true, Bool.not_eq_false, decide_not, Bool.not_not, reduceCtorEq, st_i, st_l, st_r, st_n, ee_noL, ee_noL.eq_1, List.length_cons, List.length_nil, Nat.reduceAdd, Nat.reduceLT, Nat.zero_add, and_true, true_and, and_self, fin_ite, pu_0, pu_1, pu_3, sto_0, el_0, Bool.not_eq_true, decide_eq_false_iff_not, Bool.decide_eq_true, Bool.decide_eq_false, decide_true, decide_false, Bool.not_true, Bool.not_false, Bool.and_self, Bool.and_true, Bool.and_false, Bool.true_and, Bool.false_and, Bool.or_true, Bool.or_false, Bool.true_or, Bool.false_or, if_true, if_false, Bool.false_eq_true]
def nx (x : Int32) : Int32 := x * 739 + 601 - (x * 739 + 601) / 31069 * 31069
def xdraw (X : HX) : HX := (up X.1 1 (nx (X.1 1)), X.2)
theorem c_draw (hd : 1 ≤ d) (hh : hd_ok h) (hX : CH w h X) : ∃ w', ee_run ee_B P d 83 [.ref h] w = some ([.int (X.1 1)], w') ∧ CH w' h (xdraw X) ∧ chg (hrg h) w w' := by
  have h1 := r_draw (P := P) (w := w) hd h hh.1
  rw [hX.1.2.1] at h1
  exact ⟨_, h1, CH_put hX 8 (by omega) _, chg_I (hrg_0 h) (chg_refl _ _)⟩
def in07 (s : Int32) : Bool := decide (0 ≤ s) && decide (s ≤ 7)
def xlearnt (X : HX) (s : Int32) : Int32 := if in07 s = true then X.1 (10 + s.toNatClampNeg) else 0
theorem in07_of {s : Int32} (h : in07 s = true) : s.toNatClampNeg < 8 ∧ s = Int32.ofNat s.toNatClampNeg := by
  obtain ⟨n, hn, rfl⟩ := in_nat 7 (by omega) h
  rw [tnc (by omega)]
  exact ⟨by omega, rfl⟩
theorem in07_n {k : Nat} (h : k < 8) : in07 (Int32.ofNat k) = true := by
  unfold in07
  rw [in_iff, nI_t (by omega)]
  exact ⟨by show (0 : Int) ≤ _; omega, by show _ ≤ (7 : Int); omega⟩
theorem c_learntOf (hd : 2 ≤ d) (hh : hd_ok h) (hX : CH w h X) (s : Int32) : ee_run ee_B P d 86 [.ref h, .int s] w = some ([.int (xlearnt X s)], w) := by
  obtain ⟨d, rfl⟩ : ∃ k, d = k + 1 := ⟨d - 1, by omega⟩
  have hd1 : 1 ≤ d := by omega
  obtain ⟨s0, s1, s2, s3, s4⟩ := hh
  obtain ⟨⟨a0, a1, a2, a3, a4, a5, a6, a7, a8⟩, a9, a10, a11⟩ := hX
  rw [rn_86 s0]
  unfold xlearnt
  have e : (decide ((0 : Int32) ≤ s) && decide (s ≤ 7)) = in07 s := rfl
  cases q : in07 s
  · simp only [r_within hd1, e, q, bd_86, k_0, k_7, nz_7, v_call, v_cons, v_get, v_idx, v_int, v_loc, v_nil, v_tern, v_z, w_ret, List.getElem?_cons_zero, List.getElem?_cons_succ, List.set_cons_zero, List.set_cons_succ, ee_cmp0, ee_cmp1, ee_cmp2, ee_cmp3, ee_cmp4, ee_cmp5, ee_cmpL0, ee_cmpL1, ee_cmpL2, ee_cmpL3, ee_cmpL4, ee_cmpL5, ee_tru_eb, decide_eq_true_eq, ib_i, ie_b, ie_f, ie_t, ib_l, fin_i, fin_l, fin_v, fin_z, fin_a, fin_n, ee_b_0, ee_fld0, ee_fld1, ee_fld2, ee_fld3, bi_0, bi_1, bi_2, bi_3, bi_4, bi_5, bi_6, bi_7, bi_8, bi_9, bi_10, bl_20, bl_21, bl_22, bl_23, bl_24, bl_25, bl_26, bl_48, bl_49, un_0, un_1, un_2, un_3, if_true, if_false, ite_true, ite_false, Bool.false_eq_true, Bool.not_eq_false, decide_not, Bool.not_not, reduceCtorEq, st_i, st_l, st_r, st_n, ee_noL, ee_noL.eq_1, List.length_cons, List.length_nil, Nat.reduceAdd, Nat.reduceLT, Nat.zero_add, and_true, true_and, and_self, fin_ite, pu_0, pu_1, pu_3, sto_0, el_0, Bool.not_eq_true, decide_eq_false_iff_not, Bool.decide_eq_true, Bool.decide_eq_false, decide_true, decide_false, Bool.not_true, Bool.not_false, Bool.and_self, Bool.and_true, Bool.and_false, Bool.true_and, Bool.false_and, Bool.or_true, Bool.or_false, Bool.true_or, Bool.false_or, if_true, if_false, Bool.false_eq_true]
  · obtain ⟨q1, q2⟩ := in07_of q
    have x1 : ee_ix s 8 = true := by rw [q2, ixn (by omega)]; exact decide_eq_true q1
    simp only [r_within hd1, e, q, s0, s1, s3, rvs, x1, a10 _ q1, bd_86, k_0, k_7, nz_7, v_call, v_cons, v_get, v_idx, v_int, v_loc, v_nil, v_tern, v_z, w_ret, List.getElem?_cons_zero, List.getElem?_cons_succ, List.set_cons_zero, List.set_cons_succ, ee_cmp0, ee_cmp1, ee_cmp2, ee_cmp3, ee_cmp4, ee_cmp5, ee_cmpL0, ee_cmpL1, ee_cmpL2, ee_cmpL3, ee_cmpL4, ee_cmpL5, ee_tru_eb, decide_eq_true_eq, ib_i, ie_b, ie_f, ie_t, ib_l, fin_i, fin_l, fin_v, fin_z, fin_a, fin_n, ee_b_0, ee_fld0, ee_fld1, ee_fld2, ee_fld3, bi_0, bi_1, bi_2, bi_3, bi_4, bi_5, bi_6, bi_7, bi_8, bi_9, bi_10, bl_20, bl_21, bl_22, bl_23, bl_24, bl_25, bl_26, bl_48, bl_49, un_0, un_1, un_2, un_3, if_true, if_false, ite_true, ite_false, Bool.false_eq_true, Bool.not_eq_false, decide_not, Bool.not_not, reduceCtorEq, st_i, st_l, st_r, st_n, ee_noL, ee_noL.eq_1, List.length_cons, List.length_nil, Nat.reduceAdd, Nat.reduceLT, Nat.zero_add, and_true, true_and, and_self, fin_ite, pu_0, pu_1, pu_3, sto_0, el_0, Bool.not_eq_true, decide_eq_false_iff_not, Bool.decide_eq_true, Bool.decide_eq_false, decide_true, decide_false, Bool.not_true, Bool.not_false, Bool.and_self, Bool.and_true, Bool.and_false, Bool.true_and, Bool.false_and, Bool.or_true, Bool.or_false, Bool.true_or, Bool.false_or, if_true, if_false, Bool.false_eq_true]
def hold32 (a b c : Int32) : Int32 := if (if c ≤ a then c else a) ≤ b then b else (if c ≤ a then c else a)
theorem c_hold (hd : 2 ≤ d) (a b c : Int32) : ee_run ee_B P d 73 [.int a, .int b, .int c] w = some ([.int (hold32 a b c)], w) := r_hold hd a b c
theorem c_addLearnt (hd : 3 ≤ d) (hh : hd_ok h) (hX : CH w h X) (k : Nat) (hk : k < 8) (v : Int32) : ∃ w', ee_run ee_B P d 98 [.ref h, .int (Int32.ofNat k), .int v] w = some ([], w') ∧ CH w' h (up X.1 (10 + k) (hold32 (X.1 (10 + k) + v) (-99) 99), X.2) ∧ chg (hrg h) w w' := by
  obtain ⟨d, rfl⟩ : ∃ k, d = k + 1 := ⟨d - 1, by omega⟩
  have hd1 : 1 ≤ d := by omega
  have hd2 : 2 ≤ d := by omega
  have hX2 := hX
  obtain ⟨s0, s1, s2, s3, s4⟩ := hh
  obtain ⟨⟨a0, a1, a2, a3, a4, a5, a6, a7, a8⟩, a9, a10, a11⟩ := hX
  have e : (decide ((0 : Int32) ≤ Int32.ofNat k) && decide (Int32.ofNat k ≤ 7)) = true := in07_n hk
  have x1 : ee_ix (Int32.ofNat k) 8 = true := by rw [ixn (by omega)]; exact decide_eq_true hk
  refine ⟨ee_wI w (h + 1) k (hold32 (X.1 (10 + k) + v) (-99) 99), ?_, CH_learn hX2 k _, chg_I (hrg_1 h) (chg_refl _ _)⟩
  rw [rn_98 s0]
  simp only [r_within hd1, c_hold hd2, e, s0, s1, s3, rvs, x1, a10 _ hk, tnc (show k < 2147483648 by omega), bd_98, k_0, k_4294967197, k_7, k_99, nz_7, nz_99, v_bin, v_call, v_cons, v_get, v_idx, v_int, v_loc, v_nil, v_z, w_if, w_retv, w_seq, w_skip, w_sto, List.getElem?_cons_zero, List.getElem?_cons_succ, List.set_cons_zero, List.set_cons_succ, ee_cmp0, ee_cmp1, ee_cmp2, ee_cmp3, ee_cmp4, ee_cmp5, ee_cmpL0, ee_cmpL1, ee_cmpL2, ee_cmpL3, ee_cmpL4, ee_cmpL5, ee_tru_eb, decide_eq_true_eq, ib_i, ie_b, ie_f, ie_t, ib_l, fin_i, fin_l, fin_v, fin_z, fin_a, fin_n, ee_b_0, ee_fld0, ee_fld1, ee_fld2, ee_fld3, bi_0, bi_1, bi_2, bi_3, bi_4, bi_5, bi_6, bi_7, bi_8, bi_9, bi_10, bl_20, bl_21, bl_22, bl_23, bl_24, bl_25, bl_26, bl_48, bl_49, un_0, un_1, un_2, un_3, if_true, if_false, ite_true, ite_false, Bool.false_eq_true, Bool.not_eq_false, decide_not, Bool.not_not, reduceCtorEq, st_i, st_l, st_r, st_n, ee_noL, ee_noL.eq_1, List.length_cons, List.length_nil, Nat.reduceAdd, Nat.reduceLT, Nat.zero_add, and_true, true_and, and_self, fin_ite, pu_0, pu_1, pu_3, sto_0, el_0, Bool.not_eq_true, decide_eq_false_iff_not, Bool.decide_eq_true, Bool.decide_eq_false, decide_true, decide_false, Bool.not_true, Bool.not_false, Bool.and_self, Bool.and_true, Bool.and_false, Bool.true_and, Bool.false_and, Bool.or_true, Bool.or_false, Bool.true_or, Bool.false_or, if_true, if_false, Bool.false_eq_true]
theorem c_gateOpen (hd : 1 ≤ d) (hh : hd_ok h) (hX : CH w h X) : ee_run ee_B P d 76 [.ref h] w = some ([.int (ee_b (decide (3 ≤ X.1 6)))], w) := by
  obtain ⟨d, rfl⟩ : ∃ k, d = k + 1 := ⟨d - 1, by omega⟩
  obtain ⟨s0, s1, s2, s3, s4⟩ := hh
  obtain ⟨⟨a0, a1, a2, a3, a4, a5, a6, a7, a8⟩, a9, a10, a11⟩ := hX
  rw [rn_76 s0]
  simp only [s0, a6, bd_76, k_3, nz_3, v_cmp, v_get, v_int, v_loc, v_mat, w_ret, List.getElem?_cons_zero, List.getElem?_cons_succ, List.set_cons_zero, List.set_cons_succ, ee_cmp0, ee_cmp1, ee_cmp2, ee_cmp3, ee_cmp4, ee_cmp5, ee_cmpL0, ee_cmpL1, ee_cmpL2, ee_cmpL3, ee_cmpL4, ee_cmpL5, ee_tru_eb, decide_eq_true_eq, ib_i, ie_b, ie_f, ie_t, ib_l, fin_i, fin_l, fin_v, fin_z, fin_a, fin_n, ee_b_0, ee_fld0, ee_fld1, ee_fld2, ee_fld3, bi_0, bi_1, bi_2, bi_3, bi_4, bi_5, bi_6, bi_7, bi_8, bi_9, bi_10, bl_20, bl_21, bl_22, bl_23, bl_24, bl_25, bl_26, bl_48, bl_49, un_0, un_1, un_2, un_3, if_true, if_false, ite_true, ite_false, Bool.false_eq_true, Bool.not_eq_false, decide_not, Bool.not_not, reduceCtorEq, st_i, st_l, st_r, st_n, ee_noL, ee_noL.eq_1, List.length_cons, List.length_nil, Nat.reduceAdd, Nat.reduceLT, Nat.zero_add, and_true, true_and, and_self, fin_ite, pu_0, pu_1, pu_3, sto_0, el_0, Bool.not_eq_true, decide_eq_false_iff_not, Bool.decide_eq_true, Bool.decide_eq_false, decide_true, decide_false, Bool.not_true, Bool.not_false, Bool.and_self, Bool.and_true, Bool.and_false, Bool.true_and, Bool.false_and, Bool.or_true, Bool.or_false, Bool.true_or, Bool.false_or, if_true, if_false, Bool.false_eq_true]
def xaim (X : HX) (t : Int32) : HX := xnote (up (up X.1 4 t) 6 0, X.2) 0 t
theorem c_aim (hd : 3 ≤ d) (hh : hd_ok h) (hX : CH w h X) (hn : X.2.1 ≤ 25) (t : Int32) : ∃ w', ee_run ee_B P d 69 [.ref h, .int t] w = some ([], w') ∧ CH w' h (xaim X t) ∧ chg (hrg h) w w' := by
  obtain ⟨d, rfl⟩ : ∃ k, d = k + 1 := ⟨d - 1, by omega⟩
  have hd2 : 2 ≤ d := by omega
  have s0 := hh.1
  obtain ⟨w', n1, n2, n3⟩ := c_note (P := P) (w := ee_wI (ee_wI w h 2 t) h 4 0) hd2 hh (CH_put (CH_put hX 2 (by omega) t) 4 (by omega) 0) hn 0 t
  refine ⟨w', ?_, n2, chg_trans (chg_I (hrg_0 h) (chg_I (hrg_0 h) (chg_refl _ _))) n3⟩
  rw [rn_69 s0]
  simp only [n1, s0, bd_69, k_0, v_call, v_cons, v_int, v_loc, v_nil, w_exp0, w_exp1, w_put, w_retv, w_seq, List.getElem?_cons_zero, List.getElem?_cons_succ, List.set_cons_zero, List.set_cons_succ, ee_cmp0, ee_cmp1, ee_cmp2, ee_cmp3, ee_cmp4, ee_cmp5, ee_cmpL0, ee_cmpL1, ee_cmpL2, ee_cmpL3, ee_cmpL4, ee_cmpL5, ee_tru_eb, decide_eq_true_eq, ib_i, ie_b, ie_f, ie_t, ib_l, fin_i, fin_l, fin_v, fin_z, fin_a, fin_n, ee_b_0, ee_fld0, ee_fld1, ee_fld2, ee_fld3, bi_0, bi_1, bi_2, bi_3, bi_4, bi_5, bi_6, bi_7, bi_8, bi_9, bi_10, bl_20, bl_21, bl_22, bl_23, bl_24, bl_25, bl_26, bl_48, bl_49, un_0, un_1, un_2, un_3, if_true, if_false, ite_true, ite_false, Bool.false_eq_true, Bool.not_eq_false, decide_not, Bool.not_not, reduceCtorEq, st_i, st_l, st_r, st_n, ee_noL, ee_noL.eq_1, List.length_cons, List.length_nil, Nat.reduceAdd, Nat.reduceLT, Nat.zero_add, and_true, true_and, and_self, fin_ite, pu_0, pu_1, pu_3, sto_0, el_0, Bool.not_eq_true, decide_eq_false_iff_not, Bool.decide_eq_true, Bool.decide_eq_false, decide_true, decide_false, Bool.not_true, Bool.not_false, Bool.and_self, Bool.and_true, Bool.and_false, Bool.true_and, Bool.false_and, Bool.or_true, Bool.or_false, Bool.true_or, Bool.false_or, if_true, if_false, Bool.false_eq_true]
def xnudge (X : HX) (b : Int32) : HX := xnote (up (up X.1 2 (hold32 (X.1 2 + b) 0 1023)) 6 0, X.2) 1 b
theorem c_nudge (hd : 3 ≤ d) (hh : hd_ok h) (hX : CH w h X) (hn : X.2.1 ≤ 25) (b : Int32) : ∃ w', ee_run ee_B P d 72 [.ref h, .int b] w = some ([], w') ∧ CH w' h (xnudge X b) ∧ chg (hrg h) w w' := by
  obtain ⟨d, rfl⟩ : ∃ k, d = k + 1 := ⟨d - 1, by omega⟩
  have hd2 : 2 ≤ d := by omega
  have s0 := hh.1
  have a0 := hX.1.2.2.1
  obtain ⟨w', n1, n2, n3⟩ := c_note (P := P) (w := ee_wI (ee_wI w h 0 (hold32 (X.1 2 + b) 0 1023)) h 4 0) hd2 hh (CH_put (CH_put hX 0 (by omega) _) 4 (by omega) 0) hn 1 b
  refine ⟨w', ?_, n2, chg_trans (chg_I (hrg_0 h) (chg_I (hrg_0 h) (chg_refl _ _))) n3⟩
  rw [rn_72 s0]
  simp only [n1, c_hold hd2, a0, s0, bd_72, k_0, k_1, k_1023, nz_1, nz_1023, v_bin, v_call, v_cons, v_get, v_int, v_loc, v_nil, w_exp0, w_exp1, w_put, w_retv, w_seq, List.getElem?_cons_zero, List.getElem?_cons_succ, List.set_cons_zero, List.set_cons_succ, ee_cmp0, ee_cmp1, ee_cmp2, ee_cmp3, ee_cmp4, ee_cmp5, ee_cmpL0, ee_cmpL1, ee_cmpL2, ee_cmpL3, ee_cmpL4, ee_cmpL5, ee_tru_eb, decide_eq_true_eq, ib_i, ie_b, ie_f, ie_t, ib_l, fin_i, fin_l, fin_v, fin_z, fin_a, fin_n, ee_b_0, ee_fld0, ee_fld1, ee_fld2, ee_fld3, bi_0, bi_1, bi_2, bi_3, bi_4, bi_5, bi_6, bi_7, bi_8, bi_9, bi_10, bl_20, bl_21, bl_22, bl_23, bl_24, bl_25, bl_26, bl_48, bl_49, un_0, un_1, un_2, un_3, if_true, if_false, ite_true, ite_false, Bool.false_eq_true, Bool.not_eq_false, decide_not, Bool.not_not, reduceCtorEq, st_i, st_l, st_r, st_n, ee_noL, ee_noL.eq_1, List.length_cons, List.length_nil, Nat.reduceAdd, Nat.reduceLT, Nat.zero_add, and_true, true_and, and_self, fin_ite, pu_0, pu_1, pu_3, sto_0, el_0, Bool.not_eq_true, decide_eq_false_iff_not, Bool.decide_eq_true, Bool.decide_eq_false, decide_true, decide_false, Bool.not_true, Bool.not_false, Bool.and_self, Bool.and_true, Bool.and_false, Bool.true_and, Bool.false_and, Bool.or_true, Bool.or_false, Bool.true_or, Bool.false_or, if_true, if_false, Bool.false_eq_true]
def xmark (X : HX) : HX := xnote (up X.1 7 (if X.1 7 + 1 ≤ 9999 then X.1 7 + 1 else 9999), X.2) 2 (X.1 4)
theorem c_mark (hd : 3 ≤ d) (hh : hd_ok h) (hX : CH w h X) (hn : X.2.1 ≤ 25) : ∃ w', ee_run ee_B P d 77 [.ref h] w = some ([], w') ∧ CH w' h (xmark X) ∧ chg (hrg h) w w' := by
  obtain ⟨d, rfl⟩ : ∃ k, d = k + 1 := ⟨d - 1, by omega⟩
  have hd1 : 1 ≤ d := by omega
  have hd2 : 2 ≤ d := by omega
  have s0 := hh.1
  have hX2 := hX
  obtain ⟨⟨a0, a1, a2, a3, a4, a5, a6, a7, a8⟩, a9, a10, a11⟩ := hX2
  obtain ⟨w', n1, n2, n3⟩ := c_note (P := P) (w := ee_wI w h 5 (if X.1 7 + 1 ≤ 9999 then X.1 7 + 1 else 9999)) hd2 hh (CH_put hX 5 (by omega) _) hn 2 (X.1 4)
  refine ⟨w', ?_, n2, chg_trans (chg_I (hrg_0 h) (chg_refl _ _)) n3⟩
  rw [rn_77 s0]
  simp only [n1, r_min hd1, a4, a7, s0, zz_ce, zz_ec, zz_cf, zz_fc, zz_ef, zz_fe, wI_at, wI_2, wJ_at, wJ_1, wJ_2, and_true, true_and, and_false, false_and, if_true, if_false, Nat.reduceEqDiff, Nat.reduceAdd, zero_ne_one_n, one_ne_zero_n, bd_77, k_1, k_2, k_9999, nz_1, nz_2, nz_9999, v_bin, v_call, v_cons, v_get, v_int, v_loc, v_nil, w_exp0, w_exp1, w_put, w_retv, w_seq, List.getElem?_cons_zero, List.getElem?_cons_succ, List.set_cons_zero, List.set_cons_succ, ee_cmp0, ee_cmp1, ee_cmp2, ee_cmp3, ee_cmp4, ee_cmp5, ee_cmpL0, ee_cmpL1, ee_cmpL2, ee_cmpL3, ee_cmpL4, ee_cmpL5, ee_tru_eb, decide_eq_true_eq, ib_i, ie_b, ie_f, ie_t, ib_l, fin_i, fin_l, fin_v, fin_z, fin_a, fin_n, ee_b_0, ee_fld0, ee_fld1, ee_fld2, ee_fld3, bi_0, bi_1, bi_2, bi_3, bi_4, bi_5, bi_6, bi_7, bi_8, bi_9, bi_10, bl_20, bl_21, bl_22, bl_23, bl_24, bl_25, bl_26, bl_48, bl_49, un_0, un_1, un_2, un_3, if_true, if_false, ite_true, ite_false, Bool.false_eq_true, Bool.not_eq_false, decide_not, Bool.not_not, reduceCtorEq, st_i, st_l, st_r, st_n, ee_noL, ee_noL.eq_1, List.length_cons, List.length_nil, Nat.reduceAdd, Nat.reduceLT, Nat.zero_add, and_true, true_and, and_self, fin_ite, pu_0, pu_1, pu_3, sto_0, el_0, Bool.not_eq_true, decide_eq_false_iff_not, Bool.decide_eq_true, Bool.decide_eq_false, decide_true, decide_false, Bool.not_true, Bool.not_false, Bool.and_self, Bool.and_true, Bool.and_false, Bool.true_and, Bool.false_and, Bool.or_true, Bool.or_false, Bool.true_or, Bool.false_or, if_true, if_false, Bool.false_eq_true]
theorem c_copyFrom {g : Nat} (hd : 1 ≤ d) (hh : hd_ok h) (hg : hd_ok g) (ne : g + 3 ≤ h ∨ h + 3 ≤ g) (hX : CH w g X) (hn : X.2.1 ≤ 25) : ∃ w', ee_run ee_B P d 68 [.ref h, .ref g] w = some ([], w') ∧ CH w' h X ∧ chg (hrg h) w w' := by
  obtain ⟨d, rfl⟩ : ∃ k, d = k + 1 := ⟨d - 1, by omega⟩
  obtain ⟨s0, s1, s2, s3, s4⟩ := hh
  obtain ⟨t0, t1, t2, t3, t4⟩ := hg
  obtain ⟨⟨a0, a1, a2, a3, a4, a5, a6, a7, a8⟩, a9, a10, a11⟩ := hX
  have g0 : (g = h) = False := eq_false (by omega)
  have g1 : (g + 1 = h) = False := eq_false (by omega)
  have g2 : (g + 2 = h) = False := eq_false (by omega)
  have g3 : (g + 2 = h + 1) = False := eq_false (by omega)
  have k1 : cpk es_sh (g + 1) 0 (h + 1) 0 8 = true := by unfold cpk; rw [s3, t3]; decide
  have k2 : cpk es_sh (g + 2) 0 (h + 2) 0 75 = true := by unfold cpk; rw [s4, t4]; decide
  have z0 : (0 : Int32).toNatClampNeg = 0 := by decide
  have z8 : (8 : Int32).toNatClampNeg = 8 := by decide
  have z75 : (75 : Int32).toNatClampNeg = 75 := by decide
  rw [rn_68 s0]
  apply Exists.intro
  refine ⟨?_, ?_, ?_⟩
  · simp only [s0, s1, s2, s3, s4, t0, t1, t2, t3, t4, g0, k1, k2, rvs, a0, a1, a2, a3, a4, a5, a6, a7, a8, a9, zz_ce, zz_ec, zz_cf, zz_fc, zz_ef, zz_fe, wI_at, wI_2, wJ_at, wJ_1, wJ_2, and_true, true_and, and_false, false_and, if_true, if_false, Nat.reduceEqDiff, Nat.reduceAdd, zero_ne_one_n, one_ne_zero_n, bd_68, k_0, k_75, k_8, nz_75, nz_8, v_cons, v_copy2, v_get, v_int, v_loc, v_nil, w_exp0, w_exp1, w_put, w_retv, w_seq, List.getElem?_cons_zero, List.getElem?_cons_succ, List.set_cons_zero, List.set_cons_succ, ee_cmp0, ee_cmp1, ee_cmp2, ee_cmp3, ee_cmp4, ee_cmp5, ee_cmpL0, ee_cmpL1, ee_cmpL2, ee_cmpL3, ee_cmpL4, ee_cmpL5, ee_tru_eb, decide_eq_true_eq, ib_i, ie_b, ie_f, ie_t, ib_l, fin_i, fin_l, fin_v, fin_z, fin_a, fin_n, ee_b_0, ee_fld0, ee_fld1, ee_fld2, ee_fld3, bi_0, bi_1, bi_2, bi_3, bi_4, bi_5, bi_6, bi_7, bi_8, bi_9, bi_10, bl_20, bl_21, bl_22, bl_23, bl_24, bl_25, bl_26, bl_48, bl_49, un_0, un_1, un_2, un_3, if_true, if_false, ite_true, ite_false, Bool.false_eq_true, Bool.not_eq_false, decide_not, Bool.not_not, reduceCtorEq, st_i, st_l, st_r, st_n, ee_noL, ee_noL.eq_1, List.length_cons, List.length_nil, Nat.reduceAdd, Nat.reduceLT, Nat.zero_add, and_true, true_and, and_self, fin_ite, pu_0, pu_1, pu_3, sto_0, el_0, Bool.not_eq_true, decide_eq_false_iff_not, Bool.decide_eq_true, Bool.decide_eq_false, decide_true, decide_false, Bool.not_true, Bool.not_false, Bool.and_self, Bool.and_true, Bool.and_false, Bool.true_and, Bool.false_and, Bool.or_true, Bool.or_false, Bool.true_or, Bool.false_or, if_true, if_false, Bool.false_eq_true]
    rfl
  · refine ⟨?_, ?_, ?_, ?_⟩
    · simp only [cpw_at, zz_ce, zz_ec, zz_cf, zz_fc, zz_ef, zz_fe, wI_at, wI_2, wJ_at, wJ_1, wJ_2, and_true, true_and, and_false, false_and, if_true, if_false, Nat.reduceEqDiff, Nat.reduceAdd, zero_ne_one_n, one_ne_zero_n]
    · simp only [cpw_at, zz_ce, zz_ec, zz_cf, zz_fc, zz_ef, zz_fe, wI_at, wI_2, wJ_at, wJ_1, wJ_2, and_true, true_and, and_false, false_and, if_true, if_false, Nat.reduceEqDiff, Nat.reduceAdd, zero_ne_one_n, one_ne_zero_n]
    · intro k hk
      have b : 0 ≤ k ∧ k < 0 + 8 := by omega
      simp only [cpw_at, z0, z8, b, g1, Nat.sub_zero, Nat.zero_add, zz_ce, zz_ec, zz_cf, zz_fc, zz_ef, zz_fe, wI_at, wI_2, wJ_at, wJ_1, wJ_2, and_true, true_and, and_false, false_and, if_true, if_false, Nat.reduceEqDiff, Nat.reduceAdd, zero_ne_one_n, one_ne_zero_n]
      exact a10 k hk
    · intro i hi
      have b1 : 0 ≤ 3 * i ∧ 3 * i < 0 + 75 := by omega
      have b2 : 0 ≤ 3 * i + 1 ∧ 3 * i + 1 < 0 + 75 := by omega
      have b3 : 0 ≤ 3 * i + 2 ∧ 3 * i + 2 < 0 + 75 := by omega
      simp only [cpw_at, z0, z75, b1, b2, b3, g2, g3, Nat.sub_zero, Nat.zero_add, zz_ce, zz_ec, zz_cf, zz_fc, zz_ef, zz_fe, wI_at, wI_2, wJ_at, wJ_1, wJ_2, and_true, true_and, and_false, false_and, if_true, if_false, Nat.reduceEqDiff, Nat.reduceAdd, zero_ne_one_n, one_ne_zero_n]
      exact a11 i hi
  · exact chg_cp (hrg_2 h) (chg_cp (hrg_1 h) (chg_I (hrg_0 h) (chg_I (hrg_0 h) (chg_I (hrg_0 h) (chg_I (hrg_0 h) (chg_I (hrg_0 h) (chg_I (hrg_0 h) (chg_I (hrg_0 h) (chg_I (hrg_0 h) (chg_I (hrg_0 h) (chg_I (hrg_0 h) (chg_refl _ _))))))))))))
end HE
