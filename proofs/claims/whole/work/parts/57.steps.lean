/-! the latest steps -/
section ST
variable {P : Nat → Nat → List Value → ee_W → Option (List Value × ee_W)} {d : Nat} {w : ee_W} {s t g : Nat} {X : HX}
abbrev SX : Type := Nat × (Nat → HX)
def st_ok (s : Nat) : Prop := es_sh s = (16, 0) ∧ es_rf s 0 = some (s + 1) ∧ es_sh (s + 1) = (3, 30) ∧ ∀ k, k < 30 → es_rf (s + 1) k = some (s + 2 + 3 * k) ∧ hd_ok (s + 2 + 3 * k)
def CS (w : ee_W) (s : Nat) (S : SX) : Prop := S.1 ≤ 30 ∧ w.1 s 2 = Int32.ofNat S.1 ∧ ∃ f, f < 30 ∧ w.1 s 1 = Int32.ofNat f ∧ ∀ i, i < S.1 → CH w (s + 2 + 3 * ((f + i) % 30)) (S.2 i) ∧ (S.2 i).2.1 ≤ 25
variable {S : SX}
theorem el_3 {rf : Nat → Nat → Option Nat} (w : ee_W) (h : Nat) (i : Int32) : ee_elt rf w h 3 i = ee_rv (rf h i.toNatClampNeg) := rfl
theorem j_m30 : ∀ m, m < 61 → Int32.ofNat m - Int32.ofNat m / 30 * 30 = Int32.ofNat (m % 30) := by decide +kernel
theorem c_rowAt (hd : 2 ≤ d) (hs : st_ok s) {f i : Nat} (hf : f < 30) (hi : i ≤ 30) (h1 : w.1 s 1 = Int32.ofNat f) : ee_run ee_B P d 66 [.ref s, .int (Int32.ofNat i)] w = some ([.ref (s + 2 + 3 * ((f + i) % 30))], w) := by
  obtain ⟨d, rfl⟩ : ∃ k, d = k + 1 := ⟨d - 1, by omega⟩
  have hd1 : 1 ≤ d := by omega
  obtain ⟨s0, s1, s2, s3⟩ := hs
  rw [rn_66 s0]
  have x3 := xor_nn (a := Int32.ofNat (f + i)) (b := 30) (by rw [nI_t (by omega)]; omega) (by decide)
  have e := j_m30 (f + i) (by omega)
  have hl : (f + i) % 30 < 30 := Nat.mod_lt _ (by omega)
  have r := (s3 _ hl).1
  have ix : ee_ix (Int32.ofNat ((f + i) % 30)) 30 = true := by rw [ixn (by omega)]; exact decide_eq_true hl
  have fm : ee_run ee_B P d 67 [.int (Int32.ofNat (f + i)), .int 30] w = some ([.int (Int32.ofNat ((f + i) % 30))], w) := by
    rw [r_floorMod hd1 _ _ nz_30]
    simp only [x3, decide_false, Bool.false_and, Bool.false_eq_true, if_false, e]
  simp only [s0, s1, s2, rvs, h1, j_a, fm, ix, el_3, tnc (show (f + i) % 30 < 2147483648 by omega), r, show (3 : Nat) < 8 from by omega, bd_66, k_30, nz_30, v_bin, v_call, v_cons, v_get, v_idx, v_int, v_loc, v_nil, w_ret, List.getElem?_cons_zero, List.getElem?_cons_succ, List.set_cons_zero, List.set_cons_succ, ee_cmp0, ee_cmp1, ee_cmp2, ee_cmp3, ee_cmp4, ee_cmp5, ee_cmpL0, ee_cmpL1, ee_cmpL2, ee_cmpL3, ee_cmpL4, ee_cmpL5, ee_tru_eb, decide_eq_true_eq, ib_i, ie_b, ie_f, ie_t, ib_l, fin_i, fin_l, fin_v, fin_z, fin_a, fin_n, ee_b_0, ee_fld0, ee_fld1, ee_fld2, ee_fld3, bi_0, bi_1, bi_2, bi_3, bi_4, bi_5, bi_6, bi_7, bi_8, bi_9, bi_10, bl_20, bl_21, bl_22, bl_23, bl_24, bl_25, bl_26, bl_48, bl_49, un_0, un_1, un_2, un_3, if_true, if_false, ite_true, ite_false, Bool.false_eq_true, Bool.not_eq_false, decide_not, Bool.not_not, reduceCtorEq, st_i, st_l, st_r, st_n, ee_noL, ee_noL.eq_1, List.length_cons, List.length_nil, Nat.reduceAdd, Nat.reduceLT, Nat.zero_add, and_true, true_and, and_self, fin_ite, pu_0, pu_1, pu_3, sto_0, el_0, Bool.not_eq_true, decide_eq_false_iff_not, Bool.decide_eq_true, Bool.decide_eq_false, decide_true, decide_false, Bool.not_true, Bool.not_false, Bool.and_self, Bool.and_true, Bool.and_false, Bool.true_and, Bool.false_and, Bool.or_true, Bool.or_false, Bool.true_or, Bool.false_or, if_true, if_false, Bool.false_eq_true]
def xkeep (S : SX) (X : HX) : SX := if S.1 = 30 then (30, fun i => if i = 29 then X else S.2 (i + 1)) else (S.1 + 1, fun i => if i = S.1 then X else S.2 i)
def srg (s : Nat) : Nat → Bool := rg s (s + 92)
theorem srg_0 (s : Nat) : srg s s = true := by unfold srg rg; simp
theorem srg_h (s k : Nat) (hk : k < 30) : ∀ c, srg s c = false → hrg (s + 2 + 3 * k) c = false := by
  intro c h
  unfold srg at h
  unfold hrg
  rw [rg_f] at h ⊢
  omega
theorem hrg_ne {h c : Nat} (q : c < h ∨ h + 3 ≤ c) : hrg h c = false := by
  unfold hrg
  rw [rg_f]
  exact q
theorem c_keep (hd : 3 ≤ d) (hs : st_ok s) (hg : hd_ok g) (hne : g + 3 ≤ s ∨ s + 92 ≤ g) (hS : CS w s S) (hX : CH w g X) (hn : X.2.1 ≤ 25) : ∃ w', ee_run ee_B P d 65 [.ref s, .ref g] w = some ([], w') ∧ CS w' s (xkeep S X) ∧ chg (srg s) w w' := by
  obtain ⟨d, rfl⟩ : ∃ k, d = k + 1 := ⟨d - 1, by omega⟩
  have hd1 : 1 ≤ d := by omega
  have hd2 : 2 ≤ d := by omega
  have hs0 := hs
  obtain ⟨s0, s1, s2, s3⟩ := hs
  obtain ⟨c1, c2, f, c3, c4, c5⟩ := hS
  rw [rn_65 s0]
  by_cases q : S.1 = 30
  · have e2 : w.1 s 2 = 30 := by rw [c2, q]; rfl
    have c0 : (30 : Int32) ≤ 30 := by decide
    have m1 : Int32.ofNat f + 1 = Int32.ofNat (f + 1) := j_s f
    have m2 := j_m30 (f + 1) (by omega)
    have fl : (f + 1) % 30 < 30 := Nat.mod_lt _ (by omega)
    have hne2 : ∀ k, k < 30 → s + 2 + 3 * k ≠ s := by intro k _; omega
    have hX1 : CH (ee_wI (ee_wI w s 1 (Int32.ofNat ((f + 1) % 30))) s 2 29) g X := CH_chg hX (p := srg s) (chg_I (srg_0 s) (chg_I (srg_0 s) (chg_refl _ _))) (by unfold srg; rw [rg_f]; omega) (by unfold srg; rw [rg_f]; omega) (by unfold srg; rw [rg_f]; omega)
    have r1 := c_rowAt (P := P) (w := ee_wI (ee_wI w s 1 (Int32.ofNat ((f + 1) % 30))) s 2 29) hd2 hs0 fl (show 29 ≤ 30 by omega) (by simp only [zz_ce, zz_ec, zz_cf, zz_fc, zz_ef, zz_fe, wI_at, wI_2, wJ_at, wJ_1, wJ_2, and_true, true_and, and_false, false_and, if_true, if_false, Nat.reduceEqDiff, Nat.reduceAdd, zero_ne_one_n, one_ne_zero_n])
    have ef : ((f + 1) % 30 + 29) % 30 = f := by omega
    rw [ef] at r1
    have hf := (s3 f c3).2
    obtain ⟨w', n1, n2, n3⟩ := c_copyFrom (P := P) hd1 hf hg (by omega) hX1 hn
    have n4 : w'.1 s 2 = 29 := by rw [n3.1 _ _ (hrg_ne (by omega))]; simp only [zz_ce, zz_ec, zz_cf, zz_fc, zz_ef, zz_fe, wI_at, wI_2, wJ_at, wJ_1, wJ_2, and_true, true_and, and_false, false_and, if_true, if_false, Nat.reduceEqDiff, Nat.reduceAdd, zero_ne_one_n, one_ne_zero_n]
    have n5 : w'.1 s 1 = Int32.ofNat ((f + 1) % 30) := by rw [n3.1 _ _ (hrg_ne (by omega))]; simp only [zz_ce, zz_ec, zz_cf, zz_fc, zz_ef, zz_fe, wI_at, wI_2, wJ_at, wJ_1, wJ_2, and_true, true_and, and_false, false_and, if_true, if_false, Nat.reduceEqDiff, Nat.reduceAdd, zero_ne_one_n, one_ne_zero_n]
    have m3 : (29 : Int32) + 1 = 30 := by decide
    have k29 : Int32.ofNat 29 = 29 := rfl
    rw [k29] at r1
    refine ⟨ee_wI w' s 2 30, ?_, ?_, ?_⟩
    · simp only [s0, e2, c0, c4, m1, m2, r1, n1, n4, m3, zz_ce, zz_ec, zz_cf, zz_fc, zz_ef, zz_fe, wI_at, wI_2, wJ_at, wJ_1, wJ_2, and_true, true_and, and_false, false_and, if_true, if_false, Nat.reduceEqDiff, Nat.reduceAdd, zero_ne_one_n, one_ne_zero_n, bd_65, k_1, k_29, k_30, nz_1, nz_29, nz_30, v_bin, v_call, v_cmp, v_cons, v_get, v_int, v_isnull, v_loc, v_nil, v_not, w_exp0, w_exp1, w_if, w_opf, w_put, w_retv, w_seq, w_set, w_skip, List.getElem?_cons_zero, List.getElem?_cons_succ, List.set_cons_zero, List.set_cons_succ, ee_cmp0, ee_cmp1, ee_cmp2, ee_cmp3, ee_cmp4, ee_cmp5, ee_cmpL0, ee_cmpL1, ee_cmpL2, ee_cmpL3, ee_cmpL4, ee_cmpL5, ee_tru_eb, decide_eq_true_eq, ib_i, ie_b, ie_f, ie_t, ib_l, fin_i, fin_l, fin_v, fin_z, fin_a, fin_n, ee_b_0, ee_fld0, ee_fld1, ee_fld2, ee_fld3, bi_0, bi_1, bi_2, bi_3, bi_4, bi_5, bi_6, bi_7, bi_8, bi_9, bi_10, bl_20, bl_21, bl_22, bl_23, bl_24, bl_25, bl_26, bl_48, bl_49, un_0, un_1, un_2, un_3, if_true, if_false, ite_true, ite_false, Bool.false_eq_true, Bool.not_eq_false, decide_not, Bool.not_not, reduceCtorEq, st_i, st_l, st_r, st_n, ee_noL, ee_noL.eq_1, List.length_cons, List.length_nil, Nat.reduceAdd, Nat.reduceLT, Nat.zero_add, and_true, true_and, and_self, fin_ite, pu_0, pu_1, pu_3, sto_0, el_0, Bool.not_eq_true, decide_eq_false_iff_not, Bool.decide_eq_true, Bool.decide_eq_false, decide_true, decide_false, Bool.not_true, Bool.not_false, Bool.and_self, Bool.and_true, Bool.and_false, Bool.true_and, Bool.false_and, Bool.or_true, Bool.or_false, Bool.true_or, Bool.false_or, if_true, if_false, Bool.false_eq_true]
    · unfold xkeep
      rw [if_pos q]
      refine ⟨Nat.le_refl _, ?_, (f + 1) % 30, fl, ?_, ?_⟩
      · simp only [zz_ce, zz_ec, zz_cf, zz_fc, zz_ef, zz_fe, wI_at, wI_2, wJ_at, wJ_1, wJ_2, and_true, true_and, and_false, false_and, if_true, if_false, Nat.reduceEqDiff, Nat.reduceAdd, zero_ne_one_n, one_ne_zero_n]; rfl
      · simp only [zz_ce, zz_ec, zz_cf, zz_fc, zz_ef, zz_fe, wI_at, wI_2, wJ_at, wJ_1, wJ_2, and_true, true_and, and_false, false_and, if_true, if_false, Nat.reduceEqDiff, Nat.reduceAdd, zero_ne_one_n, one_ne_zero_n]; exact n5
      · intro i hi
        have hi : i < 30 := hi
        dsimp only
        have hc : chg (fun c => decide (c = s)) w' (ee_wI w' s 2 30) := chg_I (by simp) (chg_refl _ _)
        by_cases z : i = 29
        · subst z
          rw [if_pos rfl, ef]
          exact ⟨CH_chg n2 hc (by simp; omega) (by simp; omega) (by simp; omega), hn⟩
        · rw [if_neg z]
          have a := c5 (i + 1) (by omega)
          have ei : ((f + 1) % 30 + i) % 30 = (f + (i + 1)) % 30 := by omega
          rw [ei]
          refine ⟨CH_chg ?_ hc (by simp; omega) (by simp; omega) (by simp; omega), a.2⟩
          refine CH_chg ?_ n3 (hrg_ne (by omega)) (hrg_ne (by omega)) (hrg_ne (by omega))
          exact CH_chg a.1 (p := fun c => decide (c = s)) (chg_I (by simp) (chg_I (by simp) (chg_refl _ _))) (by simp; omega) (by simp; omega) (by simp; omega)
    · exact chg_I (srg_0 s) (chg_trans (chg_I (srg_0 s) (chg_I (srg_0 s) (chg_refl _ _))) (chg_mono n3 (srg_h s f c3)))
  · have c0 : ¬ (30 : Int32) ≤ Int32.ofNat S.1 := fun z => by have := (j_le (a := 30) (by omega) (by omega)).1 z; omega
    have r1 := c_rowAt (P := P) (w := w) hd2 hs0 c3 (show S.1 ≤ 30 by omega) c4
    have fl : (f + S.1) % 30 < 30 := Nat.mod_lt _ (by omega)
    have hf := (s3 _ fl).2
    obtain ⟨w', n1, n2, n3⟩ := c_copyFrom (P := P) hd1 hf hg (by omega) hX hn
    have n4 : w'.1 s 2 = Int32.ofNat S.1 := by rw [n3.1 _ _ (hrg_ne (by omega)), c2]
    have n5 : w'.1 s 1 = Int32.ofNat f := by rw [n3.1 _ _ (hrg_ne (by omega)), c4]
    refine ⟨ee_wI w' s 2 (Int32.ofNat (S.1 + 1)), ?_, ?_, ?_⟩
    · simp only [s0, c2, c0, r1, n1, n4, j_s, zz_ce, zz_ec, zz_cf, zz_fc, zz_ef, zz_fe, wI_at, wI_2, wJ_at, wJ_1, wJ_2, and_true, true_and, and_false, false_and, if_true, if_false, Nat.reduceEqDiff, Nat.reduceAdd, zero_ne_one_n, one_ne_zero_n, bd_65, k_1, k_29, k_30, nz_1, nz_29, nz_30, v_bin, v_call, v_cmp, v_cons, v_get, v_int, v_isnull, v_loc, v_nil, v_not, w_exp0, w_exp1, w_if, w_opf, w_put, w_retv, w_seq, w_set, w_skip, List.getElem?_cons_zero, List.getElem?_cons_succ, List.set_cons_zero, List.set_cons_succ, ee_cmp0, ee_cmp1, ee_cmp2, ee_cmp3, ee_cmp4, ee_cmp5, ee_cmpL0, ee_cmpL1, ee_cmpL2, ee_cmpL3, ee_cmpL4, ee_cmpL5, ee_tru_eb, decide_eq_true_eq, ib_i, ie_b, ie_f, ie_t, ib_l, fin_i, fin_l, fin_v, fin_z, fin_a, fin_n, ee_b_0, ee_fld0, ee_fld1, ee_fld2, ee_fld3, bi_0, bi_1, bi_2, bi_3, bi_4, bi_5, bi_6, bi_7, bi_8, bi_9, bi_10, bl_20, bl_21, bl_22, bl_23, bl_24, bl_25, bl_26, bl_48, bl_49, un_0, un_1, un_2, un_3, if_true, if_false, ite_true, ite_false, Bool.false_eq_true, Bool.not_eq_false, decide_not, Bool.not_not, reduceCtorEq, st_i, st_l, st_r, st_n, ee_noL, ee_noL.eq_1, List.length_cons, List.length_nil, Nat.reduceAdd, Nat.reduceLT, Nat.zero_add, and_true, true_and, and_self, fin_ite, pu_0, pu_1, pu_3, sto_0, el_0, Bool.not_eq_true, decide_eq_false_iff_not, Bool.decide_eq_true, Bool.decide_eq_false, decide_true, decide_false, Bool.not_true, Bool.not_false, Bool.and_self, Bool.and_true, Bool.and_false, Bool.true_and, Bool.false_and, Bool.or_true, Bool.or_false, Bool.true_or, Bool.false_or, if_true, if_false, Bool.false_eq_true]
    · unfold xkeep
      rw [if_neg q]
      refine ⟨by show S.1 + 1 ≤ 30; omega, ?_, f, c3, ?_, ?_⟩
      · simp only [zz_ce, zz_ec, zz_cf, zz_fc, zz_ef, zz_fe, wI_at, wI_2, wJ_at, wJ_1, wJ_2, and_true, true_and, and_false, false_and, if_true, if_false, Nat.reduceEqDiff, Nat.reduceAdd, zero_ne_one_n, one_ne_zero_n]
      · simp only [zz_ce, zz_ec, zz_cf, zz_fc, zz_ef, zz_fe, wI_at, wI_2, wJ_at, wJ_1, wJ_2, and_true, true_and, and_false, false_and, if_true, if_false, Nat.reduceEqDiff, Nat.reduceAdd, zero_ne_one_n, one_ne_zero_n]; exact n5
      · intro i hi
        have hi : i < S.1 + 1 := hi
        dsimp only
        have hc : chg (fun c => decide (c = s)) w' (ee_wI w' s 2 (Int32.ofNat (S.1 + 1))) := chg_I (by simp) (chg_refl _ _)
        by_cases z : i = S.1
        · subst z
          rw [if_pos rfl]
          exact ⟨CH_chg n2 hc (by simp; omega) (by simp; omega) (by simp; omega), hn⟩
        · rw [if_neg z]
          have a := c5 i (by omega)
          refine ⟨CH_chg ?_ hc (by simp; omega) (by simp; omega) (by simp; omega), a.2⟩
          exact CH_chg a.1 n3 (hrg_ne (by omega)) (hrg_ne (by omega)) (hrg_ne (by omega))
    · exact chg_I (srg_0 s) (chg_mono n3 (srg_h s _ fl))
theorem CS_chg {p : Nat → Bool} {w' : ee_W} (hS : CS w s S) (hc : chg p w w') (hp : ∀ c, s ≤ c → c < s + 92 → p c = false) : CS w' s S := by
  obtain ⟨c1, c2, f, c3, c4, c5⟩ := hS
  refine ⟨c1, ?_, f, c3, ?_, ?_⟩
  · rw [hc.1 _ _ (hp _ (by omega) (by omega)), c2]
  · rw [hc.1 _ _ (hp _ (by omega) (by omega)), c4]
  · intro i hi
    have fl : (f + i) % 30 < 30 := Nat.mod_lt _ (by omega)
    exact ⟨CH_chg (c5 i hi).1 hc (hp _ (by omega) (by omega)) (hp _ (by omega) (by omega)) (hp _ (by omega) (by omega)), (c5 i hi).2⟩
theorem c_giveBack0 (hd : 1 ≤ d) (hs : st_ok s) (hS : CS w s S) (h0 : S.1 = 0) : ee_run ee_B P d 106 [.ref s, .ref g] w = some ([.int (ee_b false)], w) := by
  obtain ⟨d, rfl⟩ : ∃ k, d = k + 1 := ⟨d - 1, by omega⟩
  obtain ⟨s0, s1, s2, s3⟩ := hs
  obtain ⟨c1, c2, -⟩ := hS
  rw [rn_106 s0]
  have e2 : w.1 s 2 = 0 := by rw [c2, h0]; rfl
  have c0 : (0 : Int32) ≤ 0 := by decide
  simp only [s0, e2, c0, bd_106, k_0, k_1, nz_1, v_bin, v_call, v_cons, v_get, v_int, v_isnull, v_loc, v_nil, v_z, w_exp0, w_exp1, w_if, w_opf, w_ret, w_seq, w_set, List.getElem?_cons_zero, List.getElem?_cons_succ, List.set_cons_zero, List.set_cons_succ, ee_cmp0, ee_cmp1, ee_cmp2, ee_cmp3, ee_cmp4, ee_cmp5, ee_cmpL0, ee_cmpL1, ee_cmpL2, ee_cmpL3, ee_cmpL4, ee_cmpL5, ee_tru_eb, decide_eq_true_eq, ib_i, ie_b, ie_f, ie_t, ib_l, fin_i, fin_l, fin_v, fin_z, fin_a, fin_n, ee_b_0, ee_fld0, ee_fld1, ee_fld2, ee_fld3, bi_0, bi_1, bi_2, bi_3, bi_4, bi_5, bi_6, bi_7, bi_8, bi_9, bi_10, bl_20, bl_21, bl_22, bl_23, bl_24, bl_25, bl_26, bl_48, bl_49, un_0, un_1, un_2, un_3, if_true, if_false, ite_true, ite_false, Bool.false_eq_true, Bool.not_eq_false, decide_not, Bool.not_not, reduceCtorEq, st_i, st_l, st_r, st_n, ee_noL, ee_noL.eq_1, List.length_cons, List.length_nil, Nat.reduceAdd, Nat.reduceLT, Nat.zero_add, and_true, true_and, and_self, fin_ite, pu_0, pu_1, pu_3, sto_0, el_0, Bool.not_eq_true, decide_eq_false_iff_not, Bool.decide_eq_true, Bool.decide_eq_false, decide_true, decide_false, Bool.not_true, Bool.not_false, Bool.and_self, Bool.and_true, Bool.and_false, Bool.true_and, Bool.false_and, Bool.or_true, Bool.or_false, Bool.true_or, Bool.false_or, if_true, if_false, Bool.false_eq_true]
  rfl
theorem c_giveBack (hd : 3 ≤ d) (hs : st_ok s) (hg : hd_ok g) (hne : g + 3 ≤ s ∨ s + 92 ≤ g) (hS : CS w s S) (h0 : ¬ S.1 = 0) : ∃ w', ee_run ee_B P d 106 [.ref s, .ref g] w = some ([.int (ee_b true)], w') ∧ CS w' s (S.1 - 1, S.2) ∧ CH w' g (S.2 (S.1 - 1)) ∧ chg (rgo (srg s) (hrg g)) w w' := by
  obtain ⟨d, rfl⟩ : ∃ k, d = k + 1 := ⟨d - 1, by omega⟩
  have hd1 : 1 ≤ d := by omega
  have hd2 : 2 ≤ d := by omega
  have hs0 := hs
  have hS0 := hS
  obtain ⟨s0, s1, s2, s3⟩ := hs
  obtain ⟨c1, c2, f, c3, c4, c5⟩ := hS
  rw [rn_106 s0]
  have c0 : ¬ Int32.ofNat S.1 ≤ 0 := fun z => by have := (j_le (b := 0) (by omega) (by omega)).1 z; omega
  have m1 : Int32.ofNat S.1 - 1 = Int32.ofNat (S.1 - 1) := by
    rw [i32_eq, i32_sub (by rw [nI_t (by omega), show (1 : Int32).toInt = 1 from rfl]; omega) (by rw [nI_t (by omega), show (1 : Int32).toInt = 1 from rfl]; omega), nI_t (by omega), nI_t (by omega), show (1 : Int32).toInt = 1 from rfl]
    omega
  have r1 := c_rowAt (P := P) (w := w) hd2 hs0 c3 (show S.1 - 1 ≤ 30 by omega) c4
  have fl : (f + (S.1 - 1)) % 30 < 30 := Nat.mod_lt _ (by omega)
  have hf := (s3 _ fl).2
  have a := c5 (S.1 - 1) (by omega)
  obtain ⟨w', n1, n2, n3⟩ := c_copyFrom (P := P) hd1 hg hf (by omega) a.1 a.2
  have n4 : w'.1 s 2 = Int32.ofNat S.1 := by rw [n3.1 _ _ (hrg_ne (by omega)), c2]
  have hc : chg (fun c => decide (c = s)) w' (ee_wI w' s 2 (Int32.ofNat (S.1 - 1))) := chg_I (by simp) (chg_refl _ _)
  refine ⟨ee_wI w' s 2 (Int32.ofNat (S.1 - 1)), ?_, ?_, ?_, ?_⟩
  · simp only [s0, c2, c0, m1, r1, n1, n4, zz_ce, zz_ec, zz_cf, zz_fc, zz_ef, zz_fe, wI_at, wI_2, wJ_at, wJ_1, wJ_2, and_true, true_and, and_false, false_and, if_true, if_false, Nat.reduceEqDiff, Nat.reduceAdd, zero_ne_one_n, one_ne_zero_n, bd_106, k_0, k_1, nz_1, v_bin, v_call, v_cons, v_get, v_int, v_isnull, v_loc, v_nil, v_z, w_exp0, w_exp1, w_if, w_opf, w_ret, w_seq, w_set, List.getElem?_cons_zero, List.getElem?_cons_succ, List.set_cons_zero, List.set_cons_succ, ee_cmp0, ee_cmp1, ee_cmp2, ee_cmp3, ee_cmp4, ee_cmp5, ee_cmpL0, ee_cmpL1, ee_cmpL2, ee_cmpL3, ee_cmpL4, ee_cmpL5, ee_tru_eb, decide_eq_true_eq, ib_i, ie_b, ie_f, ie_t, ib_l, fin_i, fin_l, fin_v, fin_z, fin_a, fin_n, ee_b_0, ee_fld0, ee_fld1, ee_fld2, ee_fld3, bi_0, bi_1, bi_2, bi_3, bi_4, bi_5, bi_6, bi_7, bi_8, bi_9, bi_10, bl_20, bl_21, bl_22, bl_23, bl_24, bl_25, bl_26, bl_48, bl_49, un_0, un_1, un_2, un_3, if_true, if_false, ite_true, ite_false, Bool.false_eq_true, Bool.not_eq_false, decide_not, Bool.not_not, reduceCtorEq, st_i, st_l, st_r, st_n, ee_noL, ee_noL.eq_1, List.length_cons, List.length_nil, Nat.reduceAdd, Nat.reduceLT, Nat.zero_add, and_true, true_and, and_self, fin_ite, pu_0, pu_1, pu_3, sto_0, el_0, Bool.not_eq_true, decide_eq_false_iff_not, Bool.decide_eq_true, Bool.decide_eq_false, decide_true, decide_false, Bool.not_true, Bool.not_false, Bool.and_self, Bool.and_true, Bool.and_false, Bool.true_and, Bool.false_and, Bool.or_true, Bool.or_false, Bool.true_or, Bool.false_or, if_true, if_false, Bool.false_eq_true]
    rfl
  · have n5 : CS w' s S := CS_chg hS0 n3 (fun c h1 h2 => hrg_ne (by omega))
    obtain ⟨d1, d2, f2, d3, d4, d5⟩ := n5
    refine ⟨by show S.1 - 1 ≤ 30; omega, ?_, f2, d3, ?_, ?_⟩
    · simp only [zz_ce, zz_ec, zz_cf, zz_fc, zz_ef, zz_fe, wI_at, wI_2, wJ_at, wJ_1, wJ_2, and_true, true_and, and_false, false_and, if_true, if_false, Nat.reduceEqDiff, Nat.reduceAdd, zero_ne_one_n, one_ne_zero_n]
    · simp only [zz_ce, zz_ec, zz_cf, zz_fc, zz_ef, zz_fe, wI_at, wI_2, wJ_at, wJ_1, wJ_2, and_true, true_and, and_false, false_and, if_true, if_false, Nat.reduceEqDiff, Nat.reduceAdd, zero_ne_one_n, one_ne_zero_n]; exact d4
    · intro i hi
      have hi : i < S.1 - 1 := hi
      have e := d5 i (by omega)
      have fl2 : (f2 + i) % 30 < 30 := Nat.mod_lt _ (by omega)
      exact ⟨CH_chg e.1 hc (by simp; omega) (by simp; omega) (by simp; omega), e.2⟩
  · exact CH_chg n2 hc (by simp; omega) (by simp; omega) (by simp; omega)
  · refine chg_I (by unfold rgo; rw [srg_0]; rfl) (chg_mono n3 ?_)
    intro c hc
    exact (rgo_f.1 hc).2
end ST
