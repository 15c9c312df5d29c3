/-! the reference: pulls, gains, what is read -/
section NQ
variable {P : Nat → Nat → List Value → ee_W → Option (List Value × ee_W)} {d : Nat} {w : ee_W} {X : HX} {z : Bool} {R : Option TX}
def MT (w : ee_W) (t : Nat) (T : TX) : Prop := T.1.1 ≤ 24 ∧ w.1 239 (681 * t) = Int32.ofNat T.1.1 ∧
  (∀ i, i < T.1.1 → ∃ q : Nat, q ≤ 7 ∧ (T.1.2 i).1 = Int32.ofNat q ∧ w.1 239 (681 * t + 1 + 3 * i) = Int32.ofNat q ∧ ((q = 2 ∨ q = 3 ∨ q = 4 ∨ q = 5 ∨ q = 7) → w.1 239 (681 * t + 1 + 3 * i + 1) = (T.1.2 i).2.1) ∧ (q = 2 → w.1 239 (681 * t + 1 + 3 * i + 2) = (T.1.2 i).2.2)) ∧
  MLw w t 0 24 T.1.1 T.2.1 ∧ MLw w t 1 23 T.1.1 T.2.2
theorem MLw_eq {w' : ee_W} {t sort kk n : Nat} {o : Option ee_T} (hL : MLw w t sort kk n o) (he : ∀ k, w'.1 239 k = w.1 239 k) : MLw w' t sort kk n o := by
  have e : mcode w' t = mcode w t := funext (fun i => by unfold mcode; rw [he, he])
  cases o with
  | none => intro k hk; rw [he]; exact hL k hk
  | some e2 =>
    obtain ⟨a1, a2, k, f, E, a3, a4, a5, a6, a7, a8, a9⟩ := hL
    refine ⟨a1, a2, k, f, E, a3, (he _).trans a4, fun j hj => ?_, (he _).trans a6, (he _).trans a7, a8, ?_⟩
    · rw [he]; exact a5 j hj
    · rw [e]; exact a9
theorem MT_eq {w' : ee_W} {t : Nat} {T : TX} (hT : MT w t T) (he : ∀ k, w'.1 239 k = w.1 239 k) : MT w' t T := by
  obtain ⟨a1, a2, a3, a4, a5⟩ := hT
  refine ⟨a1, (he _).trans a2, fun i hi => ?_, MLw_eq a4 he, MLw_eq a5 he⟩
  rw [he, he, he]
  exact a3 i hi
def RMi (w : ee_W) (rI : Int32) (R : Option TX) : Prop := (rI = -1 ∧ R = none) ∨ ∃ (i : Nat) (T : TX), i < 4 ∧ rI = Int32.ofNat i ∧ R = some T ∧ MT w i T
theorem RMi_eq {w' : ee_W} {rI : Int32} (hR : RMi w rI R) (he : ∀ k, w'.1 239 k = w.1 239 k) : RMi w' rI R := by
  rcases hR with h | ⟨i, T, h1, h2, h3, h4⟩
  · exact Or.inl h
  · exact Or.inr ⟨i, T, h1, h2, h3, MT_eq h4 he⟩
def nmw (w : ee_W) (X : HX) (err : Int32) : ee_W := ee_wI (ee_wI (ee_wI (ee_wI (ee_wI (ee_wI w 242 0 (X.1 0)) 242 1 (rem8 (X.1 0))) 242 2 (X.1 3)) 242 3 err) 242 4 (X.1 4)) 242 5 (X.1 6)
def plw (c _k : Nat) : Prop := c = 242 ∨ c = 244
theorem nmw_c (w : ee_W) (X : HX) (err : Int32) : chk plw w (nmw w X err) := chk_I (Or.inl rfl) (chk_I (Or.inl rfl) (chk_I (Or.inl rfl) (chk_I (Or.inl rfl) (chk_I (Or.inl rfl) (chk_I (Or.inl rfl) (chk_refl _ _))))))
theorem pmt_plw : ∀ c k, pmt c k → plw c k := fun _ _ h => Or.inr h
theorem m_name (hd : 1 ≤ d) (hM : MS w 237 5 X.1) (err : Int32) : ee_run ee_B P d 253 [.ref 236, .int err] w = some ([], nmw w X err) := by
  obtain ⟨d, rfl⟩ : ∃ k, d = k + 1 := ⟨d - 1, by omega⟩
  have h5 : w.1 237 5 = X.1 0 := hM 0 (by omega) (by omega)
  have h8 : w.1 237 8 = X.1 3 := hM 3 (by omega) (by omega)
  have h9 : w.1 237 9 = X.1 4 := hM 4 (by omega) (by omega)
  have h11 : w.1 237 11 = X.1 6 := hM 6 (by omega) (by omega)
  rw [rn_253 mz_0]
  simp only [h5, h8, h9, h11, mz_n, mz_ns, nz_8, nmw, rem8, bd_253, k_0, k_1, k_11, k_2, k_3, k_4, k_5, k_8, k_9, nz_1, nz_11, nz_2, nz_3, nz_4, nz_5, nz_8, nz_9, v_bin, v_get, v_idx, v_int, v_loc, w_retv, w_seq, w_sto, List.getElem?_cons_zero, List.getElem?_cons_succ, List.set_cons_zero, List.set_cons_succ, ee_cmp0, ee_cmp1, ee_cmp2, ee_cmp3, ee_cmp4, ee_cmp5, ee_cmpL0, ee_cmpL1, ee_cmpL2, ee_cmpL3, ee_cmpL4, ee_cmpL5, ee_tru_eb, decide_eq_true_eq, ib_i, ie_b, ie_f, ie_t, ib_l, fin_i, fin_l, fin_v, fin_z, fin_a, fin_n, ee_b_0, ee_fld0, ee_fld1, ee_fld2, ee_fld3, bi_0, bi_1, bi_2, bi_3, bi_4, bi_5, bi_6, bi_7, bi_8, bi_9, bi_10, bl_20, bl_21, bl_22, bl_23, bl_24, bl_25, bl_26, bl_48, bl_49, un_0, un_1, un_2, un_3, if_true, if_false, ite_true, ite_false, Bool.false_eq_true, Bool.not_eq_false, decide_not, Bool.not_not, reduceCtorEq, st_i, st_l, st_r, st_n, ee_noL, ee_noL.eq_1, List.length_cons, List.length_nil, Nat.reduceAdd, Nat.reduceLT, Nat.zero_add, and_true, true_and, and_self, fin_ite, pu_0, pu_1, pu_3, sto_0, el_0, Bool.not_eq_true, decide_eq_false_iff_not, Bool.decide_eq_true, Bool.decide_eq_false, decide_true, decide_false, Bool.not_true, Bool.not_false, Bool.and_self, Bool.and_true, Bool.and_false, Bool.true_and, Bool.false_and, Bool.or_true, Bool.or_false, Bool.true_or, Bool.false_or, if_true, if_false, Bool.false_eq_true, ix_0, ix_1, ix_11, ix_2, ix_3, ix_4, ix_5, ix_8, ix_9, tc_0, tc_1, tc_11, tc_2, tc_3, tc_4, tc_5, tc_8, tc_9, mz_0, mz_1, mz_a, rvs, j_s, j_a, wI_at, Nat.reduceEqDiff, zero_ne_one_n, one_ne_zero_n]
def xe (X : HX) (err : Int32) : HX := (up X.1 5 err, X.2)
theorem up_self (f : Nat → Int32) (k : Nat) : up f k (f k) = f := by
  funext a
  rw [up_at]
  split
  · rename_i h; rw [h]
  · rfl
theorem xe_self (X : HX) : xe X (X.1 5) = X := by unfold xe; rw [up_self]
theorem wf_xe (hX : wfS X.1) {err : Int32} (h : bI err (-999) 999) : wfS (xe X err).1 := by
  obtain ⟨h0, h1, h2, h3, h4, h5, h6, h7, h8, h9⟩ := hX
  refine ⟨h0, h1, h2, h3, h4, h, h6, h7, h8, fun k hk => ?_⟩
  show bI (up X.1 5 err (10 + k)) _ _
  rw [up_at, if_neg (by omega)]
  exact h9 k hk
theorem zero_b : bI (0 : Int32) (-1000000) 1000000 := by
  unfold bI
  rw [show (0 : Int32).toInt = 0 from rfl]
  omega
theorem m_pulls (hd : 8 ≤ d) (hM : MS w 237 5 X.1) (hX : wfS X.1) {rI err : Int32} (he : bI err (-999) 999) (hR : RMi w rI R) :
    ∃ w', ee_run ee_B P d 265 [.ref 236, .int rI, .int err] w = some ([.int (pv (xe X err) (lawP R))], w') ∧ chk plw w w' := by
  obtain ⟨d, rfl⟩ : ∃ k, d = k + 1 := ⟨d - 1, by omega⟩
  have hd1 : 1 ≤ d := by omega
  have hd3 : 3 ≤ d := by omega
  have hd6 : 6 ≤ d := by omega
  have n1 := m_name (P := P) hd1 hM err
  have nc := nmw_c w X err
  have h8 : (nmw w X err).1 237 8 = X.1 3 := (nc.1 _ _ (by unfold plw; omega)).trans (hM 3 (by omega) (by omega))
  have ng : (-err).toInt = -err.toInt := by unfold bI at he; rw [Int32.toInt_neg, i32_bm] <;> omega
  have hb : bI (-err) (-1000000) 1000000 := by unfold bI at he ⊢; omega
  have n2 := m_curveBoth (P := P) (w := nmw w X err) hd3 hb
  have n3 := m_held (P := P) (w := nmw w X err) hd1 (kv (-err) - X.1 3) (-4) 4 (by decide)
  have wfe := wf_xe hX he
  rcases hR with ⟨rfl, rfl⟩ | ⟨i, T, h1, rfl, rfl, hT⟩
  · refine ⟨nmw w X err, ?_, nc⟩
    have n4 := m_saysNo (P := P) (w := nmw w X err) hd1 0 (hold32 (kv (-err) - X.1 3) (-4) 4) (-9) 9
    have e : pv (xe X err) (lawP none) = hold32 (kv (-err) - X.1 3) (-4) 4 := rfl
    rw [rn_265 mz_0, e]
    simp only [n1, n2, n3, n4, h8, bd_265, k_0, k_4, k_4294967287, k_4294967292, k_8, k_9, nz_4, nz_8, nz_9, v_bin, v_call, v_cons, v_get, v_idx, v_int, v_loc, v_nil, v_un, w_exp0, w_exp1, w_ret, w_seq, List.getElem?_cons_zero, List.getElem?_cons_succ, List.set_cons_zero, List.set_cons_succ, ee_cmp0, ee_cmp1, ee_cmp2, ee_cmp3, ee_cmp4, ee_cmp5, ee_cmpL0, ee_cmpL1, ee_cmpL2, ee_cmpL3, ee_cmpL4, ee_cmpL5, ee_tru_eb, decide_eq_true_eq, ib_i, ie_b, ie_f, ie_t, ib_l, fin_i, fin_l, fin_v, fin_z, fin_a, fin_n, ee_b_0, ee_fld0, ee_fld1, ee_fld2, ee_fld3, bi_0, bi_1, bi_2, bi_3, bi_4, bi_5, bi_6, bi_7, bi_8, bi_9, bi_10, bl_20, bl_21, bl_22, bl_23, bl_24, bl_25, bl_26, bl_48, bl_49, un_0, un_1, un_2, un_3, if_true, if_false, ite_true, ite_false, Bool.false_eq_true, Bool.not_eq_false, decide_not, Bool.not_not, reduceCtorEq, st_i, st_l, st_r, st_n, ee_noL, ee_noL.eq_1, List.length_cons, List.length_nil, Nat.reduceAdd, Nat.reduceLT, Nat.zero_add, and_true, true_and, and_self, fin_ite, pu_0, pu_1, pu_3, sto_0, el_0, Bool.not_eq_true, decide_eq_false_iff_not, Bool.decide_eq_true, Bool.decide_eq_false, decide_true, decide_false, Bool.not_true, Bool.not_false, Bool.and_self, Bool.and_true, Bool.and_false, Bool.true_and, Bool.false_and, Bool.or_true, Bool.or_false, Bool.true_or, Bool.false_or, if_true, if_false, Bool.false_eq_true, ix_0, ix_4, ix_8, ix_9, tc_0, tc_4, tc_8, tc_9, mz_0, mz_1, mz_a, rvs, j_s, j_a, wI_at, Nat.reduceEqDiff, zero_ne_one_n, one_ne_zero_n]
  · have hT2 := MT_eq hT (w' := nmw w X err) (fun k => nc.1 _ _ (by unfold plw; omega))
    obtain ⟨w', n4, n5⟩ := m_says (P := P) (w := nmw w X err) (X := xe X err) (nm := nmX (xe X err) 0) (wo := hold32 (kv (-err) - X.1 3) (-4) 4) (lo := -9) (hi := 9) (sort := 0) (kk := 24) hd6 h1 (by omega) hT2.1 hT2.2.1 (by decide)
      (by
        intro o o1 o2 o3
        have : o = 18 ∨ o = 19 ∨ o = 20 ∨ o = 21 ∨ o = 22 ∨ o = 23 := by omega
        rcases this with rfl | rfl | rfl | rfl | rfl | rfl <;> rfl)
      (nmX_b wfe zero_b)
      (fun k hk => (nc.1 _ _ (by unfold plw; omega)).trans (by
        have := hM (10 + k) (by omega) (by omega)
        rw [show 5 + (10 + k) = 15 + k by omega] at this
        rw [this]
        unfold xe
        dsimp only
        rw [up_at, if_neg (by omega)]))
      wfe hT2.2.2.2.1
    have e : pv (xe X err) (lawP (some T)) = lawv (nmX (xe X err) 0) (xlearnt (xe X err)) (hold32 (kv (-err) - X.1 3) (-4) 4) (-9) 9 T.2.1 := by
      show pv (xe X err) T.2.1 = _
      generalize T.2.1 = o
      cases o <;> rfl
    rw [k_0] at n4
    refine ⟨w', ?_, chk_trans nc (chk_mono n5 pmt_plw)⟩
    rw [rn_265 mz_0, e]
    simp only [n1, n2, n3, n4, h8, bd_265, k_0, k_4, k_4294967287, k_4294967292, k_8, k_9, nz_4, nz_8, nz_9, v_bin, v_call, v_cons, v_get, v_idx, v_int, v_loc, v_nil, v_un, w_exp0, w_exp1, w_ret, w_seq, List.getElem?_cons_zero, List.getElem?_cons_succ, List.set_cons_zero, List.set_cons_succ, ee_cmp0, ee_cmp1, ee_cmp2, ee_cmp3, ee_cmp4, ee_cmp5, ee_cmpL0, ee_cmpL1, ee_cmpL2, ee_cmpL3, ee_cmpL4, ee_cmpL5, ee_tru_eb, decide_eq_true_eq, ib_i, ie_b, ie_f, ie_t, ib_l, fin_i, fin_l, fin_v, fin_z, fin_a, fin_n, ee_b_0, ee_fld0, ee_fld1, ee_fld2, ee_fld3, bi_0, bi_1, bi_2, bi_3, bi_4, bi_5, bi_6, bi_7, bi_8, bi_9, bi_10, bl_20, bl_21, bl_22, bl_23, bl_24, bl_25, bl_26, bl_48, bl_49, un_0, un_1, un_2, un_3, if_true, if_false, ite_true, ite_false, Bool.false_eq_true, Bool.not_eq_false, decide_not, Bool.not_not, reduceCtorEq, st_i, st_l, st_r, st_n, ee_noL, ee_noL.eq_1, List.length_cons, List.length_nil, Nat.reduceAdd, Nat.reduceLT, Nat.zero_add, and_true, true_and, and_self, fin_ite, pu_0, pu_1, pu_3, sto_0, el_0, Bool.not_eq_true, decide_eq_false_iff_not, Bool.decide_eq_true, Bool.decide_eq_false, decide_true, decide_false, Bool.not_true, Bool.not_false, Bool.and_self, Bool.and_true, Bool.and_false, Bool.true_and, Bool.false_and, Bool.or_true, Bool.or_false, Bool.true_or, Bool.false_or, if_true, if_false, Bool.false_eq_true, ix_0, ix_4, ix_8, ix_9, tc_0, tc_4, tc_8, tc_9, mz_0, mz_1, mz_a, rvs, j_s, j_a, wI_at, Nat.reduceEqDiff, zero_ne_one_n, one_ne_zero_n]
theorem m_learns (hd : 8 ≤ d) (hM : MS w 237 5 X.1) (hX : wfS X.1) {off : Int32} (ho : bI off (-1000000) 1000000) (hR : RMi w (w.1 237 1) R) :
    ∃ w', ee_run ee_B P d 252 [.ref 236, .int off] w = some ([.int (gv X off (lawG R))], w') ∧ chk plw w w' := by
  obtain ⟨d, rfl⟩ : ∃ k, d = k + 1 := ⟨d - 1, by omega⟩
  have hd1 : 1 ≤ d := by omega
  have hd6 : 6 ≤ d := by omega
  have n1 := m_name (P := P) hd1 hM (X.1 5)
  have nc : chk plw w (ee_wI (nmw w X (X.1 5)) 242 6 off) := chk_I (Or.inl rfl) (nmw_c w X (X.1 5))
  have h10 : w.1 237 10 = X.1 5 := hM 5 (by omega) (by omega)
  have h1' : (ee_wI (nmw w X (X.1 5)) 242 6 off).1 237 1 = w.1 237 1 := nc.1 _ _ (by unfold plw; omega)
  rcases hR with ⟨hr, rfl⟩ | ⟨i, T, h1, hr, rfl, hT⟩
  · refine ⟨_, ?_, nc⟩
    have n4 := m_saysNo (P := P) (w := ee_wI (nmw w X (X.1 5)) 242 6 off) hd1 1 4 0 16
    rw [h1'] at *
    have e : gv X off (lawG none) = 4 := rfl
    have h1 : (nmw w X (X.1 5)).1 237 1 = -1 := ((nmw_c w X (X.1 5)).1 _ _ (by unfold plw; omega)).trans hr
    rw [rn_252 mz_0, e]
    simp only [n1, n4, h1, h10, mz_n, mz_ns, show (237 = 242) = False from by decide, false_and, if_false, bd_252, k_0, k_1, k_10, k_16, k_4, k_6, nz_1, nz_10, nz_16, nz_4, nz_6, v_call, v_cons, v_get, v_idx, v_int, v_loc, v_nil, w_exp0, w_exp1, w_ret, w_seq, w_sto, List.getElem?_cons_zero, List.getElem?_cons_succ, List.set_cons_zero, List.set_cons_succ, ee_cmp0, ee_cmp1, ee_cmp2, ee_cmp3, ee_cmp4, ee_cmp5, ee_cmpL0, ee_cmpL1, ee_cmpL2, ee_cmpL3, ee_cmpL4, ee_cmpL5, ee_tru_eb, decide_eq_true_eq, ib_i, ie_b, ie_f, ie_t, ib_l, fin_i, fin_l, fin_v, fin_z, fin_a, fin_n, ee_b_0, ee_fld0, ee_fld1, ee_fld2, ee_fld3, bi_0, bi_1, bi_2, bi_3, bi_4, bi_5, bi_6, bi_7, bi_8, bi_9, bi_10, bl_20, bl_21, bl_22, bl_23, bl_24, bl_25, bl_26, bl_48, bl_49, un_0, un_1, un_2, un_3, if_true, if_false, ite_true, ite_false, Bool.false_eq_true, Bool.not_eq_false, decide_not, Bool.not_not, reduceCtorEq, st_i, st_l, st_r, st_n, ee_noL, ee_noL.eq_1, List.length_cons, List.length_nil, Nat.reduceAdd, Nat.reduceLT, Nat.zero_add, and_true, true_and, and_self, fin_ite, pu_0, pu_1, pu_3, sto_0, el_0, Bool.not_eq_true, decide_eq_false_iff_not, Bool.decide_eq_true, Bool.decide_eq_false, decide_true, decide_false, Bool.not_true, Bool.not_false, Bool.and_self, Bool.and_true, Bool.and_false, Bool.true_and, Bool.false_and, Bool.or_true, Bool.or_false, Bool.true_or, Bool.false_or, if_true, if_false, Bool.false_eq_true, ix_0, ix_1, ix_10, ix_16, ix_4, ix_6, tc_0, tc_1, tc_10, tc_16, tc_4, tc_6, mz_0, mz_1, mz_a, rvs, j_s, j_a, wI_at, Nat.reduceEqDiff, zero_ne_one_n, one_ne_zero_n]
  · have hT2 := MT_eq hT (w' := ee_wI (nmw w X (X.1 5)) 242 6 off) (fun k => nc.1 _ _ (by unfold plw; omega))
    obtain ⟨w', n4, n5⟩ := m_says (P := P) (w := ee_wI (nmw w X (X.1 5)) 242 6 off) (X := X) (nm := nmX X off) (wo := 4) (lo := 0) (hi := 16) (sort := 1) (kk := 23) hd6 h1 (by omega) hT2.1 hT2.2.1 (by decide)
      (by
        intro o o1 o2 o3
        have : o = 18 ∨ o = 19 ∨ o = 20 ∨ o = 21 ∨ o = 22 ∨ o = 24 := by omega
        rcases this with rfl | rfl | rfl | rfl | rfl | rfl <;> rfl)
      (nmX_b hX ho)
      (fun k hk => (nc.1 _ _ (by unfold plw; omega)).trans (by
        have := hM (10 + k) (by omega) (by omega)
        rw [show 5 + (10 + k) = 15 + k by omega] at this
        exact this))
      hX hT2.2.2.2.2
    have e : gv X off (lawG (some T)) = lawv (nmX X off) (xlearnt X) 4 0 16 T.2.2 := by
      show gv X off T.2.2 = _
      generalize T.2.2 = o
      cases o <;> rfl
    have h1 : (nmw w X (X.1 5)).1 237 1 = Int32.ofNat i := ((nmw_c w X (X.1 5)).1 _ _ (by unfold plw; omega)).trans hr
    rw [k_1] at n4
    refine ⟨w', ?_, chk_trans nc (chk_mono n5 pmt_plw)⟩
    rw [rn_252 mz_0, e]
    simp only [n1, n4, h1, h10, mz_n, mz_ns, show (237 = 242) = False from by decide, false_and, if_false, bd_252, k_0, k_1, k_10, k_16, k_4, k_6, nz_1, nz_10, nz_16, nz_4, nz_6, v_call, v_cons, v_get, v_idx, v_int, v_loc, v_nil, w_exp0, w_exp1, w_ret, w_seq, w_sto, List.getElem?_cons_zero, List.getElem?_cons_succ, List.set_cons_zero, List.set_cons_succ, ee_cmp0, ee_cmp1, ee_cmp2, ee_cmp3, ee_cmp4, ee_cmp5, ee_cmpL0, ee_cmpL1, ee_cmpL2, ee_cmpL3, ee_cmpL4, ee_cmpL5, ee_tru_eb, decide_eq_true_eq, ib_i, ie_b, ie_f, ie_t, ib_l, fin_i, fin_l, fin_v, fin_z, fin_a, fin_n, ee_b_0, ee_fld0, ee_fld1, ee_fld2, ee_fld3, bi_0, bi_1, bi_2, bi_3, bi_4, bi_5, bi_6, bi_7, bi_8, bi_9, bi_10, bl_20, bl_21, bl_22, bl_23, bl_24, bl_25, bl_26, bl_48, bl_49, un_0, un_1, un_2, un_3, if_true, if_false, ite_true, ite_false, Bool.false_eq_true, Bool.not_eq_false, decide_not, Bool.not_not, reduceCtorEq, st_i, st_l, st_r, st_n, ee_noL, ee_noL.eq_1, List.length_cons, List.length_nil, Nat.reduceAdd, Nat.reduceLT, Nat.zero_add, and_true, true_and, and_self, fin_ite, pu_0, pu_1, pu_3, sto_0, el_0, Bool.not_eq_true, decide_eq_false_iff_not, Bool.decide_eq_true, Bool.decide_eq_false, decide_true, decide_false, Bool.not_true, Bool.not_false, Bool.and_self, Bool.and_true, Bool.and_false, Bool.true_and, Bool.false_and, Bool.or_true, Bool.or_false, Bool.true_or, Bool.false_or, if_true, if_false, Bool.false_eq_true, ix_0, ix_1, ix_10, ix_16, ix_4, ix_6, tc_0, tc_1, tc_10, tc_16, tc_4, tc_6, mz_0, mz_1, mz_a, rvs, j_s, j_a, wI_at, Nat.reduceEqDiff, zero_ne_one_n, one_ne_zero_n]
end NQ
