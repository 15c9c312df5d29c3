/-! the reference reads a text: its clauses one by one -/
section MTX
variable {P : Nat → Nat → List Value → ee_W → Option (List Value × ee_W)} {d : Nat} {w : ee_W} {f : Nat → Int32} {n c t i W F : Nat} {T : TX}
theorem onc_has {s : Nat} (hs : s ≤ 1) : decide (((Int32.ofNat (onc T) >>> (Int32.ofNat s &&& 31)) &&& 1) = 1) = decide ((s = 0 ∧ T.2.1.isSome = true) ∨ (s = 1 ∧ T.2.2.isSome = true)) := by
  unfold onc
  have : s = 0 ∨ s = 1 := by omega
  cases T.2.1.isSome <;> cases T.2.2.isSome <;> rcases this with rfl | rfl <;> decide
theorem onc_set {s : Nat} {z : TX} (hs : s ≤ 1) (hn : ¬ ((s = 0 ∧ T.2.1.isSome = true) ∨ (s = 1 ∧ T.2.2.isSome = true))) (h0 : s = 0 → ∃ e, z.2 = (some e, T.2.2)) (h1 : s = 1 → ∃ e, z.2 = (T.2.1, some e)) : Int32.ofNat (onc T) ||| (1 <<< (Int32.ofNat s &&& 31)) = Int32.ofNat (onc z) := by
  have : s = 0 ∨ s = 1 := by omega
  rcases this with rfl | rfl
  · obtain ⟨e, he⟩ := h0 rfl
    have a : T.2.1.isSome = false := by
      cases g : T.2.1.isSome
      · rfl
      · exact absurd (Or.inl ⟨rfl, g⟩) hn
    have e1 : onc z = 1 + (if T.2.2.isSome = true then 2 else 0) := by
      unfold onc
      rw [he]
      rfl
    have e2 : onc T = 0 + (if T.2.2.isSome = true then 2 else 0) := by
      unfold onc
      rw [a]
      rfl
    rw [e1, e2]
    cases T.2.2.isSome <;> decide
  · obtain ⟨e, he⟩ := h1 rfl
    have a : T.2.2.isSome = false := by
      cases g : T.2.2.isSome
      · rfl
      · exact absurd (Or.inr ⟨rfl, g⟩) hn
    have e1 : onc z = (if T.2.1.isSome = true then 1 else 0) + 2 := by
      unfold onc
      rw [he]
      rfl
    have e2 : onc T = (if T.2.1.isSome = true then 1 else 0) + 0 := by
      unfold onc
      rw [a]
      rfl
    rw [e1, e2]
    cases T.2.1.isSome <;> decide
theorem onc_same {z : TX} (h : z.2 = T.2) : onc z = onc T := by
  unfold onc
  rw [h]
theorem MQW_eq {w' : ee_W} (h : MQW w t W T) (hr : ROW w w' t T.1.1 W) (he : w'.1 239 (681 * t) = w.1 239 (681 * t)) : MQW w' t W T := by
  obtain ⟨a1, a2, a3, a4, a5⟩ := h
  refine ⟨a1, he.trans a2, fun i hi => ?_, MLl_eq a4 hr (Nat.le_refl _), MLl_eq a5 hr (Nat.le_refl _)⟩
  obtain ⟨q, b1, b2, b3, b4, b5⟩ := a3 i hi
  exact ⟨q, b1, b2, (hr.1 _ (by omega) (by omega)).trans b3, fun z => (hr.1 _ (by omega) (by omega)).trans (b4 z), fun z => (hr.1 _ (by omega) (by omega)).trans (b5 z)⟩
/-- what a clause leaves -/
def MCS (w w' : ee_W) (n : Nat) (f : Nat → Int32) (t : Nat) (r : CR) : Prop := chk (pcm t) w w' ∧ match r with
  | .inl z => ∃ W', MC w' n f z.2 t W' ∧ MQW w' t W' z.1 ∧ w'.1 236 19 = Int32.ofNat (onc z.1)
  | .inr y => w'.1 236 8 = Int32.ofNat (tkn f n y.2).2.2.1 ∧ 1 ≤ y.1 ∧ y.1 ≤ 6
theorem m_clause (hd : 12 ≤ d) (hb : ∀ i, i < n → bI (f i) 0 255) (hE : TKE f n c) (hF : 3700 ≤ F) (h : MC w n f i t W) (hi : i ≤ c) (hQ : MQW w t W T) (ho : w.1 236 19 = Int32.ofNat (onc T)) :
    ∃ w', ee_run ee_B P d 200 [.ref 236] w = some ([.int (Int32.ofNat (fcr (cls (kkf f n) (vvf f n) F T i)))], w') ∧ MCS w w' n f t (cls (kkf f n) (vvf f n) F T i) := by
  obtain ⟨d, rfl⟩ : ∃ k, d = k + 1 := ⟨d - 1, by omega⟩
  have hd1 : 1 ≤ d := by omega
  have hd2 : 2 ≤ d := by omega
  have ht := h.2.2.1
  have c300 := hE.1
  have h12 := h.2.2.2.1
  have m24 := hQ.1
  have hcnt := hQ.2.1
  have kb := (tkn_b f n i).1
  have so : ee_run ee_B P d 201 [.ref 236] w = some ([.int (if (tkn f n i).1 ≤ 7 then Int32.ofNat (tkn f n i).1 else -1)], w) := m_sortOf (P := P) (d := d) (by omega) h.2.1
  have nlt : ¬ Int32.ofNat (tkn f n i).1 < 0 := fun z => by have := (j_lt (b := 0) (by omega) (by omega)).1 z; omega
  have zz : (-1 : Int32) < 0 := by decide
  have le1 : Int32.ofNat (tkn f n i).1 ≤ 1 ↔ (tkn f n i).1 ≤ 1 := j_le (b := 1) (by omega) (by omega)
  by_cases c1 : 7 < (tkn f n i).1
  · have e : cls (kkf f n) (vvf f n) F T i = .inr (1, i) := by
      unfold cls
      exact if_pos c1
    rw [e]
    rw [if_neg (by omega)] at so
    refine ⟨w, ?_, chk_refl _ _, tkn_st h.2.1, by show 1 ≤ 1; omega, by show 1 ≤ 6; omega⟩
    show ee_run ee_B P (d + 1) 200 [.ref 236] w = some ([.int (Int32.ofNat 1)], w)
    rw [k_1, rn_200 mz_0]
    simp only [so, zz, bd_200, k_0, k_1, k_24, k_3, k_4, k_59, k_6, nz_1, nz_24, nz_3, nz_4, nz_59, nz_6, v_and, v_bin, v_call, v_cmp, v_cons, v_get, v_idx, v_int, v_loc, v_nil, v_z, w_exp0, w_exp1, w_if, w_opa, w_opf, w_put, w_ret, w_seq, w_set, w_skip, w_sto, List.getElem?_cons_zero, List.getElem?_cons_succ, List.set_cons_zero, List.set_cons_succ, ee_cmp0, ee_cmp1, ee_cmp2, ee_cmp3, ee_cmp4, ee_cmp5, ee_cmpL0, ee_cmpL1, ee_cmpL2, ee_cmpL3, ee_cmpL4, ee_cmpL5, ee_tru_eb, decide_eq_true_eq, ib_i, ie_b, ie_f, ie_t, ib_l, fin_i, fin_l, fin_v, fin_z, fin_a, fin_n, ee_b_0, ee_fld0, ee_fld1, ee_fld2, ee_fld3, bi_0, bi_1, bi_2, bi_3, bi_4, bi_5, bi_6, bi_7, bi_8, bi_9, bi_10, bl_20, bl_21, bl_22, bl_23, bl_24, bl_25, bl_26, bl_48, bl_49, un_0, un_1, un_2, un_3, if_true, if_false, ite_true, ite_false, Bool.false_eq_true, Bool.not_eq_false, decide_not, Bool.not_not, reduceCtorEq, st_i, st_l, st_r, st_n, ee_noL, ee_noL.eq_1, List.length_cons, List.length_nil, Nat.reduceAdd, Nat.reduceLT, Nat.zero_add, and_true, true_and, and_self, fin_ite, pu_0, pu_1, pu_3, sto_0, el_0, Bool.not_eq_true, decide_eq_false_iff_not, Bool.decide_eq_true, Bool.decide_eq_false, decide_true, decide_false, Bool.not_true, Bool.not_false, Bool.and_self, Bool.and_true, Bool.and_false, Bool.true_and, Bool.false_and, Bool.or_true, Bool.or_false, Bool.true_or, Bool.false_or, if_true, if_false, Bool.false_eq_true, ix_0, ix_1, ix_24, ix_3, ix_4, ix_59, ix_6, tc_0, tc_1, tc_24, tc_3, tc_4, tc_59, tc_6, mz_0, mz_1, mz_a, rvs, j_s, j_a, wI_at, Nat.reduceEqDiff, zero_ne_one_n, one_ne_zero_n]
    try rfl
  have cc1 : cls (kkf f n) (vvf f n) F T i = if ((tkn f n i).1 = 0 ∧ T.2.1.isSome = true) ∨ ((tkn f n i).1 = 1 ∧ T.2.2.isSome = true) then .inr (4, i) else if 24 ≤ T.1.1 then .inr (6, i) else stp (kkf f n) (cbo (kkf f n) (vvf f n) F T (tkn f n i).1 (i + 1)) := by
    unfold cls
    exact if_neg c1
  rw [cc1]
  rw [if_pos (show (tkn f n i).1 ≤ 7 by omega)] at so
  have cb2 := fun z => cbo_2 (K := kkf f n) (V := vvf f n) (F := F) (T := T) (i := i + 1) (k := (tkn f n i).1) (z := z) (by omega)
  have wn : (tkn f n i).1 ≠ 39 → i + 1 ≤ c := TKE_n hE hi
  have hkE : ∀ F, cbo (kkf f n) (vvf f n) F T (tkn f n i).1 (i + 1) = cbo (kkf f n) (vvf f n) F T (tkn f n i).1 (i + 1) := fun _ => rfl
  generalize hs : (tkn f n i).1 = s at *
  have hst : kkf f n i = s := hs
  have ha : s ≤ 1 → ee_run ee_B P d 208 [.int (Int32.ofNat (onc T)), .int (Int32.ofNat s)] w = some ([.int (ee_b (decide ((s = 0 ∧ T.2.1.isSome = true) ∨ (s = 1 ∧ T.2.2.isSome = true))))], w) := fun q => by
    rw [r_bitM hd1, onc_has q]
  by_cases c2 : (s = 0 ∧ T.2.1.isSome = true) ∨ (s = 1 ∧ T.2.2.isSome = true)
  · rw [if_pos c2]
    have s1 : s ≤ 1 := by omega
    have ha := ha s1
    rw [decide_eq_true c2] at ha
    refine ⟨w, ?_, chk_refl _ _, tkn_st h.2.1, by show 1 ≤ 4; omega, by show 4 ≤ 6; omega⟩
    show ee_run ee_B P (d + 1) 200 [.ref 236] w = some ([.int (Int32.ofNat 4)], w)
    rw [k_4, rn_200 mz_0]
    simp only [so, nlt, le1, s1, ho, ha, bd_200, k_0, k_1, k_24, k_3, k_4, k_59, k_6, nz_1, nz_24, nz_3, nz_4, nz_59, nz_6, v_and, v_bin, v_call, v_cmp, v_cons, v_get, v_idx, v_int, v_loc, v_nil, v_z, w_exp0, w_exp1, w_if, w_opa, w_opf, w_put, w_ret, w_seq, w_set, w_skip, w_sto, List.getElem?_cons_zero, List.getElem?_cons_succ, List.set_cons_zero, List.set_cons_succ, ee_cmp0, ee_cmp1, ee_cmp2, ee_cmp3, ee_cmp4, ee_cmp5, ee_cmpL0, ee_cmpL1, ee_cmpL2, ee_cmpL3, ee_cmpL4, ee_cmpL5, ee_tru_eb, decide_eq_true_eq, ib_i, ie_b, ie_f, ie_t, ib_l, fin_i, fin_l, fin_v, fin_z, fin_a, fin_n, ee_b_0, ee_fld0, ee_fld1, ee_fld2, ee_fld3, bi_0, bi_1, bi_2, bi_3, bi_4, bi_5, bi_6, bi_7, bi_8, bi_9, bi_10, bl_20, bl_21, bl_22, bl_23, bl_24, bl_25, bl_26, bl_48, bl_49, un_0, un_1, un_2, un_3, if_true, if_false, ite_true, ite_false, Bool.false_eq_true, Bool.not_eq_false, decide_not, Bool.not_not, reduceCtorEq, st_i, st_l, st_r, st_n, ee_noL, ee_noL.eq_1, List.length_cons, List.length_nil, Nat.reduceAdd, Nat.reduceLT, Nat.zero_add, and_true, true_and, and_self, fin_ite, pu_0, pu_1, pu_3, sto_0, el_0, Bool.not_eq_true, decide_eq_false_iff_not, Bool.decide_eq_true, Bool.decide_eq_false, decide_true, decide_false, Bool.not_true, Bool.not_false, Bool.and_self, Bool.and_true, Bool.and_false, Bool.true_and, Bool.false_and, Bool.or_true, Bool.or_false, Bool.true_or, Bool.false_or, if_true, if_false, Bool.false_eq_true, ix_0, ix_1, ix_24, ix_3, ix_4, ix_59, ix_6, tc_0, tc_1, tc_24, tc_3, tc_4, tc_59, tc_6, mz_0, mz_1, mz_a, rvs, j_s, j_a, wI_at, Nat.reduceEqDiff, zero_ne_one_n, one_ne_zero_n]
    try rfl
  rw [if_neg c2]
  have xt : ee_ix (Int32.ofNat (681 * t)) 2724 = true := by rw [ixn (by omega)]; exact decide_eq_true (by omega)
  have tt := tnc (n := 681 * t) (by omega)
  have q24 : (Int32.ofNat T.1.1 = 24) = (T.1.1 = 24) := kq (m := 24) (by omega) (by omega)
  by_cases c3 : 24 ≤ T.1.1
  · rw [if_pos c3]
    have c3t : (T.1.1 = 24) = True := eq_true (by omega)
    refine ⟨w, ?_, chk_refl _ _, tkn_st h.2.1, by show 1 ≤ 6; omega, by show 6 ≤ 6; omega⟩
    show ee_run ee_B P (d + 1) 200 [.ref 236] w = some ([.int (Int32.ofNat 6)], w)
    rw [k_6, rn_200 mz_0]
    by_cases s1 : s ≤ 1
    · have ha := ha s1
      rw [decide_eq_false c2] at ha
      simp only [so, nlt, le1, s1, ho, ha, h12, xt, tt, hcnt, q24, c3t, mz_t, mz_ts, bd_200, k_0, k_1, k_24, k_3, k_4, k_59, k_6, nz_1, nz_24, nz_3, nz_4, nz_59, nz_6, v_and, v_bin, v_call, v_cmp, v_cons, v_get, v_idx, v_int, v_loc, v_nil, v_z, w_exp0, w_exp1, w_if, w_opa, w_opf, w_put, w_ret, w_seq, w_set, w_skip, w_sto, List.getElem?_cons_zero, List.getElem?_cons_succ, List.set_cons_zero, List.set_cons_succ, ee_cmp0, ee_cmp1, ee_cmp2, ee_cmp3, ee_cmp4, ee_cmp5, ee_cmpL0, ee_cmpL1, ee_cmpL2, ee_cmpL3, ee_cmpL4, ee_cmpL5, ee_tru_eb, decide_eq_true_eq, ib_i, ie_b, ie_f, ie_t, ib_l, fin_i, fin_l, fin_v, fin_z, fin_a, fin_n, ee_b_0, ee_fld0, ee_fld1, ee_fld2, ee_fld3, bi_0, bi_1, bi_2, bi_3, bi_4, bi_5, bi_6, bi_7, bi_8, bi_9, bi_10, bl_20, bl_21, bl_22, bl_23, bl_24, bl_25, bl_26, bl_48, bl_49, un_0, un_1, un_2, un_3, if_true, if_false, ite_true, ite_false, Bool.false_eq_true, Bool.not_eq_false, decide_not, Bool.not_not, reduceCtorEq, st_i, st_l, st_r, st_n, ee_noL, ee_noL.eq_1, List.length_cons, List.length_nil, Nat.reduceAdd, Nat.reduceLT, Nat.zero_add, and_true, true_and, and_self, fin_ite, pu_0, pu_1, pu_3, sto_0, el_0, Bool.not_eq_true, decide_eq_false_iff_not, Bool.decide_eq_true, Bool.decide_eq_false, decide_true, decide_false, Bool.not_true, Bool.not_false, Bool.and_self, Bool.and_true, Bool.and_false, Bool.true_and, Bool.false_and, Bool.or_true, Bool.or_false, Bool.true_or, Bool.false_or, if_true, if_false, Bool.false_eq_true, ix_0, ix_1, ix_24, ix_3, ix_4, ix_59, ix_6, tc_0, tc_1, tc_24, tc_3, tc_4, tc_59, tc_6, mz_0, mz_1, mz_a, rvs, j_s, j_a, wI_at, Nat.reduceEqDiff, zero_ne_one_n, one_ne_zero_n]
      try rfl
    · simp only [so, nlt, le1, s1, h12, xt, tt, hcnt, q24, c3t, mz_t, mz_ts, bd_200, k_0, k_1, k_24, k_3, k_4, k_59, k_6, nz_1, nz_24, nz_3, nz_4, nz_59, nz_6, v_and, v_bin, v_call, v_cmp, v_cons, v_get, v_idx, v_int, v_loc, v_nil, v_z, w_exp0, w_exp1, w_if, w_opa, w_opf, w_put, w_ret, w_seq, w_set, w_skip, w_sto, List.getElem?_cons_zero, List.getElem?_cons_succ, List.set_cons_zero, List.set_cons_succ, ee_cmp0, ee_cmp1, ee_cmp2, ee_cmp3, ee_cmp4, ee_cmp5, ee_cmpL0, ee_cmpL1, ee_cmpL2, ee_cmpL3, ee_cmpL4, ee_cmpL5, ee_tru_eb, decide_eq_true_eq, ib_i, ie_b, ie_f, ie_t, ib_l, fin_i, fin_l, fin_v, fin_z, fin_a, fin_n, ee_b_0, ee_fld0, ee_fld1, ee_fld2, ee_fld3, bi_0, bi_1, bi_2, bi_3, bi_4, bi_5, bi_6, bi_7, bi_8, bi_9, bi_10, bl_20, bl_21, bl_22, bl_23, bl_24, bl_25, bl_26, bl_48, bl_49, un_0, un_1, un_2, un_3, if_true, if_false, ite_true, ite_false, Bool.false_eq_true, Bool.not_eq_false, decide_not, Bool.not_not, reduceCtorEq, st_i, st_l, st_r, st_n, ee_noL, ee_noL.eq_1, List.length_cons, List.length_nil, Nat.reduceAdd, Nat.reduceLT, Nat.zero_add, and_true, true_and, and_self, fin_ite, pu_0, pu_1, pu_3, sto_0, el_0, Bool.not_eq_true, decide_eq_false_iff_not, Bool.decide_eq_true, Bool.decide_eq_false, decide_true, decide_false, Bool.not_true, Bool.not_false, Bool.and_self, Bool.and_true, Bool.and_false, Bool.true_and, Bool.false_and, Bool.or_true, Bool.or_false, Bool.true_or, Bool.false_or, if_true, if_false, Bool.false_eq_true, ix_0, ix_1, ix_24, ix_3, ix_4, ix_59, ix_6, tc_0, tc_1, tc_24, tc_3, tc_4, tc_59, tc_6, mz_0, mz_1, mz_a, rvs, j_s, j_a, wI_at, Nat.reduceEqDiff, zero_ne_one_n, one_ne_zero_n]
      try rfl
  rw [if_neg c3]
  have m24 : T.1.1 < 24 := by omega
  have c3n : ¬ T.1.1 = 24 := by omega
  -- the law is noted, the kind, the next token, the clause's row
  obtain ⟨w1, hw1⟩ : ∃ w1, w1 = (if s ≤ 1 then ee_wI w 236 19 (Int32.ofNat (onc T) ||| (1 <<< (Int32.ofNat s &&& 31))) else w) := ⟨_, rfl⟩
  have o1 : ∀ c k, ¬ (c = 236 ∧ k = 19) → w1.1 c k = w.1 c k := fun c k hh => by
    rw [hw1]
    split
    · rw [wI_at, if_neg hh]
    · rfl
  have j1 : w1.2 = w.2 := by rw [hw1]; split <;> rfl
  obtain ⟨w2, hw2⟩ : ∃ w2, w2 = ee_wI w1 236 14 (Int32.ofNat s) := ⟨_, rfl⟩
  have o2 : ∀ c k, ¬ (c = 236 ∧ (k = 19 ∨ k = 14)) → w2.1 c k = w.1 c k := fun c k hh => by rw [hw2, wI_at, if_neg (by omega)]; exact o1 c k (by omega)
  have c2n : chk pno w w2 := ⟨fun c k hh => o2 c k (by unfold pno at hh; omega), by rw [hw2]; show w1.2.2 = _; rw [j1]⟩
  have M2 : MC w2 n f i t W := MC_no h c2n (by rw [hw2]; show w1.2.1 = _; rw [j1])
  obtain ⟨w3, r3, M3, c3'⟩ := m_nx (P := P) hd2 hb M2
  have i1 := wn (by omega)
  generalize hX : 681 * t + 1 + 3 * T.1.1 = X at *
  obtain ⟨w4, hw4⟩ : ∃ w4, w4 = ee_wI w3 239 X (Int32.ofNat s) := ⟨_, rfl⟩
  have o4 : ∀ c k, ¬ (c = 239 ∧ k = X) → w4.1 c k = w3.1 c k := fun c k hh => by rw [hw4, wI_at, if_neg hh]
  have M4 : MC w4 n f (i + 1) t W := MC_no M3 (by rw [hw4]; exact chk_I (Or.inl rfl) (chk_refl _ _)) (by rw [hw4]; rfl)
  have e239 : ∀ k, w3.1 239 k = w.1 239 k := fun k => by rw [c3'.1 _ _ (by unfold ptk; omega), o2 _ _ (by omega)]
  have Q4 : MQW w4 t W T := MQW_eq hQ ⟨fun k a b => by rw [o4 _ _ (by omega), e239], fun k a => by
    unfold mcode
    rw [o4 _ _ (by omega), e239, o4 _ _ (by omega), e239]⟩ (by rw [o4 _ _ (by omega), e239])
  have k14 : w4.1 236 14 = Int32.ofNat s := by rw [o4 _ _ (by omega), c3'.1 _ _ (by unfold ptk; omega), hw2, wI_at, if_pos ⟨rfl, rfl⟩]
  have kX : w4.1 239 X = Int32.ofNat s := by rw [hw4, wI_at, if_pos ⟨rfl, rfl⟩]
  have k19 : w4.1 236 19 = w1.1 236 19 := by rw [o4 _ _ (by omega), c3'.1 _ _ (by unfold ptk; omega), hw2, wI_at, if_neg (by omega)]
  have cp4 : chk (pcm t) w w4 := chk_trans (chk_mono (p := fun c k => c = 236 ∧ (k = 19 ∨ k = 14)) ⟨o2, c2n.2⟩ (fun c k hh => by have hh : c = 236 ∧ (k = 19 ∨ k = 14) := hh; unfold pcm; omega)) (chk_trans (pcm_k c3') (by rw [hw4]; exact chk_I (Or.inr (Or.inl ⟨rfl, by omega, by omega⟩)) (chk_refl _ _)))
  -- the body
  have body : ∃ w5, ee_run ee_B P d 209 [.ref 236, .int (Int32.ofNat s), .int (Int32.ofNat X)] w4 = some ([.int (Int32.ofNat (fcr (cbo (kkf f n) (vvf f n) F T s (i + 1))))], w5) ∧ BOD w4 w5 n f t T (cbo (kkf f n) (vvf f n) F T s (i + 1)) := by
    by_cases s1 : s ≤ 1
    · obtain ⟨r, hr, hf⟩ := pp_some (K := kkf f n) (V := vvf f n) (law := s) (N := c) (F := F) (i := i + 1) (D := 0) (x := .var 0) hE.2 hE.1 i1 hF
      have eb : cbo (kkf f n) (vvf f n) F T s (i + 1) = lwc T s (some r) := by
        unfold cbo
        rw [if_pos s1, hr]
      rw [eb]
      have hN : (s = 0 → T.2.1 = none) ∧ (s = 1 → T.2.2 = none) := by
        refine ⟨fun q => ?_, fun q => ?_⟩
        · cases g : T.2.1 with
          | none => rfl
          | some e => exact absurd (Or.inl ⟨q, by rw [g]; rfl⟩) c2
        · cases g : T.2.2 with
          | none => rfl
          | some e => exact absurd (Or.inr ⟨q, by rw [g]; rfl⟩) c2
      have g := m_law (P := P) (d := d) (by omega) hb hE M4 i1 Q4 m24 s1 k14 (by rw [hX]; exact kX) hN hr hf
      rw [hX] at g
      exact g
    · have g := m_scr (P := P) (d := d) (F := F) (by omega) hb M4 Q4 m24 (k := s) (by omega) (by rw [hX]; exact kX)
      rw [hX] at g
      exact g
  obtain ⟨w5, r5, b1, b2, b3, b4⟩ := body
  have v12 : w2.1 236 12 = Int32.ofNat (681 * t) := M2.2.2.2.1
  have u12 : w3.1 236 12 = Int32.ofNat (681 * t) := M3.2.2.2.1
  have ea : Int32.ofNat (681 * t) + 1 = Int32.ofNat (681 * t + 1) := j_s _
  have em : (3 : Int32) * Int32.ofNat T.1.1 = Int32.ofNat (3 * T.1.1) := j_m 3 _
  have ex : Int32.ofNat (681 * t + 1) + Int32.ofNat (3 * T.1.1) = Int32.ofNat X := by rw [j_a, hX]
  have xX : ee_ix (Int32.ofNat X) 2724 = true := by rw [ixn (by omega)]; exact decide_eq_true (by omega)
  have tX := tnc (n := X) (by omega)
  cases hc : cbo (kkf f n) (vvf f n) F T s (i + 1) with
  | inr y =>
    rw [hc] at r5 b4
    obtain ⟨b5, b6, b7⟩ := b4
    have r5 : ee_run ee_B P d 209 [.ref 236, .int (Int32.ofNat s), .int (Int32.ofNat X)] w4 = some ([.int (Int32.ofNat y.1)], w5) := r5
    have ny : ¬ Int32.ofNat y.1 = 0 := fun z => by
      have := (kq (m := 0) (by omega) (by omega)).mp z
      omega
    refine ⟨w5, ?_, chk_trans cp4 b1, b5, b6, b7⟩
    show ee_run ee_B P (d + 1) 200 [.ref 236] w = some ([.int (Int32.ofNat y.1)], w5)
    rw [rn_200 mz_0]
    by_cases s1 : s ≤ 1
    · have ha := ha s1
      rw [decide_eq_false c2] at ha
      rw [if_pos s1] at hw1
      simp only [so, nlt, le1, s1, ho, ha, h12, xt, tt, hcnt, q24, c3n, w_opf, ← hw1, ← hw2, r3, u12, ea, em, ex, xX, tX, ← hw4, r5, ny, mz_t, mz_ts, bd_200, k_0, k_1, k_24, k_3, k_4, k_59, k_6, nz_1, nz_24, nz_3, nz_4, nz_59, nz_6, v_and, v_bin, v_call, v_cmp, v_cons, v_get, v_idx, v_int, v_loc, v_nil, v_z, w_exp0, w_exp1, w_if, w_opa, w_opf, w_put, w_ret, w_seq, w_set, w_skip, w_sto, List.getElem?_cons_zero, List.getElem?_cons_succ, List.set_cons_zero, List.set_cons_succ, ee_cmp0, ee_cmp1, ee_cmp2, ee_cmp3, ee_cmp4, ee_cmp5, ee_cmpL0, ee_cmpL1, ee_cmpL2, ee_cmpL3, ee_cmpL4, ee_cmpL5, ee_tru_eb, decide_eq_true_eq, ib_i, ie_b, ie_f, ie_t, ib_l, fin_i, fin_l, fin_v, fin_z, fin_a, fin_n, ee_b_0, ee_fld0, ee_fld1, ee_fld2, ee_fld3, bi_0, bi_1, bi_2, bi_3, bi_4, bi_5, bi_6, bi_7, bi_8, bi_9, bi_10, bl_20, bl_21, bl_22, bl_23, bl_24, bl_25, bl_26, bl_48, bl_49, un_0, un_1, un_2, un_3, if_true, if_false, ite_true, ite_false, Bool.false_eq_true, Bool.not_eq_false, decide_not, Bool.not_not, reduceCtorEq, st_i, st_l, st_r, st_n, ee_noL, ee_noL.eq_1, List.length_cons, List.length_nil, Nat.reduceAdd, Nat.reduceLT, Nat.zero_add, and_true, true_and, and_self, fin_ite, pu_0, pu_1, pu_3, sto_0, el_0, Bool.not_eq_true, decide_eq_false_iff_not, Bool.decide_eq_true, Bool.decide_eq_false, decide_true, decide_false, Bool.not_true, Bool.not_false, Bool.and_self, Bool.and_true, Bool.and_false, Bool.true_and, Bool.false_and, Bool.or_true, Bool.or_false, Bool.true_or, Bool.false_or, if_true, if_false, Bool.false_eq_true, ix_0, ix_1, ix_24, ix_3, ix_4, ix_59, ix_6, tc_0, tc_1, tc_24, tc_3, tc_4, tc_59, tc_6, mz_0, mz_1, mz_a, rvs, j_s, j_a, wI_at, Nat.reduceEqDiff, zero_ne_one_n, one_ne_zero_n]
      try rfl
    · rw [if_neg s1] at hw1
      rw [hw1] at hw2
      simp only [so, nlt, le1, s1, h12, xt, tt, hcnt, q24, c3n, ← hw2, r3, u12, ea, em, ex, xX, tX, ← hw4, r5, ny, mz_t, mz_ts, bd_200, k_0, k_1, k_24, k_3, k_4, k_59, k_6, nz_1, nz_24, nz_3, nz_4, nz_59, nz_6, v_and, v_bin, v_call, v_cmp, v_cons, v_get, v_idx, v_int, v_loc, v_nil, v_z, w_exp0, w_exp1, w_if, w_opa, w_opf, w_put, w_ret, w_seq, w_set, w_skip, w_sto, List.getElem?_cons_zero, List.getElem?_cons_succ, List.set_cons_zero, List.set_cons_succ, ee_cmp0, ee_cmp1, ee_cmp2, ee_cmp3, ee_cmp4, ee_cmp5, ee_cmpL0, ee_cmpL1, ee_cmpL2, ee_cmpL3, ee_cmpL4, ee_cmpL5, ee_tru_eb, decide_eq_true_eq, ib_i, ie_b, ie_f, ie_t, ib_l, fin_i, fin_l, fin_v, fin_z, fin_a, fin_n, ee_b_0, ee_fld0, ee_fld1, ee_fld2, ee_fld3, bi_0, bi_1, bi_2, bi_3, bi_4, bi_5, bi_6, bi_7, bi_8, bi_9, bi_10, bl_20, bl_21, bl_22, bl_23, bl_24, bl_25, bl_26, bl_48, bl_49, un_0, un_1, un_2, un_3, if_true, if_false, ite_true, ite_false, Bool.false_eq_true, Bool.not_eq_false, decide_not, Bool.not_not, reduceCtorEq, st_i, st_l, st_r, st_n, ee_noL, ee_noL.eq_1, List.length_cons, List.length_nil, Nat.reduceAdd, Nat.reduceLT, Nat.zero_add, and_true, true_and, and_self, fin_ite, pu_0, pu_1, pu_3, sto_0, el_0, Bool.not_eq_true, decide_eq_false_iff_not, Bool.decide_eq_true, Bool.decide_eq_false, decide_true, decide_false, Bool.not_true, Bool.not_false, Bool.and_self, Bool.and_true, Bool.and_false, Bool.true_and, Bool.false_and, Bool.or_true, Bool.or_false, Bool.true_or, Bool.false_or, if_true, if_false, Bool.false_eq_true, ix_0, ix_1, ix_24, ix_3, ix_4, ix_59, ix_6, tc_0, tc_1, tc_24, tc_3, tc_4, tc_59, tc_6, mz_0, mz_1, mz_a, rvs, j_s, j_a, wI_at, Nat.reduceEqDiff, zero_ne_one_n, one_ne_zero_n]
      try rfl
  | inl z =>
    rw [hc] at r5 b4
    obtain ⟨W5, M5, b5⟩ := b4
    have x12 : w5.1 236 12 = Int32.ofNat (681 * t) := M5.2.2.2.1
    have r5 : ee_run ee_B P d 209 [.ref 236, .int (Int32.ofNat s), .int (Int32.ofNat X)] w4 = some ([.int 0], w5) := r5
    have z5 : w5.1 239 (681 * t) = Int32.ofNat T.1.1 := by rw [b3, o4 _ _ (by omega), e239]; exact hcnt
    have ec : Int32.ofNat T.1.1 + 1 = Int32.ofNat (T.1.1 + 1) := j_s _
    obtain ⟨w6, hw6⟩ : ∃ w6, w6 = ee_wI w5 239 (681 * t) (Int32.ofNat (T.1.1 + 1)) := ⟨_, rfl⟩
    have M6 : MC w6 n f z.2 t W5 := MC_no M5 (by rw [hw6]; exact chk_I (Or.inl rfl) (chk_refl _ _)) (by rw [hw6]; rfl)
    have c6 : chk (pcm t) w5 w6 := by rw [hw6]; exact chk_I (Or.inr (Or.inl ⟨rfl, by omega, by omega⟩)) (chk_refl _ _)
    have q59 : (w6.1 236 9 = 59) = ((tkn f n z.2).1 = 37) := mq_59 M6.2.1
    have es : stp (kkf f n) (.inl z) = if kkf f n z.2 = 37 then .inl (z.1, z.2 + 1) else .inr (1, z.2) := rfl
    rw [es]
    obtain ⟨d2, d0, d1⟩ := cb2 z hc
    have on : w1.1 236 19 = Int32.ofNat (onc z.1) := by
      rw [hw1]
      by_cases s1 : s ≤ 1
      · rw [if_pos s1, wI_at, if_pos ⟨rfl, rfl⟩]
        exact onc_set s1 c2 d0 d1
      · rw [if_neg s1, ho, onc_same (d2 (by omega))]
    by_cases q : kkf f n z.2 = 37
    · have qt : ((tkn f n z.2).1 = 37) = True := eq_true q
      rw [if_pos q]
      obtain ⟨w7, r7, M7, c7⟩ := m_nx (P := P) hd2 hb M6
      refine ⟨w7, ?_, chk_trans cp4 (chk_trans b1 (chk_trans c6 (pcm_k c7))), W5, M7, b5 w7 (fun k hk => ?_) ?_, ?_⟩
      · show ee_run ee_B P (d + 1) 200 [.ref 236] w = some ([.int 0], w7)
        rw [rn_200 mz_0]
        by_cases s1 : s ≤ 1
        · have ha := ha s1
          rw [decide_eq_false c2] at ha
          rw [if_pos s1] at hw1
          simp only [so, nlt, le1, s1, ho, ha, h12, xt, tt, hcnt, q24, c3n, w_opf, w_opa, ← hw1, ← hw2, r3, u12, ea, em, ex, xX, tX, ← hw4, r5, x12, z5, ec, ← hw6, q59, qt, r7, mz_t, mz_ts, bd_200, k_0, k_1, k_24, k_3, k_4, k_59, k_6, nz_1, nz_24, nz_3, nz_4, nz_59, nz_6, v_and, v_bin, v_call, v_cmp, v_cons, v_get, v_idx, v_int, v_loc, v_nil, v_z, w_exp0, w_exp1, w_if, w_opa, w_opf, w_put, w_ret, w_seq, w_set, w_skip, w_sto, List.getElem?_cons_zero, List.getElem?_cons_succ, List.set_cons_zero, List.set_cons_succ, ee_cmp0, ee_cmp1, ee_cmp2, ee_cmp3, ee_cmp4, ee_cmp5, ee_cmpL0, ee_cmpL1, ee_cmpL2, ee_cmpL3, ee_cmpL4, ee_cmpL5, ee_tru_eb, decide_eq_true_eq, ib_i, ie_b, ie_f, ie_t, ib_l, fin_i, fin_l, fin_v, fin_z, fin_a, fin_n, ee_b_0, ee_fld0, ee_fld1, ee_fld2, ee_fld3, bi_0, bi_1, bi_2, bi_3, bi_4, bi_5, bi_6, bi_7, bi_8, bi_9, bi_10, bl_20, bl_21, bl_22, bl_23, bl_24, bl_25, bl_26, bl_48, bl_49, un_0, un_1, un_2, un_3, if_true, if_false, ite_true, ite_false, Bool.false_eq_true, Bool.not_eq_false, decide_not, Bool.not_not, reduceCtorEq, st_i, st_l, st_r, st_n, ee_noL, ee_noL.eq_1, List.length_cons, List.length_nil, Nat.reduceAdd, Nat.reduceLT, Nat.zero_add, and_true, true_and, and_self, fin_ite, pu_0, pu_1, pu_3, sto_0, el_0, Bool.not_eq_true, decide_eq_false_iff_not, Bool.decide_eq_true, Bool.decide_eq_false, decide_true, decide_false, Bool.not_true, Bool.not_false, Bool.and_self, Bool.and_true, Bool.and_false, Bool.true_and, Bool.false_and, Bool.or_true, Bool.or_false, Bool.true_or, Bool.false_or, if_true, if_false, Bool.false_eq_true, ix_0, ix_1, ix_24, ix_3, ix_4, ix_59, ix_6, tc_0, tc_1, tc_24, tc_3, tc_4, tc_59, tc_6, mz_0, mz_1, mz_a, rvs, j_s, j_a, wI_at, Nat.reduceEqDiff, zero_ne_one_n, one_ne_zero_n]
          try rfl
        · rw [if_neg s1] at hw1
          rw [hw1] at hw2
          simp only [so, nlt, le1, s1, h12, xt, tt, hcnt, q24, c3n, w_opa, ← hw2, r3, u12, ea, em, ex, xX, tX, ← hw4, r5, x12, z5, ec, ← hw6, q59, qt, r7, mz_t, mz_ts, bd_200, k_0, k_1, k_24, k_3, k_4, k_59, k_6, nz_1, nz_24, nz_3, nz_4, nz_59, nz_6, v_and, v_bin, v_call, v_cmp, v_cons, v_get, v_idx, v_int, v_loc, v_nil, v_z, w_exp0, w_exp1, w_if, w_opa, w_opf, w_put, w_ret, w_seq, w_set, w_skip, w_sto, List.getElem?_cons_zero, List.getElem?_cons_succ, List.set_cons_zero, List.set_cons_succ, ee_cmp0, ee_cmp1, ee_cmp2, ee_cmp3, ee_cmp4, ee_cmp5, ee_cmpL0, ee_cmpL1, ee_cmpL2, ee_cmpL3, ee_cmpL4, ee_cmpL5, ee_tru_eb, decide_eq_true_eq, ib_i, ie_b, ie_f, ie_t, ib_l, fin_i, fin_l, fin_v, fin_z, fin_a, fin_n, ee_b_0, ee_fld0, ee_fld1, ee_fld2, ee_fld3, bi_0, bi_1, bi_2, bi_3, bi_4, bi_5, bi_6, bi_7, bi_8, bi_9, bi_10, bl_20, bl_21, bl_22, bl_23, bl_24, bl_25, bl_26, bl_48, bl_49, un_0, un_1, un_2, un_3, if_true, if_false, ite_true, ite_false, Bool.false_eq_true, Bool.not_eq_false, decide_not, Bool.not_not, reduceCtorEq, st_i, st_l, st_r, st_n, ee_noL, ee_noL.eq_1, List.length_cons, List.length_nil, Nat.reduceAdd, Nat.reduceLT, Nat.zero_add, and_true, true_and, and_self, fin_ite, pu_0, pu_1, pu_3, sto_0, el_0, Bool.not_eq_true, decide_eq_false_iff_not, Bool.decide_eq_true, Bool.decide_eq_false, decide_true, decide_false, Bool.not_true, Bool.not_false, Bool.and_self, Bool.and_true, Bool.and_false, Bool.true_and, Bool.false_and, Bool.or_true, Bool.or_false, Bool.true_or, Bool.false_or, if_true, if_false, Bool.false_eq_true, ix_0, ix_1, ix_24, ix_3, ix_4, ix_59, ix_6, tc_0, tc_1, tc_24, tc_3, tc_4, tc_59, tc_6, mz_0, mz_1, mz_a, rvs, j_s, j_a, wI_at, Nat.reduceEqDiff, zero_ne_one_n, one_ne_zero_n]
          try rfl
      · rw [c7.1 _ _ (by unfold ptk; omega), hw6, wI_at, if_neg (by omega)]
      · rw [c7.1 _ _ (by unfold ptk; omega), hw6, wI_at, if_pos ⟨rfl, rfl⟩]
      · rw [c7.1 _ _ (by unfold ptk; omega), hw6, wI_at, if_neg (by omega), b2, k19]; exact on
    · have qn : ¬ (tkn f n z.2).1 = 37 := q
      rw [if_neg q]
      refine ⟨w6, ?_, chk_trans cp4 (chk_trans b1 c6), tkn_st M6.2.1, by show 1 ≤ 1; omega, by show 1 ≤ 6; omega⟩
      show ee_run ee_B P (d + 1) 200 [.ref 236] w = some ([.int (Int32.ofNat 1)], w6)
      rw [k_1, rn_200 mz_0]
      by_cases s1 : s ≤ 1
      · have ha := ha s1
        rw [decide_eq_false c2] at ha
        rw [if_pos s1] at hw1
        simp only [so, nlt, le1, s1, ho, ha, h12, xt, tt, hcnt, q24, c3n, w_opf, w_opa, ← hw1, ← hw2, r3, u12, ea, em, ex, xX, tX, ← hw4, r5, x12, z5, ec, ← hw6, q59, qn, mz_t, mz_ts, bd_200, k_0, k_1, k_24, k_3, k_4, k_59, k_6, nz_1, nz_24, nz_3, nz_4, nz_59, nz_6, v_and, v_bin, v_call, v_cmp, v_cons, v_get, v_idx, v_int, v_loc, v_nil, v_z, w_exp0, w_exp1, w_if, w_opa, w_opf, w_put, w_ret, w_seq, w_set, w_skip, w_sto, List.getElem?_cons_zero, List.getElem?_cons_succ, List.set_cons_zero, List.set_cons_succ, ee_cmp0, ee_cmp1, ee_cmp2, ee_cmp3, ee_cmp4, ee_cmp5, ee_cmpL0, ee_cmpL1, ee_cmpL2, ee_cmpL3, ee_cmpL4, ee_cmpL5, ee_tru_eb, decide_eq_true_eq, ib_i, ie_b, ie_f, ie_t, ib_l, fin_i, fin_l, fin_v, fin_z, fin_a, fin_n, ee_b_0, ee_fld0, ee_fld1, ee_fld2, ee_fld3, bi_0, bi_1, bi_2, bi_3, bi_4, bi_5, bi_6, bi_7, bi_8, bi_9, bi_10, bl_20, bl_21, bl_22, bl_23, bl_24, bl_25, bl_26, bl_48, bl_49, un_0, un_1, un_2, un_3, if_true, if_false, ite_true, ite_false, Bool.false_eq_true, Bool.not_eq_false, decide_not, Bool.not_not, reduceCtorEq, st_i, st_l, st_r, st_n, ee_noL, ee_noL.eq_1, List.length_cons, List.length_nil, Nat.reduceAdd, Nat.reduceLT, Nat.zero_add, and_true, true_and, and_self, fin_ite, pu_0, pu_1, pu_3, sto_0, el_0, Bool.not_eq_true, decide_eq_false_iff_not, Bool.decide_eq_true, Bool.decide_eq_false, decide_true, decide_false, Bool.not_true, Bool.not_false, Bool.and_self, Bool.and_true, Bool.and_false, Bool.true_and, Bool.false_and, Bool.or_true, Bool.or_false, Bool.true_or, Bool.false_or, if_true, if_false, Bool.false_eq_true, ix_0, ix_1, ix_24, ix_3, ix_4, ix_59, ix_6, tc_0, tc_1, tc_24, tc_3, tc_4, tc_59, tc_6, mz_0, mz_1, mz_a, rvs, j_s, j_a, wI_at, Nat.reduceEqDiff, zero_ne_one_n, one_ne_zero_n]
        try rfl
      · rw [if_neg s1] at hw1
        rw [hw1] at hw2
        simp only [so, nlt, le1, s1, h12, xt, tt, hcnt, q24, c3n, w_opa, ← hw2, r3, u12, ea, em, ex, xX, tX, ← hw4, r5, x12, z5, ec, ← hw6, q59, qn, mz_t, mz_ts, bd_200, k_0, k_1, k_24, k_3, k_4, k_59, k_6, nz_1, nz_24, nz_3, nz_4, nz_59, nz_6, v_and, v_bin, v_call, v_cmp, v_cons, v_get, v_idx, v_int, v_loc, v_nil, v_z, w_exp0, w_exp1, w_if, w_opa, w_opf, w_put, w_ret, w_seq, w_set, w_skip, w_sto, List.getElem?_cons_zero, List.getElem?_cons_succ, List.set_cons_zero, List.set_cons_succ, ee_cmp0, ee_cmp1, ee_cmp2, ee_cmp3, ee_cmp4, ee_cmp5, ee_cmpL0, ee_cmpL1, ee_cmpL2, ee_cmpL3, ee_cmpL4, ee_cmpL5, ee_tru_eb, decide_eq_true_eq, ib_i, ie_b, ie_f, ie_t, ib_l, fin_i, fin_l, fin_v, fin_z, fin_a, fin_n, ee_b_0, ee_fld0, ee_fld1, ee_fld2, ee_fld3, bi_0, bi_1, bi_2, bi_3, bi_4, bi_5, bi_6, bi_7, bi_8, bi_9, bi_10, bl_20, bl_21, bl_22, bl_23, bl_24, bl_25, bl_26, bl_48, bl_49, un_0, un_1, un_2, un_3, if_true, if_false, ite_true, ite_false, Bool.false_eq_true, Bool.not_eq_false, decide_not, Bool.not_not, reduceCtorEq, st_i, st_l, st_r, st_n, ee_noL, ee_noL.eq_1, List.length_cons, List.length_nil, Nat.reduceAdd, Nat.reduceLT, Nat.zero_add, and_true, true_and, and_self, fin_ite, pu_0, pu_1, pu_3, sto_0, el_0, Bool.not_eq_true, decide_eq_false_iff_not, Bool.decide_eq_true, Bool.decide_eq_false, decide_true, decide_false, Bool.not_true, Bool.not_false, Bool.and_self, Bool.and_true, Bool.and_false, Bool.true_and, Bool.false_and, Bool.or_true, Bool.or_false, Bool.true_or, Bool.false_or, if_true, if_false, Bool.false_eq_true, ix_0, ix_1, ix_24, ix_3, ix_4, ix_59, ix_6, tc_0, tc_1, tc_24, tc_3, tc_4, tc_59, tc_6, mz_0, mz_1, mz_a, rvs, j_s, j_a, wI_at, Nat.reduceEqDiff, zero_ne_one_n, one_ne_zero_n]
        try rfl
theorem m_tloop (hd : 12 ≤ d) (hb : ∀ i, i < n → bI (f i) 0 255) (hE : TKE f n c) (hF : 3700 ≤ F) : ∀ G T i w W v, c - i < G → MC w n f i t W → i ≤ c → MQW w t W T → w.1 236 19 = Int32.ofNat (onc T) →
    ∃ w' v', ee_wh (ee_turn (ee_ev es_sh es_rf (ee_run ee_B P d) lx_194_1) (ee_evS es_sh es_rf (ee_run ee_B P d) lb_194_1)) ([some (.ref 236), v], w) = some (if islc (rdt (kkf f n) (vvf f n) F G T i) = true then .inl ([some (.ref 236), v'], w') else .inr ([.int (Int32.ofNat (fcr (rdt (kkf f n) (vvf f n) F G T i)))], w')) ∧ MCS w w' n f t (rdt (kkf f n) (vvf f n) F G T i) := by
  intro G
  induction G with
  | zero => intro T i w W v h; omega
  | succ G ih =>
    intro T i w W v hG h hi hQ ho
    have q0 : (w.1 236 9 = 0) = ((tkn f n i).1 = 39) := mq_0 h.2.1
    rw [rdt_s]
    by_cases q : kkf f n i = 39
    · have qt : ((tkn f n i).1 = 39) = True := eq_true q
      rw [if_pos q]
      refine ⟨w, v, ?_, chk_refl _ _, W, h, hQ, ho⟩
      rw [show islc (.inl (T, i) : CR) = true from rfl, if_pos rfl]
      have tt : ee_turn (ee_ev es_sh es_rf (ee_run ee_B P d) lx_194_1) (ee_evS es_sh es_rf (ee_run ee_B P d) lb_194_1) ([some (.ref 236), v], w) = some (.inr (.inl ([some (.ref 236), v], w))) := by
        simp only [q0, qt, lx_194_1, lb_194_1, ee_turn, k_0, k_681, nz_681, v_bin, v_call, v_cons, v_get, v_idx, v_int, v_loc, v_nil, v_z, w_exp0, w_exp1, w_if, w_put, w_ret, w_seq, w_set, w_skip, w_sto, List.getElem?_cons_zero, List.getElem?_cons_succ, List.set_cons_zero, List.set_cons_succ, ee_cmp0, ee_cmp1, ee_cmp2, ee_cmp3, ee_cmp4, ee_cmp5, ee_cmpL0, ee_cmpL1, ee_cmpL2, ee_cmpL3, ee_cmpL4, ee_cmpL5, ee_tru_eb, decide_eq_true_eq, ib_i, ie_b, ie_f, ie_t, ib_l, fin_i, fin_l, fin_v, fin_z, fin_a, fin_n, ee_b_0, ee_fld0, ee_fld1, ee_fld2, ee_fld3, bi_0, bi_1, bi_2, bi_3, bi_4, bi_5, bi_6, bi_7, bi_8, bi_9, bi_10, bl_20, bl_21, bl_22, bl_23, bl_24, bl_25, bl_26, bl_48, bl_49, un_0, un_1, un_2, un_3, if_true, if_false, ite_true, ite_false, Bool.false_eq_true, Bool.not_eq_false, decide_not, Bool.not_not, reduceCtorEq, st_i, st_l, st_r, st_n, ee_noL, ee_noL.eq_1, List.length_cons, List.length_nil, Nat.reduceAdd, Nat.reduceLT, Nat.zero_add, and_true, true_and, and_self, fin_ite, pu_0, pu_1, pu_3, sto_0, el_0, Bool.not_eq_true, decide_eq_false_iff_not, Bool.decide_eq_true, Bool.decide_eq_false, decide_true, decide_false, Bool.not_true, Bool.not_false, Bool.and_self, Bool.and_true, Bool.and_false, Bool.true_and, Bool.false_and, Bool.or_true, Bool.or_false, Bool.true_or, Bool.false_or, if_true, if_false, Bool.false_eq_true, tc_0, ix_0, tc_681, ix_681, mz_0, mz_1, mz_a, rvs, j_s, j_a, wI_at, Nat.reduceEqDiff, zero_ne_one_n, one_ne_zero_n]
      rw [ee_wh_eq, tt]
    · have qn : ¬ (tkn f n i).1 = 39 := q
      rw [if_neg q]
      obtain ⟨w1, g1, g2⟩ := m_clause (P := P) (d := d) hd hb hE hF h hi hQ ho
      cases hr : cls (kkf f n) (vvf f n) F T i with
      | inr y =>
        rw [hr] at g1 g2
        have g1 : ee_run ee_B P d 200 [.ref 236] w = some ([.int (Int32.ofNat y.1)], w1) := g1
        have ny : ¬ Int32.ofNat y.1 = 0 := fun z => by
          have := g2.2.2.1
          have := g2.2.2.2
          have := (kq (m := 0) (by omega) (by omega)).mp z
          omega
        refine ⟨w1, v, ?_, g2⟩
        dsimp only
        rw [show islc (.inr y : CR) = false from rfl, if_neg (by decide), show fcr (.inr y) = y.1 from rfl]
        have tt : ee_turn (ee_ev es_sh es_rf (ee_run ee_B P d) lx_194_1) (ee_evS es_sh es_rf (ee_run ee_B P d) lb_194_1) ([some (.ref 236), v], w) = some (.inr (.inr ([.int (Int32.ofNat y.1)], w1))) := by
          simp only [q0, qn, g1, ny, lx_194_1, lb_194_1, ee_turn, k_0, k_681, nz_681, v_bin, v_call, v_cons, v_get, v_idx, v_int, v_loc, v_nil, v_z, w_exp0, w_exp1, w_if, w_put, w_ret, w_seq, w_set, w_skip, w_sto, List.getElem?_cons_zero, List.getElem?_cons_succ, List.set_cons_zero, List.set_cons_succ, ee_cmp0, ee_cmp1, ee_cmp2, ee_cmp3, ee_cmp4, ee_cmp5, ee_cmpL0, ee_cmpL1, ee_cmpL2, ee_cmpL3, ee_cmpL4, ee_cmpL5, ee_tru_eb, decide_eq_true_eq, ib_i, ie_b, ie_f, ie_t, ib_l, fin_i, fin_l, fin_v, fin_z, fin_a, fin_n, ee_b_0, ee_fld0, ee_fld1, ee_fld2, ee_fld3, bi_0, bi_1, bi_2, bi_3, bi_4, bi_5, bi_6, bi_7, bi_8, bi_9, bi_10, bl_20, bl_21, bl_22, bl_23, bl_24, bl_25, bl_26, bl_48, bl_49, un_0, un_1, un_2, un_3, if_true, if_false, ite_true, ite_false, Bool.false_eq_true, Bool.not_eq_false, decide_not, Bool.not_not, reduceCtorEq, st_i, st_l, st_r, st_n, ee_noL, ee_noL.eq_1, List.length_cons, List.length_nil, Nat.reduceAdd, Nat.reduceLT, Nat.zero_add, and_true, true_and, and_self, fin_ite, pu_0, pu_1, pu_3, sto_0, el_0, Bool.not_eq_true, decide_eq_false_iff_not, Bool.decide_eq_true, Bool.decide_eq_false, decide_true, decide_false, Bool.not_true, Bool.not_false, Bool.and_self, Bool.and_true, Bool.and_false, Bool.true_and, Bool.false_and, Bool.or_true, Bool.or_false, Bool.true_or, Bool.false_or, if_true, if_false, Bool.false_eq_true, tc_0, ix_0, tc_681, ix_681, mz_0, mz_1, mz_a, rvs, j_s, j_a, wI_at, Nat.reduceEqDiff, zero_ne_one_n, one_ne_zero_n]
        rw [ee_wh_eq, tt]
      | inl z =>
        rw [hr] at g1 g2
        have g1 : ee_run ee_B P d 200 [.ref 236] w = some ([.int 0], w1) := g1
        obtain ⟨g2, W1, g3, g4, g5⟩ := g2
        obtain ⟨z1, z2⟩ := cls_lt hE.2 hi hr
        obtain ⟨w2, v2, k1, k2, k3⟩ := ih z.1 z.2 w1 W1 (some (.int 0)) (by omega) g3 z2 g4 g5
        refine ⟨w2, v2, ?_, chk_trans g2 k2, k3⟩
        have tt : ee_turn (ee_ev es_sh es_rf (ee_run ee_B P d) lx_194_1) (ee_evS es_sh es_rf (ee_run ee_B P d) lb_194_1) ([some (.ref 236), v], w) = some (.inl ([some (.ref 236), some (.int 0)], w1)) := by
          simp only [q0, qn, g1, lx_194_1, lb_194_1, ee_turn, k_0, k_681, nz_681, v_bin, v_call, v_cons, v_get, v_idx, v_int, v_loc, v_nil, v_z, w_exp0, w_exp1, w_if, w_put, w_ret, w_seq, w_set, w_skip, w_sto, List.getElem?_cons_zero, List.getElem?_cons_succ, List.set_cons_zero, List.set_cons_succ, ee_cmp0, ee_cmp1, ee_cmp2, ee_cmp3, ee_cmp4, ee_cmp5, ee_cmpL0, ee_cmpL1, ee_cmpL2, ee_cmpL3, ee_cmpL4, ee_cmpL5, ee_tru_eb, decide_eq_true_eq, ib_i, ie_b, ie_f, ie_t, ib_l, fin_i, fin_l, fin_v, fin_z, fin_a, fin_n, ee_b_0, ee_fld0, ee_fld1, ee_fld2, ee_fld3, bi_0, bi_1, bi_2, bi_3, bi_4, bi_5, bi_6, bi_7, bi_8, bi_9, bi_10, bl_20, bl_21, bl_22, bl_23, bl_24, bl_25, bl_26, bl_48, bl_49, un_0, un_1, un_2, un_3, if_true, if_false, ite_true, ite_false, Bool.false_eq_true, Bool.not_eq_false, decide_not, Bool.not_not, reduceCtorEq, st_i, st_l, st_r, st_n, ee_noL, ee_noL.eq_1, List.length_cons, List.length_nil, Nat.reduceAdd, Nat.reduceLT, Nat.zero_add, and_true, true_and, and_self, fin_ite, pu_0, pu_1, pu_3, sto_0, el_0, Bool.not_eq_true, decide_eq_false_iff_not, Bool.decide_eq_true, Bool.decide_eq_false, decide_true, decide_false, Bool.not_true, Bool.not_false, Bool.and_self, Bool.and_true, Bool.and_false, Bool.true_and, Bool.false_and, Bool.or_true, Bool.or_false, Bool.true_or, Bool.false_or, if_true, if_false, Bool.false_eq_true, tc_0, ix_0, tc_681, ix_681, mz_0, mz_1, mz_a, rvs, j_s, j_a, wI_at, Nat.reduceEqDiff, zero_ne_one_n, one_ne_zero_n]
        rw [ee_wh_eq, tt]
        exact k1
theorem m_readText (hd : 13 ≤ d) (hT : MTAP w n f) (hb : ∀ i, i < n → bI (f i) 0 255) (hE : TKE f n c) (hF : 3700 ≤ F) (ht : t < 4) (h0 : w.1 237 0 = Int32.ofNat t) : ∃ w', ee_run ee_B P d 194 [.ref 236] w = some ([.int (Int32.ofNat (fcr (rdt (kkf f n) (vvf f n) F (c + 1) TX0 0)))], w') ∧ MCS w w' n f t (rdt (kkf f n) (vvf f n) F (c + 1) TX0 0) := by
  obtain ⟨d, rfl⟩ : ∃ k, d = k + 1 := ⟨d - 1, by omega⟩
  have hd2 : 2 ≤ d := by omega
  have em : (681 : Int32) * Int32.ofNat t = Int32.ofNat (681 * t) := j_m 681 t
  have xt : ee_ix (Int32.ofNat (681 * t)) 2724 = true := by rw [ixn (by omega)]; exact decide_eq_true (by omega)
  have tt := tnc (n := 681 * t) (by omega)
  obtain ⟨w0, hw0⟩ : ∃ w0, w0 = ee_wI w 236 12 (Int32.ofNat (681 * t)) := ⟨_, rfl⟩
  have v12 : w0.1 236 12 = Int32.ofNat (681 * t) := by rw [hw0, wI_at, if_pos ⟨rfl, rfl⟩]
  obtain ⟨w1, hw1⟩ : ∃ w1, w1 = ee_wI (ee_wI (ee_wI (ee_wI w0 239 (681 * t) 0) 236 13 0) 236 19 0) 236 7 0 := ⟨_, rfl⟩
  have o1 : ∀ c k, ¬ (c = 236 ∧ (k = 12 ∨ k = 13 ∨ k = 19 ∨ k = 7)) → ¬ (c = 239 ∧ k = 681 * t) → w1.1 c k = w.1 c k := fun c k h1 h2 => by
    rw [hw1, wI_at, if_neg (by omega), wI_at, if_neg (by omega), wI_at, if_neg (by omega), wI_at, if_neg (by omega), hw0, wI_at, if_neg (by omega)]
  have u1 : w1.2 = w.2 := by rw [hw1, hw0]; rfl
  have cp : chk (pcm t) w w1 := ⟨fun c k hh => by unfold pcm at hh; exact o1 c k (by omega) (by omega), by rw [u1]⟩
  have T1 := MTAP_pc hT cp
  obtain ⟨w2, r2, m2, c2⟩ := m_next (P := P) (p := 0) hd2 T1 hb (by rw [hw1, wI_at, if_pos ⟨rfl, rfl⟩]; rfl) (Nat.zero_le _)
  have M2 : MC w2 n f 0 t 0 := ⟨MTAP_tk T1 c2, m2, ht, by rw [c2.1 _ _ (by unfold ptk; omega), hw1, wI_at, if_neg (by omega), wI_at, if_neg (by omega), wI_at, if_neg (by omega), wI_at, if_neg (by omega)]; exact v12, by rw [c2.1 _ _ (by unfold ptk; omega), hw1, wI_at, if_neg (by omega), wI_at, if_neg (by omega), wI_at, if_pos ⟨rfl, rfl⟩]; rfl, Nat.le_refl _⟩
  have Q2 : MQW w2 t 0 TX0 := ⟨by show 0 ≤ 24; omega, by rw [c2.1 _ _ (by unfold ptk; omega), hw1, wI_at, if_neg (by omega), wI_at, if_neg (by omega), wI_at, if_neg (by omega), wI_at, if_pos ⟨rfl, rfl⟩]; rfl, fun i hi => by have hi : i < 0 := hi; omega, fun k hk => by have hk : k < 0 := hk; omega, fun k hk => by have hk : k < 0 := hk; omega⟩
  have o19 : w2.1 236 19 = Int32.ofNat (onc TX0) := by
    rw [c2.1 _ _ (by unfold ptk; omega), hw1, wI_at, if_neg (by omega), wI_at, if_pos ⟨rfl, rfl⟩]; rfl
  obtain ⟨w3, v3, g1, g2⟩ := m_tloop (P := P) (d := d) (t := t) (by omega) hb hE hF (c + 1) TX0 0 w2 0 none (by omega) M2 (Nat.zero_le _) Q2 o19
  refine ⟨w3, ?_, ?_⟩
  · rw [rn_194 mz_0]
    cases hr : rdt (kkf f n) (vvf f n) F (c + 1) TX0 0 with
    | inl z =>
      rw [hr, show islc (.inl z : CR) = true from rfl, if_pos rfl] at g1
      show _ = some ([Value.int 0], w3)
      simp only [h0, em, ← hw0, v12, xt, tt, ← hw1, r2, w_while, g1, mz_t, mz_ts, be_194, k_0, k_681, nz_681, v_bin, v_call, v_cons, v_get, v_idx, v_int, v_loc, v_nil, v_z, w_exp0, w_exp1, w_if, w_put, w_ret, w_seq, w_set, w_skip, w_sto, List.getElem?_cons_zero, List.getElem?_cons_succ, List.set_cons_zero, List.set_cons_succ, ee_cmp0, ee_cmp1, ee_cmp2, ee_cmp3, ee_cmp4, ee_cmp5, ee_cmpL0, ee_cmpL1, ee_cmpL2, ee_cmpL3, ee_cmpL4, ee_cmpL5, ee_tru_eb, decide_eq_true_eq, ib_i, ie_b, ie_f, ie_t, ib_l, fin_i, fin_l, fin_v, fin_z, fin_a, fin_n, ee_b_0, ee_fld0, ee_fld1, ee_fld2, ee_fld3, bi_0, bi_1, bi_2, bi_3, bi_4, bi_5, bi_6, bi_7, bi_8, bi_9, bi_10, bl_20, bl_21, bl_22, bl_23, bl_24, bl_25, bl_26, bl_48, bl_49, un_0, un_1, un_2, un_3, if_true, if_false, ite_true, ite_false, Bool.false_eq_true, Bool.not_eq_false, decide_not, Bool.not_not, reduceCtorEq, st_i, st_l, st_r, st_n, ee_noL, ee_noL.eq_1, List.length_cons, List.length_nil, Nat.reduceAdd, Nat.reduceLT, Nat.zero_add, and_true, true_and, and_self, fin_ite, pu_0, pu_1, pu_3, sto_0, el_0, Bool.not_eq_true, decide_eq_false_iff_not, Bool.decide_eq_true, Bool.decide_eq_false, decide_true, decide_false, Bool.not_true, Bool.not_false, Bool.and_self, Bool.and_true, Bool.and_false, Bool.true_and, Bool.false_and, Bool.or_true, Bool.or_false, Bool.true_or, Bool.false_or, if_true, if_false, Bool.false_eq_true, ix_0, ix_681, tc_0, tc_681, mz_0, mz_1, mz_a, rvs, j_s, j_a, wI_at, Nat.reduceEqDiff, zero_ne_one_n, one_ne_zero_n]
      try rfl
    | inr y =>
      rw [hr, show islc (.inr y : CR) = false from rfl, if_neg (by decide), show fcr (.inr y) = y.1 from rfl] at g1
      show _ = some ([Value.int (Int32.ofNat y.1)], w3)
      simp only [h0, em, ← hw0, v12, xt, tt, ← hw1, r2, w_while, g1, mz_t, mz_ts, be_194, k_0, k_681, nz_681, v_bin, v_call, v_cons, v_get, v_idx, v_int, v_loc, v_nil, v_z, w_exp0, w_exp1, w_if, w_put, w_ret, w_seq, w_set, w_skip, w_sto, List.getElem?_cons_zero, List.getElem?_cons_succ, List.set_cons_zero, List.set_cons_succ, ee_cmp0, ee_cmp1, ee_cmp2, ee_cmp3, ee_cmp4, ee_cmp5, ee_cmpL0, ee_cmpL1, ee_cmpL2, ee_cmpL3, ee_cmpL4, ee_cmpL5, ee_tru_eb, decide_eq_true_eq, ib_i, ie_b, ie_f, ie_t, ib_l, fin_i, fin_l, fin_v, fin_z, fin_a, fin_n, ee_b_0, ee_fld0, ee_fld1, ee_fld2, ee_fld3, bi_0, bi_1, bi_2, bi_3, bi_4, bi_5, bi_6, bi_7, bi_8, bi_9, bi_10, bl_20, bl_21, bl_22, bl_23, bl_24, bl_25, bl_26, bl_48, bl_49, un_0, un_1, un_2, un_3, if_true, if_false, ite_true, ite_false, Bool.false_eq_true, Bool.not_eq_false, decide_not, Bool.not_not, reduceCtorEq, st_i, st_l, st_r, st_n, ee_noL, ee_noL.eq_1, List.length_cons, List.length_nil, Nat.reduceAdd, Nat.reduceLT, Nat.zero_add, and_true, true_and, and_self, fin_ite, pu_0, pu_1, pu_3, sto_0, el_0, Bool.not_eq_true, decide_eq_false_iff_not, Bool.decide_eq_true, Bool.decide_eq_false, decide_true, decide_false, Bool.not_true, Bool.not_false, Bool.and_self, Bool.and_true, Bool.and_false, Bool.true_and, Bool.false_and, Bool.or_true, Bool.or_false, Bool.true_or, Bool.false_or, if_true, if_false, Bool.false_eq_true, ix_0, ix_681, tc_0, tc_681, mz_0, mz_1, mz_a, rvs, j_s, j_a, wI_at, Nat.reduceEqDiff, zero_ne_one_n, one_ne_zero_n]
      try rfl
  · exact ⟨chk_trans cp (chk_trans (pcm_k c2) g2.1), g2.2⟩
end MTX
