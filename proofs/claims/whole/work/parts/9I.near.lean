/-! nearest, the class's -/
section NRC
variable {P : Nat → Nat → List Value → ee_W → Option (List Value × ee_W)} {d : Nat} {w : ee_W} {Z : ZX} {g : Nat → Nat} {a n m : Nat}
/-- the requests, in numbers -/
def RQ (Z : ZX) (n : Nat) (g : Nat → Nat) : Prop := Z.1.2.2.2.2.1.1 = n ∧ n ≤ 6 ∧ ∀ i, i < n → Z.1.2.2.2.2.1.2 i = Int32.ofNat (g i) ∧ g i < 64
theorem RQ_of (h3 : WZ Z) : ∃ n g, RQ Z n g := by
  obtain ⟨v1, v2⟩ := h3.1.2.2.2.2.1
  refine ⟨_, fun i => (Z.1.2.2.2.2.1.2 i).toInt.toNat, rfl, v1, fun i hi => ?_⟩
  have h := v2 i hi
  unfold bI at h
  exact ⟨ofN h.1, by dsimp only; omega⟩
theorem frm_of (h3 : WZ Z) : ∃ a, a < 64 ∧ frm Z = Int32.ofNat a := by
  have h := frm_b h3
  unfold bI at h
  exact ⟨(frm Z).toInt.toNat, by omega, ofN h.1⟩
theorem c_isNearer (hd : 2 ≤ d) {t u : Nat} (ht : t < 64) (hu : u < 64) (ha : a < 64) : ee_run ee_B P d 160 [.int (Int32.ofNat t), .int (Int32.ofNat u), .int (Int32.ofNat a)] w = some ([.int (ee_b (nlt a t u))], w) := by
  obtain ⟨d, rfl⟩ : ∃ k, d = k + 1 := ⟨d - 1, by omega⟩
  have hd1 : 1 ≤ d := by omega
  have e1 := ndi_c a ha t ht
  have e2 := ndi_c a ha u hu
  have b1 := ndi_b ha ht
  have b2 := ndi_b ha hu
  have l1 : (Int32.ofNat (ndi a t) < Int32.ofNat (ndi a u)) ↔ ndi a t < ndi a u := j_lt (by omega) (by omega)
  have l2 : (Int32.ofNat (ndi a t) = Int32.ofNat (ndi a u)) ↔ ndi a t = ndi a u := by rw [i32_eq, nI_t (by omega), nI_t (by omega)]; omega
  have l3 : (Int32.ofNat t < Int32.ofNat u) ↔ t < u := j_lt (by omega) (by omega)
  unfold nlt
  rw [rn_160]
  by_cases z1 : ndi a t < ndi a u
  · simp only [r_abs hd1, e1, e2, l1, z1, bd_160, v_and, v_bin, v_call, v_cmp, v_cons, v_loc, v_mat, v_nil, v_or, w_ret, w_seq, w_set, List.getElem?_cons_zero, List.getElem?_cons_succ, List.set_cons_zero, List.set_cons_succ, ee_cmp0, ee_cmp1, ee_cmp2, ee_cmp3, ee_cmp4, ee_cmp5, ee_cmpL0, ee_cmpL1, ee_cmpL2, ee_cmpL3, ee_cmpL4, ee_cmpL5, ee_tru_eb, decide_eq_true_eq, ib_i, ie_b, ie_f, ie_t, ib_l, fin_i, fin_l, fin_v, fin_z, fin_a, fin_n, ee_b_0, ee_fld0, ee_fld1, ee_fld2, ee_fld3, bi_0, bi_1, bi_2, bi_3, bi_4, bi_5, bi_6, bi_7, bi_8, bi_9, bi_10, bl_20, bl_21, bl_22, bl_23, bl_24, bl_25, bl_26, bl_48, bl_49, un_0, un_1, un_2, un_3, if_true, if_false, ite_true, ite_false, Bool.false_eq_true, Bool.not_eq_false, decide_not, Bool.not_not, reduceCtorEq, st_i, st_l, st_r, st_n, ee_noL, ee_noL.eq_1, List.length_cons, List.length_nil, Nat.reduceAdd, Nat.reduceLT, Nat.zero_add, and_true, true_and, and_self, fin_ite, pu_0, pu_1, pu_3, sto_0, el_0, Bool.not_eq_true, decide_eq_false_iff_not, Bool.decide_eq_true, Bool.decide_eq_false, decide_true, decide_false, Bool.not_true, Bool.not_false, Bool.and_self, Bool.and_true, Bool.and_false, Bool.true_and, Bool.false_and, Bool.or_true, Bool.or_false, Bool.true_or, Bool.false_or, if_true, if_false, Bool.false_eq_true]
  · by_cases z2 : ndi a t = ndi a u
    · have zt : (ndi a t = ndi a u) = True := eq_true z2
      by_cases z3 : t < u <;> simp only [r_abs hd1, e1, e2, l1, z1, l2, zt, l3, z3, bd_160, v_and, v_bin, v_call, v_cmp, v_cons, v_loc, v_mat, v_nil, v_or, w_ret, w_seq, w_set, List.getElem?_cons_zero, List.getElem?_cons_succ, List.set_cons_zero, List.set_cons_succ, ee_cmp0, ee_cmp1, ee_cmp2, ee_cmp3, ee_cmp4, ee_cmp5, ee_cmpL0, ee_cmpL1, ee_cmpL2, ee_cmpL3, ee_cmpL4, ee_cmpL5, ee_tru_eb, decide_eq_true_eq, ib_i, ie_b, ie_f, ie_t, ib_l, fin_i, fin_l, fin_v, fin_z, fin_a, fin_n, ee_b_0, ee_fld0, ee_fld1, ee_fld2, ee_fld3, bi_0, bi_1, bi_2, bi_3, bi_4, bi_5, bi_6, bi_7, bi_8, bi_9, bi_10, bl_20, bl_21, bl_22, bl_23, bl_24, bl_25, bl_26, bl_48, bl_49, un_0, un_1, un_2, un_3, if_true, if_false, ite_true, ite_false, Bool.false_eq_true, Bool.not_eq_false, decide_not, Bool.not_not, reduceCtorEq, st_i, st_l, st_r, st_n, ee_noL, ee_noL.eq_1, List.length_cons, List.length_nil, Nat.reduceAdd, Nat.reduceLT, Nat.zero_add, and_true, true_and, and_self, fin_ite, pu_0, pu_1, pu_3, sto_0, el_0, Bool.not_eq_true, decide_eq_false_iff_not, Bool.decide_eq_true, Bool.decide_eq_false, decide_true, decide_false, Bool.not_true, Bool.not_false, Bool.and_self, Bool.and_true, Bool.and_false, Bool.true_and, Bool.false_and, Bool.or_true, Bool.or_false, Bool.true_or, Bool.false_or, if_true, if_false, Bool.false_eq_true]
    · simp only [r_abs hd1, e1, e2, l1, z1, l2, z2, bd_160, v_and, v_bin, v_call, v_cmp, v_cons, v_loc, v_mat, v_nil, v_or, w_ret, w_seq, w_set, List.getElem?_cons_zero, List.getElem?_cons_succ, List.set_cons_zero, List.set_cons_succ, ee_cmp0, ee_cmp1, ee_cmp2, ee_cmp3, ee_cmp4, ee_cmp5, ee_cmpL0, ee_cmpL1, ee_cmpL2, ee_cmpL3, ee_cmpL4, ee_cmpL5, ee_tru_eb, decide_eq_true_eq, ib_i, ie_b, ie_f, ie_t, ib_l, fin_i, fin_l, fin_v, fin_z, fin_a, fin_n, ee_b_0, ee_fld0, ee_fld1, ee_fld2, ee_fld3, bi_0, bi_1, bi_2, bi_3, bi_4, bi_5, bi_6, bi_7, bi_8, bi_9, bi_10, bl_20, bl_21, bl_22, bl_23, bl_24, bl_25, bl_26, bl_48, bl_49, un_0, un_1, un_2, un_3, if_true, if_false, ite_true, ite_false, Bool.false_eq_true, Bool.not_eq_false, decide_not, Bool.not_not, reduceCtorEq, st_i, st_l, st_r, st_n, ee_noL, ee_noL.eq_1, List.length_cons, List.length_nil, Nat.reduceAdd, Nat.reduceLT, Nat.zero_add, and_true, true_and, and_self, fin_ite, pu_0, pu_1, pu_3, sto_0, el_0, Bool.not_eq_true, decide_eq_false_iff_not, Bool.decide_eq_true, Bool.decide_eq_false, decide_true, decide_false, Bool.not_true, Bool.not_false, Bool.and_self, Bool.and_true, Bool.and_false, Bool.true_and, Bool.false_and, Bool.or_true, Bool.or_false, Bool.true_or, Bool.false_or, if_true, if_false, Bool.false_eq_true]
def nb (m a : Nat) (g : Nat → Nat) : Nat → Option Nat
  | 0 => none
  | k + 1 => if m.testBit k = true then nb m a g k else match nb m a g k with
    | none => some k
    | some j => if nlt a (g k) (g j) = true then some k else some j
def vb : Option Nat → Int32
  | none => -1
  | some j => Int32.ofNat j
theorem nb_spec (m a : Nat) (g : Nat → Nat) : ∀ k, (nb m a g k = none ∧ ∀ i, i < k → m.testBit i = true) ∨ ∃ j, nb m a g k = some j ∧ j < k ∧ m.testBit j = false ∧ ∀ i, i < k → m.testBit i = false → nle a (g j) (g i) := by
  intro k
  induction k with
  | zero => exact Or.inl ⟨rfl, fun i hi => by omega⟩
  | succ k ih =>
    have e : nb m a g (k + 1) = if m.testBit k = true then nb m a g k else match nb m a g k with
      | none => some k
      | some j => if nlt a (g k) (g j) = true then some k else some j := rfl
    rw [e]
    cases z : m.testBit k
    · rw [if_neg (by decide)]
      rcases ih with ⟨h1, h2⟩ | ⟨j, h1, h2, h3, h4⟩
      · rw [h1]
        refine Or.inr ⟨k, rfl, by omega, z, fun i hi hb => ?_⟩
        by_cases y : i = k
        · rw [y]; exact nle_rf _ _
        · rw [h2 i (by omega)] at hb; cases hb
      · rw [h1]
        dsimp only
        cases q : nlt a (g k) (g j)
        · rw [if_neg (by decide)]
          refine Or.inr ⟨j, rfl, by omega, h3, fun i hi hb => ?_⟩
          by_cases y : i = k
          · rw [y]; exact nlt_f q
          · exact h4 i (by omega) hb
        · rw [if_pos rfl]
          refine Or.inr ⟨k, rfl, by omega, z, fun i hi hb => ?_⟩
          by_cases y : i = k
          · rw [y]; exact nle_rf _ _
          · refine nle_tr ?_ (h4 i (by omega) hb)
            have := nlt_t.1 q
            unfold nle
            omega
    · rw [if_pos rfl]
      rcases ih with ⟨h1, h2⟩ | ⟨j, h1, h2, h3, h4⟩
      · refine Or.inl ⟨h1, fun i hi => ?_⟩
        by_cases y : i = k
        · rw [y]; exact z
        · exact h2 i (by omega)
      · refine Or.inr ⟨j, h1, by omega, h3, fun i hi hb => ?_⟩
        by_cases y : i = k
        · rw [y, z] at hb; cases hb
        · exact h4 i (by omega) hb
theorem c_nearestOf (hd : 3 ≤ d) (h1 : CZ w Z) (hq : RQ Z n g) (ha : a < 64) (hm : m < 64) : ee_run ee_B P d 159 [.ref 0, .int (Int32.ofNat a), .int (Int32.ofNat m)] w = some ([.int (vb (nb m a g n))], w) := by
  obtain ⟨d, rfl⟩ : ∃ k, d = k + 1 := ⟨d - 1, by omega⟩
  have hd2 : 2 ≤ d := by omega
  obtain ⟨p0, p1, p2, p3, p4, p5, p6, p7, p8, -⟩ := al_1
  obtain ⟨q1, q2, q3⟩ := hq
  have e7 : w.1 1 7 = Int32.ofNat n := by rw [← q1]; exact h1.1.2.2.2.1.2.2.2.2.1
  have r6 : ∀ i, i < n → w.1 98 i = Int32.ofNat (g i) := fun i hi => (h1.1.2.2.2.1.2.2.2.2.2.1 i (by omega)).trans (q3 i hi).1
  have hl := for_q (w := w) (x := ee_ev es_sh es_rf (ee_run ee_B P d) lx_159_1) (b := ee_evS es_sh es_rf (ee_run ee_B P d) lb_159_1)
    (fun k => [some (.ref 0), some (.int (Int32.ofNat a)), some (.int (Int32.ofNat m)), some (.int (vb (nb m a g k))), some (.int (Int32.ofNat k))]) n
    (by
      intro k hk
      have h9 : Int32.ofNat k < Int32.ofNat n := (j_lt (by omega) (by omega)).2 hk
      have h8 : Int32.ofNat k < 6 := (j_lt (b := 6) (by omega) (by omega)).2 (by omega)
      have x1 : ee_ix (Int32.ofNat k) 6 = true := by rw [ixn (by omega)]; exact decide_eq_true (by omega)
      have v := r6 k hk
      have gk := (q3 k hk).2
      have hb := bit_c m hm k (by omega)
      have e : nb m a g (k + 1) = if m.testBit k = true then nb m a g k else match nb m a g k with
        | none => some k
        | some j => if nlt a (g k) (g j) = true then some k else some j := rfl
      cases z : m.testBit k
      · have hb1 := hb.2 z
        rw [z, if_neg (by decide)] at e
        rcases nb_spec m a g k with ⟨t1, -⟩ | ⟨j, t1, t2, -, -⟩
        · rw [t1] at e
          dsimp only at e
          simp only [h9, h8, e7, x1, v, hb1, t1, e, vb, tnc (show k < 2147483648 by omega), j_s, j_a, cz_0, cz_r0, p0, p4, p8, rvs, lx_159_1, lb_159_1, ee_turn, k_0, k_1, k_4294967295, k_6, nz_1, nz_6, v_and, v_bin, v_call, v_cmp, v_cons, v_get, v_idx, v_int, v_loc, v_nil, v_or, v_z, w_if, w_inc, w_ret, w_seq, w_set, w_skip, List.getElem?_cons_zero, List.getElem?_cons_succ, List.set_cons_zero, List.set_cons_succ, ee_cmp0, ee_cmp1, ee_cmp2, ee_cmp3, ee_cmp4, ee_cmp5, ee_cmpL0, ee_cmpL1, ee_cmpL2, ee_cmpL3, ee_cmpL4, ee_cmpL5, ee_tru_eb, decide_eq_true_eq, ib_i, ie_b, ie_f, ie_t, ib_l, fin_i, fin_l, fin_v, fin_z, fin_a, fin_n, ee_b_0, ee_fld0, ee_fld1, ee_fld2, ee_fld3, bi_0, bi_1, bi_2, bi_3, bi_4, bi_5, bi_6, bi_7, bi_8, bi_9, bi_10, bl_20, bl_21, bl_22, bl_23, bl_24, bl_25, bl_26, bl_48, bl_49, un_0, un_1, un_2, un_3, if_true, if_false, ite_true, ite_false, Bool.false_eq_true, Bool.not_eq_false, decide_not, Bool.not_not, reduceCtorEq, st_i, st_l, st_r, st_n, ee_noL, ee_noL.eq_1, List.length_cons, List.length_nil, Nat.reduceAdd, Nat.reduceLT, Nat.zero_add, and_true, true_and, and_self, fin_ite, pu_0, pu_1, pu_3, sto_0, el_0, Bool.not_eq_true, decide_eq_false_iff_not, Bool.decide_eq_true, Bool.decide_eq_false, decide_true, decide_false, Bool.not_true, Bool.not_false, Bool.and_self, Bool.and_true, Bool.and_false, Bool.true_and, Bool.false_and, Bool.or_true, Bool.or_false, Bool.true_or, Bool.false_or, if_true, if_false, Bool.false_eq_true]
        · rw [t1] at e
          dsimp only at e
          have x2 : ee_ix (Int32.ofNat j) 6 = true := by rw [ixn (by omega)]; exact decide_eq_true (by omega)
          have v2 := r6 j (by omega)
          have nj : ¬ Int32.ofNat j = -1 := ofN_ne (by omega)
          have hn := c_isNearer (P := P) (w := w) hd2 gk (q3 j (by omega)).2 ha
          cases y : nlt a (g k) (g j)
          · rw [y, if_neg (by decide)] at e
            rw [y] at hn
            simp only [h9, h8, e7, x1, x2, v, v2, nj, hn, hb1, t1, e, vb, tnc (show k < 2147483648 by omega), tnc (show j < 2147483648 by omega), j_s, j_a, cz_0, cz_r0, p0, p4, p8, rvs, lx_159_1, lb_159_1, ee_turn, k_0, k_1, k_4294967295, k_6, nz_1, nz_6, v_and, v_bin, v_call, v_cmp, v_cons, v_get, v_idx, v_int, v_loc, v_nil, v_or, v_z, w_if, w_inc, w_ret, w_seq, w_set, w_skip, List.getElem?_cons_zero, List.getElem?_cons_succ, List.set_cons_zero, List.set_cons_succ, ee_cmp0, ee_cmp1, ee_cmp2, ee_cmp3, ee_cmp4, ee_cmp5, ee_cmpL0, ee_cmpL1, ee_cmpL2, ee_cmpL3, ee_cmpL4, ee_cmpL5, ee_tru_eb, decide_eq_true_eq, ib_i, ie_b, ie_f, ie_t, ib_l, fin_i, fin_l, fin_v, fin_z, fin_a, fin_n, ee_b_0, ee_fld0, ee_fld1, ee_fld2, ee_fld3, bi_0, bi_1, bi_2, bi_3, bi_4, bi_5, bi_6, bi_7, bi_8, bi_9, bi_10, bl_20, bl_21, bl_22, bl_23, bl_24, bl_25, bl_26, bl_48, bl_49, un_0, un_1, un_2, un_3, if_true, if_false, ite_true, ite_false, Bool.false_eq_true, Bool.not_eq_false, decide_not, Bool.not_not, reduceCtorEq, st_i, st_l, st_r, st_n, ee_noL, ee_noL.eq_1, List.length_cons, List.length_nil, Nat.reduceAdd, Nat.reduceLT, Nat.zero_add, and_true, true_and, and_self, fin_ite, pu_0, pu_1, pu_3, sto_0, el_0, Bool.not_eq_true, decide_eq_false_iff_not, Bool.decide_eq_true, Bool.decide_eq_false, decide_true, decide_false, Bool.not_true, Bool.not_false, Bool.and_self, Bool.and_true, Bool.and_false, Bool.true_and, Bool.false_and, Bool.or_true, Bool.or_false, Bool.true_or, Bool.false_or, if_true, if_false, Bool.false_eq_true]
          · rw [y, if_pos rfl] at e
            rw [y] at hn
            simp only [h9, h8, e7, x1, x2, v, v2, nj, hn, hb1, t1, e, vb, tnc (show k < 2147483648 by omega), tnc (show j < 2147483648 by omega), j_s, j_a, cz_0, cz_r0, p0, p4, p8, rvs, lx_159_1, lb_159_1, ee_turn, k_0, k_1, k_4294967295, k_6, nz_1, nz_6, v_and, v_bin, v_call, v_cmp, v_cons, v_get, v_idx, v_int, v_loc, v_nil, v_or, v_z, w_if, w_inc, w_ret, w_seq, w_set, w_skip, List.getElem?_cons_zero, List.getElem?_cons_succ, List.set_cons_zero, List.set_cons_succ, ee_cmp0, ee_cmp1, ee_cmp2, ee_cmp3, ee_cmp4, ee_cmp5, ee_cmpL0, ee_cmpL1, ee_cmpL2, ee_cmpL3, ee_cmpL4, ee_cmpL5, ee_tru_eb, decide_eq_true_eq, ib_i, ie_b, ie_f, ie_t, ib_l, fin_i, fin_l, fin_v, fin_z, fin_a, fin_n, ee_b_0, ee_fld0, ee_fld1, ee_fld2, ee_fld3, bi_0, bi_1, bi_2, bi_3, bi_4, bi_5, bi_6, bi_7, bi_8, bi_9, bi_10, bl_20, bl_21, bl_22, bl_23, bl_24, bl_25, bl_26, bl_48, bl_49, un_0, un_1, un_2, un_3, if_true, if_false, ite_true, ite_false, Bool.false_eq_true, Bool.not_eq_false, decide_not, Bool.not_not, reduceCtorEq, st_i, st_l, st_r, st_n, ee_noL, ee_noL.eq_1, List.length_cons, List.length_nil, Nat.reduceAdd, Nat.reduceLT, Nat.zero_add, and_true, true_and, and_self, fin_ite, pu_0, pu_1, pu_3, sto_0, el_0, Bool.not_eq_true, decide_eq_false_iff_not, Bool.decide_eq_true, Bool.decide_eq_false, decide_true, decide_false, Bool.not_true, Bool.not_false, Bool.and_self, Bool.and_true, Bool.and_false, Bool.true_and, Bool.false_and, Bool.or_true, Bool.or_false, Bool.true_or, Bool.false_or, if_true, if_false, Bool.false_eq_true]
      · have hb1 : ¬ _ := fun q => by have := hb.1 q; rw [z] at this; cases this
        rw [z, if_pos rfl] at e
        simp only [h9, h8, e7, hb1, e, j_s, j_a, cz_0, cz_r0, p0, p8, rvs, lx_159_1, lb_159_1, ee_turn, k_0, k_1, k_4294967295, k_6, nz_1, nz_6, v_and, v_bin, v_call, v_cmp, v_cons, v_get, v_idx, v_int, v_loc, v_nil, v_or, v_z, w_if, w_inc, w_ret, w_seq, w_set, w_skip, List.getElem?_cons_zero, List.getElem?_cons_succ, List.set_cons_zero, List.set_cons_succ, ee_cmp0, ee_cmp1, ee_cmp2, ee_cmp3, ee_cmp4, ee_cmp5, ee_cmpL0, ee_cmpL1, ee_cmpL2, ee_cmpL3, ee_cmpL4, ee_cmpL5, ee_tru_eb, decide_eq_true_eq, ib_i, ie_b, ie_f, ie_t, ib_l, fin_i, fin_l, fin_v, fin_z, fin_a, fin_n, ee_b_0, ee_fld0, ee_fld1, ee_fld2, ee_fld3, bi_0, bi_1, bi_2, bi_3, bi_4, bi_5, bi_6, bi_7, bi_8, bi_9, bi_10, bl_20, bl_21, bl_22, bl_23, bl_24, bl_25, bl_26, bl_48, bl_49, un_0, un_1, un_2, un_3, if_true, if_false, ite_true, ite_false, Bool.false_eq_true, Bool.not_eq_false, decide_not, Bool.not_not, reduceCtorEq, st_i, st_l, st_r, st_n, ee_noL, ee_noL.eq_1, List.length_cons, List.length_nil, Nat.reduceAdd, Nat.reduceLT, Nat.zero_add, and_true, true_and, and_self, fin_ite, pu_0, pu_1, pu_3, sto_0, el_0, Bool.not_eq_true, decide_eq_false_iff_not, Bool.decide_eq_true, Bool.decide_eq_false, decide_true, decide_false, Bool.not_true, Bool.not_false, Bool.and_self, Bool.and_true, Bool.and_false, Bool.true_and, Bool.false_and, Bool.or_true, Bool.or_false, Bool.true_or, Bool.false_or, if_true, if_false, Bool.false_eq_true])
    (by
      have h9 : ¬ Int32.ofNat n < Int32.ofNat n := fun y => by have := (j_lt (by omega) (by omega)).1 y; omega
      simp only [h9, e7, cz_0, cz_r0, p0, rvs, lx_159_1, lb_159_1, ee_turn, k_0, k_1, k_4294967295, k_6, nz_1, nz_6, v_and, v_bin, v_call, v_cmp, v_cons, v_get, v_idx, v_int, v_loc, v_nil, v_or, v_z, w_if, w_inc, w_ret, w_seq, w_set, w_skip, List.getElem?_cons_zero, List.getElem?_cons_succ, List.set_cons_zero, List.set_cons_succ, ee_cmp0, ee_cmp1, ee_cmp2, ee_cmp3, ee_cmp4, ee_cmp5, ee_cmpL0, ee_cmpL1, ee_cmpL2, ee_cmpL3, ee_cmpL4, ee_cmpL5, ee_tru_eb, decide_eq_true_eq, ib_i, ie_b, ie_f, ie_t, ib_l, fin_i, fin_l, fin_v, fin_z, fin_a, fin_n, ee_b_0, ee_fld0, ee_fld1, ee_fld2, ee_fld3, bi_0, bi_1, bi_2, bi_3, bi_4, bi_5, bi_6, bi_7, bi_8, bi_9, bi_10, bl_20, bl_21, bl_22, bl_23, bl_24, bl_25, bl_26, bl_48, bl_49, un_0, un_1, un_2, un_3, if_true, if_false, ite_true, ite_false, Bool.false_eq_true, Bool.not_eq_false, decide_not, Bool.not_not, reduceCtorEq, st_i, st_l, st_r, st_n, ee_noL, ee_noL.eq_1, List.length_cons, List.length_nil, Nat.reduceAdd, Nat.reduceLT, Nat.zero_add, and_true, true_and, and_self, fin_ite, pu_0, pu_1, pu_3, sto_0, el_0, Bool.not_eq_true, decide_eq_false_iff_not, Bool.decide_eq_true, Bool.decide_eq_false, decide_true, decide_false, Bool.not_true, Bool.not_false, Bool.and_self, Bool.and_true, Bool.and_false, Bool.true_and, Bool.false_and, Bool.or_true, Bool.or_false, Bool.true_or, Bool.false_or, if_true, if_false, Bool.false_eq_true])
  rw [k_0, show vb (nb m a g 0) = -1 from rfl] at hl
  rw [rn_159 cz_0]
  simp only [w_while, hl, be_159, k_0, k_1, k_4294967295, k_6, nz_1, nz_6, v_and, v_bin, v_call, v_cmp, v_cons, v_get, v_idx, v_int, v_loc, v_nil, v_or, v_z, w_if, w_inc, w_ret, w_seq, w_set, w_skip, List.getElem?_cons_zero, List.getElem?_cons_succ, List.set_cons_zero, List.set_cons_succ, ee_cmp0, ee_cmp1, ee_cmp2, ee_cmp3, ee_cmp4, ee_cmp5, ee_cmpL0, ee_cmpL1, ee_cmpL2, ee_cmpL3, ee_cmpL4, ee_cmpL5, ee_tru_eb, decide_eq_true_eq, ib_i, ie_b, ie_f, ie_t, ib_l, fin_i, fin_l, fin_v, fin_z, fin_a, fin_n, ee_b_0, ee_fld0, ee_fld1, ee_fld2, ee_fld3, bi_0, bi_1, bi_2, bi_3, bi_4, bi_5, bi_6, bi_7, bi_8, bi_9, bi_10, bl_20, bl_21, bl_22, bl_23, bl_24, bl_25, bl_26, bl_48, bl_49, un_0, un_1, un_2, un_3, if_true, if_false, ite_true, ite_false, Bool.false_eq_true, Bool.not_eq_false, decide_not, Bool.not_not, reduceCtorEq, st_i, st_l, st_r, st_n, ee_noL, ee_noL.eq_1, List.length_cons, List.length_nil, Nat.reduceAdd, Nat.reduceLT, Nat.zero_add, and_true, true_and, and_self, fin_ite, pu_0, pu_1, pu_3, sto_0, el_0, Bool.not_eq_true, decide_eq_false_iff_not, Bool.decide_eq_true, Bool.decide_eq_false, decide_true, decide_false, Bool.not_true, Bool.not_false, Bool.and_self, Bool.and_true, Bool.and_false, Bool.true_and, Bool.false_and, Bool.or_true, Bool.or_false, Bool.true_or, Bool.false_or, if_true, if_false, Bool.false_eq_true]
/-- what is left, by the mask -/
def cu (g : Nat → Nat) (n m : Nat) : Nat → Nat := fun t => cn (fun i => !m.testBit i && decide (g i = t)) n
theorem cu_off {j : Nat} (hj : j < n) (hb : m.testBit j = false) : cu g n (m ||| 2 ^ j) = off1 (cu g n m) (g j) := by
  funext t
  unfold off1 cu
  rw [cn_at (p := fun i => !m.testBit i && decide (g i = t)) n hj]
  have e : cn (fun i => !(m ||| 2 ^ j).testBit i && decide (g i = t)) n = cn (fun i => !decide (i = j) && (!m.testBit i && decide (g i = t))) n := by
    refine cn_congr n (fun i _ => ?_)
    rw [bit_t]
    by_cases y : i = j
    · subst y; simp
    · rw [decide_eq_false (show ¬ j = i by omega), decide_eq_false y]; simp
  rw [e]
  by_cases y : t = g j
  · rw [if_pos y, if_pos (by rw [hb, decide_eq_true y.symm]; rfl)]
    omega
  · rw [if_neg y, if_neg (by rw [hb, decide_eq_false (fun z => y z.symm)]; simp)]
    omega
theorem tot_off {j : Nat} (hj : j < n) (hb : m.testBit j = false) : cn (fun i => !m.testBit i) n = cn (fun i => !(m ||| 2 ^ j).testBit i) n + 1 := by
  rw [cn_at (p := fun i => !m.testBit i) n hj, hb]
  have e : cn (fun i => !(m ||| 2 ^ j).testBit i) n = cn (fun i => !decide (i = j) && !m.testBit i) n := by
    refine cn_congr n (fun i _ => ?_)
    rw [bit_t]
    by_cases y : i = j
    · subst y; simp
    · rw [decide_eq_false (show ¬ j = i by omega), decide_eq_false y]; simp
  rw [e]
  rfl
theorem c_nearest (hd : 4 ≤ d) (h1 : CZ w Z) (hq : RQ Z n g) {a0 : Nat} (ha : a0 < 64) (hf : frm Z = Int32.ofNat a0) : ∃ s, NW n a0 (cu g n 0) s ∧ ee_run ee_B P d 158 [.ref 0] w = some ([.int (Int32.ofNat s)], w) := by
  obtain ⟨d, rfl⟩ : ∃ k, d = k + 1 := ⟨d - 1, by omega⟩
  have hd1 : 1 ≤ d := by omega
  have hd3 : 3 ≤ d := by omega
  have hq0 := hq
  obtain ⟨p0, p1, p2, p3, p4, p5, p6, p7, p8, -⟩ := al_1
  obtain ⟨q1, q2, q3⟩ := hq
  have e0 : w.1 2 0 = Z.1.1.1 2 := h1.1.1.1.2.2.1
  have ef : Z.1.1.1 2 / 16 = Int32.ofNat a0 := hf
  have e7 : w.1 1 7 = Int32.ofNat n := by rw [← q1]; exact h1.1.2.2.2.1.2.2.2.2.1
  have r6 : ∀ i, i < n → w.1 98 i = Int32.ofNat (g i) := fun i hi => (h1.1.2.2.2.1.2.2.2.2.2.1 i (by omega)).trans (q3 i hi).1
  have s0 := hd2_ok.1
  obtain ⟨b, hl, hb⟩ := for_a (x := ee_ev es_sh es_rf (ee_run ee_B P d) lx_158_1) (b := ee_evS es_sh es_rf (ee_run ee_B P d) lb_158_1)
    (fun k (b : Nat × Nat × Nat × Option Value) => (([some (.ref 0), some (.int (Int32.ofNat b.1)), some (.int (Int32.ofNat b.2.1)), some (.int (Int32.ofNat b.2.2.1)), some (.int (Int32.ofNat k)), b.2.2.2], w) : ee_E × ee_W)) n
    (fun k b => b.1 < 64 ∧ b.2.2.1 < 64 ∧ cn (fun i => !b.2.2.1.testBit i) n + k = n ∧ ∀ s, NW (n - k) b.1 (cu g n b.2.2.1) s → NW n a0 (cu g n 0) (b.2.1 + s))
    (by
      rintro k ⟨a, acc, m, v⟩ hk ⟨i1, i2, i3, i4⟩
      dsimp only at i1 i2 i3 i4
      have h9 : Int32.ofNat k < Int32.ofNat n := (j_lt (by omega) (by omega)).2 hk
      have h8 : Int32.ofNat k < 6 := (j_lt (b := 6) (by omega) (by omega)).2 (by omega)
      have hno := c_nearestOf (P := P) hd3 h1 hq0 i1 i2
      rcases nb_spec m a g n with ⟨-, t2⟩ | ⟨j, t1, t2, t3, t4⟩
      · obtain ⟨i, z1, z2⟩ := (cn_pos n).1 (show 0 < cn (fun i => !m.testBit i) n by omega)
        rw [t2 i z1] at z2
        cases z2
      · rw [t1] at hno
        have x1 : ee_ix (Int32.ofNat j) 6 = true := by rw [ixn (by omega)]; exact decide_eq_true (by omega)
        have v1 := r6 j t2
        have gj := (q3 j t2).2
        have nj : ¬ Int32.ofNat j = -1 := ofN_ne (by omega)
        have e1 := ndi_c a i1 (g j) gj
        have e2 := bit_o m i2 j (by omega)
        refine ⟨(g j, acc + ndi a (g j), m ||| 2 ^ j, some (.int (Int32.ofNat j))), ?_, gj, bit_l m i2 j (by omega), ?_, fun s hs => ?_⟩
        · simp only [h9, h8, e7, x1, v1, hno, vb, nj, r_abs hd1, e1, e2, tnc (show j < 2147483648 by omega), j_s, j_a, cz_0, cz_r0, p0, p4, p8, rvs, lx_158_1, lb_158_1, ee_turn, k_0, k_1, k_16, k_4294967295, k_6, nz_1, nz_16, nz_6, v_and, v_bin, v_call, v_cmp, v_cons, v_get, v_idx, v_int, v_loc, v_nil, w_if, w_inc, w_ret, w_seq, w_set, w_skip, List.getElem?_cons_zero, List.getElem?_cons_succ, List.set_cons_zero, List.set_cons_succ, ee_cmp0, ee_cmp1, ee_cmp2, ee_cmp3, ee_cmp4, ee_cmp5, ee_cmpL0, ee_cmpL1, ee_cmpL2, ee_cmpL3, ee_cmpL4, ee_cmpL5, ee_tru_eb, decide_eq_true_eq, ib_i, ie_b, ie_f, ie_t, ib_l, fin_i, fin_l, fin_v, fin_z, fin_a, fin_n, ee_b_0, ee_fld0, ee_fld1, ee_fld2, ee_fld3, bi_0, bi_1, bi_2, bi_3, bi_4, bi_5, bi_6, bi_7, bi_8, bi_9, bi_10, bl_20, bl_21, bl_22, bl_23, bl_24, bl_25, bl_26, bl_48, bl_49, un_0, un_1, un_2, un_3, if_true, if_false, ite_true, ite_false, Bool.false_eq_true, Bool.not_eq_false, decide_not, Bool.not_not, reduceCtorEq, st_i, st_l, st_r, st_n, ee_noL, ee_noL.eq_1, List.length_cons, List.length_nil, Nat.reduceAdd, Nat.reduceLT, Nat.zero_add, and_true, true_and, and_self, fin_ite, pu_0, pu_1, pu_3, sto_0, el_0, Bool.not_eq_true, decide_eq_false_iff_not, Bool.decide_eq_true, Bool.decide_eq_false, decide_true, decide_false, Bool.not_true, Bool.not_false, Bool.and_self, Bool.and_true, Bool.and_false, Bool.true_and, Bool.false_and, Bool.or_true, Bool.or_false, Bool.true_or, Bool.false_or, if_true, if_false, Bool.false_eq_true]
        · have := tot_off t2 t3
          dsimp only
          omega
        · dsimp only at hs
          rw [cu_off t2 t3] at hs
          have z := i4 (ndi a (g j) + s) (by
            rw [show n - k = (n - (k + 1)) + 1 by omega]
            refine ⟨g j, s, (cn_pos n).2 ⟨j, t2, by rw [t3, decide_eq_true rfl]; rfl⟩, fun u hu => ?_, rfl, hs⟩
            obtain ⟨i, z1, z2⟩ := (cn_pos n).1 hu
            cases zb : m.testBit i
            · rw [zb] at z2
              have : g i = u := of_decide_eq_true z2
              rw [← this]
              exact t4 i z1 zb
            · rw [zb] at z2; cases z2)
          rw [← Nat.add_assoc] at z
          exact z)
    (by
      rintro ⟨a, acc, m, v⟩ -
      have h9 : ¬ Int32.ofNat n < Int32.ofNat n := fun y => by have := (j_lt (by omega) (by omega)).1 y; omega
      simp only [h9, e7, cz_0, cz_r0, p0, rvs, lx_158_1, lb_158_1, ee_turn, k_0, k_1, k_16, k_4294967295, k_6, nz_1, nz_16, nz_6, v_and, v_bin, v_call, v_cmp, v_cons, v_get, v_idx, v_int, v_loc, v_nil, w_if, w_inc, w_ret, w_seq, w_set, w_skip, List.getElem?_cons_zero, List.getElem?_cons_succ, List.set_cons_zero, List.set_cons_succ, ee_cmp0, ee_cmp1, ee_cmp2, ee_cmp3, ee_cmp4, ee_cmp5, ee_cmpL0, ee_cmpL1, ee_cmpL2, ee_cmpL3, ee_cmpL4, ee_cmpL5, ee_tru_eb, decide_eq_true_eq, ib_i, ie_b, ie_f, ie_t, ib_l, fin_i, fin_l, fin_v, fin_z, fin_a, fin_n, ee_b_0, ee_fld0, ee_fld1, ee_fld2, ee_fld3, bi_0, bi_1, bi_2, bi_3, bi_4, bi_5, bi_6, bi_7, bi_8, bi_9, bi_10, bl_20, bl_21, bl_22, bl_23, bl_24, bl_25, bl_26, bl_48, bl_49, un_0, un_1, un_2, un_3, if_true, if_false, ite_true, ite_false, Bool.false_eq_true, Bool.not_eq_false, decide_not, Bool.not_not, reduceCtorEq, st_i, st_l, st_r, st_n, ee_noL, ee_noL.eq_1, List.length_cons, List.length_nil, Nat.reduceAdd, Nat.reduceLT, Nat.zero_add, and_true, true_and, and_self, fin_ite, pu_0, pu_1, pu_3, sto_0, el_0, Bool.not_eq_true, decide_eq_false_iff_not, Bool.decide_eq_true, Bool.decide_eq_false, decide_true, decide_false, Bool.not_true, Bool.not_false, Bool.and_self, Bool.and_true, Bool.and_false, Bool.true_and, Bool.false_and, Bool.or_true, Bool.or_false, Bool.true_or, Bool.false_or, if_true, if_false, Bool.false_eq_true])
    n 0 (a0, 0, 0, none) (by omega) ⟨ha, Nat.zero_lt_succ _, cn_all n (fun i _ => by rw [Nat.zero_testBit]; rfl), fun s hs => by dsimp only at hs ⊢; rw [Nat.zero_add]; exact hs⟩
  obtain ⟨a, acc, m, v⟩ := b
  dsimp only at hl hb
  obtain ⟨i1, i2, i3, i4⟩ := hb
  rw [k_0] at hl
  refine ⟨acc, i4 0 (by rw [Nat.sub_self]; rfl), ?_⟩
  rw [rn_158 cz_0]
  simp only [e0, ef, nz_16, w_while, hl, cz_0, cz_r0, p0, p1, s0, rvs, be_158, k_0, k_1, k_16, k_4294967295, k_6, nz_1, nz_16, nz_6, v_and, v_bin, v_call, v_cmp, v_cons, v_get, v_idx, v_int, v_loc, v_nil, w_if, w_inc, w_ret, w_seq, w_set, w_skip, List.getElem?_cons_zero, List.getElem?_cons_succ, List.set_cons_zero, List.set_cons_succ, ee_cmp0, ee_cmp1, ee_cmp2, ee_cmp3, ee_cmp4, ee_cmp5, ee_cmpL0, ee_cmpL1, ee_cmpL2, ee_cmpL3, ee_cmpL4, ee_cmpL5, ee_tru_eb, decide_eq_true_eq, ib_i, ie_b, ie_f, ie_t, ib_l, fin_i, fin_l, fin_v, fin_z, fin_a, fin_n, ee_b_0, ee_fld0, ee_fld1, ee_fld2, ee_fld3, bi_0, bi_1, bi_2, bi_3, bi_4, bi_5, bi_6, bi_7, bi_8, bi_9, bi_10, bl_20, bl_21, bl_22, bl_23, bl_24, bl_25, bl_26, bl_48, bl_49, un_0, un_1, un_2, un_3, if_true, if_false, ite_true, ite_false, Bool.false_eq_true, Bool.not_eq_false, decide_not, Bool.not_not, reduceCtorEq, st_i, st_l, st_r, st_n, ee_noL, ee_noL.eq_1, List.length_cons, List.length_nil, Nat.reduceAdd, Nat.reduceLT, Nat.zero_add, and_true, true_and, and_self, fin_ite, pu_0, pu_1, pu_3, sto_0, el_0, Bool.not_eq_true, decide_eq_false_iff_not, Bool.decide_eq_true, Bool.decide_eq_false, decide_true, decide_false, Bool.not_true, Bool.not_false, Bool.and_self, Bool.and_true, Bool.and_false, Bool.true_and, Bool.false_and, Bool.or_true, Bool.or_false, Bool.true_or, Bool.false_or, if_true, if_false, Bool.false_eq_true]
end NRC
