/-! the reference's pile -/
section PIL
variable {P : Nat → Nat → List Value → ee_W → Option (List Value × ee_W)} {d : Nat} {w : ee_W} {f : Nat → Int32} {n t law : Nat} {ks ps : List Nat}
theorem mz_p : es_rf 236 15 = some 241 := by decide +kernel
theorem mz_ps : es_sh 241 = (0, 160) := by decide +kernel
def rnk (o : Nat) : Nat := if 40 ≤ o then 0 else if o = 22 then 1 else if o = 21 then 2 else if o = 20 then 3 else if 10 ≤ o then 4 else if 8 ≤ o then 6 else if 6 ≤ o then 5 else 7
theorem m_rank (hd : 1 ≤ d) {o : Nat} (ho : o ≤ 43) : ee_run ee_B P d 219 [.int (Int32.ofNat o)] w = some ([.int (Int32.ofNat (rnk o))], w) := by
  obtain ⟨d, rfl⟩ : ∃ k, d = k + 1 := ⟨d - 1, by omega⟩
  have a40 : (40 : Int32) ≤ Int32.ofNat o ↔ 40 ≤ o := j_le (a := 40) (by omega) (by omega)
  have a22 : (Int32.ofNat o = 22) = (o = 22) := kq (m := 22) (by omega) (by omega)
  have a21 : (Int32.ofNat o = 21) = (o = 21) := kq (m := 21) (by omega) (by omega)
  have a20 : (Int32.ofNat o = 20) = (o = 20) := kq (m := 20) (by omega) (by omega)
  have a10 : (10 : Int32) ≤ Int32.ofNat o ↔ 10 ≤ o := j_le (a := 10) (by omega) (by omega)
  have a8 : (8 : Int32) ≤ Int32.ofNat o ↔ 8 ≤ o := j_le (a := 8) (by omega) (by omega)
  have a6 : (6 : Int32) ≤ Int32.ofNat o ↔ 6 ≤ o := j_le (a := 6) (by omega) (by omega)
  rw [rn_219]
  unfold rnk
  by_cases c1 : 40 ≤ o
  · rw [if_pos c1]; simp only [a40, c1, bd_219, k_0, k_1, k_10, k_2, k_20, k_21, k_22, k_3, k_4, k_40, k_5, k_6, k_7, k_8, nz_1, nz_10, nz_2, nz_20, nz_21, nz_22, nz_3, nz_4, nz_40, nz_5, nz_6, nz_7, nz_8, v_cmp, v_int, v_loc, v_tern, w_ret, List.getElem?_cons_zero, List.getElem?_cons_succ, List.set_cons_zero, List.set_cons_succ, ee_cmp0, ee_cmp1, ee_cmp2, ee_cmp3, ee_cmp4, ee_cmp5, ee_cmpL0, ee_cmpL1, ee_cmpL2, ee_cmpL3, ee_cmpL4, ee_cmpL5, ee_tru_eb, decide_eq_true_eq, ib_i, ie_b, ie_f, ie_t, ib_l, fin_i, fin_l, fin_v, fin_z, fin_a, fin_n, ee_b_0, ee_fld0, ee_fld1, ee_fld2, ee_fld3, bi_0, bi_1, bi_2, bi_3, bi_4, bi_5, bi_6, bi_7, bi_8, bi_9, bi_10, bl_20, bl_21, bl_22, bl_23, bl_24, bl_25, bl_26, bl_48, bl_49, un_0, un_1, un_2, un_3, if_true, if_false, ite_true, ite_false, Bool.false_eq_true, Bool.not_eq_false, decide_not, Bool.not_not, reduceCtorEq, st_i, st_l, st_r, st_n, ee_noL, ee_noL.eq_1, List.length_cons, List.length_nil, Nat.reduceAdd, Nat.reduceLT, Nat.zero_add, and_true, true_and, and_self, fin_ite, pu_0, pu_1, pu_3, sto_0, el_0, Bool.not_eq_true, decide_eq_false_iff_not, Bool.decide_eq_true, Bool.decide_eq_false, decide_true, decide_false, Bool.not_true, Bool.not_false, Bool.and_self, Bool.and_true, Bool.and_false, Bool.true_and, Bool.false_and, Bool.or_true, Bool.or_false, Bool.true_or, Bool.false_or, if_true, if_false, Bool.false_eq_true]
  rw [if_neg c1]
  by_cases c2 : o = 22
  · have ct : (o = 22) = True := eq_true c2
    rw [if_pos c2]; simp only [a40, c1, a22, ct, bd_219, k_0, k_1, k_10, k_2, k_20, k_21, k_22, k_3, k_4, k_40, k_5, k_6, k_7, k_8, nz_1, nz_10, nz_2, nz_20, nz_21, nz_22, nz_3, nz_4, nz_40, nz_5, nz_6, nz_7, nz_8, v_cmp, v_int, v_loc, v_tern, w_ret, List.getElem?_cons_zero, List.getElem?_cons_succ, List.set_cons_zero, List.set_cons_succ, ee_cmp0, ee_cmp1, ee_cmp2, ee_cmp3, ee_cmp4, ee_cmp5, ee_cmpL0, ee_cmpL1, ee_cmpL2, ee_cmpL3, ee_cmpL4, ee_cmpL5, ee_tru_eb, decide_eq_true_eq, ib_i, ie_b, ie_f, ie_t, ib_l, fin_i, fin_l, fin_v, fin_z, fin_a, fin_n, ee_b_0, ee_fld0, ee_fld1, ee_fld2, ee_fld3, bi_0, bi_1, bi_2, bi_3, bi_4, bi_5, bi_6, bi_7, bi_8, bi_9, bi_10, bl_20, bl_21, bl_22, bl_23, bl_24, bl_25, bl_26, bl_48, bl_49, un_0, un_1, un_2, un_3, if_true, if_false, ite_true, ite_false, Bool.false_eq_true, Bool.not_eq_false, decide_not, Bool.not_not, reduceCtorEq, st_i, st_l, st_r, st_n, ee_noL, ee_noL.eq_1, List.length_cons, List.length_nil, Nat.reduceAdd, Nat.reduceLT, Nat.zero_add, and_true, true_and, and_self, fin_ite, pu_0, pu_1, pu_3, sto_0, el_0, Bool.not_eq_true, decide_eq_false_iff_not, Bool.decide_eq_true, Bool.decide_eq_false, decide_true, decide_false, Bool.not_true, Bool.not_false, Bool.and_self, Bool.and_true, Bool.and_false, Bool.true_and, Bool.false_and, Bool.or_true, Bool.or_false, Bool.true_or, Bool.false_or, if_true, if_false, Bool.false_eq_true]
  rw [if_neg c2]
  by_cases c3 : o = 21
  · have ct : (o = 21) = True := eq_true c3
    rw [if_pos c3]; simp only [a40, c1, a22, c2, a21, ct, bd_219, k_0, k_1, k_10, k_2, k_20, k_21, k_22, k_3, k_4, k_40, k_5, k_6, k_7, k_8, nz_1, nz_10, nz_2, nz_20, nz_21, nz_22, nz_3, nz_4, nz_40, nz_5, nz_6, nz_7, nz_8, v_cmp, v_int, v_loc, v_tern, w_ret, List.getElem?_cons_zero, List.getElem?_cons_succ, List.set_cons_zero, List.set_cons_succ, ee_cmp0, ee_cmp1, ee_cmp2, ee_cmp3, ee_cmp4, ee_cmp5, ee_cmpL0, ee_cmpL1, ee_cmpL2, ee_cmpL3, ee_cmpL4, ee_cmpL5, ee_tru_eb, decide_eq_true_eq, ib_i, ie_b, ie_f, ie_t, ib_l, fin_i, fin_l, fin_v, fin_z, fin_a, fin_n, ee_b_0, ee_fld0, ee_fld1, ee_fld2, ee_fld3, bi_0, bi_1, bi_2, bi_3, bi_4, bi_5, bi_6, bi_7, bi_8, bi_9, bi_10, bl_20, bl_21, bl_22, bl_23, bl_24, bl_25, bl_26, bl_48, bl_49, un_0, un_1, un_2, un_3, if_true, if_false, ite_true, ite_false, Bool.false_eq_true, Bool.not_eq_false, decide_not, Bool.not_not, reduceCtorEq, st_i, st_l, st_r, st_n, ee_noL, ee_noL.eq_1, List.length_cons, List.length_nil, Nat.reduceAdd, Nat.reduceLT, Nat.zero_add, and_true, true_and, and_self, fin_ite, pu_0, pu_1, pu_3, sto_0, el_0, Bool.not_eq_true, decide_eq_false_iff_not, Bool.decide_eq_true, Bool.decide_eq_false, decide_true, decide_false, Bool.not_true, Bool.not_false, Bool.and_self, Bool.and_true, Bool.and_false, Bool.true_and, Bool.false_and, Bool.or_true, Bool.or_false, Bool.true_or, Bool.false_or, if_true, if_false, Bool.false_eq_true]
  rw [if_neg c3]
  by_cases c4 : o = 20
  · have ct : (o = 20) = True := eq_true c4
    rw [if_pos c4]; simp only [a40, c1, a22, c2, a21, c3, a20, ct, bd_219, k_0, k_1, k_10, k_2, k_20, k_21, k_22, k_3, k_4, k_40, k_5, k_6, k_7, k_8, nz_1, nz_10, nz_2, nz_20, nz_21, nz_22, nz_3, nz_4, nz_40, nz_5, nz_6, nz_7, nz_8, v_cmp, v_int, v_loc, v_tern, w_ret, List.getElem?_cons_zero, List.getElem?_cons_succ, List.set_cons_zero, List.set_cons_succ, ee_cmp0, ee_cmp1, ee_cmp2, ee_cmp3, ee_cmp4, ee_cmp5, ee_cmpL0, ee_cmpL1, ee_cmpL2, ee_cmpL3, ee_cmpL4, ee_cmpL5, ee_tru_eb, decide_eq_true_eq, ib_i, ie_b, ie_f, ie_t, ib_l, fin_i, fin_l, fin_v, fin_z, fin_a, fin_n, ee_b_0, ee_fld0, ee_fld1, ee_fld2, ee_fld3, bi_0, bi_1, bi_2, bi_3, bi_4, bi_5, bi_6, bi_7, bi_8, bi_9, bi_10, bl_20, bl_21, bl_22, bl_23, bl_24, bl_25, bl_26, bl_48, bl_49, un_0, un_1, un_2, un_3, if_true, if_false, ite_true, ite_false, Bool.false_eq_true, Bool.not_eq_false, decide_not, Bool.not_not, reduceCtorEq, st_i, st_l, st_r, st_n, ee_noL, ee_noL.eq_1, List.length_cons, List.length_nil, Nat.reduceAdd, Nat.reduceLT, Nat.zero_add, and_true, true_and, and_self, fin_ite, pu_0, pu_1, pu_3, sto_0, el_0, Bool.not_eq_true, decide_eq_false_iff_not, Bool.decide_eq_true, Bool.decide_eq_false, decide_true, decide_false, Bool.not_true, Bool.not_false, Bool.and_self, Bool.and_true, Bool.and_false, Bool.true_and, Bool.false_and, Bool.or_true, Bool.or_false, Bool.true_or, Bool.false_or, if_true, if_false, Bool.false_eq_true]
  rw [if_neg c4]
  by_cases c5 : 10 ≤ o
  · rw [if_pos c5]; simp only [a40, c1, a22, c2, a21, c3, a20, c4, a10, c5, bd_219, k_0, k_1, k_10, k_2, k_20, k_21, k_22, k_3, k_4, k_40, k_5, k_6, k_7, k_8, nz_1, nz_10, nz_2, nz_20, nz_21, nz_22, nz_3, nz_4, nz_40, nz_5, nz_6, nz_7, nz_8, v_cmp, v_int, v_loc, v_tern, w_ret, List.getElem?_cons_zero, List.getElem?_cons_succ, List.set_cons_zero, List.set_cons_succ, ee_cmp0, ee_cmp1, ee_cmp2, ee_cmp3, ee_cmp4, ee_cmp5, ee_cmpL0, ee_cmpL1, ee_cmpL2, ee_cmpL3, ee_cmpL4, ee_cmpL5, ee_tru_eb, decide_eq_true_eq, ib_i, ie_b, ie_f, ie_t, ib_l, fin_i, fin_l, fin_v, fin_z, fin_a, fin_n, ee_b_0, ee_fld0, ee_fld1, ee_fld2, ee_fld3, bi_0, bi_1, bi_2, bi_3, bi_4, bi_5, bi_6, bi_7, bi_8, bi_9, bi_10, bl_20, bl_21, bl_22, bl_23, bl_24, bl_25, bl_26, bl_48, bl_49, un_0, un_1, un_2, un_3, if_true, if_false, ite_true, ite_false, Bool.false_eq_true, Bool.not_eq_false, decide_not, Bool.not_not, reduceCtorEq, st_i, st_l, st_r, st_n, ee_noL, ee_noL.eq_1, List.length_cons, List.length_nil, Nat.reduceAdd, Nat.reduceLT, Nat.zero_add, and_true, true_and, and_self, fin_ite, pu_0, pu_1, pu_3, sto_0, el_0, Bool.not_eq_true, decide_eq_false_iff_not, Bool.decide_eq_true, Bool.decide_eq_false, decide_true, decide_false, Bool.not_true, Bool.not_false, Bool.and_self, Bool.and_true, Bool.and_false, Bool.true_and, Bool.false_and, Bool.or_true, Bool.or_false, Bool.true_or, Bool.false_or, if_true, if_false, Bool.false_eq_true]
  rw [if_neg c5]
  by_cases c6 : 8 ≤ o
  · rw [if_pos c6]; simp only [a40, c1, a22, c2, a21, c3, a20, c4, a10, c5, a8, c6, bd_219, k_0, k_1, k_10, k_2, k_20, k_21, k_22, k_3, k_4, k_40, k_5, k_6, k_7, k_8, nz_1, nz_10, nz_2, nz_20, nz_21, nz_22, nz_3, nz_4, nz_40, nz_5, nz_6, nz_7, nz_8, v_cmp, v_int, v_loc, v_tern, w_ret, List.getElem?_cons_zero, List.getElem?_cons_succ, List.set_cons_zero, List.set_cons_succ, ee_cmp0, ee_cmp1, ee_cmp2, ee_cmp3, ee_cmp4, ee_cmp5, ee_cmpL0, ee_cmpL1, ee_cmpL2, ee_cmpL3, ee_cmpL4, ee_cmpL5, ee_tru_eb, decide_eq_true_eq, ib_i, ie_b, ie_f, ie_t, ib_l, fin_i, fin_l, fin_v, fin_z, fin_a, fin_n, ee_b_0, ee_fld0, ee_fld1, ee_fld2, ee_fld3, bi_0, bi_1, bi_2, bi_3, bi_4, bi_5, bi_6, bi_7, bi_8, bi_9, bi_10, bl_20, bl_21, bl_22, bl_23, bl_24, bl_25, bl_26, bl_48, bl_49, un_0, un_1, un_2, un_3, if_true, if_false, ite_true, ite_false, Bool.false_eq_true, Bool.not_eq_false, decide_not, Bool.not_not, reduceCtorEq, st_i, st_l, st_r, st_n, ee_noL, ee_noL.eq_1, List.length_cons, List.length_nil, Nat.reduceAdd, Nat.reduceLT, Nat.zero_add, and_true, true_and, and_self, fin_ite, pu_0, pu_1, pu_3, sto_0, el_0, Bool.not_eq_true, decide_eq_false_iff_not, Bool.decide_eq_true, Bool.decide_eq_false, decide_true, decide_false, Bool.not_true, Bool.not_false, Bool.and_self, Bool.and_true, Bool.and_false, Bool.true_and, Bool.false_and, Bool.or_true, Bool.or_false, Bool.true_or, Bool.false_or, if_true, if_false, Bool.false_eq_true]
  rw [if_neg c6]
  by_cases c7 : 6 ≤ o
  · rw [if_pos c7]; simp only [a40, c1, a22, c2, a21, c3, a20, c4, a10, c5, a8, c6, a6, c7, bd_219, k_0, k_1, k_10, k_2, k_20, k_21, k_22, k_3, k_4, k_40, k_5, k_6, k_7, k_8, nz_1, nz_10, nz_2, nz_20, nz_21, nz_22, nz_3, nz_4, nz_40, nz_5, nz_6, nz_7, nz_8, v_cmp, v_int, v_loc, v_tern, w_ret, List.getElem?_cons_zero, List.getElem?_cons_succ, List.set_cons_zero, List.set_cons_succ, ee_cmp0, ee_cmp1, ee_cmp2, ee_cmp3, ee_cmp4, ee_cmp5, ee_cmpL0, ee_cmpL1, ee_cmpL2, ee_cmpL3, ee_cmpL4, ee_cmpL5, ee_tru_eb, decide_eq_true_eq, ib_i, ie_b, ie_f, ie_t, ib_l, fin_i, fin_l, fin_v, fin_z, fin_a, fin_n, ee_b_0, ee_fld0, ee_fld1, ee_fld2, ee_fld3, bi_0, bi_1, bi_2, bi_3, bi_4, bi_5, bi_6, bi_7, bi_8, bi_9, bi_10, bl_20, bl_21, bl_22, bl_23, bl_24, bl_25, bl_26, bl_48, bl_49, un_0, un_1, un_2, un_3, if_true, if_false, ite_true, ite_false, Bool.false_eq_true, Bool.not_eq_false, decide_not, Bool.not_not, reduceCtorEq, st_i, st_l, st_r, st_n, ee_noL, ee_noL.eq_1, List.length_cons, List.length_nil, Nat.reduceAdd, Nat.reduceLT, Nat.zero_add, and_true, true_and, and_self, fin_ite, pu_0, pu_1, pu_3, sto_0, el_0, Bool.not_eq_true, decide_eq_false_iff_not, Bool.decide_eq_true, Bool.decide_eq_false, decide_true, decide_false, Bool.not_true, Bool.not_false, Bool.and_self, Bool.and_true, Bool.and_false, Bool.true_and, Bool.false_and, Bool.or_true, Bool.or_false, Bool.true_or, Bool.false_or, if_true, if_false, Bool.false_eq_true]
  · rw [if_neg c7]; simp only [a40, c1, a22, c2, a21, c3, a20, c4, a10, c5, a8, c6, a6, c7, bd_219, k_0, k_1, k_10, k_2, k_20, k_21, k_22, k_3, k_4, k_40, k_5, k_6, k_7, k_8, nz_1, nz_10, nz_2, nz_20, nz_21, nz_22, nz_3, nz_4, nz_40, nz_5, nz_6, nz_7, nz_8, v_cmp, v_int, v_loc, v_tern, w_ret, List.getElem?_cons_zero, List.getElem?_cons_succ, List.set_cons_zero, List.set_cons_succ, ee_cmp0, ee_cmp1, ee_cmp2, ee_cmp3, ee_cmp4, ee_cmp5, ee_cmpL0, ee_cmpL1, ee_cmpL2, ee_cmpL3, ee_cmpL4, ee_cmpL5, ee_tru_eb, decide_eq_true_eq, ib_i, ie_b, ie_f, ie_t, ib_l, fin_i, fin_l, fin_v, fin_z, fin_a, fin_n, ee_b_0, ee_fld0, ee_fld1, ee_fld2, ee_fld3, bi_0, bi_1, bi_2, bi_3, bi_4, bi_5, bi_6, bi_7, bi_8, bi_9, bi_10, bl_20, bl_21, bl_22, bl_23, bl_24, bl_25, bl_26, bl_48, bl_49, un_0, un_1, un_2, un_3, if_true, if_false, ite_true, ite_false, Bool.false_eq_true, Bool.not_eq_false, decide_not, Bool.not_not, reduceCtorEq, st_i, st_l, st_r, st_n, ee_noL, ee_noL.eq_1, List.length_cons, List.length_nil, Nat.reduceAdd, Nat.reduceLT, Nat.zero_add, and_true, true_and, and_self, fin_ite, pu_0, pu_1, pu_3, sto_0, el_0, Bool.not_eq_true, decide_eq_false_iff_not, Bool.decide_eq_true, Bool.decide_eq_false, decide_true, decide_false, Bool.not_true, Bool.not_false, Bool.and_self, Bool.and_true, Bool.and_false, Bool.true_and, Bool.false_and, Bool.or_true, Bool.or_false, Bool.true_or, Bool.false_or, if_true, if_false, Bool.false_eq_true]
theorem rnk_b (o : Nat) : rnk o ≤ 7 := by
  unfold rnk
  (repeat' split) <;> omega
/-- the pile in its cells: its top is the list's head -/
def PIL (w : ee_W) : List Nat → Prop
  | [] => True
  | k :: r => w.1 241 r.length = Int32.ofNat k ∧ k ≤ 43 ∧ PIL w r
theorem PIL_eq {w' : ee_W} : ∀ ks : List Nat, PIL w ks → (∀ j, j < ks.length → w'.1 241 j = w.1 241 j) → PIL w' ks := by
  intro ks
  induction ks with
  | nil => intro _ _; exact trivial
  | cons k r ih =>
    rintro ⟨h1, h2, h3⟩ h
    exact ⟨(h _ (by rw [List.length_cons]; omega)).trans h1, h2, ih h3 (fun j hj => h j (by rw [List.length_cons]; omega))⟩
theorem PIL_at : ∀ ks : List Nat, PIL w ks → ∀ j, j < ks.length → ∃ o, o ≤ 43 ∧ w.1 241 j = Int32.ofNat o := by
  intro ks
  induction ks with
  | nil => intro _ j hj; rw [List.length_nil] at hj; omega
  | cons k r ih =>
    rintro ⟨h1, h2, h3⟩ j hj
    rw [List.length_cons] at hj
    by_cases y : j = r.length
    · rw [y]; exact ⟨k, h2, h1⟩
    · exact ih h3 j (by omega)
/-- the reference's text being read: t, how many instructions, pile, how many are open -/
def EMT (w : ee_W) (t W : Nat) (ks : List Nat) (O : Nat) : Prop := t < 4 ∧ W ≤ 300 ∧ w.1 236 12 = Int32.ofNat (681 * t) ∧ w.1 236 13 = Int32.ofNat W ∧ PIL w ks ∧ w.1 236 16 = Int32.ofNat ks.length ∧ w.1 236 17 = Int32.ofNat O ∧ O < 1000 ∧ ks.length ≤ 160
def emm (w : ee_W) (t W : Nat) (o v : Int32) : ee_W := ee_wI (ee_wI (ee_wI w 239 (681 * t + 73 + 2 * W) o) 239 (681 * t + 73 + 2 * W + 1) v) 236 13 (Int32.ofNat (W + 1))
theorem m_emitM (hd : 1 ≤ d) {W : Nat} (ht : t < 4) (h12 : w.1 236 12 = Int32.ofNat (681 * t)) (h13 : w.1 236 13 = Int32.ofNat W) (hW : W < 300) (o v : Int32) : ee_run ee_B P d 222 [.ref 236, .int o, .int v] w = some ([], emm w t W o v) := by
  obtain ⟨d, rfl⟩ : ∃ k, d = k + 1 := ⟨d - 1, by omega⟩
  have e2 : (2 : Int32) * Int32.ofNat W = Int32.ofNat (2 * W) := j_m 2 W
  have e73 : Int32.ofNat (681 * t) + 73 = Int32.ofNat (681 * t + 73) := j_a _ 73
  have ea : Int32.ofNat (681 * t + 73) + Int32.ofNat (2 * W) = Int32.ofNat (681 * t + 73 + 2 * W) := j_a _ _
  have eb : Int32.ofNat (681 * t + 73 + 2 * W) + 1 = Int32.ofNat (681 * t + 73 + 2 * W + 1) := j_s _
  have x1 : ee_ix (Int32.ofNat (681 * t + 73 + 2 * W)) 2724 = true := by rw [ixn (by omega)]; exact decide_eq_true (by omega)
  have x2 : ee_ix (Int32.ofNat (681 * t + 73 + 2 * W + 1)) 2724 = true := by rw [ixn (by omega)]; exact decide_eq_true (by omega)
  have t1 := tnc (n := 681 * t + 73 + 2 * W) (by omega)
  have t2 := tnc (n := 681 * t + 73 + 2 * W + 1) (by omega)
  have u1 : (ee_wI w 239 (681 * t + 73 + 2 * W) o).1 236 12 = Int32.ofNat (681 * t) := by rw [wI_at, if_neg (by omega)]; exact h12
  have u2 : (ee_wI w 239 (681 * t + 73 + 2 * W) o).1 236 13 = Int32.ofNat W := by rw [wI_at, if_neg (by omega)]; exact h13
  have u3 : (ee_wI (ee_wI w 239 (681 * t + 73 + 2 * W) o) 239 (681 * t + 73 + 2 * W + 1) v).1 236 13 = Int32.ofNat W := by rw [wI_at, if_neg (by omega)]; exact u2
  unfold emm
  rw [rn_222 mz_0]
  simp only [h12, h13, e2, e73, ea, eb, x1, x2, t1, t2, u1, u2, u3, mz_t, mz_ts, w_opf, bd_222, k_1, k_2, k_73, nz_1, nz_2, nz_73, v_bin, v_get, v_int, v_loc, w_opf, w_retv, w_seq, w_sto, List.getElem?_cons_zero, List.getElem?_cons_succ, List.set_cons_zero, List.set_cons_succ, ee_cmp0, ee_cmp1, ee_cmp2, ee_cmp3, ee_cmp4, ee_cmp5, ee_cmpL0, ee_cmpL1, ee_cmpL2, ee_cmpL3, ee_cmpL4, ee_cmpL5, ee_tru_eb, decide_eq_true_eq, ib_i, ie_b, ie_f, ie_t, ib_l, fin_i, fin_l, fin_v, fin_z, fin_a, fin_n, ee_b_0, ee_fld0, ee_fld1, ee_fld2, ee_fld3, bi_0, bi_1, bi_2, bi_3, bi_4, bi_5, bi_6, bi_7, bi_8, bi_9, bi_10, bl_20, bl_21, bl_22, bl_23, bl_24, bl_25, bl_26, bl_48, bl_49, un_0, un_1, un_2, un_3, if_true, if_false, ite_true, ite_false, Bool.false_eq_true, Bool.not_eq_false, decide_not, Bool.not_not, reduceCtorEq, st_i, st_l, st_r, st_n, ee_noL, ee_noL.eq_1, List.length_cons, List.length_nil, Nat.reduceAdd, Nat.reduceLT, Nat.zero_add, and_true, true_and, and_self, fin_ite, pu_0, pu_1, pu_3, sto_0, el_0, Bool.not_eq_true, decide_eq_false_iff_not, Bool.decide_eq_true, Bool.decide_eq_false, decide_true, decide_false, Bool.not_true, Bool.not_false, Bool.and_self, Bool.and_true, Bool.and_false, Bool.true_and, Bool.false_and, Bool.or_true, Bool.or_false, Bool.true_or, Bool.false_or, if_true, if_false, Bool.false_eq_true, ix_1, ix_2, ix_73, tc_1, tc_2, tc_73, mz_0, mz_1, mz_a, rvs, j_s, j_a, wI_at, Nat.reduceEqDiff, zero_ne_one_n, one_ne_zero_n]
theorem emm_code {W : Nat} (w : ee_W) (t : Nat) (o v : Int32) : mcode (emm w t W o v) t W = (o, v) ∧ ∀ k, k ≠ W → mcode (emm w t W o v) t k = mcode w t k := by
  unfold mcode emm
  refine ⟨?_, fun k hk => ?_⟩
  · rw [wI_at, if_neg (by omega), wI_at, if_neg (by omega), wI_at, if_pos ⟨rfl, rfl⟩, wI_at, if_neg (by omega), wI_at, if_pos ⟨rfl, rfl⟩]
  · rw [wI_at, if_neg (by omega), wI_at, if_neg (by omega), wI_at, if_neg (by omega), wI_at, if_neg (by omega), wI_at, if_neg (by omega), wI_at, if_neg (by omega)]
def pem (t c k : Nat) : Prop := (c = 236 ∧ (k = 13 ∨ k = 16 ∨ k = 17 ∨ k = 18)) ∨ (c = 239 ∧ 681 * t + 73 ≤ k ∧ k < 681 * t + 681) ∨ c = 241
theorem emm_c {W : Nat} (hW : W < 300) {w0 : ee_W} (h : chk (pem t) w0 w) (o v : Int32) : chk (pem t) w0 (emm w t W o v) := chk_I (Or.inl ⟨rfl, Or.inl rfl⟩) (chk_I (Or.inr (Or.inl ⟨rfl, by omega, by omega⟩)) (chk_I (Or.inr (Or.inl ⟨rfl, by omega, by omega⟩)) h))
/-- what a popped one takes from what is open -/
def opc (o : Nat) : Nat := if rnk o = 7 ∨ o = 20 then 1 else 0
def ops : List Nat → Nat
  | [] => 0
  | o :: r => opc o + ops r
theorem ops_app (ps ks : List Nat) : ops (ps ++ ks) = ops ps + ops ks := by
  induction ps with
  | nil => rw [List.nil_append]; show ops ks = 0 + ops ks; omega
  | cons o r ih => rw [List.cons_append]; show opc o + ops (r ++ ks) = opc o + ops r + ops ks; rw [ih]; omega
/-- the instructions that a pile's ops make -/
def emo (code : Nat → Int32 × Int32) (W : Nat) (ps : List Nat) : Prop := ∀ q, q < ps.length → (code (W + q)).1 = Int32.ofNat (ps.getD q 0)
theorem emo_nil (code : Nat → Int32 × Int32) (W : Nat) : emo code W [] := fun q hq => by rw [List.length_nil] at hq; omega
theorem emo_cons {code : Nat → Int32 × Int32} {W o : Nat} : emo code W (o :: ps) ↔ (code W).1 = Int32.ofNat o ∧ emo code (W + 1) ps := by
  constructor
  · intro h
    refine ⟨h 0 (by rw [List.length_cons]; omega), fun q hq => ?_⟩
    have := h (q + 1) (by rw [List.length_cons]; omega)
    rw [show W + 1 + q = W + (q + 1) by omega]
    exact this
  · rintro ⟨h1, h2⟩ q hq
    rw [List.length_cons] at hq
    cases q with
    | zero => exact h1
    | succ q =>
      have := h2 q (by omega)
      rw [show W + (q + 1) = W + 1 + q by omega]
      exact this
theorem emo_app {code : Nat → Int32 × Int32} {qs : List Nat} : ∀ (ps : List Nat) (W : Nat), emo code W (ps ++ qs) ↔ emo code W ps ∧ emo code (W + ps.length) qs := by
  intro ps
  induction ps with
  | nil => intro W; rw [List.nil_append, List.length_nil]; exact ⟨fun h => ⟨emo_nil _ _, h⟩, fun h => h.2⟩
  | cons o r ih =>
    intro W
    rw [List.cons_append, emo_cons, emo_cons, ih, List.length_cons, show W + 1 + r.length = W + (r.length + 1) by omega]
    exact ⟨fun ⟨a, b, c⟩ => ⟨⟨a, b⟩, c⟩, fun ⟨⟨a, b⟩, c⟩ => ⟨a, b, c⟩⟩
theorem m_settle (hd : 2 ≤ d) {least : Nat} (hl : least ≤ 7) (hl1 : 1 ≤ least) : ∀ (ps : List Nat) (w : ee_W) (W O : Nat), EMT w t W (ps ++ ks) O → (∀ o ∈ ps, least ≤ rnk o) → (∀ h r, ks = h :: r → rnk h < least) → W + ps.length ≤ 300 → ops ps ≤ O →
    ∃ w', ee_run ee_B P d 221 [.ref 236, .int (Int32.ofNat least)] w = some ([], w') ∧ EMT w' t (W + ps.length) ks (O - ops ps) ∧ emo (mcode w' t) W ps ∧ (∀ k, k < W → mcode w' t k = mcode w t k) ∧ chk (pem t) w w' ∧ w'.1 236 18 = w.1 236 18 ∧ (∀ k, k < ks.length → w'.1 241 k = w.1 241 k) ∧ w'.2.1 = w.2.1 := by
  obtain ⟨d, rfl⟩ : ∃ k, d = k + 1 := ⟨d - 1, by omega⟩
  have hd1 : 1 ≤ d := by omega
  have loop : ∀ (ps : List Nat) (w : ee_W) (W O : Nat), EMT w t W (ps ++ ks) O → (∀ o ∈ ps, least ≤ rnk o) → (∀ h r, ks = h :: r → rnk h < least) → W + ps.length ≤ 300 → ops ps ≤ O →
      ∃ w', ee_wh (ee_turn (ee_ev es_sh es_rf (ee_run ee_B P d) lx_221_1) (ee_evS es_sh es_rf (ee_run ee_B P d) lb_221_1)) ([some (.ref 236), some (.int (Int32.ofNat least))], w) = some (.inl ([some (.ref 236), some (.int (Int32.ofNat least))], w')) ∧ EMT w' t (W + ps.length) ks (O - ops ps) ∧ emo (mcode w' t) W ps ∧ (∀ k, k < W → mcode w' t k = mcode w t k) ∧ chk (pem t) w w' ∧ w'.1 236 18 = w.1 236 18 ∧ (∀ k, k < ks.length → w'.1 241 k = w.1 241 k) ∧ w'.2.1 = w.2.1 := by
    intro ps
    induction ps with
    | nil =>
      intro w W O hE _ hk hW hO
      obtain ⟨e1, e2, e3, e4, e5, e6, e7, e8, e9⟩ := hE
      rw [List.nil_append] at e5 e6 e9
      refine ⟨w, ?_, ⟨e1, by rw [List.length_nil]; omega, e3, by rw [List.length_nil]; exact e4, e5, e6, by show w.1 236 17 = Int32.ofNat (O - 0); exact e7, by show O - 0 < 1000; omega, e9⟩, emo_nil _ _, fun _ _ => rfl, chk_refl _ _, rfl, fun _ _ => rfl, rfl⟩
      have tt : ee_turn (ee_ev es_sh es_rf (ee_run ee_B P d) lx_221_1) (ee_evS es_sh es_rf (ee_run ee_B P d) lb_221_1) ([some (.ref 236), some (.int (Int32.ofNat least))], w) = some (.inr (.inl ([some (.ref 236), some (.int (Int32.ofNat least))], w))) := by
        cases ks with
        | nil =>
          rw [List.length_nil] at e6
          rw [k_0] at e6
          have z : ¬ (0 : Int32) < 0 := by decide
          simp only [e6, z, lx_221_1, lb_221_1, ee_turn, k_0, k_1, k_20, k_7, nz_1, nz_20, nz_7, v_and, v_bin, v_call, v_cmp, v_cons, v_get, v_idx, v_int, v_loc, v_nil, v_or, v_z, w_exp0, w_exp1, w_if, w_opf, w_retv, w_seq, w_skip, List.getElem?_cons_zero, List.getElem?_cons_succ, List.set_cons_zero, List.set_cons_succ, ee_cmp0, ee_cmp1, ee_cmp2, ee_cmp3, ee_cmp4, ee_cmp5, ee_cmpL0, ee_cmpL1, ee_cmpL2, ee_cmpL3, ee_cmpL4, ee_cmpL5, ee_tru_eb, decide_eq_true_eq, ib_i, ie_b, ie_f, ie_t, ib_l, fin_i, fin_l, fin_v, fin_z, fin_a, fin_n, ee_b_0, ee_fld0, ee_fld1, ee_fld2, ee_fld3, bi_0, bi_1, bi_2, bi_3, bi_4, bi_5, bi_6, bi_7, bi_8, bi_9, bi_10, bl_20, bl_21, bl_22, bl_23, bl_24, bl_25, bl_26, bl_48, bl_49, un_0, un_1, un_2, un_3, if_true, if_false, ite_true, ite_false, Bool.false_eq_true, Bool.not_eq_false, decide_not, Bool.not_not, reduceCtorEq, st_i, st_l, st_r, st_n, ee_noL, ee_noL.eq_1, List.length_cons, List.length_nil, Nat.reduceAdd, Nat.reduceLT, Nat.zero_add, and_true, true_and, and_self, fin_ite, pu_0, pu_1, pu_3, sto_0, el_0, Bool.not_eq_true, decide_eq_false_iff_not, Bool.decide_eq_true, Bool.decide_eq_false, decide_true, decide_false, Bool.not_true, Bool.not_false, Bool.and_self, Bool.and_true, Bool.and_false, Bool.true_and, Bool.false_and, Bool.or_true, Bool.or_false, Bool.true_or, Bool.false_or, if_true, if_false, Bool.false_eq_true, tc_0, ix_0, tc_1, ix_1, tc_20, ix_20, tc_7, ix_7, mz_0, mz_1, mz_a, rvs, j_s, j_a, wI_at, Nat.reduceEqDiff, zero_ne_one_n, one_ne_zero_n]
        | cons h r =>
          rw [List.length_cons] at e6 e9
          obtain ⟨p1, p2, p3⟩ := e5
          have z : (0 : Int32) < Int32.ofNat (r.length + 1) := (j_lt (a := 0) (by omega) (by omega)).2 (by omega)
          have s1 : Int32.ofNat (r.length + 1) - 1 = Int32.ofNat r.length := j_sub1 (by omega) (by omega)
          have x1 : ee_ix (Int32.ofNat r.length) 160 = true := by rw [ixn (by omega)]; exact decide_eq_true (by omega)
          have rk := m_rank (P := P) (w := w) hd1 p2
          have lt := hk h r rfl
          have cc : ¬ Int32.ofNat least ≤ Int32.ofNat (rnk h) := fun y => by have := (j_le (by omega) (by omega)).1 y; omega
          simp only [e6, z, s1, x1, p1, rk, cc, tnc (show r.length < 2147483648 by omega), mz_p, mz_ps, lx_221_1, lb_221_1, ee_turn, k_0, k_1, k_20, k_7, nz_1, nz_20, nz_7, v_and, v_bin, v_call, v_cmp, v_cons, v_get, v_idx, v_int, v_loc, v_nil, v_or, v_z, w_exp0, w_exp1, w_if, w_opf, w_retv, w_seq, w_skip, List.getElem?_cons_zero, List.getElem?_cons_succ, List.set_cons_zero, List.set_cons_succ, ee_cmp0, ee_cmp1, ee_cmp2, ee_cmp3, ee_cmp4, ee_cmp5, ee_cmpL0, ee_cmpL1, ee_cmpL2, ee_cmpL3, ee_cmpL4, ee_cmpL5, ee_tru_eb, decide_eq_true_eq, ib_i, ie_b, ie_f, ie_t, ib_l, fin_i, fin_l, fin_v, fin_z, fin_a, fin_n, ee_b_0, ee_fld0, ee_fld1, ee_fld2, ee_fld3, bi_0, bi_1, bi_2, bi_3, bi_4, bi_5, bi_6, bi_7, bi_8, bi_9, bi_10, bl_20, bl_21, bl_22, bl_23, bl_24, bl_25, bl_26, bl_48, bl_49, un_0, un_1, un_2, un_3, if_true, if_false, ite_true, ite_false, Bool.false_eq_true, Bool.not_eq_false, decide_not, Bool.not_not, reduceCtorEq, st_i, st_l, st_r, st_n, ee_noL, ee_noL.eq_1, List.length_cons, List.length_nil, Nat.reduceAdd, Nat.reduceLT, Nat.zero_add, and_true, true_and, and_self, fin_ite, pu_0, pu_1, pu_3, sto_0, el_0, Bool.not_eq_true, decide_eq_false_iff_not, Bool.decide_eq_true, Bool.decide_eq_false, decide_true, decide_false, Bool.not_true, Bool.not_false, Bool.and_self, Bool.and_true, Bool.and_false, Bool.true_and, Bool.false_and, Bool.or_true, Bool.or_false, Bool.true_or, Bool.false_or, if_true, if_false, Bool.false_eq_true, tc_0, ix_0, tc_1, ix_1, tc_20, ix_20, tc_7, ix_7, mz_0, mz_1, mz_a, rvs, j_s, j_a, wI_at, Nat.reduceEqDiff, zero_ne_one_n, one_ne_zero_n]
      rw [ee_wh_eq, tt]
    | cons o r ih =>
      intro w W O hE hp hk hW hO
      obtain ⟨e1, e2, e3, e4, e5, e6, e7, e8, e9⟩ := hE
      rw [List.cons_append] at e5 e6 e9
      rw [List.length_cons] at e6 e9 hW
      obtain ⟨p1, p2, p3⟩ := e5
      have hO : opc o + ops r ≤ O := hO
      generalize hm : (r ++ ks).length = m at *
      have z : (0 : Int32) < Int32.ofNat (m + 1) := (j_lt (a := 0) (by omega) (by omega)).2 (by omega)
      have s1 : Int32.ofNat (m + 1) - 1 = Int32.ofNat m := j_sub1 (by omega) (by omega)
      have x1 : ee_ix (Int32.ofNat m) 160 = true := by rw [ixn (by omega)]; exact decide_eq_true (by omega)
      have tm := tnc (n := m) (by omega)
      have ge := hp o List.mem_cons_self
      have cc : Int32.ofNat least ≤ Int32.ofNat (rnk o) := (j_le (by omega) (by have := rnk_b o; omega)).2 ge
      -- the world behind the pop, behind the instruction
      obtain ⟨w1, hw1⟩ : ∃ w1, w1 = ee_wI w 236 16 (Int32.ofNat m) := ⟨_, rfl⟩
      have a12 : w1.1 236 12 = Int32.ofNat (681 * t) := by rw [hw1, wI_at, if_neg (by omega)]; exact e3
      have a13 : w1.1 236 13 = Int32.ofNat W := by rw [hw1, wI_at, if_neg (by omega)]; exact e4
      have a16 : w1.1 236 16 = Int32.ofNat m := by rw [hw1, wI_at, if_pos ⟨rfl, rfl⟩]
      have am : w1.1 241 m = Int32.ofNat o := by rw [hw1, wI_at, if_neg (by omega)]; exact p1
      have em := m_emitM (P := P) hd1 e1 a12 a13 (show W < 300 by omega) (Int32.ofNat o) 0
      obtain ⟨w2, hw2⟩ : ∃ w2, w2 = emm w1 t W (Int32.ofNat o) 0 := ⟨_, rfl⟩
      rw [← hw2] at em
      have c2 : chk (pem t) w w2 := by rw [hw2]; exact emm_c (by omega) (by rw [hw1]; exact chk_I (Or.inl ⟨rfl, Or.inr (Or.inl rfl)⟩) (chk_refl _ _)) _ _
      have b16 : w2.1 236 16 = Int32.ofNat m := by rw [hw2]; unfold emm; rw [wI_at, if_neg (by omega), wI_at, if_neg (by omega), wI_at, if_neg (by omega)]; exact a16
      have b17 : w2.1 236 17 = Int32.ofNat O := by rw [hw2]; unfold emm; rw [wI_at, if_neg (by omega), wI_at, if_neg (by omega), wI_at, if_neg (by omega), hw1, wI_at, if_neg (by omega)]; exact e7
      have b18 : w2.1 236 18 = w.1 236 18 := by rw [hw2]; unfold emm; rw [wI_at, if_neg (by omega), wI_at, if_neg (by omega), wI_at, if_neg (by omega), hw1, wI_at, if_neg (by omega)]
      have b12 : w2.1 236 12 = Int32.ofNat (681 * t) := by rw [hw2]; unfold emm; rw [wI_at, if_neg (by omega), wI_at, if_neg (by omega), wI_at, if_neg (by omega)]; exact a12
      have b13 : w2.1 236 13 = Int32.ofNat (W + 1) := by rw [hw2]; unfold emm; rw [wI_at, if_pos ⟨rfl, rfl⟩]
      have b41 : ∀ k, w2.1 241 k = w.1 241 k := fun k => by rw [hw2]; unfold emm; rw [wI_at, if_neg (by omega), wI_at, if_neg (by omega), wI_at, if_neg (by omega), hw1, wI_at, if_neg (by omega)]
      obtain ⟨k1, k2⟩ := emm_code (W := W) w1 t (Int32.ofNat o) 0
      rw [← hw2] at k1 k2
      have cw1 : ∀ k, mcode w1 t k = mcode w t k := fun k => by unfold mcode; rw [hw1, wI_at, if_neg (by omega), wI_at, if_neg (by omega)]
      -- and behind what is open
      obtain ⟨w3, hw3⟩ : ∃ w3, w3 = if opc o = 1 then ee_wI w2 236 17 (Int32.ofNat (O - 1)) else w2 := ⟨_, rfl⟩
      have oc01 : opc o = 0 ∨ opc o = 1 := by unfold opc; split <;> omega
      have f3 : w3.1 236 17 = Int32.ofNat (O - opc o) ∧ (∀ c k, ¬ (c = 236 ∧ k = 17) → w3.1 c k = w2.1 c k) ∧ chk (pem t) w2 w3 := by
        rw [hw3]
        rcases oc01 with h | h
        · rw [h, if_neg (by omega)]; exact ⟨b17, fun _ _ _ => rfl, chk_refl _ _⟩
        · rw [h, if_pos rfl]
          exact ⟨by rw [wI_at, if_pos ⟨rfl, rfl⟩], fun c k hck => by rw [wI_at, if_neg hck], chk_I (Or.inl ⟨rfl, Or.inr (Or.inr (Or.inl rfl))⟩) (chk_refl _ _)⟩
      obtain ⟨f1, f2, f4⟩ := f3
      have cw3 : ∀ k, mcode w3 t k = mcode w2 t k := fun k => by unfold mcode; rw [f2 _ _ (by omega), f2 _ _ (by omega)]
      have hE3 : EMT w3 t (W + 1) (r ++ ks) (O - opc o) := ⟨e1, by omega, (f2 _ _ (by omega)).trans b12, (f2 _ _ (by omega)).trans b13, PIL_eq _ p3 (fun j _ => (f2 _ _ (by omega)).trans (b41 j)), by rw [hm]; exact (f2 _ _ (by omega)).trans b16, f1, by omega, by rw [hm]; omega⟩
      obtain ⟨w', g1, g2, g3, g4, g5, g6, g7, g8⟩ := ih w3 (W + 1) (O - opc o) hE3 (fun x hx => hp x (List.mem_cons_of_mem _ hx)) hk (by omega) (by omega)
      refine ⟨w', ?_, ?_, ?_, fun k hk => ?_, chk_trans c2 (chk_trans f4 g5), ?_, fun k hk => ?_, ?_⟩
      · have rk := m_rank (P := P) (w := w) hd1 p2
        have rk2 := m_rank (P := P) (w := w2) hd1 p2
        have x41 : w2.1 241 m = Int32.ofNat o := (b41 m).trans p1
        have q7 : (Int32.ofNat (rnk o) = 7) = (rnk o = 7) := kq (m := 7) (by have := rnk_b o; omega) (by omega)
        have q20 : (Int32.ofNat o = 20) = (o = 20) := kq (m := 20) (by omega) (by omega)
        have tt : ee_turn (ee_ev es_sh es_rf (ee_run ee_B P d) lx_221_1) (ee_evS es_sh es_rf (ee_run ee_B P d) lb_221_1) ([some (.ref 236), some (.int (Int32.ofNat least))], w) = some (.inl ([some (.ref 236), some (.int (Int32.ofNat least))], w3)) := by
          rw [hw3]
          unfold opc
          by_cases y7 : rnk o = 7
          · have y7t : (rnk o = 7) = True := eq_true y7
            have sO1 : opc o = 1 := by unfold opc; rw [if_pos (Or.inl y7)]
            have sO : Int32.ofNat O - 1 = Int32.ofNat (O - 1) := j_sub1 (by omega) (by omega)
            rw [if_pos (Or.inl y7), if_pos rfl]
            simp only [e6, z, s1, x1, p1, rk, cc, tm, ← hw1, a16, am, em, b16, x41, rk2, q7, y7t, b17, sO, mz_p, mz_ps, w_opf, lx_221_1, lb_221_1, ee_turn, k_0, k_1, k_20, k_7, nz_1, nz_20, nz_7, v_and, v_bin, v_call, v_cmp, v_cons, v_get, v_idx, v_int, v_loc, v_nil, v_or, v_z, w_exp0, w_exp1, w_if, w_opf, w_retv, w_seq, w_skip, List.getElem?_cons_zero, List.getElem?_cons_succ, List.set_cons_zero, List.set_cons_succ, ee_cmp0, ee_cmp1, ee_cmp2, ee_cmp3, ee_cmp4, ee_cmp5, ee_cmpL0, ee_cmpL1, ee_cmpL2, ee_cmpL3, ee_cmpL4, ee_cmpL5, ee_tru_eb, decide_eq_true_eq, ib_i, ie_b, ie_f, ie_t, ib_l, fin_i, fin_l, fin_v, fin_z, fin_a, fin_n, ee_b_0, ee_fld0, ee_fld1, ee_fld2, ee_fld3, bi_0, bi_1, bi_2, bi_3, bi_4, bi_5, bi_6, bi_7, bi_8, bi_9, bi_10, bl_20, bl_21, bl_22, bl_23, bl_24, bl_25, bl_26, bl_48, bl_49, un_0, un_1, un_2, un_3, if_true, if_false, ite_true, ite_false, Bool.false_eq_true, Bool.not_eq_false, decide_not, Bool.not_not, reduceCtorEq, st_i, st_l, st_r, st_n, ee_noL, ee_noL.eq_1, List.length_cons, List.length_nil, Nat.reduceAdd, Nat.reduceLT, Nat.zero_add, and_true, true_and, and_self, fin_ite, pu_0, pu_1, pu_3, sto_0, el_0, Bool.not_eq_true, decide_eq_false_iff_not, Bool.decide_eq_true, Bool.decide_eq_false, decide_true, decide_false, Bool.not_true, Bool.not_false, Bool.and_self, Bool.and_true, Bool.and_false, Bool.true_and, Bool.false_and, Bool.or_true, Bool.or_false, Bool.true_or, Bool.false_or, if_true, if_false, Bool.false_eq_true, tc_0, ix_0, tc_1, ix_1, tc_20, ix_20, tc_7, ix_7, mz_0, mz_1, mz_a, rvs, j_s, j_a, wI_at, Nat.reduceEqDiff, zero_ne_one_n, one_ne_zero_n]
          · by_cases y20 : o = 20
            · have y20t : (o = 20) = True := eq_true y20
              have sO1 : opc o = 1 := by unfold opc; rw [if_pos (Or.inr y20)]
              have sO : Int32.ofNat O - 1 = Int32.ofNat (O - 1) := j_sub1 (by omega) (by omega)
              rw [if_pos (Or.inr y20), if_pos rfl]
              simp only [e6, z, s1, x1, p1, rk, cc, tm, ← hw1, a16, am, em, b16, x41, rk2, q7, y7, q20, y20t, b17, sO, mz_p, mz_ps, w_opf, lx_221_1, lb_221_1, ee_turn, k_0, k_1, k_20, k_7, nz_1, nz_20, nz_7, v_and, v_bin, v_call, v_cmp, v_cons, v_get, v_idx, v_int, v_loc, v_nil, v_or, v_z, w_exp0, w_exp1, w_if, w_opf, w_retv, w_seq, w_skip, List.getElem?_cons_zero, List.getElem?_cons_succ, List.set_cons_zero, List.set_cons_succ, ee_cmp0, ee_cmp1, ee_cmp2, ee_cmp3, ee_cmp4, ee_cmp5, ee_cmpL0, ee_cmpL1, ee_cmpL2, ee_cmpL3, ee_cmpL4, ee_cmpL5, ee_tru_eb, decide_eq_true_eq, ib_i, ie_b, ie_f, ie_t, ib_l, fin_i, fin_l, fin_v, fin_z, fin_a, fin_n, ee_b_0, ee_fld0, ee_fld1, ee_fld2, ee_fld3, bi_0, bi_1, bi_2, bi_3, bi_4, bi_5, bi_6, bi_7, bi_8, bi_9, bi_10, bl_20, bl_21, bl_22, bl_23, bl_24, bl_25, bl_26, bl_48, bl_49, un_0, un_1, un_2, un_3, if_true, if_false, ite_true, ite_false, Bool.false_eq_true, Bool.not_eq_false, decide_not, Bool.not_not, reduceCtorEq, st_i, st_l, st_r, st_n, ee_noL, ee_noL.eq_1, List.length_cons, List.length_nil, Nat.reduceAdd, Nat.reduceLT, Nat.zero_add, and_true, true_and, and_self, fin_ite, pu_0, pu_1, pu_3, sto_0, el_0, Bool.not_eq_true, decide_eq_false_iff_not, Bool.decide_eq_true, Bool.decide_eq_false, decide_true, decide_false, Bool.not_true, Bool.not_false, Bool.and_self, Bool.and_true, Bool.and_false, Bool.true_and, Bool.false_and, Bool.or_true, Bool.or_false, Bool.true_or, Bool.false_or, if_true, if_false, Bool.false_eq_true, tc_0, ix_0, tc_1, ix_1, tc_20, ix_20, tc_7, ix_7, mz_0, mz_1, mz_a, rvs, j_s, j_a, wI_at, Nat.reduceEqDiff, zero_ne_one_n, one_ne_zero_n]
            · rw [if_neg (show ¬ (rnk o = 7 ∨ o = 20) from fun h => h.elim y7 y20), if_neg (show ¬ (0 : Nat) = 1 by omega)]
              simp only [e6, z, s1, x1, p1, rk, cc, tm, ← hw1, a16, am, em, b16, x41, rk2, q7, y7, q20, y20, mz_p, mz_ps, w_opf, lx_221_1, lb_221_1, ee_turn, k_0, k_1, k_20, k_7, nz_1, nz_20, nz_7, v_and, v_bin, v_call, v_cmp, v_cons, v_get, v_idx, v_int, v_loc, v_nil, v_or, v_z, w_exp0, w_exp1, w_if, w_opf, w_retv, w_seq, w_skip, List.getElem?_cons_zero, List.getElem?_cons_succ, List.set_cons_zero, List.set_cons_succ, ee_cmp0, ee_cmp1, ee_cmp2, ee_cmp3, ee_cmp4, ee_cmp5, ee_cmpL0, ee_cmpL1, ee_cmpL2, ee_cmpL3, ee_cmpL4, ee_cmpL5, ee_tru_eb, decide_eq_true_eq, ib_i, ie_b, ie_f, ie_t, ib_l, fin_i, fin_l, fin_v, fin_z, fin_a, fin_n, ee_b_0, ee_fld0, ee_fld1, ee_fld2, ee_fld3, bi_0, bi_1, bi_2, bi_3, bi_4, bi_5, bi_6, bi_7, bi_8, bi_9, bi_10, bl_20, bl_21, bl_22, bl_23, bl_24, bl_25, bl_26, bl_48, bl_49, un_0, un_1, un_2, un_3, if_true, if_false, ite_true, ite_false, Bool.false_eq_true, Bool.not_eq_false, decide_not, Bool.not_not, reduceCtorEq, st_i, st_l, st_r, st_n, ee_noL, ee_noL.eq_1, List.length_cons, List.length_nil, Nat.reduceAdd, Nat.reduceLT, Nat.zero_add, and_true, true_and, and_self, fin_ite, pu_0, pu_1, pu_3, sto_0, el_0, Bool.not_eq_true, decide_eq_false_iff_not, Bool.decide_eq_true, Bool.decide_eq_false, decide_true, decide_false, Bool.not_true, Bool.not_false, Bool.and_self, Bool.and_true, Bool.and_false, Bool.true_and, Bool.false_and, Bool.or_true, Bool.or_false, Bool.true_or, Bool.false_or, if_true, if_false, Bool.false_eq_true, tc_0, ix_0, tc_1, ix_1, tc_20, ix_20, tc_7, ix_7, mz_0, mz_1, mz_a, rvs, j_s, j_a, wI_at, Nat.reduceEqDiff, zero_ne_one_n, one_ne_zero_n]
        rw [ee_wh_eq, tt]
        exact g1
      · rw [List.length_cons, show W + (r.length + 1) = W + 1 + r.length by omega]
        have : O - ops (o :: r) = O - opc o - ops r := by show O - (opc o + ops r) = _; omega
        rw [this]
        exact g2
      · rw [emo_cons]
        refine ⟨?_, g3⟩
        rw [g4 W (by omega), cw3, k1]
      · rw [g4 k (by omega), cw3, k2 k (by omega), cw1]
      · rw [g6, f2 _ _ (by omega), b18]
      · rw [g7 k hk, f2 _ _ (by omega), b41]
      · rw [g8]
        have q2 : w2.2.1 = w.2.1 := by rw [hw2, hw1]; rfl
        rw [← q2, hw3]
        split <;> rfl
  intro ps w W O hE hp hk hW hO
  obtain ⟨w', g1, g2, g3, g4, g5, g6, g7, g8⟩ := loop ps w W O hE hp hk hW hO
  refine ⟨w', ?_, g2, g3, g4, g5, g6, g7, g8⟩
  rw [rn_221 mz_0]
  simp only [w_while, g1, be_221, k_0, k_1, k_20, k_7, nz_1, nz_20, nz_7, v_and, v_bin, v_call, v_cmp, v_cons, v_get, v_idx, v_int, v_loc, v_nil, v_or, v_z, w_exp0, w_exp1, w_if, w_opf, w_retv, w_seq, w_skip, List.getElem?_cons_zero, List.getElem?_cons_succ, List.set_cons_zero, List.set_cons_succ, ee_cmp0, ee_cmp1, ee_cmp2, ee_cmp3, ee_cmp4, ee_cmp5, ee_cmpL0, ee_cmpL1, ee_cmpL2, ee_cmpL3, ee_cmpL4, ee_cmpL5, ee_tru_eb, decide_eq_true_eq, ib_i, ie_b, ie_f, ie_t, ib_l, fin_i, fin_l, fin_v, fin_z, fin_a, fin_n, ee_b_0, ee_fld0, ee_fld1, ee_fld2, ee_fld3, bi_0, bi_1, bi_2, bi_3, bi_4, bi_5, bi_6, bi_7, bi_8, bi_9, bi_10, bl_20, bl_21, bl_22, bl_23, bl_24, bl_25, bl_26, bl_48, bl_49, un_0, un_1, un_2, un_3, if_true, if_false, ite_true, ite_false, Bool.false_eq_true, Bool.not_eq_false, decide_not, Bool.not_not, reduceCtorEq, st_i, st_l, st_r, st_n, ee_noL, ee_noL.eq_1, List.length_cons, List.length_nil, Nat.reduceAdd, Nat.reduceLT, Nat.zero_add, and_true, true_and, and_self, fin_ite, pu_0, pu_1, pu_3, sto_0, el_0, Bool.not_eq_true, decide_eq_false_iff_not, Bool.decide_eq_true, Bool.decide_eq_false, decide_true, decide_false, Bool.not_true, Bool.not_false, Bool.and_self, Bool.and_true, Bool.and_false, Bool.true_and, Bool.false_and, Bool.or_true, Bool.or_false, Bool.true_or, Bool.false_or, if_true, if_false, Bool.false_eq_true, ix_0, ix_1, ix_20, ix_7, tc_0, tc_1, tc_20, tc_7, mz_0, mz_1, mz_a, rvs, j_s, j_a, wI_at, Nat.reduceEqDiff, zero_ne_one_n, one_ne_zero_n]
end PIL
