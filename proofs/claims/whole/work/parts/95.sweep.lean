/-! sweep, spread on both sides -/
section BS2
variable {P : Nat → Nat → List Value → ee_W → Option (List Value × ee_W)} {d : Nat} {w : ee_W} {Z : ZX}
def mxI (a b : Int32) : Int32 := if b ≤ a then a else b
theorem mx_m (a t : Int32) : (if a < t then t else a) = mxI a t := by
  unfold mxI
  by_cases q : t ≤ a
  · rw [if_pos q, if_neg (by rw [i32_lt]; rw [i32_le] at q; omega)]
  · rw [if_neg q, if_pos (by rw [i32_lt]; rw [i32_le] at q; omega)]
theorem mn_m (a t : Int32) : (if t < a then t else a) = xmin a t := by
  unfold xmin
  by_cases q : a ≤ t
  · rw [if_pos q, if_neg (by rw [i32_lt]; rw [i32_le] at q; omega)]
  · rw [if_neg q, if_pos (by rw [i32_lt]; rw [i32_le] at q; omega)]
def frm (Z : ZX) : Int32 := Z.1.1.1 2 / 16
theorem frm_b (hW : WZ Z) : bI (frm Z) 0 63 := by
  have h := hW.1.1.1.2.2.1
  unfold frm
  obtain ⟨n, n1, n2, n3⟩ := j_of h.1
  have e : Z.1.1.1 2 / 16 = Int32.ofNat (n / 16) := by
    have := Int32.ofNat_div (show n < 2 ^ 31 by omega) (show 16 < 2 ^ 31 by omega)
    rw [n2]
    exact this.symm
  rw [e]
  unfold bI at h ⊢
  rw [nI_t (by omega)]
  omega
def hiq (Z : ZX) : Nat → Int32
  | 0 => frm Z
  | k + 1 => mxI (hiq Z k) (Z.1.2.2.2.2.1.2 k)
def loq (Z : ZX) : Nat → Int32
  | 0 => frm Z
  | k + 1 => xmin (loq Z k) (Z.1.2.2.2.2.1.2 k)
theorem hl_b (hW : WZ Z) : ∀ k, k ≤ Z.1.2.2.2.2.1.1 → bI (hiq Z k) 0 63 ∧ bI (loq Z k) 0 63 ∧ (frm Z).toInt ≤ (hiq Z k).toInt ∧ (loq Z k).toInt ≤ (frm Z).toInt := by
  intro k
  induction k with
  | zero => intro _; exact ⟨frm_b hW, frm_b hW, Int.le_refl _, Int.le_refl _⟩
  | succ k ih =>
    intro h
    obtain ⟨i1, i2, i3, i4⟩ := ih (by omega)
    have b := hW.1.2.2.2.2.1.2 k (by omega)
    have e1 : hiq Z (k + 1) = mxI (hiq Z k) (Z.1.2.2.2.2.1.2 k) := rfl
    have e2 : loq Z (k + 1) = xmin (loq Z k) (Z.1.2.2.2.2.1.2 k) := rfl
    rw [e1, e2]
    unfold bI at *
    unfold mxI xmin
    refine ⟨?_, ?_, ?_, ?_⟩
    · split <;> omega
    · split <;> omega
    · split
      · omega
      · rename_i q; rw [i32_le] at q; omega
    · split
      · omega
      · rename_i q; rw [i32_le] at q; omega
theorem sw_eq (a c f : Int32) : a - f + (a - c) = a - f + a - c := by grind
theorem sw_eq2 (a c f : Int32) : f - c + (a - c) = f - c + a - c := by grind
def swp (Z : ZX) (n : Nat) (u : Int32) : Int32 :=
  if u = 0 then (if frm Z < hiq Z n then frm Z - loq Z n + hiq Z n - loq Z n else frm Z - loq Z n)
  else (if loq Z n < frm Z then hiq Z n - frm Z + hiq Z n - loq Z n else hiq Z n - frm Z)
theorem b_sweep (hd : 4 ≤ d) (hS : Sim w) (u : Int32) : Both P d 157 328 [.int u] w := by
  obtain ⟨Z, h1, h2, h3⟩ := hS
  obtain ⟨d, rfl⟩ : ∃ k, d = k + 1 := ⟨d - 1, by omega⟩
  have hd1 : 1 ≤ d := by omega
  obtain ⟨p0, p1, p2, p3, p4, p5, p6, p7, p8, -⟩ := al_1
  have n6 := h3.1.2.2.2.2.1.1
  have e0 : w.1 2 0 = Z.1.1.1 2 := h1.1.1.1.2.2.1
  have e7 : w.1 1 7 = Int32.ofNat Z.1.2.2.2.2.1.1 := h1.1.2.2.2.1.2.2.2.2.1
  have r6 := h1.1.2.2.2.1.2.2.2.2.2.1
  have m7 : w.1 237 7 = Z.1.1.1 2 := h2.1.2.1.1 2 (by omega) (by omega)
  have m3 : w.1 237 3 = Int32.ofNat Z.1.2.2.2.2.1.1 := h2.1.1.2.2.2.1
  have mr := h2.1.2.2.2.2.2.1
  have ef : Z.1.1.1 2 / 16 = frm Z := rfl
  have s0 := hd2_ok.1
  have hb := hl_b h3 Z.1.2.2.2.2.1.1 (Nat.le_refl _)
  have fb := frm_b h3
  refine both_q h1 h2 h3 (r := .int (swp Z Z.1.2.2.2.2.1.1 u)) ?_ ?_
  · have hl := for_q (w := w) (x := ee_ev es_sh es_rf (ee_run ee_B P d) lx_157_1) (b := ee_evS es_sh es_rf (ee_run ee_B P d) lb_157_1)
      (fun k => [some (.ref 0), some (.int u), some (.int (frm Z)), some (.int (hiq Z k)), some (.int (loq Z k)), some (.int (Int32.ofNat k)), none]) Z.1.2.2.2.2.1.1
      (by
        intro k hk
        have h9 : Int32.ofNat k < Int32.ofNat Z.1.2.2.2.2.1.1 := (j_lt (by omega) (by omega)).2 hk
        have h8 : Int32.ofNat k < 6 := (j_lt (b := 6) (by omega) (by omega)).2 (by omega)
        have x1 : ee_ix (Int32.ofNat k) 6 = true := by rw [ixn (by omega)]; exact decide_eq_true (by omega)
        have v : w.1 98 k = Z.1.2.2.2.2.1.2 k := r6 k hk
        have a1 : (if Z.1.2.2.2.2.1.2 k ≤ hiq Z k then hiq Z k else Z.1.2.2.2.2.1.2 k) = hiq Z (k + 1) := rfl
        have a2 : (if loq Z k ≤ Z.1.2.2.2.2.1.2 k then loq Z k else Z.1.2.2.2.2.1.2 k) = loq Z (k + 1) := rfl
        simp only [h9, h8, e7, x1, v, tnc (show k < 2147483648 by omega), r_max hd1, r_min hd1, a1, a2, j_s, j_a, cz_0, cz_r0, p0, p4, p8, rvs, lx_157_1, lb_157_1, ee_turn, k_0, k_16, k_6, nz_16, nz_6, v_and, v_bin, v_call, v_cmp, v_cons, v_get, v_idx, v_int, v_loc, v_mat, v_nil, v_tern, v_z, w_inc, w_ret, w_seq, w_set, List.getElem?_cons_zero, List.getElem?_cons_succ, List.set_cons_zero, List.set_cons_succ, ee_cmp0, ee_cmp1, ee_cmp2, ee_cmp3, ee_cmp4, ee_cmp5, ee_cmpL0, ee_cmpL1, ee_cmpL2, ee_cmpL3, ee_cmpL4, ee_cmpL5, ee_tru_eb, decide_eq_true_eq, ib_i, ie_b, ie_f, ie_t, ib_l, fin_i, fin_l, fin_v, fin_z, fin_a, fin_n, ee_b_0, ee_fld0, ee_fld1, ee_fld2, ee_fld3, bi_0, bi_1, bi_2, bi_3, bi_4, bi_5, bi_6, bi_7, bi_8, bi_9, bi_10, bl_20, bl_21, bl_22, bl_23, bl_24, bl_25, bl_26, bl_48, bl_49, un_0, un_1, un_2, un_3, if_true, if_false, ite_true, ite_false, Bool.false_eq_true, Bool.not_eq_false, decide_not, Bool.not_not, reduceCtorEq, st_i, st_l, st_r, st_n, ee_noL, ee_noL.eq_1, List.length_cons, List.length_nil, Nat.reduceAdd, Nat.reduceLT, Nat.zero_add, and_true, true_and, and_self, fin_ite, pu_0, pu_1, pu_3, sto_0, el_0, Bool.not_eq_true, decide_eq_false_iff_not, Bool.decide_eq_true, Bool.decide_eq_false, decide_true, decide_false, Bool.not_true, Bool.not_false, Bool.and_self, Bool.and_true, Bool.and_false, Bool.true_and, Bool.false_and, Bool.or_true, Bool.or_false, Bool.true_or, Bool.false_or, if_true, if_false, Bool.false_eq_true])
      (by
        have h9 : ¬ Int32.ofNat Z.1.2.2.2.2.1.1 < Int32.ofNat Z.1.2.2.2.2.1.1 := fun y => by have := (j_lt (by omega) (by omega)).1 y; omega
        simp only [h9, e7, cz_0, cz_r0, p0, rvs, lx_157_1, lb_157_1, ee_turn, k_0, k_16, k_6, nz_16, nz_6, v_and, v_bin, v_call, v_cmp, v_cons, v_get, v_idx, v_int, v_loc, v_mat, v_nil, v_tern, v_z, w_inc, w_ret, w_seq, w_set, List.getElem?_cons_zero, List.getElem?_cons_succ, List.set_cons_zero, List.set_cons_succ, ee_cmp0, ee_cmp1, ee_cmp2, ee_cmp3, ee_cmp4, ee_cmp5, ee_cmpL0, ee_cmpL1, ee_cmpL2, ee_cmpL3, ee_cmpL4, ee_cmpL5, ee_tru_eb, decide_eq_true_eq, ib_i, ie_b, ie_f, ie_t, ib_l, fin_i, fin_l, fin_v, fin_z, fin_a, fin_n, ee_b_0, ee_fld0, ee_fld1, ee_fld2, ee_fld3, bi_0, bi_1, bi_2, bi_3, bi_4, bi_5, bi_6, bi_7, bi_8, bi_9, bi_10, bl_20, bl_21, bl_22, bl_23, bl_24, bl_25, bl_26, bl_48, bl_49, un_0, un_1, un_2, un_3, if_true, if_false, ite_true, ite_false, Bool.false_eq_true, Bool.not_eq_false, decide_not, Bool.not_not, reduceCtorEq, st_i, st_l, st_r, st_n, ee_noL, ee_noL.eq_1, List.length_cons, List.length_nil, Nat.reduceAdd, Nat.reduceLT, Nat.zero_add, and_true, true_and, and_self, fin_ite, pu_0, pu_1, pu_3, sto_0, el_0, Bool.not_eq_true, decide_eq_false_iff_not, Bool.decide_eq_true, Bool.decide_eq_false, decide_true, decide_false, Bool.not_true, Bool.not_false, Bool.and_self, Bool.and_true, Bool.and_false, Bool.true_and, Bool.false_and, Bool.or_true, Bool.or_false, Bool.true_or, Bool.false_or, if_true, if_false, Bool.false_eq_true])
    rw [k_0, show hiq Z 0 = frm Z from rfl, show loq Z 0 = frm Z from rfl] at hl
    rw [rn_157 cz_0]
    by_cases z : u = 0
    · subst z
      by_cases c : frm Z < hiq Z Z.1.2.2.2.2.1.1 <;> simp only [e0, ef, nz_16, w_while, hl, c, swp, cz_0, cz_r0, p0, p1, s0, rvs, be_157, k_0, k_16, k_6, nz_16, nz_6, v_and, v_bin, v_call, v_cmp, v_cons, v_get, v_idx, v_int, v_loc, v_mat, v_nil, v_tern, v_z, w_inc, w_ret, w_seq, w_set, List.getElem?_cons_zero, List.getElem?_cons_succ, List.set_cons_zero, List.set_cons_succ, ee_cmp0, ee_cmp1, ee_cmp2, ee_cmp3, ee_cmp4, ee_cmp5, ee_cmpL0, ee_cmpL1, ee_cmpL2, ee_cmpL3, ee_cmpL4, ee_cmpL5, ee_tru_eb, decide_eq_true_eq, ib_i, ie_b, ie_f, ie_t, ib_l, fin_i, fin_l, fin_v, fin_z, fin_a, fin_n, ee_b_0, ee_fld0, ee_fld1, ee_fld2, ee_fld3, bi_0, bi_1, bi_2, bi_3, bi_4, bi_5, bi_6, bi_7, bi_8, bi_9, bi_10, bl_20, bl_21, bl_22, bl_23, bl_24, bl_25, bl_26, bl_48, bl_49, un_0, un_1, un_2, un_3, if_true, if_false, ite_true, ite_false, Bool.false_eq_true, Bool.not_eq_false, decide_not, Bool.not_not, reduceCtorEq, st_i, st_l, st_r, st_n, ee_noL, ee_noL.eq_1, List.length_cons, List.length_nil, Nat.reduceAdd, Nat.reduceLT, Nat.zero_add, and_true, true_and, and_self, fin_ite, pu_0, pu_1, pu_3, sto_0, el_0, Bool.not_eq_true, decide_eq_false_iff_not, Bool.decide_eq_true, Bool.decide_eq_false, decide_true, decide_false, Bool.not_true, Bool.not_false, Bool.and_self, Bool.and_true, Bool.and_false, Bool.true_and, Bool.false_and, Bool.or_true, Bool.or_false, Bool.true_or, Bool.false_or, if_true, if_false, Bool.false_eq_true]
    · by_cases c : loq Z Z.1.2.2.2.2.1.1 < frm Z <;> simp only [e0, ef, nz_16, w_while, hl, z, c, swp, cz_0, cz_r0, p0, p1, s0, rvs, be_157, k_0, k_16, k_6, nz_16, nz_6, v_and, v_bin, v_call, v_cmp, v_cons, v_get, v_idx, v_int, v_loc, v_mat, v_nil, v_tern, v_z, w_inc, w_ret, w_seq, w_set, List.getElem?_cons_zero, List.getElem?_cons_succ, List.set_cons_zero, List.set_cons_succ, ee_cmp0, ee_cmp1, ee_cmp2, ee_cmp3, ee_cmp4, ee_cmp5, ee_cmpL0, ee_cmpL1, ee_cmpL2, ee_cmpL3, ee_cmpL4, ee_cmpL5, ee_tru_eb, decide_eq_true_eq, ib_i, ie_b, ie_f, ie_t, ib_l, fin_i, fin_l, fin_v, fin_z, fin_a, fin_n, ee_b_0, ee_fld0, ee_fld1, ee_fld2, ee_fld3, bi_0, bi_1, bi_2, bi_3, bi_4, bi_5, bi_6, bi_7, bi_8, bi_9, bi_10, bl_20, bl_21, bl_22, bl_23, bl_24, bl_25, bl_26, bl_48, bl_49, un_0, un_1, un_2, un_3, if_true, if_false, ite_true, ite_false, Bool.false_eq_true, Bool.not_eq_false, decide_not, Bool.not_not, reduceCtorEq, st_i, st_l, st_r, st_n, ee_noL, ee_noL.eq_1, List.length_cons, List.length_nil, Nat.reduceAdd, Nat.reduceLT, Nat.zero_add, and_true, true_and, and_self, fin_ite, pu_0, pu_1, pu_3, sto_0, el_0, Bool.not_eq_true, decide_eq_false_iff_not, Bool.decide_eq_true, Bool.decide_eq_false, decide_true, decide_false, Bool.not_true, Bool.not_false, Bool.and_self, Bool.and_true, Bool.and_false, Bool.true_and, Bool.false_and, Bool.or_true, Bool.or_false, Bool.true_or, Bool.false_or, if_true, if_false, Bool.false_eq_true]
  · have tn : ee_run ee_B P d 326 [.ref 236] w = some ([.int (frm Z)], w) := by
      obtain ⟨d', rfl⟩ : ∃ k, d = k + 1 := ⟨d - 1, by omega⟩
      rw [rn_326 mz_0]
      simp only [m7, ef, nz_16, bd_326, k_16, k_7, nz_16, nz_7, v_bin, v_get, v_idx, v_int, v_loc, w_ret, List.getElem?_cons_zero, List.getElem?_cons_succ, List.set_cons_zero, List.set_cons_succ, ee_cmp0, ee_cmp1, ee_cmp2, ee_cmp3, ee_cmp4, ee_cmp5, ee_cmpL0, ee_cmpL1, ee_cmpL2, ee_cmpL3, ee_cmpL4, ee_cmpL5, ee_tru_eb, decide_eq_true_eq, ib_i, ie_b, ie_f, ie_t, ib_l, fin_i, fin_l, fin_v, fin_z, fin_a, fin_n, ee_b_0, ee_fld0, ee_fld1, ee_fld2, ee_fld3, bi_0, bi_1, bi_2, bi_3, bi_4, bi_5, bi_6, bi_7, bi_8, bi_9, bi_10, bl_20, bl_21, bl_22, bl_23, bl_24, bl_25, bl_26, bl_48, bl_49, un_0, un_1, un_2, un_3, if_true, if_false, ite_true, ite_false, Bool.false_eq_true, Bool.not_eq_false, decide_not, Bool.not_not, reduceCtorEq, st_i, st_l, st_r, st_n, ee_noL, ee_noL.eq_1, List.length_cons, List.length_nil, Nat.reduceAdd, Nat.reduceLT, Nat.zero_add, and_true, true_and, and_self, fin_ite, pu_0, pu_1, pu_3, sto_0, el_0, Bool.not_eq_true, decide_eq_false_iff_not, Bool.decide_eq_true, Bool.decide_eq_false, decide_true, decide_false, Bool.not_true, Bool.not_false, Bool.and_self, Bool.and_true, Bool.and_false, Bool.true_and, Bool.false_and, Bool.or_true, Bool.or_false, Bool.true_or, Bool.false_or, if_true, if_false, Bool.false_eq_true, ix_16, ix_7, tc_16, tc_7, mz_0, mz_1, mz_a, rvs, j_s, j_a, wI_at, Nat.reduceEqDiff, zero_ne_one_n, one_ne_zero_n]
    have hl := for_q (w := w) (x := ee_ev es_sh es_rf (ee_run ee_B P d) lx_328_1) (b := ee_evS es_sh es_rf (ee_run ee_B P d) lb_328_1)
      (fun k => [some (.ref 236), some (.int u), some (.int (frm Z)), some (.int (hiq Z k)), some (.int (loq Z k)), some (.int (Int32.ofNat k)), match k with | 0 => none | j + 1 => some (.int (Z.1.2.2.2.2.1.2 j))]) Z.1.2.2.2.2.1.1
      (by
        intro k hk
        have h9 : Int32.ofNat k < Int32.ofNat Z.1.2.2.2.2.1.1 := (j_lt (by omega) (by omega)).2 hk
        have e32 : (32 : Int32) + Int32.ofNat k = Int32.ofNat (32 + k) := j_a 32 k
        have x1 : ee_ix (Int32.ofNat (32 + k)) 1369 = true := by rw [ixn (by omega)]; exact decide_eq_true (by omega)
        have v := mr k hk
        have a1 : mxI (hiq Z k) (Z.1.2.2.2.2.1.2 k) = hiq Z (k + 1) := rfl
        have a2 : xmin (loq Z k) (Z.1.2.2.2.2.1.2 k) = loq Z (k + 1) := rfl
        simp only [h9, m3, e32, x1, v, tnc (show 32 + k < 2147483648 by omega), mx_m, mn_m, a1, a2, lx_328_1, lb_328_1, ee_turn, k_0, k_3, k_32, nz_3, nz_32, v_bin, v_call, v_cmp, v_cons, v_get, v_idx, v_int, v_loc, v_nil, v_tern, v_z, w_inc, w_ret, w_seq, w_set, List.getElem?_cons_zero, List.getElem?_cons_succ, List.set_cons_zero, List.set_cons_succ, ee_cmp0, ee_cmp1, ee_cmp2, ee_cmp3, ee_cmp4, ee_cmp5, ee_cmpL0, ee_cmpL1, ee_cmpL2, ee_cmpL3, ee_cmpL4, ee_cmpL5, ee_tru_eb, decide_eq_true_eq, ib_i, ie_b, ie_f, ie_t, ib_l, fin_i, fin_l, fin_v, fin_z, fin_a, fin_n, ee_b_0, ee_fld0, ee_fld1, ee_fld2, ee_fld3, bi_0, bi_1, bi_2, bi_3, bi_4, bi_5, bi_6, bi_7, bi_8, bi_9, bi_10, bl_20, bl_21, bl_22, bl_23, bl_24, bl_25, bl_26, bl_48, bl_49, un_0, un_1, un_2, un_3, if_true, if_false, ite_true, ite_false, Bool.false_eq_true, Bool.not_eq_false, decide_not, Bool.not_not, reduceCtorEq, st_i, st_l, st_r, st_n, ee_noL, ee_noL.eq_1, List.length_cons, List.length_nil, Nat.reduceAdd, Nat.reduceLT, Nat.zero_add, and_true, true_and, and_self, fin_ite, pu_0, pu_1, pu_3, sto_0, el_0, Bool.not_eq_true, decide_eq_false_iff_not, Bool.decide_eq_true, Bool.decide_eq_false, decide_true, decide_false, Bool.not_true, Bool.not_false, Bool.and_self, Bool.and_true, Bool.and_false, Bool.true_and, Bool.false_and, Bool.or_true, Bool.or_false, Bool.true_or, Bool.false_or, if_true, if_false, Bool.false_eq_true, tc_0, ix_0, tc_3, ix_3, tc_32, ix_32, mz_0, mz_1, mz_a, rvs, j_s, j_a, wI_at, Nat.reduceEqDiff, zero_ne_one_n, one_ne_zero_n])
      (by
        have h9 : ¬ Int32.ofNat Z.1.2.2.2.2.1.1 < Int32.ofNat Z.1.2.2.2.2.1.1 := fun y => by have := (j_lt (by omega) (by omega)).1 y; omega
        simp only [h9, m3, lx_328_1, lb_328_1, ee_turn, k_0, k_3, k_32, nz_3, nz_32, v_bin, v_call, v_cmp, v_cons, v_get, v_idx, v_int, v_loc, v_nil, v_tern, v_z, w_inc, w_ret, w_seq, w_set, List.getElem?_cons_zero, List.getElem?_cons_succ, List.set_cons_zero, List.set_cons_succ, ee_cmp0, ee_cmp1, ee_cmp2, ee_cmp3, ee_cmp4, ee_cmp5, ee_cmpL0, ee_cmpL1, ee_cmpL2, ee_cmpL3, ee_cmpL4, ee_cmpL5, ee_tru_eb, decide_eq_true_eq, ib_i, ie_b, ie_f, ie_t, ib_l, fin_i, fin_l, fin_v, fin_z, fin_a, fin_n, ee_b_0, ee_fld0, ee_fld1, ee_fld2, ee_fld3, bi_0, bi_1, bi_2, bi_3, bi_4, bi_5, bi_6, bi_7, bi_8, bi_9, bi_10, bl_20, bl_21, bl_22, bl_23, bl_24, bl_25, bl_26, bl_48, bl_49, un_0, un_1, un_2, un_3, if_true, if_false, ite_true, ite_false, Bool.false_eq_true, Bool.not_eq_false, decide_not, Bool.not_not, reduceCtorEq, st_i, st_l, st_r, st_n, ee_noL, ee_noL.eq_1, List.length_cons, List.length_nil, Nat.reduceAdd, Nat.reduceLT, Nat.zero_add, and_true, true_and, and_self, fin_ite, pu_0, pu_1, pu_3, sto_0, el_0, Bool.not_eq_true, decide_eq_false_iff_not, Bool.decide_eq_true, Bool.decide_eq_false, decide_true, decide_false, Bool.not_true, Bool.not_false, Bool.and_self, Bool.and_true, Bool.and_false, Bool.true_and, Bool.false_and, Bool.or_true, Bool.or_false, Bool.true_or, Bool.false_or, if_true, if_false, Bool.false_eq_true, tc_0, ix_0, tc_3, ix_3, tc_32, ix_32, mz_0, mz_1, mz_a, rvs, j_s, j_a, wI_at, Nat.reduceEqDiff, zero_ne_one_n, one_ne_zero_n])
    dsimp only at hl
    rw [k_0, show hiq Z 0 = frm Z from rfl, show loq Z 0 = frm Z from rfl] at hl
    obtain ⟨b1, b2, b3, b4⟩ := hb
    unfold bI at b1 b2 fb
    have g1 : (0 < frm Z - loq Z Z.1.2.2.2.2.1.1) ↔ loq Z Z.1.2.2.2.2.1.1 < frm Z := by
      rw [i32_lt, i32_lt, i32_sub (by omega) (by omega), show (0 : Int32).toInt = 0 from rfl]; omega
    have g2 : (0 < hiq Z Z.1.2.2.2.2.1.1 - frm Z) ↔ frm Z < hiq Z Z.1.2.2.2.2.1.1 := by
      rw [i32_lt, i32_lt, i32_sub (by omega) (by omega), show (0 : Int32).toInt = 0 from rfl]; omega
    rw [rn_328 mz_0]
    by_cases z : u = 0
    · subst z
      by_cases c : frm Z < hiq Z Z.1.2.2.2.2.1.1 <;> simp only [tn, w_while, hl, g2, c, swp, sw_eq2, Int32.add_zero, be_328, k_0, k_3, k_32, nz_3, nz_32, v_bin, v_call, v_cmp, v_cons, v_get, v_idx, v_int, v_loc, v_nil, v_tern, v_z, w_inc, w_ret, w_seq, w_set, List.getElem?_cons_zero, List.getElem?_cons_succ, List.set_cons_zero, List.set_cons_succ, ee_cmp0, ee_cmp1, ee_cmp2, ee_cmp3, ee_cmp4, ee_cmp5, ee_cmpL0, ee_cmpL1, ee_cmpL2, ee_cmpL3, ee_cmpL4, ee_cmpL5, ee_tru_eb, decide_eq_true_eq, ib_i, ie_b, ie_f, ie_t, ib_l, fin_i, fin_l, fin_v, fin_z, fin_a, fin_n, ee_b_0, ee_fld0, ee_fld1, ee_fld2, ee_fld3, bi_0, bi_1, bi_2, bi_3, bi_4, bi_5, bi_6, bi_7, bi_8, bi_9, bi_10, bl_20, bl_21, bl_22, bl_23, bl_24, bl_25, bl_26, bl_48, bl_49, un_0, un_1, un_2, un_3, if_true, if_false, ite_true, ite_false, Bool.false_eq_true, Bool.not_eq_false, decide_not, Bool.not_not, reduceCtorEq, st_i, st_l, st_r, st_n, ee_noL, ee_noL.eq_1, List.length_cons, List.length_nil, Nat.reduceAdd, Nat.reduceLT, Nat.zero_add, and_true, true_and, and_self, fin_ite, pu_0, pu_1, pu_3, sto_0, el_0, Bool.not_eq_true, decide_eq_false_iff_not, Bool.decide_eq_true, Bool.decide_eq_false, decide_true, decide_false, Bool.not_true, Bool.not_false, Bool.and_self, Bool.and_true, Bool.and_false, Bool.true_and, Bool.false_and, Bool.or_true, Bool.or_false, Bool.true_or, Bool.false_or, if_true, if_false, Bool.false_eq_true, ix_0, ix_3, ix_32, tc_0, tc_3, tc_32, mz_0, mz_1, mz_a, rvs, j_s, j_a, wI_at, Nat.reduceEqDiff, zero_ne_one_n, one_ne_zero_n]
    · by_cases c : loq Z Z.1.2.2.2.2.1.1 < frm Z <;> simp only [tn, w_while, hl, z, g1, c, swp, sw_eq, Int32.add_zero, be_328, k_0, k_3, k_32, nz_3, nz_32, v_bin, v_call, v_cmp, v_cons, v_get, v_idx, v_int, v_loc, v_nil, v_tern, v_z, w_inc, w_ret, w_seq, w_set, List.getElem?_cons_zero, List.getElem?_cons_succ, List.set_cons_zero, List.set_cons_succ, ee_cmp0, ee_cmp1, ee_cmp2, ee_cmp3, ee_cmp4, ee_cmp5, ee_cmpL0, ee_cmpL1, ee_cmpL2, ee_cmpL3, ee_cmpL4, ee_cmpL5, ee_tru_eb, decide_eq_true_eq, ib_i, ie_b, ie_f, ie_t, ib_l, fin_i, fin_l, fin_v, fin_z, fin_a, fin_n, ee_b_0, ee_fld0, ee_fld1, ee_fld2, ee_fld3, bi_0, bi_1, bi_2, bi_3, bi_4, bi_5, bi_6, bi_7, bi_8, bi_9, bi_10, bl_20, bl_21, bl_22, bl_23, bl_24, bl_25, bl_26, bl_48, bl_49, un_0, un_1, un_2, un_3, if_true, if_false, ite_true, ite_false, Bool.false_eq_true, Bool.not_eq_false, decide_not, Bool.not_not, reduceCtorEq, st_i, st_l, st_r, st_n, ee_noL, ee_noL.eq_1, List.length_cons, List.length_nil, Nat.reduceAdd, Nat.reduceLT, Nat.zero_add, and_true, true_and, and_self, fin_ite, pu_0, pu_1, pu_3, sto_0, el_0, Bool.not_eq_true, decide_eq_false_iff_not, Bool.decide_eq_true, Bool.decide_eq_false, decide_true, decide_false, Bool.not_true, Bool.not_false, Bool.and_self, Bool.and_true, Bool.and_false, Bool.true_and, Bool.false_and, Bool.or_true, Bool.or_false, Bool.true_or, Bool.false_or, if_true, if_false, Bool.false_eq_true, ix_0, ix_3, ix_32, tc_0, tc_3, tc_32, mz_0, mz_1, mz_a, rvs, j_s, j_a, wI_at, Nat.reduceEqDiff, zero_ne_one_n, one_ne_zero_n]
end BS2
