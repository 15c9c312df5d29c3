/-! what the reference looks up on its pile -/
section PLK
variable {P : Nat → Nat → List Value → ee_W → Option (List Value × ee_W)} {d : Nat} {w : ee_W} {f : Nat → Int32} {n s t : Nat} {ks : List Nat}
theorem sgq_60 : ∀ x : Int32, x = 60 ↔ sgk x = 25 := by
  intro x
  constructor
  · rintro rfl; decide
  · intro h
    unfold sgk at h
    (repeat' split at h) <;> first | assumption | omega
theorem mq_60 (hM : MTK w f n s) : (w.1 236 9 = 60) = ((tok f n s).1 = 25) := propext (mt_code sgq_60 (by decide) (by decide) hM)
theorem sgq_62 : ∀ x : Int32, x = 62 ↔ sgk x = 27 := by
  intro x
  constructor
  · rintro rfl; decide
  · intro h
    unfold sgk at h
    (repeat' split at h) <;> first | assumption | omega
theorem mq_62 (hM : MTK w f n s) : (w.1 236 9 = 62) = ((tok f n s).1 = 27) := propext (mt_code sgq_62 (by decide) (by decide) hM)
theorem sgq_61 : ∀ x : Int32, x = 61 ↔ sgk x = 29 := by
  intro x
  constructor
  · rintro rfl; decide
  · intro h
    unfold sgk at h
    (repeat' split at h) <;> first | assumption | omega
theorem mq_61 (hM : MTK w f n s) : (w.1 236 9 = 61) = ((tok f n s).1 = 29) := propext (mt_code sgq_61 (by decide) (by decide) hM)
theorem sgq_35 : ∀ x : Int32, x = 35 ↔ sgk x = 30 := by
  intro x
  constructor
  · rintro rfl; decide
  · intro h
    unfold sgk at h
    (repeat' split at h) <;> first | assumption | omega
theorem mq_35 (hM : MTK w f n s) : (w.1 236 9 = 35) = ((tok f n s).1 = 30) := propext (mt_code sgq_35 (by decide) (by decide) hM)
theorem sgq_43 : ∀ x : Int32, x = 43 ↔ sgk x = 31 := by
  intro x
  constructor
  · rintro rfl; decide
  · intro h
    unfold sgk at h
    (repeat' split at h) <;> first | assumption | omega
theorem mq_43 (hM : MTK w f n s) : (w.1 236 9 = 43) = ((tok f n s).1 = 31) := propext (mt_code sgq_43 (by decide) (by decide) hM)
theorem sgq_45 : ∀ x : Int32, x = 45 ↔ sgk x = 32 := by
  intro x
  constructor
  · rintro rfl; decide
  · intro h
    unfold sgk at h
    (repeat' split at h) <;> first | assumption | omega
theorem mq_45 (hM : MTK w f n s) : (w.1 236 9 = 45) = ((tok f n s).1 = 32) := propext (mt_code sgq_45 (by decide) (by decide) hM)
theorem sgq_42 : ∀ x : Int32, x = 42 ↔ sgk x = 33 := by
  intro x
  constructor
  · rintro rfl; decide
  · intro h
    unfold sgk at h
    (repeat' split at h) <;> first | assumption | omega
theorem mq_42 (hM : MTK w f n s) : (w.1 236 9 = 42) = ((tok f n s).1 = 33) := propext (mt_code sgq_42 (by decide) (by decide) hM)
theorem sgq_47 : ∀ x : Int32, x = 47 ↔ sgk x = 34 := by
  intro x
  constructor
  · rintro rfl; decide
  · intro h
    unfold sgk at h
    (repeat' split at h) <;> first | assumption | omega
theorem mq_47 (hM : MTK w f n s) : (w.1 236 9 = 47) = ((tok f n s).1 = 34) := propext (mt_code sgq_47 (by decide) (by decide) hM)
theorem sgq_40 : ∀ x : Int32, x = 40 ↔ sgk x = 35 := by
  intro x
  constructor
  · rintro rfl; decide
  · intro h
    unfold sgk at h
    (repeat' split at h) <;> first | assumption | omega
theorem mq_40 (hM : MTK w f n s) : (w.1 236 9 = 40) = ((tok f n s).1 = 35) := propext (mt_code sgq_40 (by decide) (by decide) hM)
theorem sgq_41 : ∀ x : Int32, x = 41 ↔ sgk x = 36 := by
  intro x
  constructor
  · rintro rfl; decide
  · intro h
    unfold sgk at h
    (repeat' split at h) <;> first | assumption | omega
theorem mq_41 (hM : MTK w f n s) : (w.1 236 9 = 41) = ((tok f n s).1 = 36) := propext (mt_code sgq_41 (by decide) (by decide) hM)
theorem sgq_59 : ∀ x : Int32, x = 59 ↔ sgk x = 37 := by
  intro x
  constructor
  · rintro rfl; decide
  · intro h
    unfold sgk at h
    (repeat' split at h) <;> first | assumption | omega
theorem mq_59 (hM : MTK w f n s) : (w.1 236 9 = 59) = ((tok f n s).1 = 37) := propext (mt_code sgq_59 (by decide) (by decide) hM)
theorem mq_0 (hM : MTK w f n s) : (w.1 236 9 = 0) = ((tok f n s).1 = 39) := propext (mt_small (Or.inl ⟨rfl, rfl⟩) hM)
theorem mq_1 (hM : MTK w f n s) : (w.1 236 9 = 1) = ((tok f n s).1 = 38) := propext (mt_small (Or.inr (Or.inl ⟨rfl, rfl⟩)) hM)
theorem mq_4 (hM : MTK w f n s) : (w.1 236 9 = 4) = ((tok f n s).1 = 26) := propext (mt_small (Or.inr (Or.inr (Or.inl ⟨rfl, rfl⟩))) hM)
theorem mq_5 (hM : MTK w f n s) : (w.1 236 9 = 5) = ((tok f n s).1 = 28) := propext (mt_small (Or.inr (Or.inr (Or.inr ⟨rfl, rfl⟩))) hM)
/-- a place below m -/
def pj (m : Nat) : Int32 := if m = 0 then -1 else Int32.ofNat (m - 1)
theorem pj_s (m : Nat) : pj (m + 1) = Int32.ofNat m := rfl
theorem pj_0 : pj 0 = -1 := rfl
theorem pj_sub {m : Nat} (h : m < 2147483648) : Int32.ofNat m - 1 = pj m := by
  cases m with
  | zero => decide
  | succ m => rw [pj_s]; exact j_sub1 (by omega) h
theorem pj_m1 {m : Nat} (h : m < 2147483648) : Int32.ofNat m + -1 = pj m := by
  cases m with
  | zero => decide
  | succ m => rw [pj_s]; exact j_p1 h
/-- one more than the place of what is open at last; 0: none -/
def opx : List Nat → Nat
  | [] => 0
  | k :: r => if 40 ≤ k then r.length + 1 else opx r
/-- what is open at last; 0: none -/
def opk : List Nat → Nat
  | [] => 0
  | k :: r => if 40 ≤ k then k else opk r
def opi (m : Nat) : Int32 := if m = 0 then -1 else Int32.ofNat m
/-- whether what is asked at last has been compared -/
def icm : List Nat → Bool
  | [] => false
  | k :: r => if 4 < rnk k then icm r else decide (rnk k = 4)
def iah (ks : List Nat) : Bool := decide (opk ks = 41) && (match ks with
  | [] => false
  | k :: _ => decide (40 ≤ k) || (decide (1 ≤ rnk k) && decide (rnk k ≤ 3)))
theorem opx_b : ∀ ks : List Nat, opx ks ≤ ks.length := by
  intro ks
  induction ks with
  | nil => exact Nat.le_refl _
  | cons k r ih =>
    rw [List.length_cons]
    unfold opx
    split <;> omega
theorem opx_k (hP : PIL w ks) : (opx ks = 0 ∧ opk ks = 0) ∨ (1 ≤ opx ks ∧ 40 ≤ opk ks ∧ opk ks ≤ 43 ∧ w.1 241 (opx ks - 1) = Int32.ofNat (opk ks)) := by
  induction ks with
  | nil => exact Or.inl ⟨rfl, rfl⟩
  | cons k r ih =>
    obtain ⟨p1, p2, p3⟩ := hP
    by_cases c : 40 ≤ k
    · right
      unfold opx opk
      rw [if_pos c, if_pos c]
      exact ⟨by omega, c, p2, p1⟩
    · unfold opx opk
      rw [if_neg c, if_neg c]
      exact ih p3
/-- the pile as it lies -/
def PLH (w : ee_W) (ks : List Nat) : Prop := PIL w ks ∧ w.1 236 16 = Int32.ofNat ks.length ∧ ks.length ≤ 160
theorem EMT_h {W O : Nat} (h : EMT w t W ks O) : PLH w ks := ⟨h.2.2.2.2.1, h.2.2.2.2.2.1, h.2.2.2.2.2.2.2.2⟩
theorem m_oloop : ∀ ks : List Nat, PIL w ks → ks.length ≤ 160 → ee_wh (ee_turn (ee_ev es_sh es_rf (ee_run ee_B P d) lx_217_1) (ee_evS es_sh es_rf (ee_run ee_B P d) lb_217_1)) ([some (.ref 236), some (.int (pj ks.length))], w) = some (.inl ([some (.ref 236), some (.int (pj (opx ks)))], w)) := by
  intro ks
  induction ks with
  | nil =>
    intro _ _
    rw [List.length_nil, show opx [] = 0 from rfl, pj_0]
    have z : ¬ (0 : Int32) ≤ -1 := by decide
    have tt : ee_turn (ee_ev es_sh es_rf (ee_run ee_B P d) lx_217_1) (ee_evS es_sh es_rf (ee_run ee_B P d) lb_217_1) ([some (.ref 236), some (.int (-1))], w) = some (.inr (.inl ([some (.ref 236), some (.int (-1))], w))) := by
      simp only [z, lx_217_1, lb_217_1, ee_turn, k_1, k_40, nz_1, nz_40, v_and, v_bin, v_cmp, v_get, v_idx, v_int, v_loc, v_z, w_incm1, w_incm2, w_incm8, w_incp1, w_ret, w_seq, w_set, List.getElem?_cons_zero, List.getElem?_cons_succ, List.set_cons_zero, List.set_cons_succ, ee_cmp0, ee_cmp1, ee_cmp2, ee_cmp3, ee_cmp4, ee_cmp5, ee_cmpL0, ee_cmpL1, ee_cmpL2, ee_cmpL3, ee_cmpL4, ee_cmpL5, ee_tru_eb, decide_eq_true_eq, ib_i, ie_b, ie_f, ie_t, ib_l, fin_i, fin_l, fin_v, fin_z, fin_a, fin_n, ee_b_0, ee_fld0, ee_fld1, ee_fld2, ee_fld3, bi_0, bi_1, bi_2, bi_3, bi_4, bi_5, bi_6, bi_7, bi_8, bi_9, bi_10, bl_20, bl_21, bl_22, bl_23, bl_24, bl_25, bl_26, bl_48, bl_49, un_0, un_1, un_2, un_3, if_true, if_false, ite_true, ite_false, Bool.false_eq_true, Bool.not_eq_false, decide_not, Bool.not_not, reduceCtorEq, st_i, st_l, st_r, st_n, ee_noL, ee_noL.eq_1, List.length_cons, List.length_nil, Nat.reduceAdd, Nat.reduceLT, Nat.zero_add, and_true, true_and, and_self, fin_ite, pu_0, pu_1, pu_3, sto_0, el_0, Bool.not_eq_true, decide_eq_false_iff_not, Bool.decide_eq_true, Bool.decide_eq_false, decide_true, decide_false, Bool.not_true, Bool.not_false, Bool.and_self, Bool.and_true, Bool.and_false, Bool.true_and, Bool.false_and, Bool.or_true, Bool.or_false, Bool.true_or, Bool.false_or, if_true, if_false, Bool.false_eq_true, tc_1, ix_1, tc_40, ix_40, mz_0, mz_1, mz_a, rvs, j_s, j_a, wI_at, Nat.reduceEqDiff, zero_ne_one_n, one_ne_zero_n]
    rw [ee_wh_eq, tt]
  | cons k r ih =>
    rintro ⟨p1, p2, p3⟩ hl
    rw [List.length_cons] at hl
    rw [List.length_cons, pj_s]
    have z : (0 : Int32) ≤ Int32.ofNat r.length := (j_le (a := 0) (by omega) (by omega)).2 (by omega)
    have x1 : ee_ix (Int32.ofNat r.length) 160 = true := by rw [ixn (by omega)]; exact decide_eq_true (by omega)
    have a40 : Int32.ofNat k < (40 : Int32) ↔ k < 40 := j_lt (b := 40) (by omega) (by omega)
    have tm := tnc (n := r.length) (by omega)
    have e1 := pj_m1 (m := r.length) (by omega)
    unfold opx
    by_cases c : 40 ≤ k
    · have c' : ¬ k < 40 := by omega
      have tt : ee_turn (ee_ev es_sh es_rf (ee_run ee_B P d) lx_217_1) (ee_evS es_sh es_rf (ee_run ee_B P d) lb_217_1) ([some (.ref 236), some (.int (Int32.ofNat r.length))], w) = some (.inr (.inl ([some (.ref 236), some (.int (Int32.ofNat r.length))], w))) := by
        simp only [z, x1, tm, p1, a40, c', mz_p, mz_ps, lx_217_1, lb_217_1, ee_turn, k_1, k_40, nz_1, nz_40, v_and, v_bin, v_cmp, v_get, v_idx, v_int, v_loc, v_z, w_incm1, w_incm2, w_incm8, w_incp1, w_ret, w_seq, w_set, List.getElem?_cons_zero, List.getElem?_cons_succ, List.set_cons_zero, List.set_cons_succ, ee_cmp0, ee_cmp1, ee_cmp2, ee_cmp3, ee_cmp4, ee_cmp5, ee_cmpL0, ee_cmpL1, ee_cmpL2, ee_cmpL3, ee_cmpL4, ee_cmpL5, ee_tru_eb, decide_eq_true_eq, ib_i, ie_b, ie_f, ie_t, ib_l, fin_i, fin_l, fin_v, fin_z, fin_a, fin_n, ee_b_0, ee_fld0, ee_fld1, ee_fld2, ee_fld3, bi_0, bi_1, bi_2, bi_3, bi_4, bi_5, bi_6, bi_7, bi_8, bi_9, bi_10, bl_20, bl_21, bl_22, bl_23, bl_24, bl_25, bl_26, bl_48, bl_49, un_0, un_1, un_2, un_3, if_true, if_false, ite_true, ite_false, Bool.false_eq_true, Bool.not_eq_false, decide_not, Bool.not_not, reduceCtorEq, st_i, st_l, st_r, st_n, ee_noL, ee_noL.eq_1, List.length_cons, List.length_nil, Nat.reduceAdd, Nat.reduceLT, Nat.zero_add, and_true, true_and, and_self, fin_ite, pu_0, pu_1, pu_3, sto_0, el_0, Bool.not_eq_true, decide_eq_false_iff_not, Bool.decide_eq_true, Bool.decide_eq_false, decide_true, decide_false, Bool.not_true, Bool.not_false, Bool.and_self, Bool.and_true, Bool.and_false, Bool.true_and, Bool.false_and, Bool.or_true, Bool.or_false, Bool.true_or, Bool.false_or, if_true, if_false, Bool.false_eq_true, tc_1, ix_1, tc_40, ix_40, mz_0, mz_1, mz_a, rvs, j_s, j_a, wI_at, Nat.reduceEqDiff, zero_ne_one_n, one_ne_zero_n]
      rw [if_pos c, ee_wh_eq, tt, pj_s]
    · have c' : k < 40 := by omega
      have tt : ee_turn (ee_ev es_sh es_rf (ee_run ee_B P d) lx_217_1) (ee_evS es_sh es_rf (ee_run ee_B P d) lb_217_1) ([some (.ref 236), some (.int (Int32.ofNat r.length))], w) = some (.inl ([some (.ref 236), some (.int (pj r.length))], w)) := by
        simp only [z, x1, tm, p1, a40, c', e1, mz_p, mz_ps, lx_217_1, lb_217_1, ee_turn, k_1, k_40, nz_1, nz_40, v_and, v_bin, v_cmp, v_get, v_idx, v_int, v_loc, v_z, w_incm1, w_incm2, w_incm8, w_incp1, w_ret, w_seq, w_set, List.getElem?_cons_zero, List.getElem?_cons_succ, List.set_cons_zero, List.set_cons_succ, ee_cmp0, ee_cmp1, ee_cmp2, ee_cmp3, ee_cmp4, ee_cmp5, ee_cmpL0, ee_cmpL1, ee_cmpL2, ee_cmpL3, ee_cmpL4, ee_cmpL5, ee_tru_eb, decide_eq_true_eq, ib_i, ie_b, ie_f, ie_t, ib_l, fin_i, fin_l, fin_v, fin_z, fin_a, fin_n, ee_b_0, ee_fld0, ee_fld1, ee_fld2, ee_fld3, bi_0, bi_1, bi_2, bi_3, bi_4, bi_5, bi_6, bi_7, bi_8, bi_9, bi_10, bl_20, bl_21, bl_22, bl_23, bl_24, bl_25, bl_26, bl_48, bl_49, un_0, un_1, un_2, un_3, if_true, if_false, ite_true, ite_false, Bool.false_eq_true, Bool.not_eq_false, decide_not, Bool.not_not, reduceCtorEq, st_i, st_l, st_r, st_n, ee_noL, ee_noL.eq_1, List.length_cons, List.length_nil, Nat.reduceAdd, Nat.reduceLT, Nat.zero_add, and_true, true_and, and_self, fin_ite, pu_0, pu_1, pu_3, sto_0, el_0, Bool.not_eq_true, decide_eq_false_iff_not, Bool.decide_eq_true, Bool.decide_eq_false, decide_true, decide_false, Bool.not_true, Bool.not_false, Bool.and_self, Bool.and_true, Bool.and_false, Bool.true_and, Bool.false_and, Bool.or_true, Bool.or_false, Bool.true_or, Bool.false_or, if_true, if_false, Bool.false_eq_true, tc_1, ix_1, tc_40, ix_40, mz_0, mz_1, mz_a, rvs, j_s, j_a, wI_at, Nat.reduceEqDiff, zero_ne_one_n, one_ne_zero_n]
      rw [if_neg c, ee_wh_eq, tt]
      exact ih p3 (by omega)
theorem m_openAt (hd : 1 ≤ d) (h : PLH w ks) : ee_run ee_B P d 217 [.ref 236] w = some ([.int (pj (opx ks))], w) := by
  obtain ⟨d, rfl⟩ : ∃ k, d = k + 1 := ⟨d - 1, by omega⟩
  obtain ⟨h1, h2, h3⟩ := h
  have lp := m_oloop (P := P) (d := d) ks h1 h3
  have e := pj_sub (m := ks.length) (by omega)
  rw [rn_217 mz_0]
  simp only [h2, e, w_while, lp, be_217, k_1, k_40, k_4294967295, nz_1, nz_40, v_and, v_bin, v_cmp, v_get, v_idx, v_int, v_loc, v_z, w_inc, w_ret, w_seq, w_set, List.getElem?_cons_zero, List.getElem?_cons_succ, List.set_cons_zero, List.set_cons_succ, ee_cmp0, ee_cmp1, ee_cmp2, ee_cmp3, ee_cmp4, ee_cmp5, ee_cmpL0, ee_cmpL1, ee_cmpL2, ee_cmpL3, ee_cmpL4, ee_cmpL5, ee_tru_eb, decide_eq_true_eq, ib_i, ie_b, ie_f, ie_t, ib_l, fin_i, fin_l, fin_v, fin_z, fin_a, fin_n, ee_b_0, ee_fld0, ee_fld1, ee_fld2, ee_fld3, bi_0, bi_1, bi_2, bi_3, bi_4, bi_5, bi_6, bi_7, bi_8, bi_9, bi_10, bl_20, bl_21, bl_22, bl_23, bl_24, bl_25, bl_26, bl_48, bl_49, un_0, un_1, un_2, un_3, if_true, if_false, ite_true, ite_false, Bool.false_eq_true, Bool.not_eq_false, decide_not, Bool.not_not, reduceCtorEq, st_i, st_l, st_r, st_n, ee_noL, ee_noL.eq_1, List.length_cons, List.length_nil, Nat.reduceAdd, Nat.reduceLT, Nat.zero_add, and_true, true_and, and_self, fin_ite, pu_0, pu_1, pu_3, sto_0, el_0, Bool.not_eq_true, decide_eq_false_iff_not, Bool.decide_eq_true, Bool.decide_eq_false, decide_true, decide_false, Bool.not_true, Bool.not_false, Bool.and_self, Bool.and_true, Bool.and_false, Bool.true_and, Bool.false_and, Bool.or_true, Bool.or_false, Bool.true_or, Bool.false_or, if_true, if_false, Bool.false_eq_true, ix_1, ix_40, tc_1, tc_40, mz_0, mz_1, mz_a, rvs, j_s, j_a, wI_at, Nat.reduceEqDiff, zero_ne_one_n, one_ne_zero_n]
theorem m_openNow (hd : 2 ≤ d) (h : PLH w ks) : ee_run ee_B P d 216 [.ref 236] w = some ([.int (opi (opk ks))], w) := by
  obtain ⟨d, rfl⟩ : ∃ k, d = k + 1 := ⟨d - 1, by omega⟩
  have oa := m_openAt (P := P) (d := d) (by omega) h
  have ob := opx_b ks
  rw [rn_216 mz_0]
  rcases opx_k h.1 with ⟨c1, c2⟩ | ⟨c1, c2, c3, c4⟩
  · have z : (-1 : Int32) < 0 := by decide
    rw [c1, pj_0] at oa
    rw [c2]
    unfold opi
    rw [if_pos rfl]
    simp only [oa, z, bd_216, k_4294967295, v_call, v_cons, v_get, v_idx, v_int, v_loc, v_nil, v_tern, v_z, w_ret, List.getElem?_cons_zero, List.getElem?_cons_succ, List.set_cons_zero, List.set_cons_succ, ee_cmp0, ee_cmp1, ee_cmp2, ee_cmp3, ee_cmp4, ee_cmp5, ee_cmpL0, ee_cmpL1, ee_cmpL2, ee_cmpL3, ee_cmpL4, ee_cmpL5, ee_tru_eb, decide_eq_true_eq, ib_i, ie_b, ie_f, ie_t, ib_l, fin_i, fin_l, fin_v, fin_z, fin_a, fin_n, ee_b_0, ee_fld0, ee_fld1, ee_fld2, ee_fld3, bi_0, bi_1, bi_2, bi_3, bi_4, bi_5, bi_6, bi_7, bi_8, bi_9, bi_10, bl_20, bl_21, bl_22, bl_23, bl_24, bl_25, bl_26, bl_48, bl_49, un_0, un_1, un_2, un_3, if_true, if_false, ite_true, ite_false, Bool.false_eq_true, Bool.not_eq_false, decide_not, Bool.not_not, reduceCtorEq, st_i, st_l, st_r, st_n, ee_noL, ee_noL.eq_1, List.length_cons, List.length_nil, Nat.reduceAdd, Nat.reduceLT, Nat.zero_add, and_true, true_and, and_self, fin_ite, pu_0, pu_1, pu_3, sto_0, el_0, Bool.not_eq_true, decide_eq_false_iff_not, Bool.decide_eq_true, Bool.decide_eq_false, decide_true, decide_false, Bool.not_true, Bool.not_false, Bool.and_self, Bool.and_true, Bool.and_false, Bool.true_and, Bool.false_and, Bool.or_true, Bool.or_false, Bool.true_or, Bool.false_or, if_true, if_false, Bool.false_eq_true, mz_0, mz_1, mz_a, rvs, j_s, j_a, wI_at, Nat.reduceEqDiff, zero_ne_one_n, one_ne_zero_n]
  · have h3 := h.2.2
    generalize opx ks = m at *
    obtain ⟨m, rfl⟩ : ∃ k, m = k + 1 := ⟨m - 1, by omega⟩
    rw [pj_s] at oa
    rw [Nat.add_sub_cancel] at c4
    have z : ¬ Int32.ofNat m < (0 : Int32) := fun y => by have := (j_lt (b := 0) (by omega) (by omega)).1 y; omega
    have x1 : ee_ix (Int32.ofNat m) 160 = true := by rw [ixn (by omega)]; exact decide_eq_true (by omega)
    unfold opi
    rw [if_neg (by omega)]
    simp only [oa, z, x1, tnc (show m < 2147483648 by omega), c4, mz_p, mz_ps, bd_216, k_4294967295, v_call, v_cons, v_get, v_idx, v_int, v_loc, v_nil, v_tern, v_z, w_ret, List.getElem?_cons_zero, List.getElem?_cons_succ, List.set_cons_zero, List.set_cons_succ, ee_cmp0, ee_cmp1, ee_cmp2, ee_cmp3, ee_cmp4, ee_cmp5, ee_cmpL0, ee_cmpL1, ee_cmpL2, ee_cmpL3, ee_cmpL4, ee_cmpL5, ee_tru_eb, decide_eq_true_eq, ib_i, ie_b, ie_f, ie_t, ib_l, fin_i, fin_l, fin_v, fin_z, fin_a, fin_n, ee_b_0, ee_fld0, ee_fld1, ee_fld2, ee_fld3, bi_0, bi_1, bi_2, bi_3, bi_4, bi_5, bi_6, bi_7, bi_8, bi_9, bi_10, bl_20, bl_21, bl_22, bl_23, bl_24, bl_25, bl_26, bl_48, bl_49, un_0, un_1, un_2, un_3, if_true, if_false, ite_true, ite_false, Bool.false_eq_true, Bool.not_eq_false, decide_not, Bool.not_not, reduceCtorEq, st_i, st_l, st_r, st_n, ee_noL, ee_noL.eq_1, List.length_cons, List.length_nil, Nat.reduceAdd, Nat.reduceLT, Nat.zero_add, and_true, true_and, and_self, fin_ite, pu_0, pu_1, pu_3, sto_0, el_0, Bool.not_eq_true, decide_eq_false_iff_not, Bool.decide_eq_true, Bool.decide_eq_false, decide_true, decide_false, Bool.not_true, Bool.not_false, Bool.and_self, Bool.and_true, Bool.and_false, Bool.true_and, Bool.false_and, Bool.or_true, Bool.or_false, Bool.true_or, Bool.false_or, if_true, if_false, Bool.false_eq_true, mz_0, mz_1, mz_a, rvs, j_s, j_a, wI_at, Nat.reduceEqDiff, zero_ne_one_n, one_ne_zero_n]
theorem opi_q {m c : Nat} (hm : m ≤ 43) (hc : c ≤ 43) (h1 : 1 ≤ c) : (opi m = Int32.ofNat c) = (m = c) := by
  unfold opi
  split
  · rename_i y
    rw [y]
    refine propext ⟨fun z => ?_, fun z => by omega⟩
    exfalso
    rw [i32_eq, nI_t (by omega), show ((-1 : Int32).toInt) = -1 from rfl] at z
    omega
  · exact kq (by omega) (by omega)
theorem opk_b (hP : PIL w ks) : opk ks ≤ 43 := by
  rcases opx_k hP with ⟨c1, c2⟩ | ⟨c1, c2, c3, c4⟩ <;> omega
/-- where isCompared stands: one more than the place at which it stops -/
def icx : List Nat → Nat
  | [] => 0
  | k :: r => if 4 < rnk k then icx r else r.length + 1
theorem icx_b : ∀ ks : List Nat, icx ks ≤ ks.length := by
  intro ks
  induction ks with
  | nil => exact Nat.le_refl _
  | cons k r ih =>
    rw [List.length_cons]
    unfold icx
    split <;> omega
theorem icx_k (hP : PIL w ks) : (icx ks = 0 ∧ icm ks = false) ∨ (1 ≤ icx ks ∧ ∃ o, o ≤ 43 ∧ w.1 241 (icx ks - 1) = Int32.ofNat o ∧ icm ks = decide (rnk o = 4)) := by
  induction ks with
  | nil => exact Or.inl ⟨rfl, rfl⟩
  | cons k r ih =>
    obtain ⟨p1, p2, p3⟩ := hP
    by_cases c : 4 < rnk k
    · unfold icx icm
      rw [if_pos c, if_pos c]
      exact ih p3
    · right
      unfold icx icm
      rw [if_neg c, if_neg c]
      exact ⟨by omega, k, p2, p1, rfl⟩
theorem m_cloop (hd : 1 ≤ d) : ∀ ks : List Nat, PIL w ks → ks.length ≤ 160 → ee_wh (ee_turn (ee_ev es_sh es_rf (ee_run ee_B P d) lx_218_1) (ee_evS es_sh es_rf (ee_run ee_B P d) lb_218_1)) ([some (.ref 236), some (.int (pj ks.length))], w) = some (.inl ([some (.ref 236), some (.int (pj (icx ks)))], w)) := by
  intro ks
  induction ks with
  | nil =>
    intro _ _
    rw [List.length_nil, show icx [] = 0 from rfl, pj_0]
    have z : ¬ (0 : Int32) ≤ -1 := by decide
    have tt : ee_turn (ee_ev es_sh es_rf (ee_run ee_B P d) lx_218_1) (ee_evS es_sh es_rf (ee_run ee_B P d) lb_218_1) ([some (.ref 236), some (.int (-1))], w) = some (.inr (.inl ([some (.ref 236), some (.int (-1))], w))) := by
      simp only [z, lx_218_1, lb_218_1, ee_turn, k_1, k_4, nz_1, nz_4, v_and, v_bin, v_call, v_cmp, v_cons, v_get, v_idx, v_int, v_loc, v_mat, v_nil, v_z, w_incm1, w_incm2, w_incm8, w_incp1, w_ret, w_seq, w_set, List.getElem?_cons_zero, List.getElem?_cons_succ, List.set_cons_zero, List.set_cons_succ, ee_cmp0, ee_cmp1, ee_cmp2, ee_cmp3, ee_cmp4, ee_cmp5, ee_cmpL0, ee_cmpL1, ee_cmpL2, ee_cmpL3, ee_cmpL4, ee_cmpL5, ee_tru_eb, decide_eq_true_eq, ib_i, ie_b, ie_f, ie_t, ib_l, fin_i, fin_l, fin_v, fin_z, fin_a, fin_n, ee_b_0, ee_fld0, ee_fld1, ee_fld2, ee_fld3, bi_0, bi_1, bi_2, bi_3, bi_4, bi_5, bi_6, bi_7, bi_8, bi_9, bi_10, bl_20, bl_21, bl_22, bl_23, bl_24, bl_25, bl_26, bl_48, bl_49, un_0, un_1, un_2, un_3, if_true, if_false, ite_true, ite_false, Bool.false_eq_true, Bool.not_eq_false, decide_not, Bool.not_not, reduceCtorEq, st_i, st_l, st_r, st_n, ee_noL, ee_noL.eq_1, List.length_cons, List.length_nil, Nat.reduceAdd, Nat.reduceLT, Nat.zero_add, and_true, true_and, and_self, fin_ite, pu_0, pu_1, pu_3, sto_0, el_0, Bool.not_eq_true, decide_eq_false_iff_not, Bool.decide_eq_true, Bool.decide_eq_false, decide_true, decide_false, Bool.not_true, Bool.not_false, Bool.and_self, Bool.and_true, Bool.and_false, Bool.true_and, Bool.false_and, Bool.or_true, Bool.or_false, Bool.true_or, Bool.false_or, if_true, if_false, Bool.false_eq_true, tc_1, ix_1, tc_4, ix_4, mz_0, mz_1, mz_a, rvs, j_s, j_a, wI_at, Nat.reduceEqDiff, zero_ne_one_n, one_ne_zero_n]
    rw [ee_wh_eq, tt]
  | cons k r ih =>
    rintro ⟨p1, p2, p3⟩ hl
    rw [List.length_cons] at hl
    rw [List.length_cons, pj_s]
    have z : (0 : Int32) ≤ Int32.ofNat r.length := (j_le (a := 0) (by omega) (by omega)).2 (by omega)
    have x1 : ee_ix (Int32.ofNat r.length) 160 = true := by rw [ixn (by omega)]; exact decide_eq_true (by omega)
    have rb := rnk_b k
    have a4 : (4 : Int32) < Int32.ofNat (rnk k) ↔ 4 < rnk k := j_lt (a := 4) (by omega) (by omega)
    have tm := tnc (n := r.length) (by omega)
    have e1 := pj_m1 (m := r.length) (by omega)
    have rk := m_rank (P := P) (w := w) hd p2
    unfold icx
    by_cases c : 4 < rnk k
    · have tt : ee_turn (ee_ev es_sh es_rf (ee_run ee_B P d) lx_218_1) (ee_evS es_sh es_rf (ee_run ee_B P d) lb_218_1) ([some (.ref 236), some (.int (Int32.ofNat r.length))], w) = some (.inl ([some (.ref 236), some (.int (pj r.length))], w)) := by
        simp only [z, x1, tm, p1, rk, a4, c, e1, mz_p, mz_ps, lx_218_1, lb_218_1, ee_turn, k_1, k_4, nz_1, nz_4, v_and, v_bin, v_call, v_cmp, v_cons, v_get, v_idx, v_int, v_loc, v_mat, v_nil, v_z, w_incm1, w_incm2, w_incm8, w_incp1, w_ret, w_seq, w_set, List.getElem?_cons_zero, List.getElem?_cons_succ, List.set_cons_zero, List.set_cons_succ, ee_cmp0, ee_cmp1, ee_cmp2, ee_cmp3, ee_cmp4, ee_cmp5, ee_cmpL0, ee_cmpL1, ee_cmpL2, ee_cmpL3, ee_cmpL4, ee_cmpL5, ee_tru_eb, decide_eq_true_eq, ib_i, ie_b, ie_f, ie_t, ib_l, fin_i, fin_l, fin_v, fin_z, fin_a, fin_n, ee_b_0, ee_fld0, ee_fld1, ee_fld2, ee_fld3, bi_0, bi_1, bi_2, bi_3, bi_4, bi_5, bi_6, bi_7, bi_8, bi_9, bi_10, bl_20, bl_21, bl_22, bl_23, bl_24, bl_25, bl_26, bl_48, bl_49, un_0, un_1, un_2, un_3, if_true, if_false, ite_true, ite_false, Bool.false_eq_true, Bool.not_eq_false, decide_not, Bool.not_not, reduceCtorEq, st_i, st_l, st_r, st_n, ee_noL, ee_noL.eq_1, List.length_cons, List.length_nil, Nat.reduceAdd, Nat.reduceLT, Nat.zero_add, and_true, true_and, and_self, fin_ite, pu_0, pu_1, pu_3, sto_0, el_0, Bool.not_eq_true, decide_eq_false_iff_not, Bool.decide_eq_true, Bool.decide_eq_false, decide_true, decide_false, Bool.not_true, Bool.not_false, Bool.and_self, Bool.and_true, Bool.and_false, Bool.true_and, Bool.false_and, Bool.or_true, Bool.or_false, Bool.true_or, Bool.false_or, if_true, if_false, Bool.false_eq_true, tc_1, ix_1, tc_4, ix_4, mz_0, mz_1, mz_a, rvs, j_s, j_a, wI_at, Nat.reduceEqDiff, zero_ne_one_n, one_ne_zero_n]
      rw [if_pos c, ee_wh_eq, tt]
      exact ih p3 (by omega)
    · have tt : ee_turn (ee_ev es_sh es_rf (ee_run ee_B P d) lx_218_1) (ee_evS es_sh es_rf (ee_run ee_B P d) lb_218_1) ([some (.ref 236), some (.int (Int32.ofNat r.length))], w) = some (.inr (.inl ([some (.ref 236), some (.int (Int32.ofNat r.length))], w))) := by
        simp only [z, x1, tm, p1, rk, a4, c, mz_p, mz_ps, lx_218_1, lb_218_1, ee_turn, k_1, k_4, nz_1, nz_4, v_and, v_bin, v_call, v_cmp, v_cons, v_get, v_idx, v_int, v_loc, v_mat, v_nil, v_z, w_incm1, w_incm2, w_incm8, w_incp1, w_ret, w_seq, w_set, List.getElem?_cons_zero, List.getElem?_cons_succ, List.set_cons_zero, List.set_cons_succ, ee_cmp0, ee_cmp1, ee_cmp2, ee_cmp3, ee_cmp4, ee_cmp5, ee_cmpL0, ee_cmpL1, ee_cmpL2, ee_cmpL3, ee_cmpL4, ee_cmpL5, ee_tru_eb, decide_eq_true_eq, ib_i, ie_b, ie_f, ie_t, ib_l, fin_i, fin_l, fin_v, fin_z, fin_a, fin_n, ee_b_0, ee_fld0, ee_fld1, ee_fld2, ee_fld3, bi_0, bi_1, bi_2, bi_3, bi_4, bi_5, bi_6, bi_7, bi_8, bi_9, bi_10, bl_20, bl_21, bl_22, bl_23, bl_24, bl_25, bl_26, bl_48, bl_49, un_0, un_1, un_2, un_3, if_true, if_false, ite_true, ite_false, Bool.false_eq_true, Bool.not_eq_false, decide_not, Bool.not_not, reduceCtorEq, st_i, st_l, st_r, st_n, ee_noL, ee_noL.eq_1, List.length_cons, List.length_nil, Nat.reduceAdd, Nat.reduceLT, Nat.zero_add, and_true, true_and, and_self, fin_ite, pu_0, pu_1, pu_3, sto_0, el_0, Bool.not_eq_true, decide_eq_false_iff_not, Bool.decide_eq_true, Bool.decide_eq_false, decide_true, decide_false, Bool.not_true, Bool.not_false, Bool.and_self, Bool.and_true, Bool.and_false, Bool.true_and, Bool.false_and, Bool.or_true, Bool.or_false, Bool.true_or, Bool.false_or, if_true, if_false, Bool.false_eq_true, tc_1, ix_1, tc_4, ix_4, mz_0, mz_1, mz_a, rvs, j_s, j_a, wI_at, Nat.reduceEqDiff, zero_ne_one_n, one_ne_zero_n]
      rw [if_neg c, ee_wh_eq, tt, pj_s]
theorem m_isCompared (hd : 2 ≤ d) (h : PLH w ks) : ee_run ee_B P d 218 [.ref 236] w = some ([.int (ee_b (icm ks))], w) := by
  obtain ⟨d, rfl⟩ : ∃ k, d = k + 1 := ⟨d - 1, by omega⟩
  have hd1 : 1 ≤ d := by omega
  obtain ⟨h1, h2, h3⟩ := h
  have lp := m_cloop (P := P) hd1 ks h1 h3
  have e := pj_sub (m := ks.length) (by omega)
  have ob := icx_b ks
  rw [rn_218 mz_0]
  rcases icx_k h1 with ⟨c1, c2⟩ | ⟨c1, o, c2, c3, c4⟩
  · have z : ¬ (0 : Int32) ≤ -1 := by decide
    rw [c1, pj_0] at lp
    rw [c2]
    simp only [h2, e, w_while, lp, z, be_218, k_1, k_4, k_4294967295, nz_1, nz_4, v_and, v_bin, v_call, v_cmp, v_cons, v_get, v_idx, v_int, v_loc, v_mat, v_nil, v_z, w_inc, w_ret, w_seq, w_set, List.getElem?_cons_zero, List.getElem?_cons_succ, List.set_cons_zero, List.set_cons_succ, ee_cmp0, ee_cmp1, ee_cmp2, ee_cmp3, ee_cmp4, ee_cmp5, ee_cmpL0, ee_cmpL1, ee_cmpL2, ee_cmpL3, ee_cmpL4, ee_cmpL5, ee_tru_eb, decide_eq_true_eq, ib_i, ie_b, ie_f, ie_t, ib_l, fin_i, fin_l, fin_v, fin_z, fin_a, fin_n, ee_b_0, ee_fld0, ee_fld1, ee_fld2, ee_fld3, bi_0, bi_1, bi_2, bi_3, bi_4, bi_5, bi_6, bi_7, bi_8, bi_9, bi_10, bl_20, bl_21, bl_22, bl_23, bl_24, bl_25, bl_26, bl_48, bl_49, un_0, un_1, un_2, un_3, if_true, if_false, ite_true, ite_false, Bool.false_eq_true, Bool.not_eq_false, decide_not, Bool.not_not, reduceCtorEq, st_i, st_l, st_r, st_n, ee_noL, ee_noL.eq_1, List.length_cons, List.length_nil, Nat.reduceAdd, Nat.reduceLT, Nat.zero_add, and_true, true_and, and_self, fin_ite, pu_0, pu_1, pu_3, sto_0, el_0, Bool.not_eq_true, decide_eq_false_iff_not, Bool.decide_eq_true, Bool.decide_eq_false, decide_true, decide_false, Bool.not_true, Bool.not_false, Bool.and_self, Bool.and_true, Bool.and_false, Bool.true_and, Bool.false_and, Bool.or_true, Bool.or_false, Bool.true_or, Bool.false_or, if_true, if_false, Bool.false_eq_true, ix_1, ix_4, tc_1, tc_4, mz_0, mz_1, mz_a, rvs, j_s, j_a, wI_at, Nat.reduceEqDiff, zero_ne_one_n, one_ne_zero_n]
  · generalize icx ks = m at *
    obtain ⟨m, rfl⟩ : ∃ k, m = k + 1 := ⟨m - 1, by omega⟩
    rw [pj_s] at lp
    rw [Nat.add_sub_cancel] at c3
    have z : (0 : Int32) ≤ Int32.ofNat m := (j_le (a := 0) (by omega) (by omega)).2 (by omega)
    have x1 : ee_ix (Int32.ofNat m) 160 = true := by rw [ixn (by omega)]; exact decide_eq_true (by omega)
    have rk := m_rank (P := P) (w := w) hd1 c2
    have q4 : (Int32.ofNat (rnk o) = 4) = (rnk o = 4) := kq (m := 4) (by have := rnk_b o; omega) (by omega)
    rw [c4]
    simp only [h2, e, w_while, lp, z, x1, tnc (show m < 2147483648 by omega), c3, rk, q4, mz_p, mz_ps, be_218, k_1, k_4, k_4294967295, nz_1, nz_4, v_and, v_bin, v_call, v_cmp, v_cons, v_get, v_idx, v_int, v_loc, v_mat, v_nil, v_z, w_inc, w_ret, w_seq, w_set, List.getElem?_cons_zero, List.getElem?_cons_succ, List.set_cons_zero, List.set_cons_succ, ee_cmp0, ee_cmp1, ee_cmp2, ee_cmp3, ee_cmp4, ee_cmp5, ee_cmpL0, ee_cmpL1, ee_cmpL2, ee_cmpL3, ee_cmpL4, ee_cmpL5, ee_tru_eb, decide_eq_true_eq, ib_i, ie_b, ie_f, ie_t, ib_l, fin_i, fin_l, fin_v, fin_z, fin_a, fin_n, ee_b_0, ee_fld0, ee_fld1, ee_fld2, ee_fld3, bi_0, bi_1, bi_2, bi_3, bi_4, bi_5, bi_6, bi_7, bi_8, bi_9, bi_10, bl_20, bl_21, bl_22, bl_23, bl_24, bl_25, bl_26, bl_48, bl_49, un_0, un_1, un_2, un_3, if_true, if_false, ite_true, ite_false, Bool.false_eq_true, Bool.not_eq_false, decide_not, Bool.not_not, reduceCtorEq, st_i, st_l, st_r, st_n, ee_noL, ee_noL.eq_1, List.length_cons, List.length_nil, Nat.reduceAdd, Nat.reduceLT, Nat.zero_add, and_true, true_and, and_self, fin_ite, pu_0, pu_1, pu_3, sto_0, el_0, Bool.not_eq_true, decide_eq_false_iff_not, Bool.decide_eq_true, Bool.decide_eq_false, decide_true, decide_false, Bool.not_true, Bool.not_false, Bool.and_self, Bool.and_true, Bool.and_false, Bool.true_and, Bool.false_and, Bool.or_true, Bool.or_false, Bool.true_or, Bool.false_or, if_true, if_false, Bool.false_eq_true, ix_1, ix_4, tc_1, tc_4, mz_0, mz_1, mz_a, rvs, j_s, j_a, wI_at, Nat.reduceEqDiff, zero_ne_one_n, one_ne_zero_n]
theorem m_isAskAhead (hd : 3 ≤ d) (h : PLH w ks) : ee_run ee_B P d 229 [.ref 236] w = some ([.int (ee_b (iah ks))], w) := by
  obtain ⟨d, rfl⟩ : ∃ k, d = k + 1 := ⟨d - 1, by omega⟩
  have hd1 : 1 ≤ d := by omega
  have on := m_openNow (P := P) (d := d) (by omega) h
  have ob := opk_b h.1
  have q : (opi (opk ks) = 41) = (opk ks = 41) := opi_q (c := 41) ob (by omega) (by omega)
  obtain ⟨h1, h2, h3⟩ := h
  rw [rn_229 mz_0]
  by_cases c : opk ks = 41
  · have ct : (opk ks = 41) = True := eq_true c
    cases ks with
    | nil => exact absurd c (by decide)
    | cons k r =>
      obtain ⟨p1, p2, p3⟩ := h1
      rw [List.length_cons] at h2 h3
      have s1 : Int32.ofNat (r.length + 1) - 1 = Int32.ofNat r.length := j_sub1 (by omega) (by omega)
      have x1 : ee_ix (Int32.ofNat r.length) 160 = true := by rw [ixn (by omega)]; exact decide_eq_true (by omega)
      have tm := tnc (n := r.length) (by omega)
      have a40 : (40 : Int32) ≤ Int32.ofNat k ↔ 40 ≤ k := j_le (a := 40) (by omega) (by omega)
      have rk := m_rank (P := P) (w := w) hd1 p2
      have rb := rnk_b k
      have a1 : (1 : Int32) ≤ Int32.ofNat (rnk k) ↔ 1 ≤ rnk k := j_le (a := 1) (by omega) (by omega)
      have a3 : Int32.ofNat (rnk k) ≤ (3 : Int32) ↔ rnk k ≤ 3 := j_le (b := 3) (by omega) (by omega)
      unfold iah
      rw [decide_eq_true c]
      by_cases y : 40 ≤ k
      · simp only [on, q, ct, h2, s1, x1, tm, p1, a40, y, mz_p, mz_ps, bd_229, k_1, k_3, k_40, k_41, nz_1, nz_3, nz_40, nz_41, v_and, v_bin, v_call, v_cmp, v_cons, v_get, v_idx, v_int, v_loc, v_mat, v_nil, v_or, v_z, w_ret, List.getElem?_cons_zero, List.getElem?_cons_succ, List.set_cons_zero, List.set_cons_succ, ee_cmp0, ee_cmp1, ee_cmp2, ee_cmp3, ee_cmp4, ee_cmp5, ee_cmpL0, ee_cmpL1, ee_cmpL2, ee_cmpL3, ee_cmpL4, ee_cmpL5, ee_tru_eb, decide_eq_true_eq, ib_i, ie_b, ie_f, ie_t, ib_l, fin_i, fin_l, fin_v, fin_z, fin_a, fin_n, ee_b_0, ee_fld0, ee_fld1, ee_fld2, ee_fld3, bi_0, bi_1, bi_2, bi_3, bi_4, bi_5, bi_6, bi_7, bi_8, bi_9, bi_10, bl_20, bl_21, bl_22, bl_23, bl_24, bl_25, bl_26, bl_48, bl_49, un_0, un_1, un_2, un_3, if_true, if_false, ite_true, ite_false, Bool.false_eq_true, Bool.not_eq_false, decide_not, Bool.not_not, reduceCtorEq, st_i, st_l, st_r, st_n, ee_noL, ee_noL.eq_1, List.length_cons, List.length_nil, Nat.reduceAdd, Nat.reduceLT, Nat.zero_add, and_true, true_and, and_self, fin_ite, pu_0, pu_1, pu_3, sto_0, el_0, Bool.not_eq_true, decide_eq_false_iff_not, Bool.decide_eq_true, Bool.decide_eq_false, decide_true, decide_false, Bool.not_true, Bool.not_false, Bool.and_self, Bool.and_true, Bool.and_false, Bool.true_and, Bool.false_and, Bool.or_true, Bool.or_false, Bool.true_or, Bool.false_or, if_true, if_false, Bool.false_eq_true, ix_1, ix_3, ix_40, ix_41, tc_1, tc_3, tc_40, tc_41, mz_0, mz_1, mz_a, rvs, j_s, j_a, wI_at, Nat.reduceEqDiff, zero_ne_one_n, one_ne_zero_n]
      · by_cases y1 : 1 ≤ rnk k <;> by_cases y3 : rnk k ≤ 3 <;> simp only [on, q, ct, h2, s1, x1, tm, p1, a40, y, rk, r_isIn hd1, a1, a3, y1, y3, mz_p, mz_ps, bd_229, k_1, k_3, k_40, k_41, nz_1, nz_3, nz_40, nz_41, v_and, v_bin, v_call, v_cmp, v_cons, v_get, v_idx, v_int, v_loc, v_mat, v_nil, v_or, v_z, w_ret, List.getElem?_cons_zero, List.getElem?_cons_succ, List.set_cons_zero, List.set_cons_succ, ee_cmp0, ee_cmp1, ee_cmp2, ee_cmp3, ee_cmp4, ee_cmp5, ee_cmpL0, ee_cmpL1, ee_cmpL2, ee_cmpL3, ee_cmpL4, ee_cmpL5, ee_tru_eb, decide_eq_true_eq, ib_i, ie_b, ie_f, ie_t, ib_l, fin_i, fin_l, fin_v, fin_z, fin_a, fin_n, ee_b_0, ee_fld0, ee_fld1, ee_fld2, ee_fld3, bi_0, bi_1, bi_2, bi_3, bi_4, bi_5, bi_6, bi_7, bi_8, bi_9, bi_10, bl_20, bl_21, bl_22, bl_23, bl_24, bl_25, bl_26, bl_48, bl_49, un_0, un_1, un_2, un_3, if_true, if_false, ite_true, ite_false, Bool.false_eq_true, Bool.not_eq_false, decide_not, Bool.not_not, reduceCtorEq, st_i, st_l, st_r, st_n, ee_noL, ee_noL.eq_1, List.length_cons, List.length_nil, Nat.reduceAdd, Nat.reduceLT, Nat.zero_add, and_true, true_and, and_self, fin_ite, pu_0, pu_1, pu_3, sto_0, el_0, Bool.not_eq_true, decide_eq_false_iff_not, Bool.decide_eq_true, Bool.decide_eq_false, decide_true, decide_false, Bool.not_true, Bool.not_false, Bool.and_self, Bool.and_true, Bool.and_false, Bool.true_and, Bool.false_and, Bool.or_true, Bool.or_false, Bool.true_or, Bool.false_or, if_true, if_false, Bool.false_eq_true, ix_1, ix_3, ix_40, ix_41, tc_1, tc_3, tc_40, tc_41, mz_0, mz_1, mz_a, rvs, j_s, j_a, wI_at, Nat.reduceEqDiff, zero_ne_one_n, one_ne_zero_n]
  · unfold iah
    rw [decide_eq_false c]
    simp only [on, q, c, bd_229, k_1, k_3, k_40, k_41, nz_1, nz_3, nz_40, nz_41, v_and, v_bin, v_call, v_cmp, v_cons, v_get, v_idx, v_int, v_loc, v_mat, v_nil, v_or, v_z, w_ret, List.getElem?_cons_zero, List.getElem?_cons_succ, List.set_cons_zero, List.set_cons_succ, ee_cmp0, ee_cmp1, ee_cmp2, ee_cmp3, ee_cmp4, ee_cmp5, ee_cmpL0, ee_cmpL1, ee_cmpL2, ee_cmpL3, ee_cmpL4, ee_cmpL5, ee_tru_eb, decide_eq_true_eq, ib_i, ie_b, ie_f, ie_t, ib_l, fin_i, fin_l, fin_v, fin_z, fin_a, fin_n, ee_b_0, ee_fld0, ee_fld1, ee_fld2, ee_fld3, bi_0, bi_1, bi_2, bi_3, bi_4, bi_5, bi_6, bi_7, bi_8, bi_9, bi_10, bl_20, bl_21, bl_22, bl_23, bl_24, bl_25, bl_26, bl_48, bl_49, un_0, un_1, un_2, un_3, if_true, if_false, ite_true, ite_false, Bool.false_eq_true, Bool.not_eq_false, decide_not, Bool.not_not, reduceCtorEq, st_i, st_l, st_r, st_n, ee_noL, ee_noL.eq_1, List.length_cons, List.length_nil, Nat.reduceAdd, Nat.reduceLT, Nat.zero_add, and_true, true_and, and_self, fin_ite, pu_0, pu_1, pu_3, sto_0, el_0, Bool.not_eq_true, decide_eq_false_iff_not, Bool.decide_eq_true, Bool.decide_eq_false, decide_true, decide_false, Bool.not_true, Bool.not_false, Bool.and_self, Bool.and_true, Bool.and_false, Bool.true_and, Bool.false_and, Bool.or_true, Bool.or_false, Bool.true_or, Bool.false_or, if_true, if_false, Bool.false_eq_true, ix_1, ix_3, ix_40, ix_41, tc_1, tc_3, tc_40, tc_41, mz_0, mz_1, mz_a, rvs, j_s, j_a, wI_at, Nat.reduceEqDiff, zero_ne_one_n, one_ne_zero_n]
/-- what compares -/
def cmo (k : Nat) : Nat := if 25 ≤ k ∧ k ≤ 30 then k - 15 else 0
theorem m_compareOf (hd : 1 ≤ d) (hM : MTK w f n s) : ee_run ee_B P d 220 [.ref 236] w = some ([.int (opi (cmo (tok f n s).1))], w) := by
  obtain ⟨d, rfl⟩ : ∃ k, d = k + 1 := ⟨d - 1, by omega⟩
  have q60 := mq_60 hM
  have q4 := mq_4 hM
  have q62 := mq_62 hM
  have q5 := mq_5 hM
  have q61 := mq_61 hM
  have q35 := mq_35 hM
  rw [rn_220 mz_0]
  generalize (tok f n s).1 = K at *
  by_cases c25 : K = 25
  · have ct : (K = 25) = True := eq_true c25
    rw [show opi (cmo K) = 10 by rw [c25]; rfl]
    simp only [q60, ct, bd_220, k_10, k_11, k_12, k_13, k_14, k_15, k_35, k_4, k_4294967295, k_5, k_60, k_61, k_62, nz_10, nz_11, nz_12, nz_13, nz_14, nz_15, nz_35, nz_4, nz_5, nz_60, nz_61, nz_62, v_cmp, v_get, v_int, v_loc, v_tern, w_ret, List.getElem?_cons_zero, List.getElem?_cons_succ, List.set_cons_zero, List.set_cons_succ, ee_cmp0, ee_cmp1, ee_cmp2, ee_cmp3, ee_cmp4, ee_cmp5, ee_cmpL0, ee_cmpL1, ee_cmpL2, ee_cmpL3, ee_cmpL4, ee_cmpL5, ee_tru_eb, decide_eq_true_eq, ib_i, ie_b, ie_f, ie_t, ib_l, fin_i, fin_l, fin_v, fin_z, fin_a, fin_n, ee_b_0, ee_fld0, ee_fld1, ee_fld2, ee_fld3, bi_0, bi_1, bi_2, bi_3, bi_4, bi_5, bi_6, bi_7, bi_8, bi_9, bi_10, bl_20, bl_21, bl_22, bl_23, bl_24, bl_25, bl_26, bl_48, bl_49, un_0, un_1, un_2, un_3, if_true, if_false, ite_true, ite_false, Bool.false_eq_true, Bool.not_eq_false, decide_not, Bool.not_not, reduceCtorEq, st_i, st_l, st_r, st_n, ee_noL, ee_noL.eq_1, List.length_cons, List.length_nil, Nat.reduceAdd, Nat.reduceLT, Nat.zero_add, and_true, true_and, and_self, fin_ite, pu_0, pu_1, pu_3, sto_0, el_0, Bool.not_eq_true, decide_eq_false_iff_not, Bool.decide_eq_true, Bool.decide_eq_false, decide_true, decide_false, Bool.not_true, Bool.not_false, Bool.and_self, Bool.and_true, Bool.and_false, Bool.true_and, Bool.false_and, Bool.or_true, Bool.or_false, Bool.true_or, Bool.false_or, if_true, if_false, Bool.false_eq_true, ix_10, ix_11, ix_12, ix_13, ix_14, ix_15, ix_35, ix_4, ix_5, ix_60, ix_61, ix_62, tc_10, tc_11, tc_12, tc_13, tc_14, tc_15, tc_35, tc_4, tc_5, tc_60, tc_61, tc_62, mz_0, mz_1, mz_a, rvs, j_s, j_a, wI_at, Nat.reduceEqDiff, zero_ne_one_n, one_ne_zero_n]
  by_cases c26 : K = 26
  · have ct : (K = 26) = True := eq_true c26
    rw [show opi (cmo K) = 11 by rw [c26]; rfl]
    simp only [q60, q4, c25, ct, bd_220, k_10, k_11, k_12, k_13, k_14, k_15, k_35, k_4, k_4294967295, k_5, k_60, k_61, k_62, nz_10, nz_11, nz_12, nz_13, nz_14, nz_15, nz_35, nz_4, nz_5, nz_60, nz_61, nz_62, v_cmp, v_get, v_int, v_loc, v_tern, w_ret, List.getElem?_cons_zero, List.getElem?_cons_succ, List.set_cons_zero, List.set_cons_succ, ee_cmp0, ee_cmp1, ee_cmp2, ee_cmp3, ee_cmp4, ee_cmp5, ee_cmpL0, ee_cmpL1, ee_cmpL2, ee_cmpL3, ee_cmpL4, ee_cmpL5, ee_tru_eb, decide_eq_true_eq, ib_i, ie_b, ie_f, ie_t, ib_l, fin_i, fin_l, fin_v, fin_z, fin_a, fin_n, ee_b_0, ee_fld0, ee_fld1, ee_fld2, ee_fld3, bi_0, bi_1, bi_2, bi_3, bi_4, bi_5, bi_6, bi_7, bi_8, bi_9, bi_10, bl_20, bl_21, bl_22, bl_23, bl_24, bl_25, bl_26, bl_48, bl_49, un_0, un_1, un_2, un_3, if_true, if_false, ite_true, ite_false, Bool.false_eq_true, Bool.not_eq_false, decide_not, Bool.not_not, reduceCtorEq, st_i, st_l, st_r, st_n, ee_noL, ee_noL.eq_1, List.length_cons, List.length_nil, Nat.reduceAdd, Nat.reduceLT, Nat.zero_add, and_true, true_and, and_self, fin_ite, pu_0, pu_1, pu_3, sto_0, el_0, Bool.not_eq_true, decide_eq_false_iff_not, Bool.decide_eq_true, Bool.decide_eq_false, decide_true, decide_false, Bool.not_true, Bool.not_false, Bool.and_self, Bool.and_true, Bool.and_false, Bool.true_and, Bool.false_and, Bool.or_true, Bool.or_false, Bool.true_or, Bool.false_or, if_true, if_false, Bool.false_eq_true, ix_10, ix_11, ix_12, ix_13, ix_14, ix_15, ix_35, ix_4, ix_5, ix_60, ix_61, ix_62, tc_10, tc_11, tc_12, tc_13, tc_14, tc_15, tc_35, tc_4, tc_5, tc_60, tc_61, tc_62, mz_0, mz_1, mz_a, rvs, j_s, j_a, wI_at, Nat.reduceEqDiff, zero_ne_one_n, one_ne_zero_n]
  by_cases c27 : K = 27
  · have ct : (K = 27) = True := eq_true c27
    rw [show opi (cmo K) = 12 by rw [c27]; rfl]
    simp only [q60, q4, q62, c25, c26, ct, bd_220, k_10, k_11, k_12, k_13, k_14, k_15, k_35, k_4, k_4294967295, k_5, k_60, k_61, k_62, nz_10, nz_11, nz_12, nz_13, nz_14, nz_15, nz_35, nz_4, nz_5, nz_60, nz_61, nz_62, v_cmp, v_get, v_int, v_loc, v_tern, w_ret, List.getElem?_cons_zero, List.getElem?_cons_succ, List.set_cons_zero, List.set_cons_succ, ee_cmp0, ee_cmp1, ee_cmp2, ee_cmp3, ee_cmp4, ee_cmp5, ee_cmpL0, ee_cmpL1, ee_cmpL2, ee_cmpL3, ee_cmpL4, ee_cmpL5, ee_tru_eb, decide_eq_true_eq, ib_i, ie_b, ie_f, ie_t, ib_l, fin_i, fin_l, fin_v, fin_z, fin_a, fin_n, ee_b_0, ee_fld0, ee_fld1, ee_fld2, ee_fld3, bi_0, bi_1, bi_2, bi_3, bi_4, bi_5, bi_6, bi_7, bi_8, bi_9, bi_10, bl_20, bl_21, bl_22, bl_23, bl_24, bl_25, bl_26, bl_48, bl_49, un_0, un_1, un_2, un_3, if_true, if_false, ite_true, ite_false, Bool.false_eq_true, Bool.not_eq_false, decide_not, Bool.not_not, reduceCtorEq, st_i, st_l, st_r, st_n, ee_noL, ee_noL.eq_1, List.length_cons, List.length_nil, Nat.reduceAdd, Nat.reduceLT, Nat.zero_add, and_true, true_and, and_self, fin_ite, pu_0, pu_1, pu_3, sto_0, el_0, Bool.not_eq_true, decide_eq_false_iff_not, Bool.decide_eq_true, Bool.decide_eq_false, decide_true, decide_false, Bool.not_true, Bool.not_false, Bool.and_self, Bool.and_true, Bool.and_false, Bool.true_and, Bool.false_and, Bool.or_true, Bool.or_false, Bool.true_or, Bool.false_or, if_true, if_false, Bool.false_eq_true, ix_10, ix_11, ix_12, ix_13, ix_14, ix_15, ix_35, ix_4, ix_5, ix_60, ix_61, ix_62, tc_10, tc_11, tc_12, tc_13, tc_14, tc_15, tc_35, tc_4, tc_5, tc_60, tc_61, tc_62, mz_0, mz_1, mz_a, rvs, j_s, j_a, wI_at, Nat.reduceEqDiff, zero_ne_one_n, one_ne_zero_n]
  by_cases c28 : K = 28
  · have ct : (K = 28) = True := eq_true c28
    rw [show opi (cmo K) = 13 by rw [c28]; rfl]
    simp only [q60, q4, q62, q5, c25, c26, c27, ct, bd_220, k_10, k_11, k_12, k_13, k_14, k_15, k_35, k_4, k_4294967295, k_5, k_60, k_61, k_62, nz_10, nz_11, nz_12, nz_13, nz_14, nz_15, nz_35, nz_4, nz_5, nz_60, nz_61, nz_62, v_cmp, v_get, v_int, v_loc, v_tern, w_ret, List.getElem?_cons_zero, List.getElem?_cons_succ, List.set_cons_zero, List.set_cons_succ, ee_cmp0, ee_cmp1, ee_cmp2, ee_cmp3, ee_cmp4, ee_cmp5, ee_cmpL0, ee_cmpL1, ee_cmpL2, ee_cmpL3, ee_cmpL4, ee_cmpL5, ee_tru_eb, decide_eq_true_eq, ib_i, ie_b, ie_f, ie_t, ib_l, fin_i, fin_l, fin_v, fin_z, fin_a, fin_n, ee_b_0, ee_fld0, ee_fld1, ee_fld2, ee_fld3, bi_0, bi_1, bi_2, bi_3, bi_4, bi_5, bi_6, bi_7, bi_8, bi_9, bi_10, bl_20, bl_21, bl_22, bl_23, bl_24, bl_25, bl_26, bl_48, bl_49, un_0, un_1, un_2, un_3, if_true, if_false, ite_true, ite_false, Bool.false_eq_true, Bool.not_eq_false, decide_not, Bool.not_not, reduceCtorEq, st_i, st_l, st_r, st_n, ee_noL, ee_noL.eq_1, List.length_cons, List.length_nil, Nat.reduceAdd, Nat.reduceLT, Nat.zero_add, and_true, true_and, and_self, fin_ite, pu_0, pu_1, pu_3, sto_0, el_0, Bool.not_eq_true, decide_eq_false_iff_not, Bool.decide_eq_true, Bool.decide_eq_false, decide_true, decide_false, Bool.not_true, Bool.not_false, Bool.and_self, Bool.and_true, Bool.and_false, Bool.true_and, Bool.false_and, Bool.or_true, Bool.or_false, Bool.true_or, Bool.false_or, if_true, if_false, Bool.false_eq_true, ix_10, ix_11, ix_12, ix_13, ix_14, ix_15, ix_35, ix_4, ix_5, ix_60, ix_61, ix_62, tc_10, tc_11, tc_12, tc_13, tc_14, tc_15, tc_35, tc_4, tc_5, tc_60, tc_61, tc_62, mz_0, mz_1, mz_a, rvs, j_s, j_a, wI_at, Nat.reduceEqDiff, zero_ne_one_n, one_ne_zero_n]
  by_cases c29 : K = 29
  · have ct : (K = 29) = True := eq_true c29
    rw [show opi (cmo K) = 14 by rw [c29]; rfl]
    simp only [q60, q4, q62, q5, q61, c25, c26, c27, c28, ct, bd_220, k_10, k_11, k_12, k_13, k_14, k_15, k_35, k_4, k_4294967295, k_5, k_60, k_61, k_62, nz_10, nz_11, nz_12, nz_13, nz_14, nz_15, nz_35, nz_4, nz_5, nz_60, nz_61, nz_62, v_cmp, v_get, v_int, v_loc, v_tern, w_ret, List.getElem?_cons_zero, List.getElem?_cons_succ, List.set_cons_zero, List.set_cons_succ, ee_cmp0, ee_cmp1, ee_cmp2, ee_cmp3, ee_cmp4, ee_cmp5, ee_cmpL0, ee_cmpL1, ee_cmpL2, ee_cmpL3, ee_cmpL4, ee_cmpL5, ee_tru_eb, decide_eq_true_eq, ib_i, ie_b, ie_f, ie_t, ib_l, fin_i, fin_l, fin_v, fin_z, fin_a, fin_n, ee_b_0, ee_fld0, ee_fld1, ee_fld2, ee_fld3, bi_0, bi_1, bi_2, bi_3, bi_4, bi_5, bi_6, bi_7, bi_8, bi_9, bi_10, bl_20, bl_21, bl_22, bl_23, bl_24, bl_25, bl_26, bl_48, bl_49, un_0, un_1, un_2, un_3, if_true, if_false, ite_true, ite_false, Bool.false_eq_true, Bool.not_eq_false, decide_not, Bool.not_not, reduceCtorEq, st_i, st_l, st_r, st_n, ee_noL, ee_noL.eq_1, List.length_cons, List.length_nil, Nat.reduceAdd, Nat.reduceLT, Nat.zero_add, and_true, true_and, and_self, fin_ite, pu_0, pu_1, pu_3, sto_0, el_0, Bool.not_eq_true, decide_eq_false_iff_not, Bool.decide_eq_true, Bool.decide_eq_false, decide_true, decide_false, Bool.not_true, Bool.not_false, Bool.and_self, Bool.and_true, Bool.and_false, Bool.true_and, Bool.false_and, Bool.or_true, Bool.or_false, Bool.true_or, Bool.false_or, if_true, if_false, Bool.false_eq_true, ix_10, ix_11, ix_12, ix_13, ix_14, ix_15, ix_35, ix_4, ix_5, ix_60, ix_61, ix_62, tc_10, tc_11, tc_12, tc_13, tc_14, tc_15, tc_35, tc_4, tc_5, tc_60, tc_61, tc_62, mz_0, mz_1, mz_a, rvs, j_s, j_a, wI_at, Nat.reduceEqDiff, zero_ne_one_n, one_ne_zero_n]
  by_cases c30 : K = 30
  · have ct : (K = 30) = True := eq_true c30
    rw [show opi (cmo K) = 15 by rw [c30]; rfl]
    simp only [q60, q4, q62, q5, q61, q35, c25, c26, c27, c28, c29, ct, bd_220, k_10, k_11, k_12, k_13, k_14, k_15, k_35, k_4, k_4294967295, k_5, k_60, k_61, k_62, nz_10, nz_11, nz_12, nz_13, nz_14, nz_15, nz_35, nz_4, nz_5, nz_60, nz_61, nz_62, v_cmp, v_get, v_int, v_loc, v_tern, w_ret, List.getElem?_cons_zero, List.getElem?_cons_succ, List.set_cons_zero, List.set_cons_succ, ee_cmp0, ee_cmp1, ee_cmp2, ee_cmp3, ee_cmp4, ee_cmp5, ee_cmpL0, ee_cmpL1, ee_cmpL2, ee_cmpL3, ee_cmpL4, ee_cmpL5, ee_tru_eb, decide_eq_true_eq, ib_i, ie_b, ie_f, ie_t, ib_l, fin_i, fin_l, fin_v, fin_z, fin_a, fin_n, ee_b_0, ee_fld0, ee_fld1, ee_fld2, ee_fld3, bi_0, bi_1, bi_2, bi_3, bi_4, bi_5, bi_6, bi_7, bi_8, bi_9, bi_10, bl_20, bl_21, bl_22, bl_23, bl_24, bl_25, bl_26, bl_48, bl_49, un_0, un_1, un_2, un_3, if_true, if_false, ite_true, ite_false, Bool.false_eq_true, Bool.not_eq_false, decide_not, Bool.not_not, reduceCtorEq, st_i, st_l, st_r, st_n, ee_noL, ee_noL.eq_1, List.length_cons, List.length_nil, Nat.reduceAdd, Nat.reduceLT, Nat.zero_add, and_true, true_and, and_self, fin_ite, pu_0, pu_1, pu_3, sto_0, el_0, Bool.not_eq_true, decide_eq_false_iff_not, Bool.decide_eq_true, Bool.decide_eq_false, decide_true, decide_false, Bool.not_true, Bool.not_false, Bool.and_self, Bool.and_true, Bool.and_false, Bool.true_and, Bool.false_and, Bool.or_true, Bool.or_false, Bool.true_or, Bool.false_or, if_true, if_false, Bool.false_eq_true, ix_10, ix_11, ix_12, ix_13, ix_14, ix_15, ix_35, ix_4, ix_5, ix_60, ix_61, ix_62, tc_10, tc_11, tc_12, tc_13, tc_14, tc_15, tc_35, tc_4, tc_5, tc_60, tc_61, tc_62, mz_0, mz_1, mz_a, rvs, j_s, j_a, wI_at, Nat.reduceEqDiff, zero_ne_one_n, one_ne_zero_n]
  have e : opi (cmo K) = -1 := by
    unfold cmo
    rw [if_neg (by omega)]
    rfl
  rw [e]
  simp only [q60, q4, q62, q5, q61, q35, c25, c26, c27, c28, c29, c30, bd_220, k_10, k_11, k_12, k_13, k_14, k_15, k_35, k_4, k_4294967295, k_5, k_60, k_61, k_62, nz_10, nz_11, nz_12, nz_13, nz_14, nz_15, nz_35, nz_4, nz_5, nz_60, nz_61, nz_62, v_cmp, v_get, v_int, v_loc, v_tern, w_ret, List.getElem?_cons_zero, List.getElem?_cons_succ, List.set_cons_zero, List.set_cons_succ, ee_cmp0, ee_cmp1, ee_cmp2, ee_cmp3, ee_cmp4, ee_cmp5, ee_cmpL0, ee_cmpL1, ee_cmpL2, ee_cmpL3, ee_cmpL4, ee_cmpL5, ee_tru_eb, decide_eq_true_eq, ib_i, ie_b, ie_f, ie_t, ib_l, fin_i, fin_l, fin_v, fin_z, fin_a, fin_n, ee_b_0, ee_fld0, ee_fld1, ee_fld2, ee_fld3, bi_0, bi_1, bi_2, bi_3, bi_4, bi_5, bi_6, bi_7, bi_8, bi_9, bi_10, bl_20, bl_21, bl_22, bl_23, bl_24, bl_25, bl_26, bl_48, bl_49, un_0, un_1, un_2, un_3, if_true, if_false, ite_true, ite_false, Bool.false_eq_true, Bool.not_eq_false, decide_not, Bool.not_not, reduceCtorEq, st_i, st_l, st_r, st_n, ee_noL, ee_noL.eq_1, List.length_cons, List.length_nil, Nat.reduceAdd, Nat.reduceLT, Nat.zero_add, and_true, true_and, and_self, fin_ite, pu_0, pu_1, pu_3, sto_0, el_0, Bool.not_eq_true, decide_eq_false_iff_not, Bool.decide_eq_true, Bool.decide_eq_false, decide_true, decide_false, Bool.not_true, Bool.not_false, Bool.and_self, Bool.and_true, Bool.and_false, Bool.true_and, Bool.false_and, Bool.or_true, Bool.or_false, Bool.true_or, Bool.false_or, if_true, if_false, Bool.false_eq_true, ix_10, ix_11, ix_12, ix_13, ix_14, ix_15, ix_35, ix_4, ix_5, ix_60, ix_61, ix_62, tc_10, tc_11, tc_12, tc_13, tc_14, tc_15, tc_35, tc_4, tc_5, tc_60, tc_61, tc_62, mz_0, mz_1, mz_a, rvs, j_s, j_a, wI_at, Nat.reduceEqDiff, zero_ne_one_n, one_ne_zero_n]
end PLK
