/-! the reference goes on behind one -/
section BHD
variable {P : Nat → Nat → List Value → ee_W → Option (List Value × ee_W)} {d : Nat} {w : ee_W} {f : Nat → Int32} {n s t i W O law : Nat} {ks us vs : List Nat} {wh : Bool}
theorem opi_p {o : Nat} (h : o ≠ 0) : opi o = Int32.ofNat o := by
  unfold opi
  rw [if_neg h]
theorem btw_b (K : Nat) (ks : List Nat) : btw K ks = 0 ∨ (6 ≤ btw K ks ∧ btw K ks ≤ 15) ∨ btw K ks = 21 ∨ btw K ks = 22 := by
  unfold btw cmo
  (repeat' split) <;> omega
def lst (o : Nat) : Nat := if rnk o = 4 then 5 else rnk o
theorem lst_b (K : Nat) (ks : List Nat) (h : btw K ks ≠ 0) : 1 ≤ lst (btw K ks) ∧ lst (btw K ks) ≤ 7 ∧ btw K ks ≤ 43 := by
  have b := btw_b K ks
  generalize btw K ks = o at *
  unfold lst rnk
  refine ⟨?_, ?_, by omega⟩
  · (repeat' split) <;> omega
  · (repeat' split) <;> omega
/-- the world behind a push that opens nothing -/
def psx (w : ee_W) (m o : Nat) : ee_W := ee_wI (ee_wI w 241 m (Int32.ofNat o)) 236 16 (Int32.ofNat (m + 1))
theorem MP_psx {o : Nat} (h : MP w n f i t W ks O wh) (ho : o ≤ 43) (hl : ks.length < 160) : MP (psx w ks.length o) n f i t W (o :: ks) O wh ∧ chk (pem t) w (psx w ks.length o) ∧ ∀ k, mcode (psx w ks.length o) t k = mcode w t k := by
  obtain ⟨h1, h2, ⟨e1, e2, e3, e4, e5, e6, e7, e8, e9⟩, h4⟩ := h
  have hc : chk (pem t) w (psx w ks.length o) := chk_I (Or.inl ⟨rfl, Or.inr (Or.inl rfl)⟩) (chk_I (Or.inr (Or.inr rfl)) (chk_refl _ _))
  refine ⟨⟨MTAP_m h1 hc, MTK_m h2 hc rfl, ⟨e1, e2, ?_, ?_, ⟨?_, ho, PIL_eq _ e5 (fun j hj => ?_)⟩, ?_, ?_, e8, by rw [List.length_cons]; omega⟩, ?_⟩, hc, fun k => ?_⟩
  · unfold psx; rw [wI_at, if_neg (by omega), wI_at, if_neg (by omega)]; exact e3
  · unfold psx; rw [wI_at, if_neg (by omega), wI_at, if_neg (by omega)]; exact e4
  · unfold psx; rw [wI_at, if_neg (by omega), wI_at, if_pos ⟨rfl, rfl⟩]
  · unfold psx; rw [wI_at, if_neg (by omega), wI_at, if_neg (by omega)]
  · unfold psx; rw [wI_at, if_pos ⟨rfl, rfl⟩, List.length_cons]
  · unfold psx; rw [wI_at, if_neg (by omega), wI_at, if_neg (by omega)]; exact e7
  · unfold psx; rw [wI_at, if_neg (by omega), wI_at, if_neg (by omega)]; exact h4
  · unfold mcode psx; rw [wI_at, if_neg (by omega), wI_at, if_neg (by omega), wI_at, if_neg (by omega), wI_at, if_neg (by omega)]
/-- an operation between two -/
theorem m_hop (hd : 6 ≤ d) (hb : ∀ i, i < n → bI (f i) 0 255) (h : MP w n f i t W (us ++ ks) O true) {o : Nat} (ho : btw (tkn f n i).1 (us ++ ks) = o) (h0 : o ≠ 0) (hu : ∀ x ∈ us, lst o ≤ rnk x) (hk : ∀ h r, ks = h :: r → rnk h < lst o) (hW : W + us.length ≤ 300) (hO : ops us ≤ O) (hl : ks.length < 160) :
    ∃ w', ee_run ee_B P d 214 [.ref 236] w = some ([.int 1], w') ∧ MP w' n f (i + 1) t (W + us.length) (o :: ks) (O - ops us) false ∧ emo (mcode w' t) W us ∧ (∀ k, k < W → mcode w' t k = mcode w t k) ∧ chk (pms t) w w' := by
  obtain ⟨d, rfl⟩ : ∃ k, d = k + 1 := ⟨d - 1, by omega⟩
  have hd1 : 1 ≤ d := by omega
  have hd2 : 2 ≤ d := by omega
  have bo := m_betweenOf (P := P) (d := d) (by omega) h.2.1 (EMT_h h.2.2.1)
  have ho' : btw (tok f n (rnq isBi f n (tpos f n i))).1 (us ++ ks) = o := ho
  obtain ⟨l1, l7, o43⟩ := lst_b (tok f n (rnq isBi f n (tpos f n i))).1 (us ++ ks) (by rw [ho']; exact h0)
  rw [ho'] at l1 l7 o43 bo
  rw [opi_p h0] at bo
  obtain ⟨w1, s1, s2, s3, s4, s5⟩ := MP_settle (P := P) (d := d) hd2 l7 l1 h hu hk hW hO
  obtain ⟨p1, p2, p3⟩ := MP_psx (o := o) s2 o43 hl
  obtain ⟨c1, c2, c3⟩ := MP_wh p1 false
  obtain ⟨w', b1, b2, b3⟩ := m_stepn (P := P) (d := d) hd2 hb c1
  have kc : ∀ k, mcode w' t k = mcode w1 t k := fun k => (code_p b3 k).trans ((c3 k).trans (p3 k))
  refine ⟨w', ?_, b2, fun q hq => by rw [kc]; exact s3 q hq, fun k hk => (kc k).trans (s4 k hk), chk_trans (pms_e s5) (chk_trans (pms_e p2) (chk_trans (pms_e c2) (pms_c b3)))⟩
  have z : (0 : Int32) ≤ Int32.ofNat o := (j_le (a := 0) (by omega) (by omega)).2 (by omega)
  have rk := m_rank (P := P) (w := w) hd1 o43
  have rb := rnk_b o
  have q4 : (Int32.ofNat (rnk o) = 4) = (rnk o = 4) := kq (m := 4) (by omega) (by omega)
  have u16 := (EMT_h s2.2.2.1).2.1
  have x1 : ee_ix (Int32.ofNat ks.length) 160 = true := by rw [ixn (by omega)]; exact decide_eq_true (by omega)
  have a2 : Int32.ofNat ks.length + 1 = Int32.ofNat (ks.length + 1) := j_s _
  have u2 : (ee_wI w1 241 ks.length (Int32.ofNat o)).1 236 16 = Int32.ofNat ks.length := by rw [wI_at, if_neg (by omega)]; exact u16
  have p18 : ∀ w : ee_W, ee_put w 236 18 3 (.int 0) = some (ee_wI w 236 18 0) := fun w => rfl
  rw [show ee_b false = 0 from rfl] at b1
  unfold psx at b1
  unfold lst at s1
  rw [rn_214 mz_0]
  by_cases r4 : rnk o = 4
  · have rt : (rnk o = 4) = True := eq_true r4
    rw [if_pos r4, k_5] at s1
    simp only [bo, z, rk, q4, rt, s1, u16, x1, tnc (show ks.length < 2147483648 by omega), a2, u2, b1, p18, w_opf, mz_p, mz_ps, bd_214, k_0, k_1, k_3, k_4, k_43, k_5, k_7, nz_1, nz_3, nz_4, nz_43, nz_5, nz_7, v_call, v_cmp, v_cons, v_get, v_int, v_loc, v_nil, v_tern, v_z, w_exp0, w_exp1, w_if, w_opf, w_put, w_ret, w_seq, w_set, w_skip, w_sto, List.getElem?_cons_zero, List.getElem?_cons_succ, List.set_cons_zero, List.set_cons_succ, ee_cmp0, ee_cmp1, ee_cmp2, ee_cmp3, ee_cmp4, ee_cmp5, ee_cmpL0, ee_cmpL1, ee_cmpL2, ee_cmpL3, ee_cmpL4, ee_cmpL5, ee_tru_eb, decide_eq_true_eq, ib_i, ie_b, ie_f, ie_t, ib_l, fin_i, fin_l, fin_v, fin_z, fin_a, fin_n, ee_b_0, ee_fld0, ee_fld1, ee_fld2, ee_fld3, bi_0, bi_1, bi_2, bi_3, bi_4, bi_5, bi_6, bi_7, bi_8, bi_9, bi_10, bl_20, bl_21, bl_22, bl_23, bl_24, bl_25, bl_26, bl_48, bl_49, un_0, un_1, un_2, un_3, if_true, if_false, ite_true, ite_false, Bool.false_eq_true, Bool.not_eq_false, decide_not, Bool.not_not, reduceCtorEq, st_i, st_l, st_r, st_n, ee_noL, ee_noL.eq_1, List.length_cons, List.length_nil, Nat.reduceAdd, Nat.reduceLT, Nat.zero_add, and_true, true_and, and_self, fin_ite, pu_0, pu_1, pu_3, sto_0, el_0, Bool.not_eq_true, decide_eq_false_iff_not, Bool.decide_eq_true, Bool.decide_eq_false, decide_true, decide_false, Bool.not_true, Bool.not_false, Bool.and_self, Bool.and_true, Bool.and_false, Bool.true_and, Bool.false_and, Bool.or_true, Bool.or_false, Bool.true_or, Bool.false_or, if_true, if_false, Bool.false_eq_true, ix_0, ix_1, ix_3, ix_4, ix_43, ix_5, ix_7, tc_0, tc_1, tc_3, tc_4, tc_43, tc_5, tc_7, mz_0, mz_1, mz_a, rvs, j_s, j_a, wI_at, Nat.reduceEqDiff, zero_ne_one_n, one_ne_zero_n]
    rfl
  · rw [if_neg r4] at s1
    simp only [bo, z, rk, q4, r4, s1, u16, x1, tnc (show ks.length < 2147483648 by omega), a2, u2, b1, p18, w_opf, mz_p, mz_ps, bd_214, k_0, k_1, k_3, k_4, k_43, k_5, k_7, nz_1, nz_3, nz_4, nz_43, nz_5, nz_7, v_call, v_cmp, v_cons, v_get, v_int, v_loc, v_nil, v_tern, v_z, w_exp0, w_exp1, w_if, w_opf, w_put, w_ret, w_seq, w_set, w_skip, w_sto, List.getElem?_cons_zero, List.getElem?_cons_succ, List.set_cons_zero, List.set_cons_succ, ee_cmp0, ee_cmp1, ee_cmp2, ee_cmp3, ee_cmp4, ee_cmp5, ee_cmpL0, ee_cmpL1, ee_cmpL2, ee_cmpL3, ee_cmpL4, ee_cmpL5, ee_tru_eb, decide_eq_true_eq, ib_i, ie_b, ie_f, ie_t, ib_l, fin_i, fin_l, fin_v, fin_z, fin_a, fin_n, ee_b_0, ee_fld0, ee_fld1, ee_fld2, ee_fld3, bi_0, bi_1, bi_2, bi_3, bi_4, bi_5, bi_6, bi_7, bi_8, bi_9, bi_10, bl_20, bl_21, bl_22, bl_23, bl_24, bl_25, bl_26, bl_48, bl_49, un_0, un_1, un_2, un_3, if_true, if_false, ite_true, ite_false, Bool.false_eq_true, Bool.not_eq_false, decide_not, Bool.not_not, reduceCtorEq, st_i, st_l, st_r, st_n, ee_noL, ee_noL.eq_1, List.length_cons, List.length_nil, Nat.reduceAdd, Nat.reduceLT, Nat.zero_add, and_true, true_and, and_self, fin_ite, pu_0, pu_1, pu_3, sto_0, el_0, Bool.not_eq_true, decide_eq_false_iff_not, Bool.decide_eq_true, Bool.decide_eq_false, decide_true, decide_false, Bool.not_true, Bool.not_false, Bool.and_self, Bool.and_true, Bool.and_false, Bool.true_and, Bool.false_and, Bool.or_true, Bool.or_false, Bool.true_or, Bool.false_or, if_true, if_false, Bool.false_eq_true, ix_0, ix_1, ix_3, ix_4, ix_43, ix_5, ix_7, tc_0, tc_1, tc_3, tc_4, tc_43, tc_5, tc_7, mz_0, mz_1, mz_a, rvs, j_s, j_a, wI_at, Nat.reduceEqDiff, zero_ne_one_n, one_ne_zero_n]
    rfl
/-- what stands there can't stand there -/
theorem m_hno (hd : 6 ≤ d) (h : MP w n f i t W ks O true) (h0 : btw (tkn f n i).1 ks = 0) (h1 : pto (tkn f n i).1 (opk ks) (icm ks) = 0) : ee_run ee_B P d 214 [.ref 236] w = some ([.int 0], w) := by
  obtain ⟨d, rfl⟩ : ∃ k, d = k + 1 := ⟨d - 1, by omega⟩
  have bo := m_betweenOf (P := P) (d := d) (by omega) h.2.1 (EMT_h h.2.2.1)
  have on := m_openNow (P := P) (d := d) (by omega) (EMT_h h.2.2.1)
  have pa := m_partOf (P := P) (d := d) (by omega) h.2.1 (EMT_h h.2.2.1)
  have h0 : btw (tok f n (rnq isBi f n (tpos f n i))).1 ks = 0 := h0
  have h1 : pto (tok f n (rnq isBi f n (tpos f n i))).1 (opk ks) (icm ks) = 0 := h1
  rw [h0, show opi 0 = -1 from rfl] at bo
  rw [h1, show pti 0 = -1 from rfl] at pa
  have z : ¬ (0 : Int32) ≤ -1 := by decide
  have z2 : (-1 : Int32) < 0 := by decide
  rw [rn_214 mz_0]
  simp only [bo, z, on, pa, z2, bd_214, k_0, k_1, k_3, k_4, k_43, k_5, k_7, nz_1, nz_3, nz_4, nz_43, nz_5, nz_7, v_call, v_cmp, v_cons, v_get, v_int, v_loc, v_nil, v_tern, v_z, w_exp0, w_exp1, w_if, w_opf, w_put, w_ret, w_seq, w_set, w_skip, w_sto, List.getElem?_cons_zero, List.getElem?_cons_succ, List.set_cons_zero, List.set_cons_succ, ee_cmp0, ee_cmp1, ee_cmp2, ee_cmp3, ee_cmp4, ee_cmp5, ee_cmpL0, ee_cmpL1, ee_cmpL2, ee_cmpL3, ee_cmpL4, ee_cmpL5, ee_tru_eb, decide_eq_true_eq, ib_i, ie_b, ie_f, ie_t, ib_l, fin_i, fin_l, fin_v, fin_z, fin_a, fin_n, ee_b_0, ee_fld0, ee_fld1, ee_fld2, ee_fld3, bi_0, bi_1, bi_2, bi_3, bi_4, bi_5, bi_6, bi_7, bi_8, bi_9, bi_10, bl_20, bl_21, bl_22, bl_23, bl_24, bl_25, bl_26, bl_48, bl_49, un_0, un_1, un_2, un_3, if_true, if_false, ite_true, ite_false, Bool.false_eq_true, Bool.not_eq_false, decide_not, Bool.not_not, reduceCtorEq, st_i, st_l, st_r, st_n, ee_noL, ee_noL.eq_1, List.length_cons, List.length_nil, Nat.reduceAdd, Nat.reduceLT, Nat.zero_add, and_true, true_and, and_self, fin_ite, pu_0, pu_1, pu_3, sto_0, el_0, Bool.not_eq_true, decide_eq_false_iff_not, Bool.decide_eq_true, Bool.decide_eq_false, decide_true, decide_false, Bool.not_true, Bool.not_false, Bool.and_self, Bool.and_true, Bool.and_false, Bool.true_and, Bool.false_and, Bool.or_true, Bool.or_false, Bool.true_or, Bool.false_or, if_true, if_false, Bool.false_eq_true, ix_0, ix_1, ix_3, ix_4, ix_43, ix_5, ix_7, tc_0, tc_1, tc_3, tc_4, tc_43, tc_5, tc_7, mz_0, mz_1, mz_a, rvs, j_s, j_a, wI_at, Nat.reduceEqDiff, zero_ne_one_n, one_ne_zero_n]
  rfl
theorem opk_us {h : Nat} {r : List Nat} (hu : ∀ x ∈ us, 1 ≤ rnk x) (hh : 40 ≤ h) : opk (us ++ h :: r) = h := by
  induction us with
  | nil =>
    show (if 40 ≤ h then h else opk r) = h
    rw [if_pos hh]
  | cons k u ih =>
    rw [List.cons_append]
    have := hu k List.mem_cons_self
    show (if 40 ≤ k then k else opk (u ++ h :: r)) = h
    rw [if_neg (fun z => by unfold rnk at this; rw [if_pos z] at this; omega)]
    exact ih (fun x hx => hu x (List.mem_cons_of_mem _ hx))
/-- the next part of what is open -/
theorem m_hpart (hd : 6 ≤ d) (hb : ∀ i, i < n → bI (f i) 0 255) {h r : Nat} {rs : List Nat} (hP : MP w n f i t W (us ++ h :: rs) O true) (h0 : btw (tkn f n i).1 (us ++ h :: rs) = 0) (hh : 40 ≤ h) (h1 : pto (tkn f n i).1 h (icm (us ++ h :: rs)) = r) (hr : r = 42 ∨ r = 43) (hu : ∀ x ∈ us, 1 ≤ rnk x) (hW : W + us.length ≤ 300) (hO : ops us ≤ O) :
    ∃ w', ee_run ee_B P d 214 [.ref 236] w = some ([.int 1], w') ∧ MP w' n f (i + 1) t (W + us.length) (r :: rs) (O - ops us) false ∧ emo (mcode w' t) W us ∧ (∀ k, k < W → mcode w' t k = mcode w t k) ∧ chk (pms t) w w' := by
  obtain ⟨d, rfl⟩ : ∃ k, d = k + 1 := ⟨d - 1, by omega⟩
  have hd1 : 1 ≤ d := by omega
  have hd2 : 2 ≤ d := by omega
  have bo := m_betweenOf (P := P) (d := d) (by omega) hP.2.1 (EMT_h hP.2.2.1)
  have on := m_openNow (P := P) hd2 (EMT_h hP.2.2.1)
  have pa := m_partOf (P := P) (d := d) (by omega) hP.2.1 (EMT_h hP.2.2.1)
  have ok := opk_us (r := rs) hu hh
  have h0 : btw (tok f n (rnq isBi f n (tpos f n i))).1 (us ++ h :: rs) = 0 := h0
  have h1 : pto (tok f n (rnq isBi f n (tpos f n i))).1 h (icm (us ++ h :: rs)) = r := h1
  rw [ok] at on pa
  rw [h0, show opi 0 = -1 from rfl] at bo
  have pr : pti r = Int32.ofNat r := by unfold pti; rw [if_neg (by omega), if_neg (by omega)]
  rw [h1, pr] at pa
  obtain ⟨w1, s1, s2, s3, s4, s5⟩ := MP_settle (P := P) (d := d) hd2 (least := 1) (by omega) (by omega) hP hu (fun h' r' e => by injection e with e1 e2; rw [← e1]; unfold rnk; rw [if_pos hh]; omega) hW hO
  obtain ⟨w2, b1, b2, b3⟩ := m_stepn (P := P) (d := d) hd2 hb s2
  have oa := m_openAt (P := P) hd1 (EMT_h b2.2.2.1)
  have ox : opx (h :: rs) = rs.length + 1 := by
    show (if 40 ≤ h then rs.length + 1 else opx rs) = _
    rw [if_pos hh]
  rw [ox, pj_s] at oa
  have h43 := (EMT_h b2.2.2.1).1.2.1
  have l160 := (EMT_h b2.2.2.1).2.2
  rw [List.length_cons] at l160
  -- the part takes its place
  obtain ⟨w3, hw3⟩ : ∃ w3, w3 = ee_wI w2 241 rs.length (Int32.ofNat r) := ⟨_, rfl⟩
  have m3 : MP w3 n f (i + 1) t (W + us.length) (r :: rs) (O - ops us) true ∧ chk (pem t) w2 w3 ∧ ∀ k, mcode w3 t k = mcode w2 t k := by
    obtain ⟨q1, q2, ⟨e1, e2, e3, e4, e5, e6, e7, e8, e9⟩, q4⟩ := b2
    have hc : chk (pem t) w2 w3 := by rw [hw3]; exact chk_I (Or.inr (Or.inr rfl)) (chk_refl _ _)
    refine ⟨⟨MTAP_m q1 hc, MTK_m q2 hc (by rw [hw3]; rfl), ⟨e1, e2, ?_, ?_, ⟨?_, by omega, PIL_eq _ e5.2.2 (fun j hj => ?_)⟩, ?_, ?_, e8, e9⟩, ?_⟩, hc, fun k => ?_⟩
    · rw [hw3, wI_at, if_neg (by omega)]; exact e3
    · rw [hw3, wI_at, if_neg (by omega)]; exact e4
    · rw [hw3, wI_at, if_pos ⟨rfl, rfl⟩]
    · rw [hw3, wI_at, if_neg (by omega)]
    · rw [hw3, wI_at, if_neg (by omega)]; exact e6
    · rw [hw3, wI_at, if_neg (by omega)]; exact e7
    · rw [hw3, wI_at, if_neg (by omega)]; exact q4
    · unfold mcode; rw [hw3, wI_at, if_neg (by omega), wI_at, if_neg (by omega)]
  obtain ⟨p1, p2, p3⟩ := m3
  obtain ⟨c1, c2, c3⟩ := MP_wh p1 false
  have kc : ∀ k, mcode (ee_wI w3 236 18 (ee_b false)) t k = mcode w1 t k := fun k => (c3 k).trans ((p3 k).trans (code_p b3 k))
  refine ⟨_, ?_, c1, fun q hq => by rw [kc]; exact s3 q hq, fun k hk => (kc k).trans (s4 k hk), chk_trans (pms_e s5) (chk_trans (pms_c b3) (chk_trans (pms_e p2) (pms_e c2)))⟩
  have z : ¬ (0 : Int32) ≤ -1 := by decide
  have z2 : ¬ Int32.ofNat r < (0 : Int32) := fun y => by have := (j_lt (b := 0) (by omega) (by omega)).1 y; omega
  have z4 : (0 : Int32) < Int32.ofNat r := (j_lt (a := 0) (by omega) (by omega)).2 (by omega)
  have x1 : ee_ix (Int32.ofNat rs.length) 160 = true := by rw [ixn (by omega)]; exact decide_eq_true (by omega)
  rw [k_1] at s1
  have p18 : ∀ w : ee_W, ee_put w 236 18 3 (.int 0) = some (ee_wI w 236 18 0) := fun w => rfl
  rw [show ee_b false = 0 from rfl, rn_214 mz_0]
  simp only [bo, z, on, pa, z2, z4, s1, b1, oa, x1, tnc (show rs.length < 2147483648 by omega), ← hw3, p18, mz_p, mz_ps, bd_214, k_0, k_1, k_3, k_4, k_43, k_5, k_7, nz_1, nz_3, nz_4, nz_43, nz_5, nz_7, v_call, v_cmp, v_cons, v_get, v_int, v_loc, v_nil, v_tern, v_z, w_exp0, w_exp1, w_if, w_opf, w_put, w_ret, w_seq, w_set, w_skip, w_sto, List.getElem?_cons_zero, List.getElem?_cons_succ, List.set_cons_zero, List.set_cons_succ, ee_cmp0, ee_cmp1, ee_cmp2, ee_cmp3, ee_cmp4, ee_cmp5, ee_cmpL0, ee_cmpL1, ee_cmpL2, ee_cmpL3, ee_cmpL4, ee_cmpL5, ee_tru_eb, decide_eq_true_eq, ib_i, ie_b, ie_f, ie_t, ib_l, fin_i, fin_l, fin_v, fin_z, fin_a, fin_n, ee_b_0, ee_fld0, ee_fld1, ee_fld2, ee_fld3, bi_0, bi_1, bi_2, bi_3, bi_4, bi_5, bi_6, bi_7, bi_8, bi_9, bi_10, bl_20, bl_21, bl_22, bl_23, bl_24, bl_25, bl_26, bl_48, bl_49, un_0, un_1, un_2, un_3, if_true, if_false, ite_true, ite_false, Bool.false_eq_true, Bool.not_eq_false, decide_not, Bool.not_not, reduceCtorEq, st_i, st_l, st_r, st_n, ee_noL, ee_noL.eq_1, List.length_cons, List.length_nil, Nat.reduceAdd, Nat.reduceLT, Nat.zero_add, and_true, true_and, and_self, fin_ite, pu_0, pu_1, pu_3, sto_0, el_0, Bool.not_eq_true, decide_eq_false_iff_not, Bool.decide_eq_true, Bool.decide_eq_false, decide_true, decide_false, Bool.not_true, Bool.not_false, Bool.and_self, Bool.and_true, Bool.and_false, Bool.true_and, Bool.false_and, Bool.or_true, Bool.or_false, Bool.true_or, Bool.false_or, if_true, if_false, Bool.false_eq_true, ix_0, ix_1, ix_3, ix_4, ix_43, ix_5, ix_7, tc_0, tc_1, tc_3, tc_4, tc_43, tc_5, tc_7, mz_0, mz_1, mz_a, rvs, j_s, j_a, wI_at, Nat.reduceEqDiff, zero_ne_one_n, one_ne_zero_n]
  rfl
/-- what is open is shut -/
theorem m_hshut (hd : 6 ≤ d) (hb : ∀ i, i < n → bI (f i) 0 255) {h : Nat} (hP : MP w n f i t W (us ++ h :: (vs ++ ks)) O true) (h0 : btw (tkn f n i).1 (us ++ h :: (vs ++ ks)) = 0) (hh : 40 ≤ h) (h1 : pto (tkn f n i).1 h (icm (us ++ h :: (vs ++ ks))) = 1) (hu : ∀ x ∈ us, 1 ≤ rnk x) (hv : ∀ x ∈ vs, 7 ≤ rnk x) (hk : ∀ h r, ks = h :: r → rnk h < 7) (hW : W + us.length + (if h = 43 then 1 else 0) + vs.length ≤ 300) (hO : ops us + 1 + ops vs ≤ O) :
    ∃ w', ee_run ee_B P d 214 [.ref 236] w = some ([.int 1], w') ∧ MP w' n f (i + 1) t (W + us.length + (if h = 43 then 1 else 0) + vs.length) ks (O - ops us - 1 - ops vs) true ∧ emo (mcode w' t) W us ∧ (h = 43 → mcode w' t (W + us.length) = (3, 0)) ∧ emo (mcode w' t) (W + us.length + (if h = 43 then 1 else 0)) vs ∧ (∀ k, k < W → mcode w' t k = mcode w t k) ∧ chk (pms t) w w' := by
  obtain ⟨d, rfl⟩ : ∃ k, d = k + 1 := ⟨d - 1, by omega⟩
  have hd1 : 1 ≤ d := by omega
  have hd2 : 2 ≤ d := by omega
  have bo := m_betweenOf (P := P) (d := d) (by omega) hP.2.1 (EMT_h hP.2.2.1)
  have on := m_openNow (P := P) hd2 (EMT_h hP.2.2.1)
  have pa := m_partOf (P := P) (d := d) (by omega) hP.2.1 (EMT_h hP.2.2.1)
  have ok := opk_us (r := vs ++ ks) hu hh
  have h0 : btw (tok f n (rnq isBi f n (tpos f n i))).1 (us ++ h :: (vs ++ ks)) = 0 := h0
  have h1 : pto (tok f n (rnq isBi f n (tpos f n i))).1 h (icm (us ++ h :: (vs ++ ks))) = 1 := h1
  rw [ok] at on pa
  rw [h0, show opi 0 = -1 from rfl] at bo
  rw [h1, show pti 1 = 0 from rfl] at pa
  obtain ⟨w1, s1, s2, s3, s4, s5⟩ := MP_settle (P := P) (d := d) hd2 (least := 1) (by omega) (by omega) hP hu (fun h' r' e => by injection e with e1 e2; rw [← e1]; unfold rnk; rw [if_pos hh]; omega) (by omega) (by omega)
  obtain ⟨w2, b1, b2, b3⟩ := m_stepn (P := P) (d := d) hd2 hb s2
  have h43 := (EMT_h b2.2.2.1).1.2.1
  have l160 := (EMT_h b2.2.2.1).2.2
  have u16 := (EMT_h b2.2.2.1).2.1
  have u17 := b2.2.2.1.2.2.2.2.2.2.1
  rw [List.length_cons] at l160 u16
  -- one less is open, one less lies there
  obtain ⟨w3, hw3⟩ : ∃ w3, w3 = ee_wI (ee_wI w2 236 17 (Int32.ofNat (O - ops us - 1))) 236 16 (Int32.ofNat (vs ++ ks).length) := ⟨_, rfl⟩
  have m3 : MP w3 n f (i + 1) t (W + us.length) (vs ++ ks) (O - ops us - 1) true ∧ chk (pem t) w2 w3 ∧ ∀ k, mcode w3 t k = mcode w2 t k := by
    obtain ⟨q1, q2, ⟨e1, e2, e3, e4, e5, e6, e7, e8, e9⟩, q4⟩ := b2
    have hc : chk (pem t) w2 w3 := by rw [hw3]; exact chk_I (Or.inl ⟨rfl, Or.inr (Or.inl rfl)⟩) (chk_I (Or.inl ⟨rfl, Or.inr (Or.inr (Or.inl rfl))⟩) (chk_refl _ _))
    refine ⟨⟨MTAP_m q1 hc, MTK_m q2 hc (by rw [hw3]; rfl), ⟨e1, e2, ?_, ?_, PIL_eq _ e5.2.2 (fun j hj => ?_), ?_, ?_, by omega, by omega⟩, ?_⟩, hc, fun k => ?_⟩
    · rw [hw3, wI_at, if_neg (by omega), wI_at, if_neg (by omega)]; exact e3
    · rw [hw3, wI_at, if_neg (by omega), wI_at, if_neg (by omega)]; exact e4
    · rw [hw3, wI_at, if_neg (by omega), wI_at, if_neg (by omega)]
    · rw [hw3, wI_at, if_pos ⟨rfl, rfl⟩]
    · rw [hw3, wI_at, if_neg (by omega), wI_at, if_pos ⟨rfl, rfl⟩]
    · rw [hw3, wI_at, if_neg (by omega), wI_at, if_neg (by omega)]; exact q4
    · unfold mcode; rw [hw3, wI_at, if_neg (by omega), wI_at, if_neg (by omega), wI_at, if_neg (by omega), wI_at, if_neg (by omega)]
  obtain ⟨p1, p2, p3⟩ := m3
  have z : ¬ (0 : Int32) ≤ -1 := by decide
  have sO : Int32.ofNat (O - ops us) - 1 = Int32.ofNat (O - ops us - 1) := j_sub1 (by omega) (by have := hP.2.2.1.2.2.2.2.2.2.2.1; omega)
  have sL : Int32.ofNat ((vs ++ ks).length + 1) - 1 = Int32.ofNat (vs ++ ks).length := j_sub1 (by omega) (by omega)
  have v16 : (ee_wI w2 236 17 (Int32.ofNat (O - ops us - 1))).1 236 16 = Int32.ofNat ((vs ++ ks).length + 1) := by rw [wI_at, if_neg (by omega)]; exact u16
  have oh : opi h = Int32.ofNat h := opi_p (by omega)
  have qh : (Int32.ofNat h = 43) = (h = 43) := kq (m := 43) (by omega) (by omega)
  have c12 : ∀ k, mcode w3 t k = mcode w1 t k := fun k => (p3 k).trans (code_p b3 k)
  rw [k_1] at s1
  rw [oh] at on pa
  by_cases y : h = 43
  · have yt : (h = 43) = True := eq_true y
    rw [if_pos y] at hW ⊢
    have hE := p1.2.2.1
    have em := m_emitM (P := P) hd1 hE.1 hE.2.2.1 hE.2.2.2.1 (show W + us.length < 300 by omega) 3 0
    obtain ⟨a1, a2⟩ := MP_em p1 (show W + us.length < 300 by omega) 3 0
    obtain ⟨k1, k2⟩ := emm_code (W := W + us.length) w3 t 3 0
    obtain ⟨w4, hw4⟩ : ∃ w4, w4 = emm w3 t (W + us.length) 3 0 := ⟨_, rfl⟩
    rw [← hw4] at em a1 a2 k1 k2
    obtain ⟨w', g1, g2, g3, g4, g5⟩ := MP_settle (P := P) (d := d) hd2 (Nat.le_refl 7) (by omega) a1 hv hk hW (by omega)
    rw [k_7] at g1
    refine ⟨w', ?_, g2, fun q hq => by rw [g4 _ (by omega), k2 _ (by omega), c12]; exact s3 q hq, fun _ => by rw [g4 _ (by omega), k1], g3, fun k hk => by rw [g4 k (by omega), k2 k (by omega), c12, s4 k hk], chk_trans (pms_e s5) (chk_trans (pms_c b3) (chk_trans (pms_e p2) (chk_trans (pms_e a2) (pms_e g5))))⟩
    rw [rn_214 mz_0]
    simp +decide only [bo, z, on, pa, s1, b1, u17, sO, v16, sL, ← hw3, qh, yt, em, g1, w_opf, bd_214, k_0, k_1, k_3, k_4, k_43, k_5, k_7, nz_1, nz_3, nz_4, nz_43, nz_5, nz_7, v_call, v_cmp, v_cons, v_get, v_int, v_loc, v_nil, v_tern, v_z, w_exp0, w_exp1, w_if, w_opf, w_put, w_ret, w_seq, w_set, w_skip, w_sto, List.getElem?_cons_zero, List.getElem?_cons_succ, List.set_cons_zero, List.set_cons_succ, ee_cmp0, ee_cmp1, ee_cmp2, ee_cmp3, ee_cmp4, ee_cmp5, ee_cmpL0, ee_cmpL1, ee_cmpL2, ee_cmpL3, ee_cmpL4, ee_cmpL5, ee_tru_eb, decide_eq_true_eq, ib_i, ie_b, ie_f, ie_t, ib_l, fin_i, fin_l, fin_v, fin_z, fin_a, fin_n, ee_b_0, ee_fld0, ee_fld1, ee_fld2, ee_fld3, bi_0, bi_1, bi_2, bi_3, bi_4, bi_5, bi_6, bi_7, bi_8, bi_9, bi_10, bl_20, bl_21, bl_22, bl_23, bl_24, bl_25, bl_26, bl_48, bl_49, un_0, un_1, un_2, un_3, if_true, if_false, ite_true, ite_false, Bool.false_eq_true, Bool.not_eq_false, decide_not, Bool.not_not, reduceCtorEq, st_i, st_l, st_r, st_n, ee_noL, ee_noL.eq_1, List.length_cons, List.length_nil, Nat.reduceAdd, Nat.reduceLT, Nat.zero_add, and_true, true_and, and_self, fin_ite, pu_0, pu_1, pu_3, sto_0, el_0, Bool.not_eq_true, decide_eq_false_iff_not, Bool.decide_eq_true, Bool.decide_eq_false, decide_true, decide_false, Bool.not_true, Bool.not_false, Bool.and_self, Bool.and_true, Bool.and_false, Bool.true_and, Bool.false_and, Bool.or_true, Bool.or_false, Bool.true_or, Bool.false_or, if_true, if_false, Bool.false_eq_true, ix_0, ix_1, ix_3, ix_4, ix_43, ix_5, ix_7, tc_0, tc_1, tc_3, tc_4, tc_43, tc_5, tc_7, mz_0, mz_1, mz_a, rvs, j_s, j_a, wI_at, Nat.reduceEqDiff, zero_ne_one_n, one_ne_zero_n]
    rfl
  · rw [if_neg y] at hW ⊢
    rw [Nat.add_zero] at hW ⊢
    obtain ⟨w', g1, g2, g3, g4, g5⟩ := MP_settle (P := P) (d := d) hd2 (Nat.le_refl 7) (by omega) p1 hv hk hW (by omega)
    rw [k_7] at g1
    refine ⟨w', ?_, g2, fun q hq => by rw [g4 _ (by omega), c12]; exact s3 q hq, fun e => absurd e y, g3, fun k hk => by rw [g4 k (by omega), c12, s4 k hk], chk_trans (pms_e s5) (chk_trans (pms_c b3) (chk_trans (pms_e p2) (pms_e g5)))⟩
    rw [rn_214 mz_0]
    simp +decide only [bo, z, on, pa, s1, b1, u17, sO, v16, sL, ← hw3, qh, y, g1, w_opf, bd_214, k_0, k_1, k_3, k_4, k_43, k_5, k_7, nz_1, nz_3, nz_4, nz_43, nz_5, nz_7, v_call, v_cmp, v_cons, v_get, v_int, v_loc, v_nil, v_tern, v_z, w_exp0, w_exp1, w_if, w_opf, w_put, w_ret, w_seq, w_set, w_skip, w_sto, List.getElem?_cons_zero, List.getElem?_cons_succ, List.set_cons_zero, List.set_cons_succ, ee_cmp0, ee_cmp1, ee_cmp2, ee_cmp3, ee_cmp4, ee_cmp5, ee_cmpL0, ee_cmpL1, ee_cmpL2, ee_cmpL3, ee_cmpL4, ee_cmpL5, ee_tru_eb, decide_eq_true_eq, ib_i, ie_b, ie_f, ie_t, ib_l, fin_i, fin_l, fin_v, fin_z, fin_a, fin_n, ee_b_0, ee_fld0, ee_fld1, ee_fld2, ee_fld3, bi_0, bi_1, bi_2, bi_3, bi_4, bi_5, bi_6, bi_7, bi_8, bi_9, bi_10, bl_20, bl_21, bl_22, bl_23, bl_24, bl_25, bl_26, bl_48, bl_49, un_0, un_1, un_2, un_3, if_true, if_false, ite_true, ite_false, Bool.false_eq_true, Bool.not_eq_false, decide_not, Bool.not_not, reduceCtorEq, st_i, st_l, st_r, st_n, ee_noL, ee_noL.eq_1, List.length_cons, List.length_nil, Nat.reduceAdd, Nat.reduceLT, Nat.zero_add, and_true, true_and, and_self, fin_ite, pu_0, pu_1, pu_3, sto_0, el_0, Bool.not_eq_true, decide_eq_false_iff_not, Bool.decide_eq_true, Bool.decide_eq_false, decide_true, decide_false, Bool.not_true, Bool.not_false, Bool.and_self, Bool.and_true, Bool.and_false, Bool.true_and, Bool.false_and, Bool.or_true, Bool.or_false, Bool.true_or, Bool.false_or, if_true, if_false, Bool.false_eq_true, ix_0, ix_1, ix_3, ix_4, ix_43, ix_5, ix_7, tc_0, tc_1, tc_3, tc_4, tc_43, tc_5, tc_7, mz_0, mz_1, mz_a, rvs, j_s, j_a, wI_at, Nat.reduceEqDiff, zero_ne_one_n, one_ne_zero_n]
    rfl
end BHD
