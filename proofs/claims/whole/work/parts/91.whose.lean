/-! whose law it was, on both sides -/
section BL
variable {P : Nat → Nat → List Value → ee_W → Option (List Value × ee_W)} {d : Nat} {w : ee_W} {Z : ZX}
def wsay (Z : ZX) (t j : Nat) : Bool := decide (pv (xe Z.1.1 (Z.1.2.2.2.2.2.2 j).1) (Z.2.2.1 t).2.1 = (Z.1.2.2.2.2.2.2 j).2)
def sa (Z : ZX) (t : Nat) : Nat → Bool
  | 0 => true
  | k + 1 => sa Z t k && wsay Z t k
theorem sa_s (Z : ZX) (t k : Nat) : sa Z t (k + 1) = (sa Z t k && wsay Z t k) := rfl
theorem sa_no (Z : ZX) (t : Nat) : ∀ n k, k ≤ n → sa Z t k = false → sa Z t n = false := by
  intro n
  induction n with
  | zero => intro k hk h; rw [show k = 0 by omega] at h; exact h
  | succ n ih =>
    intro k hk h
    by_cases q : k = n + 1
    · rw [← q]; exact h
    · rw [sa_s, ih k (by omega) h]; rfl
theorem xe_xe (X : HX) (a b : Int32) : (up (xe X a).1 5 b, (xe X a).2) = xe X b := by
  unfold xe
  dsimp only
  congr 1
  funext k
  rw [up_at, up_at, up_at]
  split <;> rfl
theorem c_saysAll {x : ee_W} {e0 : Int32} {t : Nat} (hd : 9 ≤ d) (h1 : CZ w Z) (h3 : WZ Z) (ht : t < nT Z.1) (ht4 : t < 4) (hc : chg (smrg 222) w x) (hX : CH x 222 (xe Z.1.1 e0)) :
    ∃ w' e1, ee_run ee_B P d 175 [.ref 0, .ref (202 + 5 * t)] x = some ([.int (ee_b (sa Z t Z.1.2.2.2.2.2.1))], w') ∧ chg (smrg 222) w w' ∧ CH w' 222 (xe Z.1.1 e1) := by
  obtain ⟨d, rfl⟩ : ∃ k, d = k + 1 := ⟨d - 1, by omega⟩
  have hd6 : 6 ≤ d := by omega
  have f : ∀ c, c < 222 → smrg 222 c = false := fun c h => smrg_f (by omega) (by omega)
  obtain ⟨c1, c2, c3, c4, c5, c6, c7, c8⟩ := h1.1.2.2.2.1
  have l8 := h3.1.2.2.2.2.2.1
  obtain ⟨p0, p1, p2, p3, p4, p5, p6, p7, p8, p9, p10, -⟩ := al_1
  have h0 : (xe Z.1.1 e0).1 0 = Z.1.1.1 0 := rfl
  generalize hn : Z.1.2.2.2.2.2.1 = n at *
  rw [rn_175 cz_0]
  obtain ⟨r, hr, hq⟩ := wh_n (f := ee_turn (ee_ev es_sh es_rf (ee_run ee_B P d) lx_175_1) (ee_evS es_sh es_rf (ee_run ee_B P d) lb_175_1))
    (I := fun m y => ∃ k e, m = n - k ∧ k ≤ n ∧ y.1 = [some (.ref 0), some (.ref (202 + 5 * t)), some (.int (Int32.ofNat k))] ∧ sa Z t k = true ∧ CH y.2 222 (xe Z.1.1 e) ∧ chg (smrg 222) w y.2)
    (Q := fun r => ∃ w' e, ((sa Z t n = true ∧ ∃ env', r = .inl (env', w')) ∨ (sa Z t n = false ∧ r = .inr ([.int 0], w'))) ∧ CH w' 222 (xe Z.1.1 e) ∧ chg (smrg 222) w w')
    (by
      rintro m ⟨env, y⟩ ⟨k, e, rfl, hk, he, hsa, hz, hcc⟩
      dsimp only at he hz hcc
      subst he
      have h9 : (Int32.ofNat k < Int32.ofNat n) ↔ k < n := j_lt (by omega) (by omega)
      have e10 : y.1 1 10 = Int32.ofNat n := (hcc.1 _ _ (f _ (by omega))).trans c7
      by_cases g : k < n
      · have h8 : Int32.ofNat k < 8 := (j_lt (b := 8) (by omega) (by omega)).2 (by omega)
        have x1 : ee_ix (Int32.ofNat k) 8 = true := by rw [ixn (by omega)]; exact decide_eq_true (by omega)
        obtain ⟨v1, v2⟩ := c8 k g
        have v1' : y.1 99 k = (Z.1.2.2.2.2.2.2 k).1 := (hcc.1 _ _ (f _ (by omega))).trans v1
        have hz2 := CH_put hz 3 (by omega) (Z.1.2.2.2.2.2.2 k).1
        rw [show fi 3 = 5 from rfl, xe_xe] at hz2
        have hcc2 : chg (smrg 222) w (ee_wI y 222 3 (Z.1.2.2.2.2.2.2 k).1) := chg_I (by decide) hcc
        have hT : LV (ee_wI y 222 3 (Z.1.2.2.2.2.2.2 k).1) (.ref (202 + 5 * t)) (some (Z.2.2.1 t)) := Or.inr ⟨t, _, ht4, rfl, rfl, CT_chg (h1.2.2.1 t ht ht4) hcc2 (fun c q1 q2 => f c (by omega))⟩
        obtain ⟨w2, m1, m2⟩ := c_pullL (P := P) hd6 hT hd_222 (by omega) hz2 h3.1.1.1.1.1
        rw [show lawP (some (Z.2.2.1 t)) = (Z.2.2.1 t).2.1 from rfl] at m1
        have hcc3 : chg (smrg 222) w w2 := chg_trans hcc2 (chg_mono m2 (smrg_m 222))
        have v2' : w2.1 100 k = (Z.1.2.2.2.2.2.2 k).2 := (hcc3.1 _ _ (f _ (by omega))).trans v2
        have hz3 := CH_chg hz2 m2 (by decide) (by decide) (by decide)
        have eb : decide (pv (xe Z.1.1 (Z.1.2.2.2.2.2.2 k).1) (Z.2.2.1 t).2.1 = (Z.1.2.2.2.2.2.2 k).2) = wsay Z t k := rfl
        cases b : wsay Z t k
        · right
          rw [b] at eb
          have ne : ¬ pv (xe Z.1.1 (Z.1.2.2.2.2.2.2 k).1) (Z.2.2.1 t).2.1 = (Z.1.2.2.2.2.2.2 k).2 := of_decide_eq_false eb
          refine ⟨.inr ([.int 0], w2), ?_, w2, _, Or.inr ⟨sa_no Z t n (k + 1) (by omega) (by rw [sa_s, b, Bool.and_false]), rfl⟩, hz3, hcc3⟩
          simp only [h9, h8, g, e10, x1, v1', v2', m1, ne, tnc (show k < 2147483648 by omega), cz_0, cz_r0, cz_r3, p0, p5, p6, p9, p10, hd_222.1, rvs, lx_175_1, lb_175_1, ee_turn, k_0, k_1, k_8, nz_1, nz_8, v_and, v_call, v_cmp, v_cons, v_get, v_idx, v_int, v_loc, v_nil, w_if, w_inc, w_put, w_ret, w_seq, w_set, w_skip, List.getElem?_cons_zero, List.getElem?_cons_succ, List.set_cons_zero, List.set_cons_succ, ee_cmp0, ee_cmp1, ee_cmp2, ee_cmp3, ee_cmp4, ee_cmp5, ee_cmpL0, ee_cmpL1, ee_cmpL2, ee_cmpL3, ee_cmpL4, ee_cmpL5, ee_tru_eb, decide_eq_true_eq, ib_i, ie_b, ie_f, ie_t, ib_l, fin_i, fin_l, fin_v, fin_z, fin_a, fin_n, ee_b_0, ee_fld0, ee_fld1, ee_fld2, ee_fld3, bi_0, bi_1, bi_2, bi_3, bi_4, bi_5, bi_6, bi_7, bi_8, bi_9, bi_10, bl_20, bl_21, bl_22, bl_23, bl_24, bl_25, bl_26, bl_48, bl_49, un_0, un_1, un_2, un_3, if_true, if_false, ite_true, ite_false, Bool.false_eq_true, Bool.not_eq_false, decide_not, Bool.not_not, reduceCtorEq, st_i, st_l, st_r, st_n, ee_noL, ee_noL.eq_1, List.length_cons, List.length_nil, Nat.reduceAdd, Nat.reduceLT, Nat.zero_add, and_true, true_and, and_self, fin_ite, pu_0, pu_1, pu_3, sto_0, el_0, Bool.not_eq_true, decide_eq_false_iff_not, Bool.decide_eq_true, Bool.decide_eq_false, decide_true, decide_false, Bool.not_true, Bool.not_false, Bool.and_self, Bool.and_true, Bool.and_false, Bool.true_and, Bool.false_and, Bool.or_true, Bool.or_false, Bool.true_or, Bool.false_or, if_true, if_false, Bool.false_eq_true]
        · left
          rw [b] at eb
          have ne : pv (xe Z.1.1 (Z.1.2.2.2.2.2.2 k).1) (Z.2.2.1 t).2.1 = (Z.1.2.2.2.2.2.2 k).2 := of_decide_eq_true eb
          refine ⟨([some (.ref 0), some (.ref (202 + 5 * t)), some (.int (Int32.ofNat (k + 1)))], w2), n - (k + 1), ?_, by omega, k + 1, _, rfl, by omega, rfl, by rw [sa_s, hsa, b]; rfl, hz3, hcc3⟩
          simp only [h9, h8, g, e10, x1, v1', v2', m1, ne, j_s, j_a, tnc (show k < 2147483648 by omega), cz_0, cz_r0, cz_r3, p0, p5, p6, p9, p10, hd_222.1, rvs, lx_175_1, lb_175_1, ee_turn, k_0, k_1, k_8, nz_1, nz_8, v_and, v_call, v_cmp, v_cons, v_get, v_idx, v_int, v_loc, v_nil, w_if, w_inc, w_put, w_ret, w_seq, w_set, w_skip, List.getElem?_cons_zero, List.getElem?_cons_succ, List.set_cons_zero, List.set_cons_succ, ee_cmp0, ee_cmp1, ee_cmp2, ee_cmp3, ee_cmp4, ee_cmp5, ee_cmpL0, ee_cmpL1, ee_cmpL2, ee_cmpL3, ee_cmpL4, ee_cmpL5, ee_tru_eb, decide_eq_true_eq, ib_i, ie_b, ie_f, ie_t, ib_l, fin_i, fin_l, fin_v, fin_z, fin_a, fin_n, ee_b_0, ee_fld0, ee_fld1, ee_fld2, ee_fld3, bi_0, bi_1, bi_2, bi_3, bi_4, bi_5, bi_6, bi_7, bi_8, bi_9, bi_10, bl_20, bl_21, bl_22, bl_23, bl_24, bl_25, bl_26, bl_48, bl_49, un_0, un_1, un_2, un_3, if_true, if_false, ite_true, ite_false, Bool.false_eq_true, Bool.not_eq_false, decide_not, Bool.not_not, reduceCtorEq, st_i, st_l, st_r, st_n, ee_noL, ee_noL.eq_1, List.length_cons, List.length_nil, Nat.reduceAdd, Nat.reduceLT, Nat.zero_add, and_true, true_and, and_self, fin_ite, pu_0, pu_1, pu_3, sto_0, el_0, Bool.not_eq_true, decide_eq_false_iff_not, Bool.decide_eq_true, Bool.decide_eq_false, decide_true, decide_false, Bool.not_true, Bool.not_false, Bool.and_self, Bool.and_true, Bool.and_false, Bool.true_and, Bool.false_and, Bool.or_true, Bool.or_false, Bool.true_or, Bool.false_or, if_true, if_false, Bool.false_eq_true]
      · right
        have hkn : k = n := by omega
        subst hkn
        refine ⟨.inl ([some (.ref 0), some (.ref (202 + 5 * t)), some (.int (Int32.ofNat k))], y), ?_, y, e, Or.inl ⟨hsa, _, rfl⟩, hz, hcc⟩
        simp only [h9, g, e10, cz_0, cz_r0, p0, rvs, lx_175_1, lb_175_1, ee_turn, k_0, k_1, k_8, nz_1, nz_8, v_and, v_call, v_cmp, v_cons, v_get, v_idx, v_int, v_loc, v_nil, w_if, w_inc, w_put, w_ret, w_seq, w_set, w_skip, List.getElem?_cons_zero, List.getElem?_cons_succ, List.set_cons_zero, List.set_cons_succ, ee_cmp0, ee_cmp1, ee_cmp2, ee_cmp3, ee_cmp4, ee_cmp5, ee_cmpL0, ee_cmpL1, ee_cmpL2, ee_cmpL3, ee_cmpL4, ee_cmpL5, ee_tru_eb, decide_eq_true_eq, ib_i, ie_b, ie_f, ie_t, ib_l, fin_i, fin_l, fin_v, fin_z, fin_a, fin_n, ee_b_0, ee_fld0, ee_fld1, ee_fld2, ee_fld3, bi_0, bi_1, bi_2, bi_3, bi_4, bi_5, bi_6, bi_7, bi_8, bi_9, bi_10, bl_20, bl_21, bl_22, bl_23, bl_24, bl_25, bl_26, bl_48, bl_49, un_0, un_1, un_2, un_3, if_true, if_false, ite_true, ite_false, Bool.false_eq_true, Bool.not_eq_false, decide_not, Bool.not_not, reduceCtorEq, st_i, st_l, st_r, st_n, ee_noL, ee_noL.eq_1, List.length_cons, List.length_nil, Nat.reduceAdd, Nat.reduceLT, Nat.zero_add, and_true, true_and, and_self, fin_ite, pu_0, pu_1, pu_3, sto_0, el_0, Bool.not_eq_true, decide_eq_false_iff_not, Bool.decide_eq_true, Bool.decide_eq_false, decide_true, decide_false, Bool.not_true, Bool.not_false, Bool.and_self, Bool.and_true, Bool.and_false, Bool.true_and, Bool.false_and, Bool.or_true, Bool.or_false, Bool.true_or, Bool.false_or, if_true, if_false, Bool.false_eq_true])
    (n - 0) ([some (.ref 0), some (.ref (202 + 5 * t)), some (.int (Int32.ofNat 0))], x) ⟨0, e0, rfl, Nat.zero_le _, rfl, rfl, hX, hc⟩
  rw [k_0] at hr
  obtain ⟨w', e, hq1, hq2, hq3⟩ := hq
  refine ⟨w', e, ?_, hq3, hq2⟩
  rcases hq1 with ⟨g1, env', rfl⟩ | ⟨g1, rfl⟩
  · rw [g1]
    simp only [w_while, hr, be_175, k_0, k_1, k_8, nz_1, nz_8, v_and, v_call, v_cmp, v_cons, v_get, v_idx, v_int, v_loc, v_nil, w_if, w_inc, w_put, w_ret, w_seq, w_set, w_skip, List.getElem?_cons_zero, List.getElem?_cons_succ, List.set_cons_zero, List.set_cons_succ, ee_cmp0, ee_cmp1, ee_cmp2, ee_cmp3, ee_cmp4, ee_cmp5, ee_cmpL0, ee_cmpL1, ee_cmpL2, ee_cmpL3, ee_cmpL4, ee_cmpL5, ee_tru_eb, decide_eq_true_eq, ib_i, ie_b, ie_f, ie_t, ib_l, fin_i, fin_l, fin_v, fin_z, fin_a, fin_n, ee_b_0, ee_fld0, ee_fld1, ee_fld2, ee_fld3, bi_0, bi_1, bi_2, bi_3, bi_4, bi_5, bi_6, bi_7, bi_8, bi_9, bi_10, bl_20, bl_21, bl_22, bl_23, bl_24, bl_25, bl_26, bl_48, bl_49, un_0, un_1, un_2, un_3, if_true, if_false, ite_true, ite_false, Bool.false_eq_true, Bool.not_eq_false, decide_not, Bool.not_not, reduceCtorEq, st_i, st_l, st_r, st_n, ee_noL, ee_noL.eq_1, List.length_cons, List.length_nil, Nat.reduceAdd, Nat.reduceLT, Nat.zero_add, and_true, true_and, and_self, fin_ite, pu_0, pu_1, pu_3, sto_0, el_0, Bool.not_eq_true, decide_eq_false_iff_not, Bool.decide_eq_true, Bool.decide_eq_false, decide_true, decide_false, Bool.not_true, Bool.not_false, Bool.and_self, Bool.and_true, Bool.and_false, Bool.true_and, Bool.false_and, Bool.or_true, Bool.or_false, Bool.true_or, Bool.false_or, if_true, if_false, Bool.false_eq_true]
    rfl
  · rw [g1]
    simp only [w_while, hr, be_175, k_0, k_1, k_8, nz_1, nz_8, v_and, v_call, v_cmp, v_cons, v_get, v_idx, v_int, v_loc, v_nil, w_if, w_inc, w_put, w_ret, w_seq, w_set, w_skip, List.getElem?_cons_zero, List.getElem?_cons_succ, List.set_cons_zero, List.set_cons_succ, ee_cmp0, ee_cmp1, ee_cmp2, ee_cmp3, ee_cmp4, ee_cmp5, ee_cmpL0, ee_cmpL1, ee_cmpL2, ee_cmpL3, ee_cmpL4, ee_cmpL5, ee_tru_eb, decide_eq_true_eq, ib_i, ie_b, ie_f, ie_t, ib_l, fin_i, fin_l, fin_v, fin_z, fin_a, fin_n, ee_b_0, ee_fld0, ee_fld1, ee_fld2, ee_fld3, bi_0, bi_1, bi_2, bi_3, bi_4, bi_5, bi_6, bi_7, bi_8, bi_9, bi_10, bl_20, bl_21, bl_22, bl_23, bl_24, bl_25, bl_26, bl_48, bl_49, un_0, un_1, un_2, un_3, if_true, if_false, ite_true, ite_false, Bool.false_eq_true, Bool.not_eq_false, decide_not, Bool.not_not, reduceCtorEq, st_i, st_l, st_r, st_n, ee_noL, ee_noL.eq_1, List.length_cons, List.length_nil, Nat.reduceAdd, Nat.reduceLT, Nat.zero_add, and_true, true_and, and_self, fin_ite, pu_0, pu_1, pu_3, sto_0, el_0, Bool.not_eq_true, decide_eq_false_iff_not, Bool.decide_eq_true, Bool.decide_eq_false, decide_true, decide_false, Bool.not_true, Bool.not_false, Bool.and_self, Bool.and_true, Bool.and_false, Bool.true_and, Bool.false_and, Bool.or_true, Bool.or_false, Bool.true_or, Bool.false_or, if_true, if_false, Bool.false_eq_true]
    rfl
def wb (Z : ZX) : Nat → Int32
  | 0 => 0
  | k + 1 => if sa Z k Z.1.2.2.2.2.2.1 = true then wb Z k ||| (1 <<< (Int32.ofNat k &&& 31)) else wb Z k
theorem m_whoseone {x : ee_W} {t : Nat} {s : Int32} (hd : 9 ≤ d) (hM : MZ w Z) (h3 : WZ Z) (ht : t < nT Z.1) (ht4 : t < 4) (hc : chk plw w x) :
    ∃ w' q, ee_wh (ee_turn (ee_ev es_sh es_rf (ee_run ee_B P d) lx_340_1) (ee_evS es_sh es_rf (ee_run ee_B P d) lb_340_1)) ([some (.ref 236), some (.int s), some (.int (Int32.ofNat t)), some (.int 1), some (.int 38)], x) = some (.inl ([some (.ref 236), some (.int s), some (.int (Int32.ofNat t)), some (.int (ee_b (sa Z t Z.1.2.2.2.2.2.1))), some (.int q)], w')) ∧ chk plw w w' := by
  have hd8 : 8 ≤ d := by omega
  have l8 := h3.1.2.2.2.2.2.1
  obtain ⟨b0, b1, b3, b4, b5, b6, b7, b8⟩ := M0_of hM.1
  have hsd := h3.1.2.2.2.2.2.2
  generalize hn : Z.1.2.2.2.2.2.1 = n at *
  obtain ⟨r, hr, hq⟩ := wh_n (f := ee_turn (ee_ev es_sh es_rf (ee_run ee_B P d) lx_340_1) (ee_evS es_sh es_rf (ee_run ee_B P d) lb_340_1))
    (I := fun m y => ∃ k, m = n - k ∧ k ≤ n ∧ y.1 = [some (.ref 236), some (.int s), some (.int (Int32.ofNat t)), some (.int (ee_b (sa Z t k))), some (.int (Int32.ofNat (38 + 2 * k)))] ∧ chk plw w y.2)
    (Q := fun r => ∃ w' q, r = .inl ([some (.ref 236), some (.int s), some (.int (Int32.ofNat t)), some (.int (ee_b (sa Z t n))), some (.int q)], w') ∧ chk plw w w')
    (by
      rintro m ⟨env, y⟩ ⟨k, rfl, hk, he, hcc⟩
      dsimp only at he hcc
      subst he
      have f : ∀ k, y.1 237 k = w.1 237 k := fun k => hcc.1 _ _ (by unfold plw; omega)
      have e4 : y.1 237 4 = Int32.ofNat n := (f 4).trans b4
      have e2 : (2 : Int32) * Int32.ofNat n = Int32.ofNat (2 * n) := j_m 2 n
      have e38 : (38 : Int32) + Int32.ofNat (2 * n) = Int32.ofNat (38 + 2 * n) := j_a 38 _
      have h9 : (Int32.ofNat (38 + 2 * k) < Int32.ofNat (38 + 2 * n)) ↔ k < n := (j_lt (by omega) (by omega)).trans (by omega)
      by_cases g : k < n
      · left
        have x1 : ee_ix (Int32.ofNat (38 + 2 * k)) 1369 = true := by rw [ixn (by omega)]; exact decide_eq_true (by omega)
        have x2 : ee_ix (Int32.ofNat (38 + 2 * k + 1)) 1369 = true := by rw [ixn (by omega)]; exact decide_eq_true (by omega)
        obtain ⟨v1, v2⟩ := b8 k g
        have v1' := (f (38 + 2 * k)).trans v1
        have t1 := tnc (show 38 + 2 * k < 2147483648 by omega)
        have t2 := tnc (show 38 + 2 * k + 1 < 2147483648 by omega)
        have eb : decide (pv (xe Z.1.1 (Z.1.2.2.2.2.2.2 k).1) (Z.2.2.1 t).2.1 = (Z.1.2.2.2.2.2.2 k).2) = wsay Z t k := rfl
        have e22 : Int32.ofNat (38 + 2 * k) + Int32.ofNat 2 = Int32.ofNat (38 + 2 * (k + 1)) := j_a _ 2
        have e22' : Int32.ofNat (38 + 2 * k) + 2 = Int32.ofNat (38 + 2 * (k + 1)) := j_a _ 2
        cases a : sa Z t k
        · refine ⟨([some (.ref 236), some (.int s), some (.int (Int32.ofNat t)), some (.int (ee_b (sa Z t (k + 1)))), some (.int (Int32.ofNat (38 + 2 * (k + 1))))], y), n - (k + 1), ?_, by omega, k + 1, rfl, by omega, rfl, hcc⟩
          rw [sa_s, a, Bool.false_and]
          simp only [h9, g, e4, e2, e38, e22, e22', lx_340_1, lb_340_1, ee_turn, k_0, k_1, k_2, k_38, k_4, nz_1, nz_2, nz_38, nz_4, v_and, v_bin, v_call, v_cmp, v_cons, v_get, v_idx, v_int, v_loc, v_mat, v_nil, v_tern, v_z, w_inc, w_ret, w_seq, w_set, List.getElem?_cons_zero, List.getElem?_cons_succ, List.set_cons_zero, List.set_cons_succ, ee_cmp0, ee_cmp1, ee_cmp2, ee_cmp3, ee_cmp4, ee_cmp5, ee_cmpL0, ee_cmpL1, ee_cmpL2, ee_cmpL3, ee_cmpL4, ee_cmpL5, ee_tru_eb, decide_eq_true_eq, ib_i, ie_b, ie_f, ie_t, ib_l, fin_i, fin_l, fin_v, fin_z, fin_a, fin_n, ee_b_0, ee_fld0, ee_fld1, ee_fld2, ee_fld3, bi_0, bi_1, bi_2, bi_3, bi_4, bi_5, bi_6, bi_7, bi_8, bi_9, bi_10, bl_20, bl_21, bl_22, bl_23, bl_24, bl_25, bl_26, bl_48, bl_49, un_0, un_1, un_2, un_3, if_true, if_false, ite_true, ite_false, Bool.false_eq_true, Bool.not_eq_false, decide_not, Bool.not_not, reduceCtorEq, st_i, st_l, st_r, st_n, ee_noL, ee_noL.eq_1, List.length_cons, List.length_nil, Nat.reduceAdd, Nat.reduceLT, Nat.zero_add, and_true, true_and, and_self, fin_ite, pu_0, pu_1, pu_3, sto_0, el_0, Bool.not_eq_true, decide_eq_false_iff_not, Bool.decide_eq_true, Bool.decide_eq_false, decide_true, decide_false, Bool.not_true, Bool.not_false, Bool.and_self, Bool.and_true, Bool.and_false, Bool.true_and, Bool.false_and, Bool.or_true, Bool.or_false, Bool.true_or, Bool.false_or, if_true, if_false, Bool.false_eq_true, tc_0, ix_0, tc_1, ix_1, tc_2, ix_2, tc_38, ix_38, tc_4, ix_4, mz_0, mz_1, mz_a, rvs, j_s, j_a, wI_at, Nat.reduceEqDiff, zero_ne_one_n, one_ne_zero_n]
        · have hMy := MZ_scr hM h3 hcc (fun c k q1 q2 => by unfold plw; omega)
          have hR : RMi y (Int32.ofNat t) (some (Z.2.2.1 t)) := Or.inr ⟨t, _, ht4, rfl, rfl, hMy.2.2.1 t ht ht4⟩
          obtain ⟨w2, m1, m2⟩ := m_pulls (P := P) hd8 hMy.1.2.1.1 h3.1.1.1 (hsd k g).1 hR
          rw [show lawP (some (Z.2.2.1 t)) = (Z.2.2.1 t).2.1 from rfl] at m1
          have hcc3 := chk_trans hcc m2
          have v2' : w2.1 237 (38 + 2 * k + 1) = (Z.1.2.2.2.2.2.2 k).2 := (hcc3.1 _ _ (by unfold plw; omega)).trans v2
          refine ⟨([some (.ref 236), some (.int s), some (.int (Int32.ofNat t)), some (.int (ee_b (sa Z t (k + 1)))), some (.int (Int32.ofNat (38 + 2 * (k + 1))))], w2), n - (k + 1), ?_, by omega, k + 1, rfl, by omega, rfl, hcc3⟩
          rw [sa_s, a, Bool.true_and]
          simp only [h9, g, e4, e2, e38, e22, e22', x1, x2, t1, t2, v1', v2', m1, eb, lx_340_1, lb_340_1, ee_turn, k_0, k_1, k_2, k_38, k_4, nz_1, nz_2, nz_38, nz_4, v_and, v_bin, v_call, v_cmp, v_cons, v_get, v_idx, v_int, v_loc, v_mat, v_nil, v_tern, v_z, w_inc, w_ret, w_seq, w_set, List.getElem?_cons_zero, List.getElem?_cons_succ, List.set_cons_zero, List.set_cons_succ, ee_cmp0, ee_cmp1, ee_cmp2, ee_cmp3, ee_cmp4, ee_cmp5, ee_cmpL0, ee_cmpL1, ee_cmpL2, ee_cmpL3, ee_cmpL4, ee_cmpL5, ee_tru_eb, decide_eq_true_eq, ib_i, ie_b, ie_f, ie_t, ib_l, fin_i, fin_l, fin_v, fin_z, fin_a, fin_n, ee_b_0, ee_fld0, ee_fld1, ee_fld2, ee_fld3, bi_0, bi_1, bi_2, bi_3, bi_4, bi_5, bi_6, bi_7, bi_8, bi_9, bi_10, bl_20, bl_21, bl_22, bl_23, bl_24, bl_25, bl_26, bl_48, bl_49, un_0, un_1, un_2, un_3, if_true, if_false, ite_true, ite_false, Bool.false_eq_true, Bool.not_eq_false, decide_not, Bool.not_not, reduceCtorEq, st_i, st_l, st_r, st_n, ee_noL, ee_noL.eq_1, List.length_cons, List.length_nil, Nat.reduceAdd, Nat.reduceLT, Nat.zero_add, and_true, true_and, and_self, fin_ite, pu_0, pu_1, pu_3, sto_0, el_0, Bool.not_eq_true, decide_eq_false_iff_not, Bool.decide_eq_true, Bool.decide_eq_false, decide_true, decide_false, Bool.not_true, Bool.not_false, Bool.and_self, Bool.and_true, Bool.and_false, Bool.true_and, Bool.false_and, Bool.or_true, Bool.or_false, Bool.true_or, Bool.false_or, if_true, if_false, Bool.false_eq_true, tc_0, ix_0, tc_1, ix_1, tc_2, ix_2, tc_38, ix_38, tc_4, ix_4, mz_0, mz_1, mz_a, rvs, j_s, j_a, wI_at, Nat.reduceEqDiff, zero_ne_one_n, one_ne_zero_n]
      · right
        have hkn : k = n := by omega
        subst hkn
        refine ⟨.inl ([some (.ref 236), some (.int s), some (.int (Int32.ofNat t)), some (.int (ee_b (sa Z t k))), some (.int (Int32.ofNat (38 + 2 * k)))], y), ?_, y, _, rfl, hcc⟩
        simp only [h9, g, e4, e2, e38, lx_340_1, lb_340_1, ee_turn, k_0, k_1, k_2, k_38, k_4, nz_1, nz_2, nz_38, nz_4, v_and, v_bin, v_call, v_cmp, v_cons, v_get, v_idx, v_int, v_loc, v_mat, v_nil, v_tern, v_z, w_inc, w_ret, w_seq, w_set, List.getElem?_cons_zero, List.getElem?_cons_succ, List.set_cons_zero, List.set_cons_succ, ee_cmp0, ee_cmp1, ee_cmp2, ee_cmp3, ee_cmp4, ee_cmp5, ee_cmpL0, ee_cmpL1, ee_cmpL2, ee_cmpL3, ee_cmpL4, ee_cmpL5, ee_tru_eb, decide_eq_true_eq, ib_i, ie_b, ie_f, ie_t, ib_l, fin_i, fin_l, fin_v, fin_z, fin_a, fin_n, ee_b_0, ee_fld0, ee_fld1, ee_fld2, ee_fld3, bi_0, bi_1, bi_2, bi_3, bi_4, bi_5, bi_6, bi_7, bi_8, bi_9, bi_10, bl_20, bl_21, bl_22, bl_23, bl_24, bl_25, bl_26, bl_48, bl_49, un_0, un_1, un_2, un_3, if_true, if_false, ite_true, ite_false, Bool.false_eq_true, Bool.not_eq_false, decide_not, Bool.not_not, reduceCtorEq, st_i, st_l, st_r, st_n, ee_noL, ee_noL.eq_1, List.length_cons, List.length_nil, Nat.reduceAdd, Nat.reduceLT, Nat.zero_add, and_true, true_and, and_self, fin_ite, pu_0, pu_1, pu_3, sto_0, el_0, Bool.not_eq_true, decide_eq_false_iff_not, Bool.decide_eq_true, Bool.decide_eq_false, decide_true, decide_false, Bool.not_true, Bool.not_false, Bool.and_self, Bool.and_true, Bool.and_false, Bool.true_and, Bool.false_and, Bool.or_true, Bool.or_false, Bool.true_or, Bool.false_or, if_true, if_false, Bool.false_eq_true, tc_0, ix_0, tc_1, ix_1, tc_2, ix_2, tc_38, ix_38, tc_4, ix_4, mz_0, mz_1, mz_a, rvs, j_s, j_a, wI_at, Nat.reduceEqDiff, zero_ne_one_n, one_ne_zero_n])
    (n - 0) ([some (.ref 236), some (.int s), some (.int (Int32.ofNat t)), some (.int (ee_b true)), some (.int (Int32.ofNat (38 + 2 * 0)))], x) ⟨0, rfl, Nat.zero_le _, rfl, hc⟩
  obtain ⟨w', q, rfl, hq2⟩ := hq
  exact ⟨w', q, hr, hq2⟩
end BL
