/-! the class's cut once more: what else it leaves -/
section CUK
variable {P : Nat → Nat → List Value → ee_W → Option (List Value × ee_W)} {d : Nat} {w : ee_W} {f : Nat → Int32} {n c p e : Nat}
def CGK (w x : ee_W) : Prop := chg rgr w x ∧ ∀ k, k ≠ 3 → x.1 225 k = w.1 225 k
theorem adw_gk {w0 : ee_W} (h : CGK w0 w) (a b e : Int32) : CGK w0 (adw w c a b e) := ⟨adw_chg h.1 a b e, fun k hk => by
  unfold adw
  rw [wI_at, if_neg (by omega), wI_at, if_neg (by omega), wI_at, if_neg (by omega), wI_at, if_neg (by omega)]
  exact h.2 k hk⟩
theorem cgk_0 (w : ee_W) : CGK w (ee_wI w 225 3 0) := ⟨chg_I (by decide) (chg_refl _ _), fun k hk => by rw [wI_at, if_neg (by omega)]⟩
theorem c_cutk (hP : SP P) (hd : 11 ≤ d) (hT : TAP w n f) : ∃ w' c, ee_run ee_B P d 19 [.ref 225, .ref 235, .int (Int32.ofNat n)] w = some ([], w') ∧ TOK w' n f c ∧ CGK w w' := by
  obtain ⟨d, rfl⟩ : ∃ k, d = k + 1 := ⟨d - 1, by omega⟩
  have hd2 : 2 ≤ d := by omega
  have hd3 : 3 ≤ d := by omega
  have hd10 : 10 ≤ d := by omega
  have n300 := hT.1
  obtain ⟨r, hr, x, c, i, v, rfl, q1, q2, q3, q4, q5⟩ := wh_n (f := ee_turn (ee_ev es_sh es_rf (ee_run ee_B P d) lx_19_1) (ee_evS es_sh es_rf (ee_run ee_B P d) lb_19_1))
    (I := fun m y => ∃ i p c v x, m = n - p ∧ i ≤ p ∧ p ≤ n ∧ c ≤ p ∧ y = ([some (.ref 225), some (.ref 235), some (.int (Int32.ofNat n)), some (.int (Int32.ofNat p)), some (.int (Int32.ofNat i)), v], x) ∧ CGK w x ∧ x.1 225 3 = Int32.ofNat c ∧ rnq isBi f n p = rnq isBi f n (tpos f n c) ∧
      (∀ i, i < c → x.1 226 i = Int32.ofNat (tkn f n i).1 ∧ x.1 227 i = Int32.ofNat (tkn f n i).2.2.1 ∧ x.1 228 i = Int32.ofNat (tkn f n i).2.1) ∧ (∀ i, i < c → (tkn f n i).1 ≠ 39))
    (Q := fun r => ∃ x c i v, r = .inl ([some (.ref 225), some (.ref 235), some (.int (Int32.ofNat n)), some (.int (Int32.ofNat n)), some (.int (Int32.ofNat i)), v], x) ∧ CGK w x ∧ c ≤ n ∧ x.1 225 3 = Int32.ofNat c ∧
      (∀ i, i < c → x.1 226 i = Int32.ofNat (tkn f n i).1 ∧ x.1 227 i = Int32.ofNat (tkn f n i).2.2.1 ∧ x.1 228 i = Int32.ofNat (tkn f n i).2.1 ∧ (tkn f n i).1 ≠ 39) ∧ tkn f n c = (39, 0, n, n))
    (by
      rintro m y ⟨i, p, c, v, x, rfl, h1, h2, h3, rfl, h4, h5, h6, h7, h8⟩
      have hTx := TAP_chg hT h4.1
      have cc : Int32.ofNat p < Int32.ofNat n ↔ p < n := j_lt (by omega) (by omega)
      by_cases pn : p < n
      · left
        have c3 : Int32.ofNat i < 300 := (j_lt (b := 300) (by omega) (by omega)).2 (by omega)
        have x0 : ee_ix (Int32.ofNat p) 300 = true := by rw [ixn (by omega)]; exact decide_eq_true (by omega)
        have v0 := hTx.2 p pn
        have t0 := tnc (n := p) (by omega)
        by_cases b : f p = 32 ∨ f p = 10
        · have bq : isBi (f p) = true := by
            unfold isBi
            rcases b with b | b
            · rw [decide_eq_true b]; rfl
            · rw [decide_eq_true b, Bool.or_true]
          refine ⟨([some (.ref 225), some (.ref 235), some (.int (Int32.ofNat n)), some (.int (Int32.ofNat (p + 1))), some (.int (Int32.ofNat (i + 1))), some (.int (f p))], x), n - (p + 1), ?_, by omega, i + 1, p + 1, c, _, x, rfl, by omega, by omega, by omega, rfl, h4, h5, (rnq_s pn bq).trans h6, h7, h8⟩
          by_cases b1 : f p = 32
          · have b1t : (f p = 32) = True := eq_true b1
            simp only [cc, pn, c3, x0, v0, t0, b1t, rd_235, j_s, j_a, lx_19_1, lb_19_1, ee_turn, k_0, k_10, k_300, k_32, k_39, nz_10, nz_300, nz_32, nz_39, v_and, v_call, v_cmp, v_cons, v_idx, v_int, v_loc, v_nil, v_or, v_z, w_exp0, w_exp1, w_if, w_inc, w_put, w_retv, w_seq, w_set, List.getElem?_cons_zero, List.getElem?_cons_succ, List.set_cons_zero, List.set_cons_succ, ee_cmp0, ee_cmp1, ee_cmp2, ee_cmp3, ee_cmp4, ee_cmp5, ee_cmpL0, ee_cmpL1, ee_cmpL2, ee_cmpL3, ee_cmpL4, ee_cmpL5, ee_tru_eb, decide_eq_true_eq, ib_i, ie_b, ie_f, ie_t, ib_l, fin_i, fin_l, fin_v, fin_z, fin_a, fin_n, ee_b_0, ee_fld0, ee_fld1, ee_fld2, ee_fld3, bi_0, bi_1, bi_2, bi_3, bi_4, bi_5, bi_6, bi_7, bi_8, bi_9, bi_10, bl_20, bl_21, bl_22, bl_23, bl_24, bl_25, bl_26, bl_48, bl_49, un_0, un_1, un_2, un_3, if_true, if_false, ite_true, ite_false, Bool.false_eq_true, Bool.not_eq_false, decide_not, Bool.not_not, reduceCtorEq, st_i, st_l, st_r, st_n, ee_noL, ee_noL.eq_1, List.length_cons, List.length_nil, Nat.reduceAdd, Nat.reduceLT, Nat.zero_add, and_true, true_and, and_self, fin_ite, pu_0, pu_1, pu_3, sto_0, el_0, Bool.not_eq_true, decide_eq_false_iff_not, Bool.decide_eq_true, Bool.decide_eq_false, decide_true, decide_false, Bool.not_true, Bool.not_false, Bool.and_self, Bool.and_true, Bool.and_false, Bool.true_and, Bool.false_and, Bool.or_true, Bool.or_false, Bool.true_or, Bool.false_or, if_true, if_false, Bool.false_eq_true]
          · have b2t : (f p = 10) = True := eq_true (b.resolve_left b1)
            simp only [cc, pn, c3, x0, v0, t0, b1, b2t, rd_235, j_s, j_a, lx_19_1, lb_19_1, ee_turn, k_0, k_10, k_300, k_32, k_39, nz_10, nz_300, nz_32, nz_39, v_and, v_call, v_cmp, v_cons, v_idx, v_int, v_loc, v_nil, v_or, v_z, w_exp0, w_exp1, w_if, w_inc, w_put, w_retv, w_seq, w_set, List.getElem?_cons_zero, List.getElem?_cons_succ, List.set_cons_zero, List.set_cons_succ, ee_cmp0, ee_cmp1, ee_cmp2, ee_cmp3, ee_cmp4, ee_cmp5, ee_cmpL0, ee_cmpL1, ee_cmpL2, ee_cmpL3, ee_cmpL4, ee_cmpL5, ee_tru_eb, decide_eq_true_eq, ib_i, ie_b, ie_f, ie_t, ib_l, fin_i, fin_l, fin_v, fin_z, fin_a, fin_n, ee_b_0, ee_fld0, ee_fld1, ee_fld2, ee_fld3, bi_0, bi_1, bi_2, bi_3, bi_4, bi_5, bi_6, bi_7, bi_8, bi_9, bi_10, bl_20, bl_21, bl_22, bl_23, bl_24, bl_25, bl_26, bl_48, bl_49, un_0, un_1, un_2, un_3, if_true, if_false, ite_true, ite_false, Bool.false_eq_true, Bool.not_eq_false, decide_not, Bool.not_not, reduceCtorEq, st_i, st_l, st_r, st_n, ee_noL, ee_noL.eq_1, List.length_cons, List.length_nil, Nat.reduceAdd, Nat.reduceLT, Nat.zero_add, and_true, true_and, and_self, fin_ite, pu_0, pu_1, pu_3, sto_0, el_0, Bool.not_eq_true, decide_eq_false_iff_not, Bool.decide_eq_true, Bool.decide_eq_false, decide_true, decide_false, Bool.not_true, Bool.not_false, Bool.and_self, Bool.and_true, Bool.and_false, Bool.true_and, Bool.false_and, Bool.or_true, Bool.or_false, Bool.true_or, Bool.false_or, if_true, if_false, Bool.false_eq_true]
        · have b1 : ¬ f p = 32 := fun z => b (Or.inl z)
          have b2 : ¬ f p = 10 := fun z => b (Or.inr z)
          have bq : isBi (f p) = false := by unfold isBi; rw [decide_eq_false b1, decide_eq_false b2]; rfl
          have rp : rnq isBi f n p = p := rnq_0 h2 (fun _ => bq)
          have tc : tkn f n c = tok f n p := by
            unfold tkn tokB
            rw [← h6, rp]
          obtain ⟨-, te2, te3, te4⟩ := tok_e (f := f) h2
          have te3 := te3 pn
          have tb := tok_b f n p
          have fin : ∀ e a v, tok f n p = (a, v, p, e) → ∃ i' p' c' v' x', n - e = n - p' ∧ i' ≤ p' ∧ p' ≤ n ∧ c' ≤ p' ∧ (([some (.ref 225), some (.ref 235), some (.int (Int32.ofNat n)), some (.int (Int32.ofNat e)), some (.int (Int32.ofNat (i + 1))), some (.int (f p))], adw x c (Int32.ofNat a) (Int32.ofNat p) (Int32.ofNat v)) : ee_E × ee_W) = ([some (.ref 225), some (.ref 235), some (.int (Int32.ofNat n)), some (.int (Int32.ofNat p')), some (.int (Int32.ofNat i')), v'], x') ∧ CGK w x' ∧ x'.1 225 3 = Int32.ofNat c' ∧ rnq isBi f n p' = rnq isBi f n (tpos f n c') ∧
              (∀ i, i < c' → x'.1 226 i = Int32.ofNat (tkn f n i).1 ∧ x'.1 227 i = Int32.ofNat (tkn f n i).2.2.1 ∧ x'.1 228 i = Int32.ofNat (tkn f n i).2.1) ∧ (∀ i, i < c' → (tkn f n i).1 ≠ 39) := by
            intro e a v ht
            rw [ht] at te2 te3 tb
            dsimp only at te2 te3 tb
            obtain ⟨n1, n2, n3, n4⟩ := adw_new x c (Int32.ofNat a) (Int32.ofNat p) (Int32.ofNat v)
            have tpc : tpos f n (c + 1) = e := by rw [tpos_s, tc, ht]
            refine ⟨i + 1, e, c + 1, _, _, rfl, by omega, te2, by omega, rfl, adw_gk h4 _ _ _, n4, by rw [tpc], fun j hj => ?_, fun j hj => ?_⟩
            · by_cases y : j = c
              · rw [y, tc, ht]; exact ⟨n1, n2, n3⟩
              · obtain ⟨k1, k2, k3⟩ := adw_keep (w := x) (show j < c by omega) (Int32.ofNat a) (Int32.ofNat p) (Int32.ofNat v)
                rw [k1, k2, k3]
                exact h7 j (by omega)
            · by_cases y : j = c
              · rw [y, tc, ht]
                exact fun z => by have := tb.2.2.1 z; omega
              · exact h8 j (by omega)
          have il := c_isLetter (P := P) (w := x) hd2 (f p)
          have id := c_isDigit (P := P) (w := x) hd2 (f p)
          by_cases q1 : isLi (f p) = true
          · have ht : tok f n p = (wnum f p (rnq isLi f n p), 0, p, rnq isLi f n p) := by unfold tok; rw [if_neg (by omega), if_pos q1]
            have cw := c_cutWord (P := P) hP hd10 hTx h5 (by omega) h2
            rw [q1] at il
            have te3' := te3
            rw [ht] at te3'
            dsimp only at te3'
            refine ⟨_, n - rnq isLi f n p, ?_, by omega, fin _ _ _ ht⟩
            simp only [cc, pn, c3, x0, v0, t0, b1, b2, il, cw, rd_235, j_s, j_a, k_0, lx_19_1, lb_19_1, ee_turn, k_0, k_10, k_300, k_32, k_39, nz_10, nz_300, nz_32, nz_39, v_and, v_call, v_cmp, v_cons, v_idx, v_int, v_loc, v_nil, v_or, v_z, w_exp0, w_exp1, w_if, w_inc, w_put, w_retv, w_seq, w_set, List.getElem?_cons_zero, List.getElem?_cons_succ, List.set_cons_zero, List.set_cons_succ, ee_cmp0, ee_cmp1, ee_cmp2, ee_cmp3, ee_cmp4, ee_cmp5, ee_cmpL0, ee_cmpL1, ee_cmpL2, ee_cmpL3, ee_cmpL4, ee_cmpL5, ee_tru_eb, decide_eq_true_eq, ib_i, ie_b, ie_f, ie_t, ib_l, fin_i, fin_l, fin_v, fin_z, fin_a, fin_n, ee_b_0, ee_fld0, ee_fld1, ee_fld2, ee_fld3, bi_0, bi_1, bi_2, bi_3, bi_4, bi_5, bi_6, bi_7, bi_8, bi_9, bi_10, bl_20, bl_21, bl_22, bl_23, bl_24, bl_25, bl_26, bl_48, bl_49, un_0, un_1, un_2, un_3, if_true, if_false, ite_true, ite_false, Bool.false_eq_true, Bool.not_eq_false, decide_not, Bool.not_not, reduceCtorEq, st_i, st_l, st_r, st_n, ee_noL, ee_noL.eq_1, List.length_cons, List.length_nil, Nat.reduceAdd, Nat.reduceLT, Nat.zero_add, and_true, true_and, and_self, fin_ite, pu_0, pu_1, pu_3, sto_0, el_0, Bool.not_eq_true, decide_eq_false_iff_not, Bool.decide_eq_true, Bool.decide_eq_false, decide_true, decide_false, Bool.not_true, Bool.not_false, Bool.and_self, Bool.and_true, Bool.and_false, Bool.true_and, Bool.false_and, Bool.or_true, Bool.or_false, Bool.true_or, Bool.false_or, if_true, if_false, Bool.false_eq_true]
          · have q1' := bf q1
            rw [q1'] at il
            by_cases q2 : isDi (f p) = true
            · have ht : tok f n p = (38, nvk f p (rnq isDi f n p - p), p, rnq isDi f n p) := by unfold tok; rw [if_neg (by omega), if_neg q1, if_pos q2]
              have cw := c_cutNumber (P := P) hd3 hTx h5 (by omega) h2
              rw [q2] at id
              have te3' := te3
              rw [ht] at te3'
              dsimp only at te3'
              refine ⟨_, n - rnq isDi f n p, ?_, by omega, fin _ _ _ ht⟩
              simp only [cc, pn, c3, x0, v0, t0, b1, b2, il, id, cw, rd_235, j_s, j_a, lx_19_1, lb_19_1, ee_turn, k_0, k_10, k_300, k_32, k_39, nz_10, nz_300, nz_32, nz_39, v_and, v_call, v_cmp, v_cons, v_idx, v_int, v_loc, v_nil, v_or, v_z, w_exp0, w_exp1, w_if, w_inc, w_put, w_retv, w_seq, w_set, List.getElem?_cons_zero, List.getElem?_cons_succ, List.set_cons_zero, List.set_cons_succ, ee_cmp0, ee_cmp1, ee_cmp2, ee_cmp3, ee_cmp4, ee_cmp5, ee_cmpL0, ee_cmpL1, ee_cmpL2, ee_cmpL3, ee_cmpL4, ee_cmpL5, ee_tru_eb, decide_eq_true_eq, ib_i, ie_b, ie_f, ie_t, ib_l, fin_i, fin_l, fin_v, fin_z, fin_a, fin_n, ee_b_0, ee_fld0, ee_fld1, ee_fld2, ee_fld3, bi_0, bi_1, bi_2, bi_3, bi_4, bi_5, bi_6, bi_7, bi_8, bi_9, bi_10, bl_20, bl_21, bl_22, bl_23, bl_24, bl_25, bl_26, bl_48, bl_49, un_0, un_1, un_2, un_3, if_true, if_false, ite_true, ite_false, Bool.false_eq_true, Bool.not_eq_false, decide_not, Bool.not_not, reduceCtorEq, st_i, st_l, st_r, st_n, ee_noL, ee_noL.eq_1, List.length_cons, List.length_nil, Nat.reduceAdd, Nat.reduceLT, Nat.zero_add, and_true, true_and, and_self, fin_ite, pu_0, pu_1, pu_3, sto_0, el_0, Bool.not_eq_true, decide_eq_false_iff_not, Bool.decide_eq_true, Bool.decide_eq_false, decide_true, decide_false, Bool.not_true, Bool.not_false, Bool.and_self, Bool.and_true, Bool.and_false, Bool.true_and, Bool.false_and, Bool.or_true, Bool.or_false, Bool.true_or, Bool.false_or, if_true, if_false, Bool.false_eq_true]
              rfl
            · have q2' := bf q2
              rw [q2'] at id
              have cw := c_cutSign (P := P) hd3 hTx h5 (by omega) pn
              by_cases q3 : (f p = 60 ∨ f p = 62) ∧ p + 1 < n ∧ f (p + 1) = 61
              · have ht : tok f n p = ((if f p = 60 then 26 else 28), 0, p, p + 2) := by unfold tok; rw [if_neg (by omega), if_neg q1, if_neg q2, if_pos q3]
                rw [if_pos q3] at cw
                refine ⟨_, n - (p + 2), ?_, by omega, fin _ _ _ ht⟩
                simp only [cc, pn, c3, x0, v0, t0, b1, b2, il, id, cw, rd_235, j_s, j_a, k_0, lx_19_1, lb_19_1, ee_turn, k_0, k_10, k_300, k_32, k_39, nz_10, nz_300, nz_32, nz_39, v_and, v_call, v_cmp, v_cons, v_idx, v_int, v_loc, v_nil, v_or, v_z, w_exp0, w_exp1, w_if, w_inc, w_put, w_retv, w_seq, w_set, List.getElem?_cons_zero, List.getElem?_cons_succ, List.set_cons_zero, List.set_cons_succ, ee_cmp0, ee_cmp1, ee_cmp2, ee_cmp3, ee_cmp4, ee_cmp5, ee_cmpL0, ee_cmpL1, ee_cmpL2, ee_cmpL3, ee_cmpL4, ee_cmpL5, ee_tru_eb, decide_eq_true_eq, ib_i, ie_b, ie_f, ie_t, ib_l, fin_i, fin_l, fin_v, fin_z, fin_a, fin_n, ee_b_0, ee_fld0, ee_fld1, ee_fld2, ee_fld3, bi_0, bi_1, bi_2, bi_3, bi_4, bi_5, bi_6, bi_7, bi_8, bi_9, bi_10, bl_20, bl_21, bl_22, bl_23, bl_24, bl_25, bl_26, bl_48, bl_49, un_0, un_1, un_2, un_3, if_true, if_false, ite_true, ite_false, Bool.false_eq_true, Bool.not_eq_false, decide_not, Bool.not_not, reduceCtorEq, st_i, st_l, st_r, st_n, ee_noL, ee_noL.eq_1, List.length_cons, List.length_nil, Nat.reduceAdd, Nat.reduceLT, Nat.zero_add, and_true, true_and, and_self, fin_ite, pu_0, pu_1, pu_3, sto_0, el_0, Bool.not_eq_true, decide_eq_false_iff_not, Bool.decide_eq_true, Bool.decide_eq_false, decide_true, decide_false, Bool.not_true, Bool.not_false, Bool.and_self, Bool.and_true, Bool.and_false, Bool.true_and, Bool.false_and, Bool.or_true, Bool.or_false, Bool.true_or, Bool.false_or, if_true, if_false, Bool.false_eq_true]
              · have ht : tok f n p = (sgk (f p), 0, p, p + 1) := by unfold tok; rw [if_neg (by omega), if_neg q1, if_neg q2, if_neg q3]
                rw [if_neg q3] at cw
                refine ⟨_, n - (p + 1), ?_, by omega, fin _ _ _ ht⟩
                simp only [cc, pn, c3, x0, v0, t0, b1, b2, il, id, cw, rd_235, j_s, j_a, k_0, lx_19_1, lb_19_1, ee_turn, k_0, k_10, k_300, k_32, k_39, nz_10, nz_300, nz_32, nz_39, v_and, v_call, v_cmp, v_cons, v_idx, v_int, v_loc, v_nil, v_or, v_z, w_exp0, w_exp1, w_if, w_inc, w_put, w_retv, w_seq, w_set, List.getElem?_cons_zero, List.getElem?_cons_succ, List.set_cons_zero, List.set_cons_succ, ee_cmp0, ee_cmp1, ee_cmp2, ee_cmp3, ee_cmp4, ee_cmp5, ee_cmpL0, ee_cmpL1, ee_cmpL2, ee_cmpL3, ee_cmpL4, ee_cmpL5, ee_tru_eb, decide_eq_true_eq, ib_i, ie_b, ie_f, ie_t, ib_l, fin_i, fin_l, fin_v, fin_z, fin_a, fin_n, ee_b_0, ee_fld0, ee_fld1, ee_fld2, ee_fld3, bi_0, bi_1, bi_2, bi_3, bi_4, bi_5, bi_6, bi_7, bi_8, bi_9, bi_10, bl_20, bl_21, bl_22, bl_23, bl_24, bl_25, bl_26, bl_48, bl_49, un_0, un_1, un_2, un_3, if_true, if_false, ite_true, ite_false, Bool.false_eq_true, Bool.not_eq_false, decide_not, Bool.not_not, reduceCtorEq, st_i, st_l, st_r, st_n, ee_noL, ee_noL.eq_1, List.length_cons, List.length_nil, Nat.reduceAdd, Nat.reduceLT, Nat.zero_add, and_true, true_and, and_self, fin_ite, pu_0, pu_1, pu_3, sto_0, el_0, Bool.not_eq_true, decide_eq_false_iff_not, Bool.decide_eq_true, Bool.decide_eq_false, decide_true, decide_false, Bool.not_true, Bool.not_false, Bool.and_self, Bool.and_true, Bool.and_false, Bool.true_and, Bool.false_and, Bool.or_true, Bool.or_false, Bool.true_or, Bool.false_or, if_true, if_false, Bool.false_eq_true]
      · right
        have pe : p = n := by omega
        subst pe
        have rp : rnq isBi f p p = p := rnq_0 (Nat.le_refl _) (fun z => by omega)
        have tc : tkn f p c = (39, 0, p, p) := by
          unfold tkn tokB
          rw [← h6, rp]
          unfold tok
          rw [if_pos (Nat.le_refl _)]
        refine ⟨_, ?_, x, c, i, v, rfl, h4, h3, h5, fun j hj => ⟨(h7 j hj).1, (h7 j hj).2.1, (h7 j hj).2.2, h8 j hj⟩, tc⟩
        by_cases c3 : Int32.ofNat i < 300 <;> simp only [c3, cc, pn, lx_19_1, lb_19_1, ee_turn, k_0, k_10, k_300, k_32, k_39, nz_10, nz_300, nz_32, nz_39, v_and, v_call, v_cmp, v_cons, v_idx, v_int, v_loc, v_nil, v_or, v_z, w_exp0, w_exp1, w_if, w_inc, w_put, w_retv, w_seq, w_set, List.getElem?_cons_zero, List.getElem?_cons_succ, List.set_cons_zero, List.set_cons_succ, ee_cmp0, ee_cmp1, ee_cmp2, ee_cmp3, ee_cmp4, ee_cmp5, ee_cmpL0, ee_cmpL1, ee_cmpL2, ee_cmpL3, ee_cmpL4, ee_cmpL5, ee_tru_eb, decide_eq_true_eq, ib_i, ie_b, ie_f, ie_t, ib_l, fin_i, fin_l, fin_v, fin_z, fin_a, fin_n, ee_b_0, ee_fld0, ee_fld1, ee_fld2, ee_fld3, bi_0, bi_1, bi_2, bi_3, bi_4, bi_5, bi_6, bi_7, bi_8, bi_9, bi_10, bl_20, bl_21, bl_22, bl_23, bl_24, bl_25, bl_26, bl_48, bl_49, un_0, un_1, un_2, un_3, if_true, if_false, ite_true, ite_false, Bool.false_eq_true, Bool.not_eq_false, decide_not, Bool.not_not, reduceCtorEq, st_i, st_l, st_r, st_n, ee_noL, ee_noL.eq_1, List.length_cons, List.length_nil, Nat.reduceAdd, Nat.reduceLT, Nat.zero_add, and_true, true_and, and_self, fin_ite, pu_0, pu_1, pu_3, sto_0, el_0, Bool.not_eq_true, decide_eq_false_iff_not, Bool.decide_eq_true, Bool.decide_eq_false, decide_true, decide_false, Bool.not_true, Bool.not_false, Bool.and_self, Bool.and_true, Bool.and_false, Bool.true_and, Bool.false_and, Bool.or_true, Bool.or_false, Bool.true_or, Bool.false_or, if_true, if_false, Bool.false_eq_true])
    (n - 0) ([some (.ref 225), some (.ref 235), some (.int (Int32.ofNat n)), some (.int (Int32.ofNat 0)), some (.int (Int32.ofNat 0)), none], ee_wI w 225 3 0)
    ⟨0, 0, 0, none, _, rfl, Nat.le_refl _, Nat.zero_le _, Nat.le_refl _, rfl, cgk_0 w, by rw [wI_at, if_pos ⟨rfl, rfl⟩]; rfl, rfl, fun i hi => by omega, fun i hi => by omega⟩
  rw [k_0] at hr
  have ad := c_add (P := P) hd2 q3 (by omega) 39 (Int32.ofNat n) 0
  obtain ⟨n1, n2, n3, n4⟩ := adw_new x c 39 (Int32.ofNat n) 0
  refine ⟨_, c, ?_, ⟨by omega, n4, fun j hj => ?_, fun j hj => (q4 j hj).2.2.2, by rw [q5]⟩, adw_gk q1 _ _ _⟩
  · rw [rn_19 rd_225]
    simp only [w_while, hr, ad, rd_225, be_19, k_0, k_10, k_300, k_32, k_39, nz_10, nz_300, nz_32, nz_39, v_and, v_call, v_cmp, v_cons, v_idx, v_int, v_loc, v_nil, v_or, v_z, w_exp0, w_exp1, w_if, w_inc, w_put, w_retv, w_seq, w_set, List.getElem?_cons_zero, List.getElem?_cons_succ, List.set_cons_zero, List.set_cons_succ, ee_cmp0, ee_cmp1, ee_cmp2, ee_cmp3, ee_cmp4, ee_cmp5, ee_cmpL0, ee_cmpL1, ee_cmpL2, ee_cmpL3, ee_cmpL4, ee_cmpL5, ee_tru_eb, decide_eq_true_eq, ib_i, ie_b, ie_f, ie_t, ib_l, fin_i, fin_l, fin_v, fin_z, fin_a, fin_n, ee_b_0, ee_fld0, ee_fld1, ee_fld2, ee_fld3, bi_0, bi_1, bi_2, bi_3, bi_4, bi_5, bi_6, bi_7, bi_8, bi_9, bi_10, bl_20, bl_21, bl_22, bl_23, bl_24, bl_25, bl_26, bl_48, bl_49, un_0, un_1, un_2, un_3, if_true, if_false, ite_true, ite_false, Bool.false_eq_true, Bool.not_eq_false, decide_not, Bool.not_not, reduceCtorEq, st_i, st_l, st_r, st_n, ee_noL, ee_noL.eq_1, List.length_cons, List.length_nil, Nat.reduceAdd, Nat.reduceLT, Nat.zero_add, and_true, true_and, and_self, fin_ite, pu_0, pu_1, pu_3, sto_0, el_0, Bool.not_eq_true, decide_eq_false_iff_not, Bool.decide_eq_true, Bool.decide_eq_false, decide_true, decide_false, Bool.not_true, Bool.not_false, Bool.and_self, Bool.and_true, Bool.and_false, Bool.true_and, Bool.false_and, Bool.or_true, Bool.or_false, Bool.true_or, Bool.false_or, if_true, if_false, Bool.false_eq_true]
  · by_cases y : j = c
    · rw [y, q5]; exact ⟨n1, n2, n3⟩
    · obtain ⟨k1, k2, k3⟩ := adw_keep (w := x) (show j < c by omega) 39 (Int32.ofNat n) 0
      rw [k1, k2, k3]
      exact ⟨(q4 j (by omega)).1, (q4 j (by omega)).2.1, (q4 j (by omega)).2.2.1⟩
end CUK
