/-! the class's parser is pp -/
section PCL
variable {P : Nat → Nat → List Value → ee_W → Option (List Value × ee_W)} {d : Nat} {w : ee_W} {f : Nat → Int32} {n c b law i l : Nat}
theorem pb_cases {r : Option PR} {g : ee_T → Nat → Option PR} {s : PR} (h : ppb r g = some s) : (∃ y, r = some (.inr y) ∧ s = .inr y) ∨ ∃ e j, r = some (.inl (e, j)) ∧ g e j = some s := by
  unfold ppb at h
  cases r with
  | none => cases h
  | some r =>
    cases r with
    | inl x => exact Or.inr ⟨x.1, x.2, rfl, h⟩
    | inr y => cases h; exact Or.inl ⟨y, rfl, rfl⟩
def gmd (md : Nat) : Nat := if md = 4 ∨ md = 3 then 1 else if md = 2 ∨ md = 1 then 2 else if md = 0 then 3 else if md = 9 ∨ md = 8 then 4 else if md = 7 ∨ md = 6 then 5 else if md = 5 then 6 else 7
def rkm (md D : Nat) : Nat := 8 * (8 - D) + gmd md + 6
def islp (r : PR) : Bool := match r with
  | .inl _ => true
  | .inr _ => false
def RS (w w' : ee_W) (n : Nat) (f : Nat → Int32) (c b law i l l0 : Nat) (r : PR) : Prop := match r with
  | .inl x => chk (ppr b) w w' ∧ ∃ l', PS w' n f c b law x.2 l' ∧ l' + i ≤ x.2 + l ∧ cseg (w'.1 (b + 4)) x.1 l0 l' ∧ ∀ k, k < l0 → w'.1 (b + 4) k = w.1 (b + 4) k
  | .inr y => chk (ppf b) w w' ∧ w'.1 225 6 = Int32.ofNat y.1 ∧ w'.1 225 7 = Int32.ofNat (tkn f n y.2).2.2.1
theorem RS_seq {w1 w2 : ee_W} {j l1 l0 : Nat} {r : PR} (hc : chk (ppr b) w w1) (hle : l1 + i ≤ j + l) (hpre : ∀ k, k < l0 → w1.1 (b + 4) k = w.1 (b + 4) k) (s2 : RS w1 w2 n f c b law j l1 l0 r) : RS w w2 n f c b law i l l0 r := by
  cases r with
  | inl x =>
    obtain ⟨a1, l', b1, b2, b3, b4⟩ := s2
    exact ⟨chk_trans hc a1, l', b1, by omega, b3, fun k hk => (b4 k hk).trans (hpre k hk)⟩
  | inr y =>
    obtain ⟨a1, a2⟩ := s2
    exact ⟨chk_trans (ppr_f hc) a1, a2⟩
theorem RS_bad {w' : ee_W} {l0 q : Nat} (hw : w' = rfw w q (tkn f n i).2.2.1) : RS w w' n f c b law i l l0 (.inr (q, i)) := by
  subst hw
  refine ⟨chk_I (Or.inl ⟨rfl, Or.inr (Or.inr rfl)⟩) (chk_I (Or.inl ⟨rfl, Or.inr (Or.inl rfl)⟩) (chk_refl _ _)), ?_, ?_⟩
  · rw [wI_at, if_neg (by omega), wI_at, if_pos ⟨rfl, rfl⟩]
  · rw [wI_at, if_pos ⟨rfl, rfl⟩]
theorem RS_inr {w' : ee_W} {i' l' l0 l1 : Nat} {y : Nat × Nat} (h : RS w w' n f c b law i l l0 (.inr y)) : RS w w' n f c b law i' l' l1 (.inr y) := h
theorem atw_c (w : ee_W) (b i : Nat) : chk (ppr b) w (atw w i) := chk_I (Or.inl ⟨rfl, Or.inl rfl⟩) (chk_refl _ _)
theorem atw_k {b : Nat} (hb : bok b) (w : ee_W) (i k : Nat) : (atw w i).1 (b + 4) k = w.1 (b + 4) k := by
  obtain ⟨b1, b2, -⟩ := hb
  rw [wI_at, if_neg (by omega)]
theorem PS_nm (h : PS w n f c b law i l) (hk : (tkn f n i).1 ≠ 39) (x : Int32) : PS (atw (emw w b l x) (i + 1)) n f c b law (i + 1) (l + 1) ∧ chk (ppr b) w (atw (emw w b l x) (i + 1)) ∧ (atw (emw w b l x) (i + 1)).1 (b + 4) l = x ∧ (∀ k, k ≠ l → (atw (emw w b l x) (i + 1)).1 (b + 4) k = w.1 (b + 4) k) := by
  have i1 := ps_n9 h hk
  obtain ⟨h1, h2, h3, h4, h5, h6, h7⟩ := h
  have hc : chk (ppr b) w (atw (emw w b l x) (i + 1)) := chk_I (Or.inl ⟨rfl, Or.inl rfl⟩) (chk_I (Or.inr (Or.inl ⟨rfl, rfl⟩)) (chk_I (Or.inr (Or.inr rfl)) (chk_refl _ _)))
  have hb := h7
  obtain ⟨b1, b2, -⟩ := h7
  refine ⟨⟨TOK_p hb h1 hc, by rw [wI_at, if_pos ⟨rfl, rfl⟩], (hc.1 _ _ (by unfold ppr; omega)).trans h3, by rw [wI_at, if_neg (by omega), wI_at, if_pos ⟨rfl, rfl⟩], i1, by omega, hb⟩, hc, ?_, fun k hk => ?_⟩
  · rw [wI_at, if_neg (by omega), wI_at, if_neg (by omega), wI_at, if_pos ⟨rfl, rfl⟩]
  · rw [wI_at, if_neg (by omega), wI_at, if_neg (by omega), wI_at, if_neg (by omega)]
theorem r_name (hd : 3 ≤ d) (h : PS w n f c b law i l) (hlaw : law ≤ 1) : ee_run ee_B P d 57 [.ref 225, .ref b] w = if 18 ≤ (tkn f n i).1 ∧ (tkn f n i).1 ≤ 24 then (if (tkn f n i).1 = (if law = 0 then 24 else 23) then some ([.int 0], rfw w 5 (tkn f n i).2.2.1) else some ([.int 1], atw (emw w b l (enc 0 (tkn f n i).1)) (i + 1))) else some ([.int 0], rfw w 1 (tkn f n i).2.2.1) := by
  obtain ⟨d, rfl⟩ : ∃ k, d = k + 1 := ⟨d - 1, by omega⟩
  have hd1 : 1 ≤ d := by omega
  have hd2 : 2 ≤ d := by omega
  have rk := r_kind (P := P) hd2 h
  obtain ⟨kb, -⟩ := tkn_b f n i
  have hb := h.2.2.2.2.2.2
  have x0 := hb.2.2.1
  have h2 := h.2.1
  have h3 := h.2.2.1
  rw [rn_57 rd_225]
  by_cases y : 18 ≤ (tkn f n i).1 ∧ (tkn f n i).1 ≤ 24
  · have q : (decide ((18 : Int32) ≤ Int32.ofNat (tkn f n i).1) && decide (Int32.ofNat (tkn f n i).1 ≤ 24)) = true := by
      rw [decide_eq_true (show (18 : Int32) ≤ Int32.ofNat (tkn f n i).1 from (j_le (a := 18) (by omega) (by omega)).2 y.1), decide_eq_true (show Int32.ofNat (tkn f n i).1 ≤ (24 : Int32) from (j_le (b := 24) (by omega) (by omega)).2 y.2)]; rfl
    have n9 := ps_n9 h (show (tkn f n i).1 ≠ 39 by omega)
    have l300 : l < 300 := by
      have := h.2.2.2.2.2.1
      have := h.1.1
      omega
    have em := r_emit (P := P) hd2 hb h.2.2.2.1 l300 (tkn f n i).1 0
    rw [k_0] at em
    have e4 : (emw w b l (enc 0 (tkn f n i).1)).1 225 4 = Int32.ofNat i := by
      obtain ⟨b1, b2, -⟩ := hb
      rw [wI_at, if_neg (by omega), wI_at, if_neg (by omega)]; exact h2
    rw [if_pos y]
    have zl : (Int32.ofNat law = 0) = (law = 0) := kq (m := 0) (by omega) (by omega)
    have e24 : (Int32.ofNat (tkn f n i).1 = 24) = ((tkn f n i).1 = 24) := kq (m := 24) (by omega) (by omega)
    have e23 : (Int32.ofNat (tkn f n i).1 = 23) = ((tkn f n i).1 = 23) := kq (m := 23) (by omega) (by omega)
    have rr := r_refuse (P := P) hd2 h 5
    rw [k_5] at rr
    by_cases z : law = 0
    · have zt : (law = 0) = True := eq_true z
      rw [if_pos z]
      by_cases u : (tkn f n i).1 = 24
      · have ut : ((tkn f n i).1 = 24) = True := eq_true u
        rw [if_pos u]
        simp only [rk, r_within hd1, q, h3, zl, zt, e24, ut, rr, rd_225, bd_57, k_0, k_1, k_18, k_23, k_24, k_5, nz_1, nz_18, nz_23, nz_24, nz_5, v_call, v_cmp, v_cons, v_get, v_int, v_loc, v_nil, v_not, v_tern, v_z, w_exp0, w_exp1, w_if, w_opf, w_ret, w_seq, w_set, List.getElem?_cons_zero, List.getElem?_cons_succ, List.set_cons_zero, List.set_cons_succ, ee_cmp0, ee_cmp1, ee_cmp2, ee_cmp3, ee_cmp4, ee_cmp5, ee_cmpL0, ee_cmpL1, ee_cmpL2, ee_cmpL3, ee_cmpL4, ee_cmpL5, ee_tru_eb, decide_eq_true_eq, ib_i, ie_b, ie_f, ie_t, ib_l, fin_i, fin_l, fin_v, fin_z, fin_a, fin_n, ee_b_0, ee_fld0, ee_fld1, ee_fld2, ee_fld3, bi_0, bi_1, bi_2, bi_3, bi_4, bi_5, bi_6, bi_7, bi_8, bi_9, bi_10, bl_20, bl_21, bl_22, bl_23, bl_24, bl_25, bl_26, bl_48, bl_49, un_0, un_1, un_2, un_3, if_true, if_false, ite_true, ite_false, Bool.false_eq_true, Bool.not_eq_false, decide_not, Bool.not_not, reduceCtorEq, st_i, st_l, st_r, st_n, ee_noL, ee_noL.eq_1, List.length_cons, List.length_nil, Nat.reduceAdd, Nat.reduceLT, Nat.zero_add, and_true, true_and, and_self, fin_ite, pu_0, pu_1, pu_3, sto_0, el_0, Bool.not_eq_true, decide_eq_false_iff_not, Bool.decide_eq_true, Bool.decide_eq_false, decide_true, decide_false, Bool.not_true, Bool.not_false, Bool.and_self, Bool.and_true, Bool.and_false, Bool.true_and, Bool.false_and, Bool.or_true, Bool.or_false, Bool.true_or, Bool.false_or, if_true, if_false, Bool.false_eq_true]
        rfl
      · rw [if_neg u]
        simp only [rk, r_within hd1, q, h3, zl, zt, e24, u, em, e4, Value.category, rd_225, w_opf, j_s, j_a, bd_57, k_0, k_1, k_18, k_23, k_24, k_5, nz_1, nz_18, nz_23, nz_24, nz_5, v_call, v_cmp, v_cons, v_get, v_int, v_loc, v_nil, v_not, v_tern, v_z, w_exp0, w_exp1, w_if, w_opf, w_ret, w_seq, w_set, List.getElem?_cons_zero, List.getElem?_cons_succ, List.set_cons_zero, List.set_cons_succ, ee_cmp0, ee_cmp1, ee_cmp2, ee_cmp3, ee_cmp4, ee_cmp5, ee_cmpL0, ee_cmpL1, ee_cmpL2, ee_cmpL3, ee_cmpL4, ee_cmpL5, ee_tru_eb, decide_eq_true_eq, ib_i, ie_b, ie_f, ie_t, ib_l, fin_i, fin_l, fin_v, fin_z, fin_a, fin_n, ee_b_0, ee_fld0, ee_fld1, ee_fld2, ee_fld3, bi_0, bi_1, bi_2, bi_3, bi_4, bi_5, bi_6, bi_7, bi_8, bi_9, bi_10, bl_20, bl_21, bl_22, bl_23, bl_24, bl_25, bl_26, bl_48, bl_49, un_0, un_1, un_2, un_3, if_true, if_false, ite_true, ite_false, Bool.false_eq_true, Bool.not_eq_false, decide_not, Bool.not_not, reduceCtorEq, st_i, st_l, st_r, st_n, ee_noL, ee_noL.eq_1, List.length_cons, List.length_nil, Nat.reduceAdd, Nat.reduceLT, Nat.zero_add, and_true, true_and, and_self, fin_ite, pu_0, pu_1, pu_3, sto_0, el_0, Bool.not_eq_true, decide_eq_false_iff_not, Bool.decide_eq_true, Bool.decide_eq_false, decide_true, decide_false, Bool.not_true, Bool.not_false, Bool.and_self, Bool.and_true, Bool.and_false, Bool.true_and, Bool.false_and, Bool.or_true, Bool.or_false, Bool.true_or, Bool.false_or, if_true, if_false, Bool.false_eq_true]
        rfl
    · rw [if_neg z]
      by_cases u : (tkn f n i).1 = 23
      · have ut : ((tkn f n i).1 = 23) = True := eq_true u
        rw [if_pos u]
        simp only [rk, r_within hd1, q, h3, zl, z, e23, ut, rr, rd_225, bd_57, k_0, k_1, k_18, k_23, k_24, k_5, nz_1, nz_18, nz_23, nz_24, nz_5, v_call, v_cmp, v_cons, v_get, v_int, v_loc, v_nil, v_not, v_tern, v_z, w_exp0, w_exp1, w_if, w_opf, w_ret, w_seq, w_set, List.getElem?_cons_zero, List.getElem?_cons_succ, List.set_cons_zero, List.set_cons_succ, ee_cmp0, ee_cmp1, ee_cmp2, ee_cmp3, ee_cmp4, ee_cmp5, ee_cmpL0, ee_cmpL1, ee_cmpL2, ee_cmpL3, ee_cmpL4, ee_cmpL5, ee_tru_eb, decide_eq_true_eq, ib_i, ie_b, ie_f, ie_t, ib_l, fin_i, fin_l, fin_v, fin_z, fin_a, fin_n, ee_b_0, ee_fld0, ee_fld1, ee_fld2, ee_fld3, bi_0, bi_1, bi_2, bi_3, bi_4, bi_5, bi_6, bi_7, bi_8, bi_9, bi_10, bl_20, bl_21, bl_22, bl_23, bl_24, bl_25, bl_26, bl_48, bl_49, un_0, un_1, un_2, un_3, if_true, if_false, ite_true, ite_false, Bool.false_eq_true, Bool.not_eq_false, decide_not, Bool.not_not, reduceCtorEq, st_i, st_l, st_r, st_n, ee_noL, ee_noL.eq_1, List.length_cons, List.length_nil, Nat.reduceAdd, Nat.reduceLT, Nat.zero_add, and_true, true_and, and_self, fin_ite, pu_0, pu_1, pu_3, sto_0, el_0, Bool.not_eq_true, decide_eq_false_iff_not, Bool.decide_eq_true, Bool.decide_eq_false, decide_true, decide_false, Bool.not_true, Bool.not_false, Bool.and_self, Bool.and_true, Bool.and_false, Bool.true_and, Bool.false_and, Bool.or_true, Bool.or_false, Bool.true_or, Bool.false_or, if_true, if_false, Bool.false_eq_true]
        rfl
      · rw [if_neg u]
        simp only [rk, r_within hd1, q, h3, zl, z, e23, u, em, e4, Value.category, rd_225, w_opf, j_s, j_a, bd_57, k_0, k_1, k_18, k_23, k_24, k_5, nz_1, nz_18, nz_23, nz_24, nz_5, v_call, v_cmp, v_cons, v_get, v_int, v_loc, v_nil, v_not, v_tern, v_z, w_exp0, w_exp1, w_if, w_opf, w_ret, w_seq, w_set, List.getElem?_cons_zero, List.getElem?_cons_succ, List.set_cons_zero, List.set_cons_succ, ee_cmp0, ee_cmp1, ee_cmp2, ee_cmp3, ee_cmp4, ee_cmp5, ee_cmpL0, ee_cmpL1, ee_cmpL2, ee_cmpL3, ee_cmpL4, ee_cmpL5, ee_tru_eb, decide_eq_true_eq, ib_i, ie_b, ie_f, ie_t, ib_l, fin_i, fin_l, fin_v, fin_z, fin_a, fin_n, ee_b_0, ee_fld0, ee_fld1, ee_fld2, ee_fld3, bi_0, bi_1, bi_2, bi_3, bi_4, bi_5, bi_6, bi_7, bi_8, bi_9, bi_10, bl_20, bl_21, bl_22, bl_23, bl_24, bl_25, bl_26, bl_48, bl_49, un_0, un_1, un_2, un_3, if_true, if_false, ite_true, ite_false, Bool.false_eq_true, Bool.not_eq_false, decide_not, Bool.not_not, reduceCtorEq, st_i, st_l, st_r, st_n, ee_noL, ee_noL.eq_1, List.length_cons, List.length_nil, Nat.reduceAdd, Nat.reduceLT, Nat.zero_add, and_true, true_and, and_self, fin_ite, pu_0, pu_1, pu_3, sto_0, el_0, Bool.not_eq_true, decide_eq_false_iff_not, Bool.decide_eq_true, Bool.decide_eq_false, decide_true, decide_false, Bool.not_true, Bool.not_false, Bool.and_self, Bool.and_true, Bool.and_false, Bool.true_and, Bool.false_and, Bool.or_true, Bool.or_false, Bool.true_or, Bool.false_or, if_true, if_false, Bool.false_eq_true]
        rfl
  · have q : (decide ((18 : Int32) ≤ Int32.ofNat (tkn f n i).1) && decide (Int32.ofNat (tkn f n i).1 ≤ 24)) = false := by
      refine bf (fun z => y ?_)
      rw [Bool.and_eq_true, decide_eq_true_eq, decide_eq_true_eq] at z
      exact ⟨(j_le (a := 18) (by omega) (by omega)).1 z.1, (j_le (b := 24) (by omega) (by omega)).1 z.2⟩
    have rr := r_refuse (P := P) hd2 h 1
    rw [k_1] at rr
    rw [if_neg y]
    simp only [rk, r_within hd1, q, rr, rd_225, bd_57, k_0, k_1, k_18, k_23, k_24, k_5, nz_1, nz_18, nz_23, nz_24, nz_5, v_call, v_cmp, v_cons, v_get, v_int, v_loc, v_nil, v_not, v_tern, v_z, w_exp0, w_exp1, w_if, w_opf, w_ret, w_seq, w_set, List.getElem?_cons_zero, List.getElem?_cons_succ, List.set_cons_zero, List.set_cons_succ, ee_cmp0, ee_cmp1, ee_cmp2, ee_cmp3, ee_cmp4, ee_cmp5, ee_cmpL0, ee_cmpL1, ee_cmpL2, ee_cmpL3, ee_cmpL4, ee_cmpL5, ee_tru_eb, decide_eq_true_eq, ib_i, ie_b, ie_f, ie_t, ib_l, fin_i, fin_l, fin_v, fin_z, fin_a, fin_n, ee_b_0, ee_fld0, ee_fld1, ee_fld2, ee_fld3, bi_0, bi_1, bi_2, bi_3, bi_4, bi_5, bi_6, bi_7, bi_8, bi_9, bi_10, bl_20, bl_21, bl_22, bl_23, bl_24, bl_25, bl_26, bl_48, bl_49, un_0, un_1, un_2, un_3, if_true, if_false, ite_true, ite_false, Bool.false_eq_true, Bool.not_eq_false, decide_not, Bool.not_not, reduceCtorEq, st_i, st_l, st_r, st_n, ee_noL, ee_noL.eq_1, List.length_cons, List.length_nil, Nat.reduceAdd, Nat.reduceLT, Nat.zero_add, and_true, true_and, and_self, fin_ite, pu_0, pu_1, pu_3, sto_0, el_0, Bool.not_eq_true, decide_eq_false_iff_not, Bool.decide_eq_true, Bool.decide_eq_false, decide_true, decide_false, Bool.not_true, Bool.not_false, Bool.and_self, Bool.and_true, Bool.and_false, Bool.true_and, Bool.false_and, Bool.or_true, Bool.or_false, Bool.true_or, Bool.false_or, if_true, if_false, Bool.false_eq_true]
    rfl
def GO (P : Nat → Nat → List Value → ee_W → Option (List Value × ee_W)) (d b md D i : Nat) (w w' : ee_W) (r : PR) : Prop := match md with
  | 0 => ee_run ee_B P d 44 [.ref 225, .ref b, .int (Int32.ofNat D)] w = some ([.int (ee_b (islp r))], w')
  | 1 => ∀ (t : Nat) (v : Option Value), t ≤ i → ∃ (t' : Nat) (v' : Option Value), ee_wh (ee_turn (ee_ev es_sh es_rf (ee_run ee_B P d) lx_44_1) (ee_evS es_sh es_rf (ee_run ee_B P d) lb_44_1)) ([some (.ref 225), some (.ref b), some (.int (Int32.ofNat D)), some (.int (Int32.ofNat t)), v], w) = some (if islp r = true then .inl ([some (.ref 225), some (.ref b), some (.int (Int32.ofNat D)), some (.int (Int32.ofNat t')), v'], w') else .inr ([.int 0], w'))
  | 2 => ee_run ee_B P d 45 [.ref 225, .ref b, .int (Int32.ofNat D)] w = some ([.int (ee_b (islp r))], w')
  | 3 => ∀ (t : Nat) (v : Option Value), t ≤ i → ∃ (t' : Nat) (v' : Option Value), ee_wh (ee_turn (ee_ev es_sh es_rf (ee_run ee_B P d) lx_45_1) (ee_evS es_sh es_rf (ee_run ee_B P d) lb_45_1)) ([some (.ref 225), some (.ref b), some (.int (Int32.ofNat D)), some (.int (Int32.ofNat t)), v], w) = some (if islp r = true then .inl ([some (.ref 225), some (.ref b), some (.int (Int32.ofNat D)), some (.int (Int32.ofNat t')), v'], w') else .inr ([.int 0], w'))
  | 4 => ee_run ee_B P d 46 [.ref 225, .ref b, .int (Int32.ofNat D)] w = some ([.int (ee_b (islp r))], w')
  | 5 => ee_run ee_B P d 53 [.ref 225, .ref b, .int (Int32.ofNat D)] w = some ([.int (ee_b (islp r))], w')
  | 6 => ∀ (t : Nat) (v : Option Value), t ≤ i → ∃ (t' : Nat) (v' : Option Value), ee_wh (ee_turn (ee_ev es_sh es_rf (ee_run ee_B P d) lx_53_1) (ee_evS es_sh es_rf (ee_run ee_B P d) lb_53_1)) ([some (.ref 225), some (.ref b), some (.int (Int32.ofNat D)), some (.int (Int32.ofNat t))], w) = some (if islp r = true then .inl ([some (.ref 225), some (.ref b), some (.int (Int32.ofNat D)), some (.int (Int32.ofNat t'))], w') else .inr ([.int 0], w'))
  | 7 => ee_run ee_B P d 54 [.ref 225, .ref b, .int (Int32.ofNat D)] w = some ([.int (ee_b (islp r))], w')
  | 8 => ∀ (t : Nat) (v : Option Value), t ≤ i → ∃ (t' : Nat) (v' : Option Value), ee_wh (ee_turn (ee_ev es_sh es_rf (ee_run ee_B P d) lx_54_1) (ee_evS es_sh es_rf (ee_run ee_B P d) lb_54_1)) ([some (.ref 225), some (.ref b), some (.int (Int32.ofNat D)), some (.int (Int32.ofNat t))], w) = some (if islp r = true then .inl ([some (.ref 225), some (.ref b), some (.int (Int32.ofNat D)), some (.int (Int32.ofNat t'))], w') else .inr ([.int 0], w'))
  | 9 => ee_run ee_B P d 55 [.ref 225, .ref b, .int (Int32.ofNat D)] w = some ([.int (ee_b (islp r))], w')
  | _ => ee_run ee_B P d 52 [.ref 225, .ref b, .int (Int32.ofNat D)] w = some ([.int (ee_b (islp r))], w')
theorem isl_l (x : ee_T × Nat) : islp (.inl x) = true := rfl
theorem isl_r (y : Nat × Nat) : islp (.inr y) = false := rfl
theorem c_pp (hlaw : law ≤ 1) : ∀ F d md D i x r, md ≤ 10 → pp (fun i => (tkn f n i).1) (fun i => (tkn f n i).2.1) law F md D i x = some r → D ≤ 8 → ∀ w l l0, PS w n f c b law i l → l0 ≤ l → (prs md = true → cseg (w.1 (b + 4)) x l0 l) → (prs md = false → l0 = l) → rkm md D ≤ d → ∃ w', RS w w' n f c b law i l l0 r ∧ GO P d b md D i w w' r := by
  intro F
  induction F with
  | zero => intro d md D i x r _ h; cases h
  | succ F ih =>
    intro d md D i x r hmd h hD w l l0 hP hl0 hx hx0 hd
    have hb := hP.2.2.2.2.2.2
    have lc := hP.1.1
    have ic := hP.2.2.2.2.1
    have li := hP.2.2.2.2.2.1
    obtain ⟨kb, -⟩ := tkn_b f n i
    have : md = 0 ∨ md = 1 ∨ md = 2 ∨ md = 3 ∨ md = 4 ∨ md = 5 ∨ md = 6 ∨ md = 7 ∨ md = 8 ∨ md = 9 ∨ md = 10 := by omega
    rcases this with rfl | rfl | rfl | rfl | rfl | rfl | rfl | rfl | rfl | rfl | rfl
    · have e0 := hx0 rfl
      subst e0
      obtain ⟨d, rfl⟩ : ∃ k, d = k + 1 := ⟨d - 1, by unfold rkm gmd at hd; omega⟩
      rw [pp_0] at h
      rcases pb_cases h with ⟨y, h1, rfl⟩ | ⟨e, j, h1, h2⟩
      · obtain ⟨w1, s1, g1⟩ := ih d 2 D i x _ (by omega) h1 hD w l0 l0 hP (Nat.le_refl _) (fun z => (by cases z)) (fun _ => rfl) (by unfold rkm gmd at hd ⊢; simp at hd ⊢; omega)
        refine ⟨w1, s1, ?_⟩
        have g1 : ee_run ee_B P d 45 [.ref 225, .ref b, .int (Int32.ofNat D)] w = some ([.int (ee_b (islp (.inr y)))], w1) := g1
        show ee_run ee_B P (d + 1) 44 [.ref 225, .ref b, .int (Int32.ofNat D)] w = some ([.int (ee_b (islp (.inr y)))], w1)
        rw [isl_r] at g1 ⊢
        rw [rn_44 rd_225]
        simp only [g1, be_44, k_0, k_1, k_300, k_31, k_32, nz_1, nz_300, nz_31, nz_32, v_and, v_call, v_cmp, v_cons, v_int, v_loc, v_nil, v_not, v_or, v_z, w_exp0, w_exp1, w_if, w_inc, w_opf, w_ret, w_seq, w_set, List.getElem?_cons_zero, List.getElem?_cons_succ, List.set_cons_zero, List.set_cons_succ, ee_cmp0, ee_cmp1, ee_cmp2, ee_cmp3, ee_cmp4, ee_cmp5, ee_cmpL0, ee_cmpL1, ee_cmpL2, ee_cmpL3, ee_cmpL4, ee_cmpL5, ee_tru_eb, decide_eq_true_eq, ib_i, ie_b, ie_f, ie_t, ib_l, fin_i, fin_l, fin_v, fin_z, fin_a, fin_n, ee_b_0, ee_fld0, ee_fld1, ee_fld2, ee_fld3, bi_0, bi_1, bi_2, bi_3, bi_4, bi_5, bi_6, bi_7, bi_8, bi_9, bi_10, bl_20, bl_21, bl_22, bl_23, bl_24, bl_25, bl_26, bl_48, bl_49, un_0, un_1, un_2, un_3, if_true, if_false, ite_true, ite_false, Bool.false_eq_true, Bool.not_eq_false, decide_not, Bool.not_not, reduceCtorEq, st_i, st_l, st_r, st_n, ee_noL, ee_noL.eq_1, List.length_cons, List.length_nil, Nat.reduceAdd, Nat.reduceLT, Nat.zero_add, and_true, true_and, and_self, fin_ite, pu_0, pu_1, pu_3, sto_0, el_0, Bool.not_eq_true, decide_eq_false_iff_not, Bool.decide_eq_true, Bool.decide_eq_false, decide_true, decide_false, Bool.not_true, Bool.not_false, Bool.and_self, Bool.and_true, Bool.and_false, Bool.true_and, Bool.false_and, Bool.or_true, Bool.or_false, Bool.true_or, Bool.false_or, if_true, if_false, Bool.false_eq_true]
        rfl
      · obtain ⟨w1, s1, g1⟩ := ih d 2 D i x _ (by omega) h1 hD w l0 l0 hP (Nat.le_refl _) (fun z => (by cases z)) (fun _ => rfl) (by unfold rkm gmd at hd ⊢; simp at hd ⊢; omega)
        have g1 : ee_run ee_B P d 45 [.ref 225, .ref b, .int (Int32.ofNat D)] w = some ([.int (ee_b (islp (.inl (e, j))))], w1) := g1
        obtain ⟨c1, l1, p1, p2, p3, p4⟩ := s1
        dsimp only at p1 p2 p3 p4
        have lt := cseg_lt _ _ _ (Nat.le_refl _) _ _ p3
        obtain ⟨w2, s2, g2⟩ := ih d 1 D j e r (by omega) h2 hD w1 l1 l0 p1 (by omega) (fun _ => p3) (fun z => (by cases z)) (by unfold rkm gmd at hd ⊢; simp at hd ⊢; omega)
        obtain ⟨t', v', g2⟩ := g2 0 none (Nat.zero_le _)
        refine ⟨w2, RS_seq c1 p2 p4 s2, ?_⟩
        show ee_run ee_B P (d + 1) 44 [.ref 225, .ref b, .int (Int32.ofNat D)] w = some ([.int (ee_b (islp r))], w2)
        rw [isl_l] at g1
        rw [k_0] at g2
        rw [rn_44 rd_225]
        cases r with
        | inl z =>
          rw [isl_l, if_pos rfl] at g2
          rw [isl_l]
          simp only [g1, w_while, g2, be_44, k_0, k_1, k_300, k_31, k_32, nz_1, nz_300, nz_31, nz_32, v_and, v_call, v_cmp, v_cons, v_int, v_loc, v_nil, v_not, v_or, v_z, w_exp0, w_exp1, w_if, w_inc, w_opf, w_ret, w_seq, w_set, List.getElem?_cons_zero, List.getElem?_cons_succ, List.set_cons_zero, List.set_cons_succ, ee_cmp0, ee_cmp1, ee_cmp2, ee_cmp3, ee_cmp4, ee_cmp5, ee_cmpL0, ee_cmpL1, ee_cmpL2, ee_cmpL3, ee_cmpL4, ee_cmpL5, ee_tru_eb, decide_eq_true_eq, ib_i, ie_b, ie_f, ie_t, ib_l, fin_i, fin_l, fin_v, fin_z, fin_a, fin_n, ee_b_0, ee_fld0, ee_fld1, ee_fld2, ee_fld3, bi_0, bi_1, bi_2, bi_3, bi_4, bi_5, bi_6, bi_7, bi_8, bi_9, bi_10, bl_20, bl_21, bl_22, bl_23, bl_24, bl_25, bl_26, bl_48, bl_49, un_0, un_1, un_2, un_3, if_true, if_false, ite_true, ite_false, Bool.false_eq_true, Bool.not_eq_false, decide_not, Bool.not_not, reduceCtorEq, st_i, st_l, st_r, st_n, ee_noL, ee_noL.eq_1, List.length_cons, List.length_nil, Nat.reduceAdd, Nat.reduceLT, Nat.zero_add, and_true, true_and, and_self, fin_ite, pu_0, pu_1, pu_3, sto_0, el_0, Bool.not_eq_true, decide_eq_false_iff_not, Bool.decide_eq_true, Bool.decide_eq_false, decide_true, decide_false, Bool.not_true, Bool.not_false, Bool.and_self, Bool.and_true, Bool.and_false, Bool.true_and, Bool.false_and, Bool.or_true, Bool.or_false, Bool.true_or, Bool.false_or, if_true, if_false, Bool.false_eq_true]
          rfl
        | inr z =>
          rw [isl_r, if_neg (by decide)] at g2
          rw [isl_r]
          simp only [g1, w_while, g2, be_44, k_0, k_1, k_300, k_31, k_32, nz_1, nz_300, nz_31, nz_32, v_and, v_call, v_cmp, v_cons, v_int, v_loc, v_nil, v_not, v_or, v_z, w_exp0, w_exp1, w_if, w_inc, w_opf, w_ret, w_seq, w_set, List.getElem?_cons_zero, List.getElem?_cons_succ, List.set_cons_zero, List.set_cons_succ, ee_cmp0, ee_cmp1, ee_cmp2, ee_cmp3, ee_cmp4, ee_cmp5, ee_cmpL0, ee_cmpL1, ee_cmpL2, ee_cmpL3, ee_cmpL4, ee_cmpL5, ee_tru_eb, decide_eq_true_eq, ib_i, ie_b, ie_f, ie_t, ib_l, fin_i, fin_l, fin_v, fin_z, fin_a, fin_n, ee_b_0, ee_fld0, ee_fld1, ee_fld2, ee_fld3, bi_0, bi_1, bi_2, bi_3, bi_4, bi_5, bi_6, bi_7, bi_8, bi_9, bi_10, bl_20, bl_21, bl_22, bl_23, bl_24, bl_25, bl_26, bl_48, bl_49, un_0, un_1, un_2, un_3, if_true, if_false, ite_true, ite_false, Bool.false_eq_true, Bool.not_eq_false, decide_not, Bool.not_not, reduceCtorEq, st_i, st_l, st_r, st_n, ee_noL, ee_noL.eq_1, List.length_cons, List.length_nil, Nat.reduceAdd, Nat.reduceLT, Nat.zero_add, and_true, true_and, and_self, fin_ite, pu_0, pu_1, pu_3, sto_0, el_0, Bool.not_eq_true, decide_eq_false_iff_not, Bool.decide_eq_true, Bool.decide_eq_false, decide_true, decide_false, Bool.not_true, Bool.not_false, Bool.and_self, Bool.and_true, Bool.and_false, Bool.true_and, Bool.false_and, Bool.or_true, Bool.or_false, Bool.true_or, Bool.false_or, if_true, if_false, Bool.false_eq_true]
          rfl
    · have hx1 := hx rfl
      have rk := r_kind (P := P) (d := d) (by unfold rkm gmd at hd; omega) hP
      have h2' := hP.2.1
      have x0 := hb.2.2.1
      have e31 : (Int32.ofNat (tkn f n i).1 = 31) = ((tkn f n i).1 = 31) := kq (m := 31) (by omega) (by omega)
      have e32 : (Int32.ofNat (tkn f n i).1 = 32) = ((tkn f n i).1 = 32) := kq (m := 32) (by omega) (by omega)
      rw [pp_1] at h
      by_cases cc : (tkn f n i).1 = 31 ∨ (tkn f n i).1 = 32
      · have h : ppb (pp (fun i => (tkn f n i).1) (fun i => (tkn f n i).2.1) law F 2 D (i + 1) x) (fun e j => pp (fun i => (tkn f n i).1) (fun i => (tkn f n i).2.1) law F 1 D j (l_bin (tkn f n i).1 x e)) = some r := by
          rw [if_pos cc] at h; exact h
        have n39 : (tkn f n i).1 ≠ 39 := by omega
        have i1 := ps_n9 hP n39
        have pA := PS_at hP n39
        rcases pb_cases h with ⟨y, h1, rfl⟩ | ⟨e, j, h1, h2⟩
        · obtain ⟨w1, s1, g1⟩ := ih d 2 D (i + 1) x _ (by omega) h1 hD _ l l pA (Nat.le_refl _) (fun z => (by cases z)) (fun _ => rfl) (by unfold rkm gmd at hd ⊢; simp at hd ⊢; omega)
          have g1 : ee_run ee_B P d 45 [.ref 225, .ref b, .int (Int32.ofNat D)] (atw w (i + 1)) = some ([.int (ee_b (islp (.inr y)))], w1) := g1
          rw [isl_r] at g1
          refine ⟨w1, RS_inr (RS_seq (i := i) (l := l) (l0 := 0) (j := i + 1) (l1 := l) (atw_c w b (i + 1)) (by omega) (fun k hk => by omega) (RS_inr (l1 := 0) s1)), fun t v ht => ⟨t, v, ?_⟩⟩
          have c3 : Int32.ofNat t < 300 := (j_lt (b := 300) (by omega) (by omega)).2 (by omega)
          have tt : ee_turn (ee_ev es_sh es_rf (ee_run ee_B P d) lx_44_1) (ee_evS es_sh es_rf (ee_run ee_B P d) lb_44_1) ([some (.ref 225), some (.ref b), some (.int (Int32.ofNat D)), some (.int (Int32.ofNat t)), v], w) = some (.inr (.inr ([.int 0], w1))) := by
            rcases cc with cc | cc
            · have ct : ((tkn f n i).1 = 31) = True := eq_true cc
              simp only [c3, rk, e31, e32, ct, h2', g1, rd_225, w_opf, j_s, j_a, lx_44_1, lb_44_1, ee_turn, k_0, k_1, k_300, k_31, k_32, nz_1, nz_300, nz_31, nz_32, v_and, v_call, v_cmp, v_cons, v_int, v_loc, v_nil, v_not, v_or, v_z, w_exp0, w_exp1, w_if, w_inc, w_opf, w_ret, w_seq, w_set, List.getElem?_cons_zero, List.getElem?_cons_succ, List.set_cons_zero, List.set_cons_succ, ee_cmp0, ee_cmp1, ee_cmp2, ee_cmp3, ee_cmp4, ee_cmp5, ee_cmpL0, ee_cmpL1, ee_cmpL2, ee_cmpL3, ee_cmpL4, ee_cmpL5, ee_tru_eb, decide_eq_true_eq, ib_i, ie_b, ie_f, ie_t, ib_l, fin_i, fin_l, fin_v, fin_z, fin_a, fin_n, ee_b_0, ee_fld0, ee_fld1, ee_fld2, ee_fld3, bi_0, bi_1, bi_2, bi_3, bi_4, bi_5, bi_6, bi_7, bi_8, bi_9, bi_10, bl_20, bl_21, bl_22, bl_23, bl_24, bl_25, bl_26, bl_48, bl_49, un_0, un_1, un_2, un_3, if_true, if_false, ite_true, ite_false, Bool.false_eq_true, Bool.not_eq_false, decide_not, Bool.not_not, reduceCtorEq, st_i, st_l, st_r, st_n, ee_noL, ee_noL.eq_1, List.length_cons, List.length_nil, Nat.reduceAdd, Nat.reduceLT, Nat.zero_add, and_true, true_and, and_self, fin_ite, pu_0, pu_1, pu_3, sto_0, el_0, Bool.not_eq_true, decide_eq_false_iff_not, Bool.decide_eq_true, Bool.decide_eq_false, decide_true, decide_false, Bool.not_true, Bool.not_false, Bool.and_self, Bool.and_true, Bool.and_false, Bool.true_and, Bool.false_and, Bool.or_true, Bool.or_false, Bool.true_or, Bool.false_or, if_true, if_false, Bool.false_eq_true]
            · have cn : ¬ (tkn f n i).1 = 31 := by omega
              have ct : ((tkn f n i).1 = 32) = True := eq_true cc
              simp only [c3, rk, e31, e32, cn, ct, h2', g1, rd_225, w_opf, j_s, j_a, lx_44_1, lb_44_1, ee_turn, k_0, k_1, k_300, k_31, k_32, nz_1, nz_300, nz_31, nz_32, v_and, v_call, v_cmp, v_cons, v_int, v_loc, v_nil, v_not, v_or, v_z, w_exp0, w_exp1, w_if, w_inc, w_opf, w_ret, w_seq, w_set, List.getElem?_cons_zero, List.getElem?_cons_succ, List.set_cons_zero, List.set_cons_succ, ee_cmp0, ee_cmp1, ee_cmp2, ee_cmp3, ee_cmp4, ee_cmp5, ee_cmpL0, ee_cmpL1, ee_cmpL2, ee_cmpL3, ee_cmpL4, ee_cmpL5, ee_tru_eb, decide_eq_true_eq, ib_i, ie_b, ie_f, ie_t, ib_l, fin_i, fin_l, fin_v, fin_z, fin_a, fin_n, ee_b_0, ee_fld0, ee_fld1, ee_fld2, ee_fld3, bi_0, bi_1, bi_2, bi_3, bi_4, bi_5, bi_6, bi_7, bi_8, bi_9, bi_10, bl_20, bl_21, bl_22, bl_23, bl_24, bl_25, bl_26, bl_48, bl_49, un_0, un_1, un_2, un_3, if_true, if_false, ite_true, ite_false, Bool.false_eq_true, Bool.not_eq_false, decide_not, Bool.not_not, reduceCtorEq, st_i, st_l, st_r, st_n, ee_noL, ee_noL.eq_1, List.length_cons, List.length_nil, Nat.reduceAdd, Nat.reduceLT, Nat.zero_add, and_true, true_and, and_self, fin_ite, pu_0, pu_1, pu_3, sto_0, el_0, Bool.not_eq_true, decide_eq_false_iff_not, Bool.decide_eq_true, Bool.decide_eq_false, decide_true, decide_false, Bool.not_true, Bool.not_false, Bool.and_self, Bool.and_true, Bool.and_false, Bool.true_and, Bool.false_and, Bool.or_true, Bool.or_false, Bool.true_or, Bool.false_or, if_true, if_false, Bool.false_eq_true]
          rw [ee_wh_eq, tt]
          rfl
        · obtain ⟨w1, s1, g1⟩ := ih d 2 D (i + 1) x _ (by omega) h1 hD _ l l pA (Nat.le_refl _) (fun z => (by cases z)) (fun _ => rfl) (by unfold rkm gmd at hd ⊢; simp at hd ⊢; omega)
          have g1 : ee_run ee_B P d 45 [.ref 225, .ref b, .int (Int32.ofNat D)] (atw w (i + 1)) = some ([.int (ee_b (islp (.inl (e, j))))], w1) := g1
          rw [isl_l] at g1
          obtain ⟨c1, l1, p1, p2, p3, p4⟩ := s1
          dsimp only at p1 p2 p3 p4
          have lt := cseg_lt _ _ _ (Nat.le_refl _) _ _ p3
          have jc := p1.2.2.2.2.1
          have em := r_emit (P := P) (d := d) (by unfold rkm gmd at hd; omega) hb p1.2.2.2.1 (show l1 < 300 by omega) (tkn f n i).1 0
          rw [k_0] at em
          obtain ⟨q1, q2, q3, q4⟩ := PS_em p1 (show l1 + 1 ≤ j by omega) (enc 0 (tkn f n i).1)
          obtain ⟨w2, s2, g2⟩ := ih d 1 D j (l_bin (tkn f n i).1 x e) r (by omega) h2 hD _ (l1 + 1) l0 q1 (by omega) (fun _ => ⟨l, l1, cseg_cg hx1 (fun k k1 k2 => by rw [q4 k (by omega), p4 k k2]; exact atw_k hb w _ k), cseg_cg p3 (fun k k1 k2 => q4 k (by omega)), rfl, q3⟩) (fun z => (by cases z)) hd
          refine ⟨w2, RS_seq (j := j) (l1 := l1 + 1) (chk_trans (atw_c w b (i + 1)) (chk_trans c1 q2)) (by omega) (fun k hk => by rw [q4 k (by omega), p4 k (by omega)]; exact atw_k hb w _ k) s2, fun t v ht => ?_⟩
          obtain ⟨t', v', g2⟩ := g2 (t + 1) (some (.int (Int32.ofNat (tkn f n i).1))) (by omega)
          refine ⟨t', v', ?_⟩
          have c3 : Int32.ofNat t < 300 := (j_lt (b := 300) (by omega) (by omega)).2 (by omega)
          have tt : ee_turn (ee_ev es_sh es_rf (ee_run ee_B P d) lx_44_1) (ee_evS es_sh es_rf (ee_run ee_B P d) lb_44_1) ([some (.ref 225), some (.ref b), some (.int (Int32.ofNat D)), some (.int (Int32.ofNat t)), v], w) = some (.inl ([some (.ref 225), some (.ref b), some (.int (Int32.ofNat D)), some (.int (Int32.ofNat (t + 1))), some (.int (Int32.ofNat (tkn f n i).1))], emw w1 b l1 (enc 0 (tkn f n i).1))) := by
            rcases cc with cc | cc
            · have ct : ((tkn f n i).1 = 31) = True := eq_true cc
              simp only [c3, rk, e31, e32, ct, h2', g1, em, Value.category, rd_225, w_opf, j_s, j_a, lx_44_1, lb_44_1, ee_turn, k_0, k_1, k_300, k_31, k_32, nz_1, nz_300, nz_31, nz_32, v_and, v_call, v_cmp, v_cons, v_int, v_loc, v_nil, v_not, v_or, v_z, w_exp0, w_exp1, w_if, w_inc, w_opf, w_ret, w_seq, w_set, List.getElem?_cons_zero, List.getElem?_cons_succ, List.set_cons_zero, List.set_cons_succ, ee_cmp0, ee_cmp1, ee_cmp2, ee_cmp3, ee_cmp4, ee_cmp5, ee_cmpL0, ee_cmpL1, ee_cmpL2, ee_cmpL3, ee_cmpL4, ee_cmpL5, ee_tru_eb, decide_eq_true_eq, ib_i, ie_b, ie_f, ie_t, ib_l, fin_i, fin_l, fin_v, fin_z, fin_a, fin_n, ee_b_0, ee_fld0, ee_fld1, ee_fld2, ee_fld3, bi_0, bi_1, bi_2, bi_3, bi_4, bi_5, bi_6, bi_7, bi_8, bi_9, bi_10, bl_20, bl_21, bl_22, bl_23, bl_24, bl_25, bl_26, bl_48, bl_49, un_0, un_1, un_2, un_3, if_true, if_false, ite_true, ite_false, Bool.false_eq_true, Bool.not_eq_false, decide_not, Bool.not_not, reduceCtorEq, st_i, st_l, st_r, st_n, ee_noL, ee_noL.eq_1, List.length_cons, List.length_nil, Nat.reduceAdd, Nat.reduceLT, Nat.zero_add, and_true, true_and, and_self, fin_ite, pu_0, pu_1, pu_3, sto_0, el_0, Bool.not_eq_true, decide_eq_false_iff_not, Bool.decide_eq_true, Bool.decide_eq_false, decide_true, decide_false, Bool.not_true, Bool.not_false, Bool.and_self, Bool.and_true, Bool.and_false, Bool.true_and, Bool.false_and, Bool.or_true, Bool.or_false, Bool.true_or, Bool.false_or, if_true, if_false, Bool.false_eq_true]
            · have cn : ¬ (tkn f n i).1 = 31 := by omega
              have ct : ((tkn f n i).1 = 32) = True := eq_true cc
              simp only [c3, rk, e31, e32, cn, ct, h2', g1, em, Value.category, rd_225, w_opf, j_s, j_a, lx_44_1, lb_44_1, ee_turn, k_0, k_1, k_300, k_31, k_32, nz_1, nz_300, nz_31, nz_32, v_and, v_call, v_cmp, v_cons, v_int, v_loc, v_nil, v_not, v_or, v_z, w_exp0, w_exp1, w_if, w_inc, w_opf, w_ret, w_seq, w_set, List.getElem?_cons_zero, List.getElem?_cons_succ, List.set_cons_zero, List.set_cons_succ, ee_cmp0, ee_cmp1, ee_cmp2, ee_cmp3, ee_cmp4, ee_cmp5, ee_cmpL0, ee_cmpL1, ee_cmpL2, ee_cmpL3, ee_cmpL4, ee_cmpL5, ee_tru_eb, decide_eq_true_eq, ib_i, ie_b, ie_f, ie_t, ib_l, fin_i, fin_l, fin_v, fin_z, fin_a, fin_n, ee_b_0, ee_fld0, ee_fld1, ee_fld2, ee_fld3, bi_0, bi_1, bi_2, bi_3, bi_4, bi_5, bi_6, bi_7, bi_8, bi_9, bi_10, bl_20, bl_21, bl_22, bl_23, bl_24, bl_25, bl_26, bl_48, bl_49, un_0, un_1, un_2, un_3, if_true, if_false, ite_true, ite_false, Bool.false_eq_true, Bool.not_eq_false, decide_not, Bool.not_not, reduceCtorEq, st_i, st_l, st_r, st_n, ee_noL, ee_noL.eq_1, List.length_cons, List.length_nil, Nat.reduceAdd, Nat.reduceLT, Nat.zero_add, and_true, true_and, and_self, fin_ite, pu_0, pu_1, pu_3, sto_0, el_0, Bool.not_eq_true, decide_eq_false_iff_not, Bool.decide_eq_true, Bool.decide_eq_false, decide_true, decide_false, Bool.not_true, Bool.not_false, Bool.and_self, Bool.and_true, Bool.and_false, Bool.true_and, Bool.false_and, Bool.or_true, Bool.or_false, Bool.true_or, Bool.false_or, if_true, if_false, Bool.false_eq_true]
          rw [ee_wh_eq, tt]
          exact g2
      · rw [if_neg cc] at h
        cases h
        refine ⟨w, ⟨chk_refl _ _, l, hP, by show l + i ≤ i + l; omega, hx1, fun _ _ => rfl⟩, fun t v ht => ⟨t, v, ?_⟩⟩
        have tt : ee_turn (ee_ev es_sh es_rf (ee_run ee_B P d) lx_44_1) (ee_evS es_sh es_rf (ee_run ee_B P d) lb_44_1) ([some (.ref 225), some (.ref b), some (.int (Int32.ofNat D)), some (.int (Int32.ofNat t)), v], w) = some (.inr (.inl ([some (.ref 225), some (.ref b), some (.int (Int32.ofNat D)), some (.int (Int32.ofNat t)), v], w))) := by
          have n31 : ¬ (tkn f n i).1 = 31 := fun z => cc (Or.inl z)
          have n32 : ¬ (tkn f n i).1 = 32 := fun z => cc (Or.inr z)
          by_cases c3 : Int32.ofNat t < 300
          · simp only [c3, rk, e31, n31, e32, n32, lx_44_1, lb_44_1, ee_turn, k_0, k_1, k_300, k_31, k_32, nz_1, nz_300, nz_31, nz_32, v_and, v_call, v_cmp, v_cons, v_int, v_loc, v_nil, v_not, v_or, v_z, w_exp0, w_exp1, w_if, w_inc, w_opf, w_ret, w_seq, w_set, List.getElem?_cons_zero, List.getElem?_cons_succ, List.set_cons_zero, List.set_cons_succ, ee_cmp0, ee_cmp1, ee_cmp2, ee_cmp3, ee_cmp4, ee_cmp5, ee_cmpL0, ee_cmpL1, ee_cmpL2, ee_cmpL3, ee_cmpL4, ee_cmpL5, ee_tru_eb, decide_eq_true_eq, ib_i, ie_b, ie_f, ie_t, ib_l, fin_i, fin_l, fin_v, fin_z, fin_a, fin_n, ee_b_0, ee_fld0, ee_fld1, ee_fld2, ee_fld3, bi_0, bi_1, bi_2, bi_3, bi_4, bi_5, bi_6, bi_7, bi_8, bi_9, bi_10, bl_20, bl_21, bl_22, bl_23, bl_24, bl_25, bl_26, bl_48, bl_49, un_0, un_1, un_2, un_3, if_true, if_false, ite_true, ite_false, Bool.false_eq_true, Bool.not_eq_false, decide_not, Bool.not_not, reduceCtorEq, st_i, st_l, st_r, st_n, ee_noL, ee_noL.eq_1, List.length_cons, List.length_nil, Nat.reduceAdd, Nat.reduceLT, Nat.zero_add, and_true, true_and, and_self, fin_ite, pu_0, pu_1, pu_3, sto_0, el_0, Bool.not_eq_true, decide_eq_false_iff_not, Bool.decide_eq_true, Bool.decide_eq_false, decide_true, decide_false, Bool.not_true, Bool.not_false, Bool.and_self, Bool.and_true, Bool.and_false, Bool.true_and, Bool.false_and, Bool.or_true, Bool.or_false, Bool.true_or, Bool.false_or, if_true, if_false, Bool.false_eq_true]
          · simp only [c3, lx_44_1, lb_44_1, ee_turn, k_0, k_1, k_300, k_31, k_32, nz_1, nz_300, nz_31, nz_32, v_and, v_call, v_cmp, v_cons, v_int, v_loc, v_nil, v_not, v_or, v_z, w_exp0, w_exp1, w_if, w_inc, w_opf, w_ret, w_seq, w_set, List.getElem?_cons_zero, List.getElem?_cons_succ, List.set_cons_zero, List.set_cons_succ, ee_cmp0, ee_cmp1, ee_cmp2, ee_cmp3, ee_cmp4, ee_cmp5, ee_cmpL0, ee_cmpL1, ee_cmpL2, ee_cmpL3, ee_cmpL4, ee_cmpL5, ee_tru_eb, decide_eq_true_eq, ib_i, ie_b, ie_f, ie_t, ib_l, fin_i, fin_l, fin_v, fin_z, fin_a, fin_n, ee_b_0, ee_fld0, ee_fld1, ee_fld2, ee_fld3, bi_0, bi_1, bi_2, bi_3, bi_4, bi_5, bi_6, bi_7, bi_8, bi_9, bi_10, bl_20, bl_21, bl_22, bl_23, bl_24, bl_25, bl_26, bl_48, bl_49, un_0, un_1, un_2, un_3, if_true, if_false, ite_true, ite_false, Bool.false_eq_true, Bool.not_eq_false, decide_not, Bool.not_not, reduceCtorEq, st_i, st_l, st_r, st_n, ee_noL, ee_noL.eq_1, List.length_cons, List.length_nil, Nat.reduceAdd, Nat.reduceLT, Nat.zero_add, and_true, true_and, and_self, fin_ite, pu_0, pu_1, pu_3, sto_0, el_0, Bool.not_eq_true, decide_eq_false_iff_not, Bool.decide_eq_true, Bool.decide_eq_false, decide_true, decide_false, Bool.not_true, Bool.not_false, Bool.and_self, Bool.and_true, Bool.and_false, Bool.true_and, Bool.false_and, Bool.or_true, Bool.or_false, Bool.true_or, Bool.false_or, if_true, if_false, Bool.false_eq_true]
        rw [ee_wh_eq, tt]
        rfl
    · have e0 := hx0 rfl
      subst e0
      obtain ⟨d, rfl⟩ : ∃ k, d = k + 1 := ⟨d - 1, by unfold rkm gmd at hd; omega⟩
      rw [pp_2] at h
      rcases pb_cases h with ⟨y, h1, rfl⟩ | ⟨e, j, h1, h2⟩
      · obtain ⟨w1, s1, g1⟩ := ih d 4 D i x _ (by omega) h1 hD w l0 l0 hP (Nat.le_refl _) (fun z => (by cases z)) (fun _ => rfl) (by unfold rkm gmd at hd ⊢; simp at hd ⊢; omega)
        refine ⟨w1, s1, ?_⟩
        have g1 : ee_run ee_B P d 46 [.ref 225, .ref b, .int (Int32.ofNat D)] w = some ([.int (ee_b (islp (.inr y)))], w1) := g1
        show ee_run ee_B P (d + 1) 45 [.ref 225, .ref b, .int (Int32.ofNat D)] w = some ([.int (ee_b (islp (.inr y)))], w1)
        rw [isl_r] at g1 ⊢
        rw [rn_45 rd_225]
        simp only [g1, be_45, k_0, k_1, k_300, k_33, k_34, nz_1, nz_300, nz_33, nz_34, v_and, v_call, v_cmp, v_cons, v_int, v_loc, v_nil, v_not, v_or, v_z, w_exp0, w_exp1, w_if, w_inc, w_opf, w_ret, w_seq, w_set, List.getElem?_cons_zero, List.getElem?_cons_succ, List.set_cons_zero, List.set_cons_succ, ee_cmp0, ee_cmp1, ee_cmp2, ee_cmp3, ee_cmp4, ee_cmp5, ee_cmpL0, ee_cmpL1, ee_cmpL2, ee_cmpL3, ee_cmpL4, ee_cmpL5, ee_tru_eb, decide_eq_true_eq, ib_i, ie_b, ie_f, ie_t, ib_l, fin_i, fin_l, fin_v, fin_z, fin_a, fin_n, ee_b_0, ee_fld0, ee_fld1, ee_fld2, ee_fld3, bi_0, bi_1, bi_2, bi_3, bi_4, bi_5, bi_6, bi_7, bi_8, bi_9, bi_10, bl_20, bl_21, bl_22, bl_23, bl_24, bl_25, bl_26, bl_48, bl_49, un_0, un_1, un_2, un_3, if_true, if_false, ite_true, ite_false, Bool.false_eq_true, Bool.not_eq_false, decide_not, Bool.not_not, reduceCtorEq, st_i, st_l, st_r, st_n, ee_noL, ee_noL.eq_1, List.length_cons, List.length_nil, Nat.reduceAdd, Nat.reduceLT, Nat.zero_add, and_true, true_and, and_self, fin_ite, pu_0, pu_1, pu_3, sto_0, el_0, Bool.not_eq_true, decide_eq_false_iff_not, Bool.decide_eq_true, Bool.decide_eq_false, decide_true, decide_false, Bool.not_true, Bool.not_false, Bool.and_self, Bool.and_true, Bool.and_false, Bool.true_and, Bool.false_and, Bool.or_true, Bool.or_false, Bool.true_or, Bool.false_or, if_true, if_false, Bool.false_eq_true]
        rfl
      · obtain ⟨w1, s1, g1⟩ := ih d 4 D i x _ (by omega) h1 hD w l0 l0 hP (Nat.le_refl _) (fun z => (by cases z)) (fun _ => rfl) (by unfold rkm gmd at hd ⊢; simp at hd ⊢; omega)
        have g1 : ee_run ee_B P d 46 [.ref 225, .ref b, .int (Int32.ofNat D)] w = some ([.int (ee_b (islp (.inl (e, j))))], w1) := g1
        obtain ⟨c1, l1, p1, p2, p3, p4⟩ := s1
        dsimp only at p1 p2 p3 p4
        have lt := cseg_lt _ _ _ (Nat.le_refl _) _ _ p3
        obtain ⟨w2, s2, g2⟩ := ih d 3 D j e r (by omega) h2 hD w1 l1 l0 p1 (by omega) (fun _ => p3) (fun z => (by cases z)) (by unfold rkm gmd at hd ⊢; simp at hd ⊢; omega)
        obtain ⟨t', v', g2⟩ := g2 0 none (Nat.zero_le _)
        refine ⟨w2, RS_seq c1 p2 p4 s2, ?_⟩
        show ee_run ee_B P (d + 1) 45 [.ref 225, .ref b, .int (Int32.ofNat D)] w = some ([.int (ee_b (islp r))], w2)
        rw [isl_l] at g1
        rw [k_0] at g2
        rw [rn_45 rd_225]
        cases r with
        | inl z =>
          rw [isl_l, if_pos rfl] at g2
          rw [isl_l]
          simp only [g1, w_while, g2, be_45, k_0, k_1, k_300, k_33, k_34, nz_1, nz_300, nz_33, nz_34, v_and, v_call, v_cmp, v_cons, v_int, v_loc, v_nil, v_not, v_or, v_z, w_exp0, w_exp1, w_if, w_inc, w_opf, w_ret, w_seq, w_set, List.getElem?_cons_zero, List.getElem?_cons_succ, List.set_cons_zero, List.set_cons_succ, ee_cmp0, ee_cmp1, ee_cmp2, ee_cmp3, ee_cmp4, ee_cmp5, ee_cmpL0, ee_cmpL1, ee_cmpL2, ee_cmpL3, ee_cmpL4, ee_cmpL5, ee_tru_eb, decide_eq_true_eq, ib_i, ie_b, ie_f, ie_t, ib_l, fin_i, fin_l, fin_v, fin_z, fin_a, fin_n, ee_b_0, ee_fld0, ee_fld1, ee_fld2, ee_fld3, bi_0, bi_1, bi_2, bi_3, bi_4, bi_5, bi_6, bi_7, bi_8, bi_9, bi_10, bl_20, bl_21, bl_22, bl_23, bl_24, bl_25, bl_26, bl_48, bl_49, un_0, un_1, un_2, un_3, if_true, if_false, ite_true, ite_false, Bool.false_eq_true, Bool.not_eq_false, decide_not, Bool.not_not, reduceCtorEq, st_i, st_l, st_r, st_n, ee_noL, ee_noL.eq_1, List.length_cons, List.length_nil, Nat.reduceAdd, Nat.reduceLT, Nat.zero_add, and_true, true_and, and_self, fin_ite, pu_0, pu_1, pu_3, sto_0, el_0, Bool.not_eq_true, decide_eq_false_iff_not, Bool.decide_eq_true, Bool.decide_eq_false, decide_true, decide_false, Bool.not_true, Bool.not_false, Bool.and_self, Bool.and_true, Bool.and_false, Bool.true_and, Bool.false_and, Bool.or_true, Bool.or_false, Bool.true_or, Bool.false_or, if_true, if_false, Bool.false_eq_true]
          rfl
        | inr z =>
          rw [isl_r, if_neg (by decide)] at g2
          rw [isl_r]
          simp only [g1, w_while, g2, be_45, k_0, k_1, k_300, k_33, k_34, nz_1, nz_300, nz_33, nz_34, v_and, v_call, v_cmp, v_cons, v_int, v_loc, v_nil, v_not, v_or, v_z, w_exp0, w_exp1, w_if, w_inc, w_opf, w_ret, w_seq, w_set, List.getElem?_cons_zero, List.getElem?_cons_succ, List.set_cons_zero, List.set_cons_succ, ee_cmp0, ee_cmp1, ee_cmp2, ee_cmp3, ee_cmp4, ee_cmp5, ee_cmpL0, ee_cmpL1, ee_cmpL2, ee_cmpL3, ee_cmpL4, ee_cmpL5, ee_tru_eb, decide_eq_true_eq, ib_i, ie_b, ie_f, ie_t, ib_l, fin_i, fin_l, fin_v, fin_z, fin_a, fin_n, ee_b_0, ee_fld0, ee_fld1, ee_fld2, ee_fld3, bi_0, bi_1, bi_2, bi_3, bi_4, bi_5, bi_6, bi_7, bi_8, bi_9, bi_10, bl_20, bl_21, bl_22, bl_23, bl_24, bl_25, bl_26, bl_48, bl_49, un_0, un_1, un_2, un_3, if_true, if_false, ite_true, ite_false, Bool.false_eq_true, Bool.not_eq_false, decide_not, Bool.not_not, reduceCtorEq, st_i, st_l, st_r, st_n, ee_noL, ee_noL.eq_1, List.length_cons, List.length_nil, Nat.reduceAdd, Nat.reduceLT, Nat.zero_add, and_true, true_and, and_self, fin_ite, pu_0, pu_1, pu_3, sto_0, el_0, Bool.not_eq_true, decide_eq_false_iff_not, Bool.decide_eq_true, Bool.decide_eq_false, decide_true, decide_false, Bool.not_true, Bool.not_false, Bool.and_self, Bool.and_true, Bool.and_false, Bool.true_and, Bool.false_and, Bool.or_true, Bool.or_false, Bool.true_or, Bool.false_or, if_true, if_false, Bool.false_eq_true]
          rfl
    · have hx1 := hx rfl
      have rk := r_kind (P := P) (d := d) (by unfold rkm gmd at hd; omega) hP
      have h2' := hP.2.1
      have x0 := hb.2.2.1
      have e33 : (Int32.ofNat (tkn f n i).1 = 33) = ((tkn f n i).1 = 33) := kq (m := 33) (by omega) (by omega)
      have e34 : (Int32.ofNat (tkn f n i).1 = 34) = ((tkn f n i).1 = 34) := kq (m := 34) (by omega) (by omega)
      rw [pp_3] at h
      by_cases cc : (tkn f n i).1 = 33 ∨ (tkn f n i).1 = 34
      · have h : ppb (pp (fun i => (tkn f n i).1) (fun i => (tkn f n i).2.1) law F 4 D (i + 1) x) (fun e j => pp (fun i => (tkn f n i).1) (fun i => (tkn f n i).2.1) law F 3 D j (l_bin (tkn f n i).1 x e)) = some r := by
          rw [if_pos cc] at h; exact h
        have n39 : (tkn f n i).1 ≠ 39 := by omega
        have i1 := ps_n9 hP n39
        have pA := PS_at hP n39
        rcases pb_cases h with ⟨y, h1, rfl⟩ | ⟨e, j, h1, h2⟩
        · obtain ⟨w1, s1, g1⟩ := ih d 4 D (i + 1) x _ (by omega) h1 hD _ l l pA (Nat.le_refl _) (fun z => (by cases z)) (fun _ => rfl) (by unfold rkm gmd at hd ⊢; simp at hd ⊢; omega)
          have g1 : ee_run ee_B P d 46 [.ref 225, .ref b, .int (Int32.ofNat D)] (atw w (i + 1)) = some ([.int (ee_b (islp (.inr y)))], w1) := g1
          rw [isl_r] at g1
          refine ⟨w1, RS_inr (RS_seq (i := i) (l := l) (l0 := 0) (j := i + 1) (l1 := l) (atw_c w b (i + 1)) (by omega) (fun k hk => by omega) (RS_inr (l1 := 0) s1)), fun t v ht => ⟨t, v, ?_⟩⟩
          have c3 : Int32.ofNat t < 300 := (j_lt (b := 300) (by omega) (by omega)).2 (by omega)
          have tt : ee_turn (ee_ev es_sh es_rf (ee_run ee_B P d) lx_45_1) (ee_evS es_sh es_rf (ee_run ee_B P d) lb_45_1) ([some (.ref 225), some (.ref b), some (.int (Int32.ofNat D)), some (.int (Int32.ofNat t)), v], w) = some (.inr (.inr ([.int 0], w1))) := by
            rcases cc with cc | cc
            · have ct : ((tkn f n i).1 = 33) = True := eq_true cc
              simp only [c3, rk, e33, e34, ct, h2', g1, rd_225, w_opf, j_s, j_a, lx_45_1, lb_45_1, ee_turn, k_0, k_1, k_300, k_33, k_34, nz_1, nz_300, nz_33, nz_34, v_and, v_call, v_cmp, v_cons, v_int, v_loc, v_nil, v_not, v_or, v_z, w_exp0, w_exp1, w_if, w_inc, w_opf, w_ret, w_seq, w_set, List.getElem?_cons_zero, List.getElem?_cons_succ, List.set_cons_zero, List.set_cons_succ, ee_cmp0, ee_cmp1, ee_cmp2, ee_cmp3, ee_cmp4, ee_cmp5, ee_cmpL0, ee_cmpL1, ee_cmpL2, ee_cmpL3, ee_cmpL4, ee_cmpL5, ee_tru_eb, decide_eq_true_eq, ib_i, ie_b, ie_f, ie_t, ib_l, fin_i, fin_l, fin_v, fin_z, fin_a, fin_n, ee_b_0, ee_fld0, ee_fld1, ee_fld2, ee_fld3, bi_0, bi_1, bi_2, bi_3, bi_4, bi_5, bi_6, bi_7, bi_8, bi_9, bi_10, bl_20, bl_21, bl_22, bl_23, bl_24, bl_25, bl_26, bl_48, bl_49, un_0, un_1, un_2, un_3, if_true, if_false, ite_true, ite_false, Bool.false_eq_true, Bool.not_eq_false, decide_not, Bool.not_not, reduceCtorEq, st_i, st_l, st_r, st_n, ee_noL, ee_noL.eq_1, List.length_cons, List.length_nil, Nat.reduceAdd, Nat.reduceLT, Nat.zero_add, and_true, true_and, and_self, fin_ite, pu_0, pu_1, pu_3, sto_0, el_0, Bool.not_eq_true, decide_eq_false_iff_not, Bool.decide_eq_true, Bool.decide_eq_false, decide_true, decide_false, Bool.not_true, Bool.not_false, Bool.and_self, Bool.and_true, Bool.and_false, Bool.true_and, Bool.false_and, Bool.or_true, Bool.or_false, Bool.true_or, Bool.false_or, if_true, if_false, Bool.false_eq_true]
            · have cn : ¬ (tkn f n i).1 = 33 := by omega
              have ct : ((tkn f n i).1 = 34) = True := eq_true cc
              simp only [c3, rk, e33, e34, cn, ct, h2', g1, rd_225, w_opf, j_s, j_a, lx_45_1, lb_45_1, ee_turn, k_0, k_1, k_300, k_33, k_34, nz_1, nz_300, nz_33, nz_34, v_and, v_call, v_cmp, v_cons, v_int, v_loc, v_nil, v_not, v_or, v_z, w_exp0, w_exp1, w_if, w_inc, w_opf, w_ret, w_seq, w_set, List.getElem?_cons_zero, List.getElem?_cons_succ, List.set_cons_zero, List.set_cons_succ, ee_cmp0, ee_cmp1, ee_cmp2, ee_cmp3, ee_cmp4, ee_cmp5, ee_cmpL0, ee_cmpL1, ee_cmpL2, ee_cmpL3, ee_cmpL4, ee_cmpL5, ee_tru_eb, decide_eq_true_eq, ib_i, ie_b, ie_f, ie_t, ib_l, fin_i, fin_l, fin_v, fin_z, fin_a, fin_n, ee_b_0, ee_fld0, ee_fld1, ee_fld2, ee_fld3, bi_0, bi_1, bi_2, bi_3, bi_4, bi_5, bi_6, bi_7, bi_8, bi_9, bi_10, bl_20, bl_21, bl_22, bl_23, bl_24, bl_25, bl_26, bl_48, bl_49, un_0, un_1, un_2, un_3, if_true, if_false, ite_true, ite_false, Bool.false_eq_true, Bool.not_eq_false, decide_not, Bool.not_not, reduceCtorEq, st_i, st_l, st_r, st_n, ee_noL, ee_noL.eq_1, List.length_cons, List.length_nil, Nat.reduceAdd, Nat.reduceLT, Nat.zero_add, and_true, true_and, and_self, fin_ite, pu_0, pu_1, pu_3, sto_0, el_0, Bool.not_eq_true, decide_eq_false_iff_not, Bool.decide_eq_true, Bool.decide_eq_false, decide_true, decide_false, Bool.not_true, Bool.not_false, Bool.and_self, Bool.and_true, Bool.and_false, Bool.true_and, Bool.false_and, Bool.or_true, Bool.or_false, Bool.true_or, Bool.false_or, if_true, if_false, Bool.false_eq_true]
          rw [ee_wh_eq, tt]
          rfl
        · obtain ⟨w1, s1, g1⟩ := ih d 4 D (i + 1) x _ (by omega) h1 hD _ l l pA (Nat.le_refl _) (fun z => (by cases z)) (fun _ => rfl) (by unfold rkm gmd at hd ⊢; simp at hd ⊢; omega)
          have g1 : ee_run ee_B P d 46 [.ref 225, .ref b, .int (Int32.ofNat D)] (atw w (i + 1)) = some ([.int (ee_b (islp (.inl (e, j))))], w1) := g1
          rw [isl_l] at g1
          obtain ⟨c1, l1, p1, p2, p3, p4⟩ := s1
          dsimp only at p1 p2 p3 p4
          have lt := cseg_lt _ _ _ (Nat.le_refl _) _ _ p3
          have jc := p1.2.2.2.2.1
          have em := r_emit (P := P) (d := d) (by unfold rkm gmd at hd; omega) hb p1.2.2.2.1 (show l1 < 300 by omega) (tkn f n i).1 0
          rw [k_0] at em
          obtain ⟨q1, q2, q3, q4⟩ := PS_em p1 (show l1 + 1 ≤ j by omega) (enc 0 (tkn f n i).1)
          obtain ⟨w2, s2, g2⟩ := ih d 3 D j (l_bin (tkn f n i).1 x e) r (by omega) h2 hD _ (l1 + 1) l0 q1 (by omega) (fun _ => ⟨l, l1, cseg_cg hx1 (fun k k1 k2 => by rw [q4 k (by omega), p4 k k2]; exact atw_k hb w _ k), cseg_cg p3 (fun k k1 k2 => q4 k (by omega)), rfl, q3⟩) (fun z => (by cases z)) hd
          refine ⟨w2, RS_seq (j := j) (l1 := l1 + 1) (chk_trans (atw_c w b (i + 1)) (chk_trans c1 q2)) (by omega) (fun k hk => by rw [q4 k (by omega), p4 k (by omega)]; exact atw_k hb w _ k) s2, fun t v ht => ?_⟩
          obtain ⟨t', v', g2⟩ := g2 (t + 1) (some (.int (Int32.ofNat (tkn f n i).1))) (by omega)
          refine ⟨t', v', ?_⟩
          have c3 : Int32.ofNat t < 300 := (j_lt (b := 300) (by omega) (by omega)).2 (by omega)
          have tt : ee_turn (ee_ev es_sh es_rf (ee_run ee_B P d) lx_45_1) (ee_evS es_sh es_rf (ee_run ee_B P d) lb_45_1) ([some (.ref 225), some (.ref b), some (.int (Int32.ofNat D)), some (.int (Int32.ofNat t)), v], w) = some (.inl ([some (.ref 225), some (.ref b), some (.int (Int32.ofNat D)), some (.int (Int32.ofNat (t + 1))), some (.int (Int32.ofNat (tkn f n i).1))], emw w1 b l1 (enc 0 (tkn f n i).1))) := by
            rcases cc with cc | cc
            · have ct : ((tkn f n i).1 = 33) = True := eq_true cc
              simp only [c3, rk, e33, e34, ct, h2', g1, em, Value.category, rd_225, w_opf, j_s, j_a, lx_45_1, lb_45_1, ee_turn, k_0, k_1, k_300, k_33, k_34, nz_1, nz_300, nz_33, nz_34, v_and, v_call, v_cmp, v_cons, v_int, v_loc, v_nil, v_not, v_or, v_z, w_exp0, w_exp1, w_if, w_inc, w_opf, w_ret, w_seq, w_set, List.getElem?_cons_zero, List.getElem?_cons_succ, List.set_cons_zero, List.set_cons_succ, ee_cmp0, ee_cmp1, ee_cmp2, ee_cmp3, ee_cmp4, ee_cmp5, ee_cmpL0, ee_cmpL1, ee_cmpL2, ee_cmpL3, ee_cmpL4, ee_cmpL5, ee_tru_eb, decide_eq_true_eq, ib_i, ie_b, ie_f, ie_t, ib_l, fin_i, fin_l, fin_v, fin_z, fin_a, fin_n, ee_b_0, ee_fld0, ee_fld1, ee_fld2, ee_fld3, bi_0, bi_1, bi_2, bi_3, bi_4, bi_5, bi_6, bi_7, bi_8, bi_9, bi_10, bl_20, bl_21, bl_22, bl_23, bl_24, bl_25, bl_26, bl_48, bl_49, un_0, un_1, un_2, un_3, if_true, if_false, ite_true, ite_false, Bool.false_eq_true, Bool.not_eq_false, decide_not, Bool.not_not, reduceCtorEq, st_i, st_l, st_r, st_n, ee_noL, ee_noL.eq_1, List.length_cons, List.length_nil, Nat.reduceAdd, Nat.reduceLT, Nat.zero_add, and_true, true_and, and_self, fin_ite, pu_0, pu_1, pu_3, sto_0, el_0, Bool.not_eq_true, decide_eq_false_iff_not, Bool.decide_eq_true, Bool.decide_eq_false, decide_true, decide_false, Bool.not_true, Bool.not_false, Bool.and_self, Bool.and_true, Bool.and_false, Bool.true_and, Bool.false_and, Bool.or_true, Bool.or_false, Bool.true_or, Bool.false_or, if_true, if_false, Bool.false_eq_true]
            · have cn : ¬ (tkn f n i).1 = 33 := by omega
              have ct : ((tkn f n i).1 = 34) = True := eq_true cc
              simp only [c3, rk, e33, e34, cn, ct, h2', g1, em, Value.category, rd_225, w_opf, j_s, j_a, lx_45_1, lb_45_1, ee_turn, k_0, k_1, k_300, k_33, k_34, nz_1, nz_300, nz_33, nz_34, v_and, v_call, v_cmp, v_cons, v_int, v_loc, v_nil, v_not, v_or, v_z, w_exp0, w_exp1, w_if, w_inc, w_opf, w_ret, w_seq, w_set, List.getElem?_cons_zero, List.getElem?_cons_succ, List.set_cons_zero, List.set_cons_succ, ee_cmp0, ee_cmp1, ee_cmp2, ee_cmp3, ee_cmp4, ee_cmp5, ee_cmpL0, ee_cmpL1, ee_cmpL2, ee_cmpL3, ee_cmpL4, ee_cmpL5, ee_tru_eb, decide_eq_true_eq, ib_i, ie_b, ie_f, ie_t, ib_l, fin_i, fin_l, fin_v, fin_z, fin_a, fin_n, ee_b_0, ee_fld0, ee_fld1, ee_fld2, ee_fld3, bi_0, bi_1, bi_2, bi_3, bi_4, bi_5, bi_6, bi_7, bi_8, bi_9, bi_10, bl_20, bl_21, bl_22, bl_23, bl_24, bl_25, bl_26, bl_48, bl_49, un_0, un_1, un_2, un_3, if_true, if_false, ite_true, ite_false, Bool.false_eq_true, Bool.not_eq_false, decide_not, Bool.not_not, reduceCtorEq, st_i, st_l, st_r, st_n, ee_noL, ee_noL.eq_1, List.length_cons, List.length_nil, Nat.reduceAdd, Nat.reduceLT, Nat.zero_add, and_true, true_and, and_self, fin_ite, pu_0, pu_1, pu_3, sto_0, el_0, Bool.not_eq_true, decide_eq_false_iff_not, Bool.decide_eq_true, Bool.decide_eq_false, decide_true, decide_false, Bool.not_true, Bool.not_false, Bool.and_self, Bool.and_true, Bool.and_false, Bool.true_and, Bool.false_and, Bool.or_true, Bool.or_false, Bool.true_or, Bool.false_or, if_true, if_false, Bool.false_eq_true]
          rw [ee_wh_eq, tt]
          exact g2
      · rw [if_neg cc] at h
        cases h
        refine ⟨w, ⟨chk_refl _ _, l, hP, by show l + i ≤ i + l; omega, hx1, fun _ _ => rfl⟩, fun t v ht => ⟨t, v, ?_⟩⟩
        have tt : ee_turn (ee_ev es_sh es_rf (ee_run ee_B P d) lx_45_1) (ee_evS es_sh es_rf (ee_run ee_B P d) lb_45_1) ([some (.ref 225), some (.ref b), some (.int (Int32.ofNat D)), some (.int (Int32.ofNat t)), v], w) = some (.inr (.inl ([some (.ref 225), some (.ref b), some (.int (Int32.ofNat D)), some (.int (Int32.ofNat t)), v], w))) := by
          have n33 : ¬ (tkn f n i).1 = 33 := fun z => cc (Or.inl z)
          have n34 : ¬ (tkn f n i).1 = 34 := fun z => cc (Or.inr z)
          by_cases c3 : Int32.ofNat t < 300
          · simp only [c3, rk, e33, n33, e34, n34, lx_45_1, lb_45_1, ee_turn, k_0, k_1, k_300, k_33, k_34, nz_1, nz_300, nz_33, nz_34, v_and, v_call, v_cmp, v_cons, v_int, v_loc, v_nil, v_not, v_or, v_z, w_exp0, w_exp1, w_if, w_inc, w_opf, w_ret, w_seq, w_set, List.getElem?_cons_zero, List.getElem?_cons_succ, List.set_cons_zero, List.set_cons_succ, ee_cmp0, ee_cmp1, ee_cmp2, ee_cmp3, ee_cmp4, ee_cmp5, ee_cmpL0, ee_cmpL1, ee_cmpL2, ee_cmpL3, ee_cmpL4, ee_cmpL5, ee_tru_eb, decide_eq_true_eq, ib_i, ie_b, ie_f, ie_t, ib_l, fin_i, fin_l, fin_v, fin_z, fin_a, fin_n, ee_b_0, ee_fld0, ee_fld1, ee_fld2, ee_fld3, bi_0, bi_1, bi_2, bi_3, bi_4, bi_5, bi_6, bi_7, bi_8, bi_9, bi_10, bl_20, bl_21, bl_22, bl_23, bl_24, bl_25, bl_26, bl_48, bl_49, un_0, un_1, un_2, un_3, if_true, if_false, ite_true, ite_false, Bool.false_eq_true, Bool.not_eq_false, decide_not, Bool.not_not, reduceCtorEq, st_i, st_l, st_r, st_n, ee_noL, ee_noL.eq_1, List.length_cons, List.length_nil, Nat.reduceAdd, Nat.reduceLT, Nat.zero_add, and_true, true_and, and_self, fin_ite, pu_0, pu_1, pu_3, sto_0, el_0, Bool.not_eq_true, decide_eq_false_iff_not, Bool.decide_eq_true, Bool.decide_eq_false, decide_true, decide_false, Bool.not_true, Bool.not_false, Bool.and_self, Bool.and_true, Bool.and_false, Bool.true_and, Bool.false_and, Bool.or_true, Bool.or_false, Bool.true_or, Bool.false_or, if_true, if_false, Bool.false_eq_true]
          · simp only [c3, lx_45_1, lb_45_1, ee_turn, k_0, k_1, k_300, k_33, k_34, nz_1, nz_300, nz_33, nz_34, v_and, v_call, v_cmp, v_cons, v_int, v_loc, v_nil, v_not, v_or, v_z, w_exp0, w_exp1, w_if, w_inc, w_opf, w_ret, w_seq, w_set, List.getElem?_cons_zero, List.getElem?_cons_succ, List.set_cons_zero, List.set_cons_succ, ee_cmp0, ee_cmp1, ee_cmp2, ee_cmp3, ee_cmp4, ee_cmp5, ee_cmpL0, ee_cmpL1, ee_cmpL2, ee_cmpL3, ee_cmpL4, ee_cmpL5, ee_tru_eb, decide_eq_true_eq, ib_i, ie_b, ie_f, ie_t, ib_l, fin_i, fin_l, fin_v, fin_z, fin_a, fin_n, ee_b_0, ee_fld0, ee_fld1, ee_fld2, ee_fld3, bi_0, bi_1, bi_2, bi_3, bi_4, bi_5, bi_6, bi_7, bi_8, bi_9, bi_10, bl_20, bl_21, bl_22, bl_23, bl_24, bl_25, bl_26, bl_48, bl_49, un_0, un_1, un_2, un_3, if_true, if_false, ite_true, ite_false, Bool.false_eq_true, Bool.not_eq_false, decide_not, Bool.not_not, reduceCtorEq, st_i, st_l, st_r, st_n, ee_noL, ee_noL.eq_1, List.length_cons, List.length_nil, Nat.reduceAdd, Nat.reduceLT, Nat.zero_add, and_true, true_and, and_self, fin_ite, pu_0, pu_1, pu_3, sto_0, el_0, Bool.not_eq_true, decide_eq_false_iff_not, Bool.decide_eq_true, Bool.decide_eq_false, decide_true, decide_false, Bool.not_true, Bool.not_false, Bool.and_self, Bool.and_true, Bool.and_false, Bool.true_and, Bool.false_and, Bool.or_true, Bool.or_false, Bool.true_or, Bool.false_or, if_true, if_false, Bool.false_eq_true]
        rw [ee_wh_eq, tt]
        rfl
    · have e0 := hx0 rfl
      subst e0
      obtain ⟨d, rfl⟩ : ∃ k, d = k + 1 := ⟨d - 1, by unfold rkm gmd at hd; omega⟩
      have hd3 : 3 ≤ d := by unfold rkm gmd at hd; omega
      have hd2 : 2 ≤ d := by omega
      have rk := r_kind (P := P) hd2 hP
      have ro := r_open (P := P) hd3 hP hD
      have x0 := hb.2.2.1
      have eD : Int32.ofNat D + 1 = Int32.ofNat (D + 1) := j_s D
      rw [pp_4] at h
      by_cases c1 : (tkn f n i).1 = 38
      · rw [if_pos c1] at h
        have rv := r_value (P := P) hd2 hP
        have rnn := r_number (P := P) hd3 hP (lo := 0) (hi := 9999) (by omega) (by omega)
        rw [if_pos c1, k_0, k_9999] at rnn
        rw [c1] at rk
        have n39 : (tkn f n i).1 ≠ 39 := by omega
        have i1 := ps_n9 hP n39
        by_cases v : (tkn f n i).2.1 ≤ 9999
        · rw [if_pos v] at h
          cases h
          rw [if_pos ⟨Nat.zero_le _, v⟩] at rnn
          have pA := PS_at hP n39
          have em := r_emit (P := P) hd2 hb pA.2.2.2.1 (show l0 < 300 by omega) 38 (tkn f n i).2.1
          rw [k_38] at em
          obtain ⟨q1, q2, q3, q4⟩ := PS_em pA (show l0 + 1 ≤ i + 1 by omega) (enc (tkn f n i).2.1 38)
          refine ⟨_, ⟨chk_trans (atw_c w b (i + 1)) q2, l0 + 1, q1, by show l0 + 1 + i ≤ i + 1 + l0; omega, ⟨rfl, q3⟩, fun k hk => by rw [q4 k (by omega)]; exact atw_k hb w _ k⟩, ?_⟩
          show ee_run ee_B P (d + 1) 46 [.ref 225, .ref b, .int (Int32.ofNat D)] w = some ([.int (ee_b (islp (.inl _)))], _)
          rw [isl_l, rn_46 rd_225]
          simp +decide only [rk, rv, rnn, em, Value.category, memc, memn, k_38, bd_46, k_0, k_1, k_32, k_36, k_38, k_41, k_9999, nz_1, nz_32, nz_36, nz_38, nz_41, nz_9999, v_and, v_bin, v_call, v_cmp, v_cons, v_int, v_loc, v_mat, v_nil, v_not, v_or, v_tern, v_z, w_case, w_dflt, w_exp0, w_exp1, w_if, w_ret, w_seq, w_set, w_switch, List.getElem?_cons_zero, List.getElem?_cons_succ, List.set_cons_zero, List.set_cons_succ, ee_cmp0, ee_cmp1, ee_cmp2, ee_cmp3, ee_cmp4, ee_cmp5, ee_cmpL0, ee_cmpL1, ee_cmpL2, ee_cmpL3, ee_cmpL4, ee_cmpL5, ee_tru_eb, decide_eq_true_eq, ib_i, ie_b, ie_f, ie_t, ib_l, fin_i, fin_l, fin_v, fin_z, fin_a, fin_n, ee_b_0, ee_fld0, ee_fld1, ee_fld2, ee_fld3, bi_0, bi_1, bi_2, bi_3, bi_4, bi_5, bi_6, bi_7, bi_8, bi_9, bi_10, bl_20, bl_21, bl_22, bl_23, bl_24, bl_25, bl_26, bl_48, bl_49, un_0, un_1, un_2, un_3, if_true, if_false, ite_true, ite_false, Bool.false_eq_true, Bool.not_eq_false, decide_not, Bool.not_not, reduceCtorEq, st_i, st_l, st_r, st_n, ee_noL, ee_noL.eq_1, List.length_cons, List.length_nil, Nat.reduceAdd, Nat.reduceLT, Nat.zero_add, and_true, true_and, and_self, fin_ite, pu_0, pu_1, pu_3, sto_0, el_0, Bool.not_eq_true, decide_eq_false_iff_not, Bool.decide_eq_true, Bool.decide_eq_false, decide_true, decide_false, Bool.not_true, Bool.not_false, Bool.and_self, Bool.and_true, Bool.and_false, Bool.true_and, Bool.false_and, Bool.or_true, Bool.or_false, Bool.true_or, Bool.false_or, if_true, if_false, Bool.false_eq_true]
          rfl
        · rw [if_neg v] at h
          cases h
          rw [if_neg (fun z => v z.2)] at rnn
          refine ⟨_, RS_bad rfl, ?_⟩
          show ee_run ee_B P (d + 1) 46 [.ref 225, .ref b, .int (Int32.ofNat D)] w = some ([.int (ee_b (islp (.inr _)))], _)
          rw [isl_r, rn_46 rd_225]
          simp +decide only [rk, rv, rnn, memc, memn, k_38, bd_46, k_0, k_1, k_32, k_36, k_38, k_41, k_9999, nz_1, nz_32, nz_36, nz_38, nz_41, nz_9999, v_and, v_bin, v_call, v_cmp, v_cons, v_int, v_loc, v_mat, v_nil, v_not, v_or, v_tern, v_z, w_case, w_dflt, w_exp0, w_exp1, w_if, w_ret, w_seq, w_set, w_switch, List.getElem?_cons_zero, List.getElem?_cons_succ, List.set_cons_zero, List.set_cons_succ, ee_cmp0, ee_cmp1, ee_cmp2, ee_cmp3, ee_cmp4, ee_cmp5, ee_cmpL0, ee_cmpL1, ee_cmpL2, ee_cmpL3, ee_cmpL4, ee_cmpL5, ee_tru_eb, decide_eq_true_eq, ib_i, ie_b, ie_f, ie_t, ib_l, fin_i, fin_l, fin_v, fin_z, fin_a, fin_n, ee_b_0, ee_fld0, ee_fld1, ee_fld2, ee_fld3, bi_0, bi_1, bi_2, bi_3, bi_4, bi_5, bi_6, bi_7, bi_8, bi_9, bi_10, bl_20, bl_21, bl_22, bl_23, bl_24, bl_25, bl_26, bl_48, bl_49, un_0, un_1, un_2, un_3, if_true, if_false, ite_true, ite_false, Bool.false_eq_true, Bool.not_eq_false, decide_not, Bool.not_not, reduceCtorEq, st_i, st_l, st_r, st_n, ee_noL, ee_noL.eq_1, List.length_cons, List.length_nil, Nat.reduceAdd, Nat.reduceLT, Nat.zero_add, and_true, true_and, and_self, fin_ite, pu_0, pu_1, pu_3, sto_0, el_0, Bool.not_eq_true, decide_eq_false_iff_not, Bool.decide_eq_true, Bool.decide_eq_false, decide_true, decide_false, Bool.not_true, Bool.not_false, Bool.and_self, Bool.and_true, Bool.and_false, Bool.true_and, Bool.false_and, Bool.or_true, Bool.or_false, Bool.true_or, Bool.false_or, if_true, if_false, Bool.false_eq_true]
          rfl
      rw [if_neg c1] at h
      have openBad : ∀ (K2 : (tkn f n i).1 = 35 ∨ (tkn f n i).1 = 11 ∨ (tkn f n i).1 = 32 ∨ (tkn f n i).1 = 9 ∨ (tkn f n i).1 = 10) (v : 8 ≤ D), ee_run ee_B P (d + 1) 46 [.ref 225, .ref b, .int (Int32.ofNat D)] w = some ([.int 0], rfw w 3 (tkn f n i).2.2.1) := by
        intro K2 v
        rw [if_pos v] at ro
        rw [rn_46 rd_225]
        rcases K2 with k | k | k | k | k <;> rw [k] at rk
        · simp +decide only [rk, ro, memc, memn, k_35, bd_46, k_0, k_1, k_32, k_36, k_38, k_41, k_9999, nz_1, nz_32, nz_36, nz_38, nz_41, nz_9999, v_and, v_bin, v_call, v_cmp, v_cons, v_int, v_loc, v_mat, v_nil, v_not, v_or, v_tern, v_z, w_case, w_dflt, w_exp0, w_exp1, w_if, w_ret, w_seq, w_set, w_switch, List.getElem?_cons_zero, List.getElem?_cons_succ, List.set_cons_zero, List.set_cons_succ, ee_cmp0, ee_cmp1, ee_cmp2, ee_cmp3, ee_cmp4, ee_cmp5, ee_cmpL0, ee_cmpL1, ee_cmpL2, ee_cmpL3, ee_cmpL4, ee_cmpL5, ee_tru_eb, decide_eq_true_eq, ib_i, ie_b, ie_f, ie_t, ib_l, fin_i, fin_l, fin_v, fin_z, fin_a, fin_n, ee_b_0, ee_fld0, ee_fld1, ee_fld2, ee_fld3, bi_0, bi_1, bi_2, bi_3, bi_4, bi_5, bi_6, bi_7, bi_8, bi_9, bi_10, bl_20, bl_21, bl_22, bl_23, bl_24, bl_25, bl_26, bl_48, bl_49, un_0, un_1, un_2, un_3, if_true, if_false, ite_true, ite_false, Bool.false_eq_true, Bool.not_eq_false, decide_not, Bool.not_not, reduceCtorEq, st_i, st_l, st_r, st_n, ee_noL, ee_noL.eq_1, List.length_cons, List.length_nil, Nat.reduceAdd, Nat.reduceLT, Nat.zero_add, and_true, true_and, and_self, fin_ite, pu_0, pu_1, pu_3, sto_0, el_0, Bool.not_eq_true, decide_eq_false_iff_not, Bool.decide_eq_true, Bool.decide_eq_false, decide_true, decide_false, Bool.not_true, Bool.not_false, Bool.and_self, Bool.and_true, Bool.and_false, Bool.true_and, Bool.false_and, Bool.or_true, Bool.or_false, Bool.true_or, Bool.false_or, if_true, if_false, Bool.false_eq_true]
          rfl
        · simp +decide only [rk, ro, memc, memn, k_11, bd_46, k_0, k_1, k_32, k_36, k_38, k_41, k_9999, nz_1, nz_32, nz_36, nz_38, nz_41, nz_9999, v_and, v_bin, v_call, v_cmp, v_cons, v_int, v_loc, v_mat, v_nil, v_not, v_or, v_tern, v_z, w_case, w_dflt, w_exp0, w_exp1, w_if, w_ret, w_seq, w_set, w_switch, List.getElem?_cons_zero, List.getElem?_cons_succ, List.set_cons_zero, List.set_cons_succ, ee_cmp0, ee_cmp1, ee_cmp2, ee_cmp3, ee_cmp4, ee_cmp5, ee_cmpL0, ee_cmpL1, ee_cmpL2, ee_cmpL3, ee_cmpL4, ee_cmpL5, ee_tru_eb, decide_eq_true_eq, ib_i, ie_b, ie_f, ie_t, ib_l, fin_i, fin_l, fin_v, fin_z, fin_a, fin_n, ee_b_0, ee_fld0, ee_fld1, ee_fld2, ee_fld3, bi_0, bi_1, bi_2, bi_3, bi_4, bi_5, bi_6, bi_7, bi_8, bi_9, bi_10, bl_20, bl_21, bl_22, bl_23, bl_24, bl_25, bl_26, bl_48, bl_49, un_0, un_1, un_2, un_3, if_true, if_false, ite_true, ite_false, Bool.false_eq_true, Bool.not_eq_false, decide_not, Bool.not_not, reduceCtorEq, st_i, st_l, st_r, st_n, ee_noL, ee_noL.eq_1, List.length_cons, List.length_nil, Nat.reduceAdd, Nat.reduceLT, Nat.zero_add, and_true, true_and, and_self, fin_ite, pu_0, pu_1, pu_3, sto_0, el_0, Bool.not_eq_true, decide_eq_false_iff_not, Bool.decide_eq_true, Bool.decide_eq_false, decide_true, decide_false, Bool.not_true, Bool.not_false, Bool.and_self, Bool.and_true, Bool.and_false, Bool.true_and, Bool.false_and, Bool.or_true, Bool.or_false, Bool.true_or, Bool.false_or, if_true, if_false, Bool.false_eq_true]
          rfl
        · simp +decide only [rk, ro, memc, memn, k_32, bd_46, k_0, k_1, k_32, k_36, k_38, k_41, k_9999, nz_1, nz_32, nz_36, nz_38, nz_41, nz_9999, v_and, v_bin, v_call, v_cmp, v_cons, v_int, v_loc, v_mat, v_nil, v_not, v_or, v_tern, v_z, w_case, w_dflt, w_exp0, w_exp1, w_if, w_ret, w_seq, w_set, w_switch, List.getElem?_cons_zero, List.getElem?_cons_succ, List.set_cons_zero, List.set_cons_succ, ee_cmp0, ee_cmp1, ee_cmp2, ee_cmp3, ee_cmp4, ee_cmp5, ee_cmpL0, ee_cmpL1, ee_cmpL2, ee_cmpL3, ee_cmpL4, ee_cmpL5, ee_tru_eb, decide_eq_true_eq, ib_i, ie_b, ie_f, ie_t, ib_l, fin_i, fin_l, fin_v, fin_z, fin_a, fin_n, ee_b_0, ee_fld0, ee_fld1, ee_fld2, ee_fld3, bi_0, bi_1, bi_2, bi_3, bi_4, bi_5, bi_6, bi_7, bi_8, bi_9, bi_10, bl_20, bl_21, bl_22, bl_23, bl_24, bl_25, bl_26, bl_48, bl_49, un_0, un_1, un_2, un_3, if_true, if_false, ite_true, ite_false, Bool.false_eq_true, Bool.not_eq_false, decide_not, Bool.not_not, reduceCtorEq, st_i, st_l, st_r, st_n, ee_noL, ee_noL.eq_1, List.length_cons, List.length_nil, Nat.reduceAdd, Nat.reduceLT, Nat.zero_add, and_true, true_and, and_self, fin_ite, pu_0, pu_1, pu_3, sto_0, el_0, Bool.not_eq_true, decide_eq_false_iff_not, Bool.decide_eq_true, Bool.decide_eq_false, decide_true, decide_false, Bool.not_true, Bool.not_false, Bool.and_self, Bool.and_true, Bool.and_false, Bool.true_and, Bool.false_and, Bool.or_true, Bool.or_false, Bool.true_or, Bool.false_or, if_true, if_false, Bool.false_eq_true]
          rfl
        · simp +decide only [rk, ro, memc, memn, k_9, bd_46, k_0, k_1, k_32, k_36, k_38, k_41, k_9999, nz_1, nz_32, nz_36, nz_38, nz_41, nz_9999, v_and, v_bin, v_call, v_cmp, v_cons, v_int, v_loc, v_mat, v_nil, v_not, v_or, v_tern, v_z, w_case, w_dflt, w_exp0, w_exp1, w_if, w_ret, w_seq, w_set, w_switch, List.getElem?_cons_zero, List.getElem?_cons_succ, List.set_cons_zero, List.set_cons_succ, ee_cmp0, ee_cmp1, ee_cmp2, ee_cmp3, ee_cmp4, ee_cmp5, ee_cmpL0, ee_cmpL1, ee_cmpL2, ee_cmpL3, ee_cmpL4, ee_cmpL5, ee_tru_eb, decide_eq_true_eq, ib_i, ie_b, ie_f, ie_t, ib_l, fin_i, fin_l, fin_v, fin_z, fin_a, fin_n, ee_b_0, ee_fld0, ee_fld1, ee_fld2, ee_fld3, bi_0, bi_1, bi_2, bi_3, bi_4, bi_5, bi_6, bi_7, bi_8, bi_9, bi_10, bl_20, bl_21, bl_22, bl_23, bl_24, bl_25, bl_26, bl_48, bl_49, un_0, un_1, un_2, un_3, if_true, if_false, ite_true, ite_false, Bool.false_eq_true, Bool.not_eq_false, decide_not, Bool.not_not, reduceCtorEq, st_i, st_l, st_r, st_n, ee_noL, ee_noL.eq_1, List.length_cons, List.length_nil, Nat.reduceAdd, Nat.reduceLT, Nat.zero_add, and_true, true_and, and_self, fin_ite, pu_0, pu_1, pu_3, sto_0, el_0, Bool.not_eq_true, decide_eq_false_iff_not, Bool.decide_eq_true, Bool.decide_eq_false, decide_true, decide_false, Bool.not_true, Bool.not_false, Bool.and_self, Bool.and_true, Bool.and_false, Bool.true_and, Bool.false_and, Bool.or_true, Bool.or_false, Bool.true_or, Bool.false_or, if_true, if_false, Bool.false_eq_true]
          rfl
        · simp +decide only [rk, ro, memc, memn, k_10, bd_46, k_0, k_1, k_32, k_36, k_38, k_41, k_9999, nz_1, nz_32, nz_36, nz_38, nz_41, nz_9999, v_and, v_bin, v_call, v_cmp, v_cons, v_int, v_loc, v_mat, v_nil, v_not, v_or, v_tern, v_z, w_case, w_dflt, w_exp0, w_exp1, w_if, w_ret, w_seq, w_set, w_switch, List.getElem?_cons_zero, List.getElem?_cons_succ, List.set_cons_zero, List.set_cons_succ, ee_cmp0, ee_cmp1, ee_cmp2, ee_cmp3, ee_cmp4, ee_cmp5, ee_cmpL0, ee_cmpL1, ee_cmpL2, ee_cmpL3, ee_cmpL4, ee_cmpL5, ee_tru_eb, decide_eq_true_eq, ib_i, ie_b, ie_f, ie_t, ib_l, fin_i, fin_l, fin_v, fin_z, fin_a, fin_n, ee_b_0, ee_fld0, ee_fld1, ee_fld2, ee_fld3, bi_0, bi_1, bi_2, bi_3, bi_4, bi_5, bi_6, bi_7, bi_8, bi_9, bi_10, bl_20, bl_21, bl_22, bl_23, bl_24, bl_25, bl_26, bl_48, bl_49, un_0, un_1, un_2, un_3, if_true, if_false, ite_true, ite_false, Bool.false_eq_true, Bool.not_eq_false, decide_not, Bool.not_not, reduceCtorEq, st_i, st_l, st_r, st_n, ee_noL, ee_noL.eq_1, List.length_cons, List.length_nil, Nat.reduceAdd, Nat.reduceLT, Nat.zero_add, and_true, true_and, and_self, fin_ite, pu_0, pu_1, pu_3, sto_0, el_0, Bool.not_eq_true, decide_eq_false_iff_not, Bool.decide_eq_true, Bool.decide_eq_false, decide_true, decide_false, Bool.not_true, Bool.not_false, Bool.and_self, Bool.and_true, Bool.and_false, Bool.true_and, Bool.false_and, Bool.or_true, Bool.or_false, Bool.true_or, Bool.false_or, if_true, if_false, Bool.false_eq_true]
          rfl
      by_cases c2 : (tkn f n i).1 = 35
      · rw [if_pos c2] at h
        by_cases v : 8 ≤ D
        · rw [if_pos v] at h
          cases h
          exact ⟨_, RS_bad rfl, openBad (Or.inl c2) v⟩
        · rw [if_neg v] at h ro
          have n39 : (tkn f n i).1 ≠ 39 := by omega
          have i1 := ps_n9 hP n39
          have pA := PS_at hP n39
          rw [c2] at rk
          rcases pb_cases h with ⟨y, h1, rfl⟩ | ⟨e, j, h1, h2⟩
          · obtain ⟨w1, s1, g1⟩ := ih d 0 (D + 1) (i + 1) x _ (by omega) h1 (by omega) _ l0 l0 pA (Nat.le_refl _) (fun z => (by cases z)) (fun _ => rfl) (by unfold rkm gmd at hd ⊢; simp at hd ⊢; omega)
            have g1 : ee_run ee_B P d 44 [.ref 225, .ref b, .int (Int32.ofNat (D + 1))] (atw w (i + 1)) = some ([.int (ee_b (islp (.inr y)))], w1) := g1
            rw [isl_r] at g1
            refine ⟨w1, RS_inr (RS_seq (i := i) (l := l0) (l0 := 0) (j := i + 1) (l1 := l0) (atw_c w b (i + 1)) (by omega) (fun k hk => by omega) (RS_inr (l1 := 0) s1)), ?_⟩
            show ee_run ee_B P (d + 1) 46 [.ref 225, .ref b, .int (Int32.ofNat D)] w = some ([.int (ee_b (islp (.inr y)))], w1)
            rw [isl_r, rn_46 rd_225]
            simp +decide only [rk, ro, eD, g1, memc, memn, k_35, bd_46, k_0, k_1, k_32, k_36, k_38, k_41, k_9999, nz_1, nz_32, nz_36, nz_38, nz_41, nz_9999, v_and, v_bin, v_call, v_cmp, v_cons, v_int, v_loc, v_mat, v_nil, v_not, v_or, v_tern, v_z, w_case, w_dflt, w_exp0, w_exp1, w_if, w_ret, w_seq, w_set, w_switch, List.getElem?_cons_zero, List.getElem?_cons_succ, List.set_cons_zero, List.set_cons_succ, ee_cmp0, ee_cmp1, ee_cmp2, ee_cmp3, ee_cmp4, ee_cmp5, ee_cmpL0, ee_cmpL1, ee_cmpL2, ee_cmpL3, ee_cmpL4, ee_cmpL5, ee_tru_eb, decide_eq_true_eq, ib_i, ie_b, ie_f, ie_t, ib_l, fin_i, fin_l, fin_v, fin_z, fin_a, fin_n, ee_b_0, ee_fld0, ee_fld1, ee_fld2, ee_fld3, bi_0, bi_1, bi_2, bi_3, bi_4, bi_5, bi_6, bi_7, bi_8, bi_9, bi_10, bl_20, bl_21, bl_22, bl_23, bl_24, bl_25, bl_26, bl_48, bl_49, un_0, un_1, un_2, un_3, if_true, if_false, ite_true, ite_false, Bool.false_eq_true, Bool.not_eq_false, decide_not, Bool.not_not, reduceCtorEq, st_i, st_l, st_r, st_n, ee_noL, ee_noL.eq_1, List.length_cons, List.length_nil, Nat.reduceAdd, Nat.reduceLT, Nat.zero_add, and_true, true_and, and_self, fin_ite, pu_0, pu_1, pu_3, sto_0, el_0, Bool.not_eq_true, decide_eq_false_iff_not, Bool.decide_eq_true, Bool.decide_eq_false, decide_true, decide_false, Bool.not_true, Bool.not_false, Bool.and_self, Bool.and_true, Bool.and_false, Bool.true_and, Bool.false_and, Bool.or_true, Bool.or_false, Bool.true_or, Bool.false_or, if_true, if_false, Bool.false_eq_true]
          · obtain ⟨w1, s1, g1⟩ := ih d 0 (D + 1) (i + 1) x _ (by omega) h1 (by omega) _ l0 l0 pA (Nat.le_refl _) (fun z => (by cases z)) (fun _ => rfl) (by unfold rkm gmd at hd ⊢; simp at hd ⊢; omega)
            have g1 : ee_run ee_B P d 44 [.ref 225, .ref b, .int (Int32.ofNat (D + 1))] (atw w (i + 1)) = some ([.int (ee_b (islp (.inl (e, j))))], w1) := g1
            rw [isl_l] at g1
            obtain ⟨cc1, l1, p1, p2, p3, p4⟩ := s1
            dsimp only at p1 p2 p3 p4
            have tk := r_take (P := P) hd3 p1 (k := 36) (by omega) (by omega)
            rw [k_36] at tk
            by_cases u : (tkn f n j).1 = 36
            · have h2 : some (.inl (e, j + 1)) = some r := by rw [if_pos u] at h2; exact h2
              cases h2
              rw [if_pos u] at tk
              have pB := PS_at p1 (show (tkn f n j).1 ≠ 39 by omega)
              refine ⟨_, ⟨chk_trans (atw_c w b (i + 1)) (chk_trans cc1 (atw_c w1 b (j + 1))), l1, pB, by show l1 + i ≤ j + 1 + l0; omega, cseg_cg p3 (fun k _ _ => atw_k hb w1 _ k), fun k hk => by rw [atw_k hb, p4 k hk]; exact atw_k hb w _ k⟩, ?_⟩
              show ee_run ee_B P (d + 1) 46 [.ref 225, .ref b, .int (Int32.ofNat D)] w = some ([.int (ee_b (islp (.inl _)))], _)
              rw [isl_l, rn_46 rd_225]
              simp +decide only [rk, ro, eD, g1, tk, memc, memn, k_35, bd_46, k_0, k_1, k_32, k_36, k_38, k_41, k_9999, nz_1, nz_32, nz_36, nz_38, nz_41, nz_9999, v_and, v_bin, v_call, v_cmp, v_cons, v_int, v_loc, v_mat, v_nil, v_not, v_or, v_tern, v_z, w_case, w_dflt, w_exp0, w_exp1, w_if, w_ret, w_seq, w_set, w_switch, List.getElem?_cons_zero, List.getElem?_cons_succ, List.set_cons_zero, List.set_cons_succ, ee_cmp0, ee_cmp1, ee_cmp2, ee_cmp3, ee_cmp4, ee_cmp5, ee_cmpL0, ee_cmpL1, ee_cmpL2, ee_cmpL3, ee_cmpL4, ee_cmpL5, ee_tru_eb, decide_eq_true_eq, ib_i, ie_b, ie_f, ie_t, ib_l, fin_i, fin_l, fin_v, fin_z, fin_a, fin_n, ee_b_0, ee_fld0, ee_fld1, ee_fld2, ee_fld3, bi_0, bi_1, bi_2, bi_3, bi_4, bi_5, bi_6, bi_7, bi_8, bi_9, bi_10, bl_20, bl_21, bl_22, bl_23, bl_24, bl_25, bl_26, bl_48, bl_49, un_0, un_1, un_2, un_3, if_true, if_false, ite_true, ite_false, Bool.false_eq_true, Bool.not_eq_false, decide_not, Bool.not_not, reduceCtorEq, st_i, st_l, st_r, st_n, ee_noL, ee_noL.eq_1, List.length_cons, List.length_nil, Nat.reduceAdd, Nat.reduceLT, Nat.zero_add, and_true, true_and, and_self, fin_ite, pu_0, pu_1, pu_3, sto_0, el_0, Bool.not_eq_true, decide_eq_false_iff_not, Bool.decide_eq_true, Bool.decide_eq_false, decide_true, decide_false, Bool.not_true, Bool.not_false, Bool.and_self, Bool.and_true, Bool.and_false, Bool.true_and, Bool.false_and, Bool.or_true, Bool.or_false, Bool.true_or, Bool.false_or, if_true, if_false, Bool.false_eq_true]
            · have h2 : some (.inr (1, j)) = some r := by rw [if_neg u] at h2; exact h2
              cases h2
              rw [if_neg u] at tk
              refine ⟨_, RS_seq (l0 := l0) (chk_trans (atw_c w b (i + 1)) cc1) (show l1 + i ≤ j + l0 by omega) (fun k hk => by rw [p4 k hk]; exact atw_k hb w _ k) (RS_bad rfl), ?_⟩
              show ee_run ee_B P (d + 1) 46 [.ref 225, .ref b, .int (Int32.ofNat D)] w = some ([.int (ee_b (islp (.inr _)))], _)
              rw [isl_r, rn_46 rd_225]
              simp +decide only [rk, ro, eD, g1, tk, memc, memn, k_35, bd_46, k_0, k_1, k_32, k_36, k_38, k_41, k_9999, nz_1, nz_32, nz_36, nz_38, nz_41, nz_9999, v_and, v_bin, v_call, v_cmp, v_cons, v_int, v_loc, v_mat, v_nil, v_not, v_or, v_tern, v_z, w_case, w_dflt, w_exp0, w_exp1, w_if, w_ret, w_seq, w_set, w_switch, List.getElem?_cons_zero, List.getElem?_cons_succ, List.set_cons_zero, List.set_cons_succ, ee_cmp0, ee_cmp1, ee_cmp2, ee_cmp3, ee_cmp4, ee_cmp5, ee_cmpL0, ee_cmpL1, ee_cmpL2, ee_cmpL3, ee_cmpL4, ee_cmpL5, ee_tru_eb, decide_eq_true_eq, ib_i, ie_b, ie_f, ie_t, ib_l, fin_i, fin_l, fin_v, fin_z, fin_a, fin_n, ee_b_0, ee_fld0, ee_fld1, ee_fld2, ee_fld3, bi_0, bi_1, bi_2, bi_3, bi_4, bi_5, bi_6, bi_7, bi_8, bi_9, bi_10, bl_20, bl_21, bl_22, bl_23, bl_24, bl_25, bl_26, bl_48, bl_49, un_0, un_1, un_2, un_3, if_true, if_false, ite_true, ite_false, Bool.false_eq_true, Bool.not_eq_false, decide_not, Bool.not_not, reduceCtorEq, st_i, st_l, st_r, st_n, ee_noL, ee_noL.eq_1, List.length_cons, List.length_nil, Nat.reduceAdd, Nat.reduceLT, Nat.zero_add, and_true, true_and, and_self, fin_ite, pu_0, pu_1, pu_3, sto_0, el_0, Bool.not_eq_true, decide_eq_false_iff_not, Bool.decide_eq_true, Bool.decide_eq_false, decide_true, decide_false, Bool.not_true, Bool.not_false, Bool.and_self, Bool.and_true, Bool.and_false, Bool.true_and, Bool.false_and, Bool.or_true, Bool.or_false, Bool.true_or, Bool.false_or, if_true, if_false, Bool.false_eq_true]
      rw [if_neg c2] at h
      by_cases c3 : (tkn f n i).1 = 11
      · rw [if_pos c3] at h
        by_cases v : 8 ≤ D
        · rw [if_pos v] at h
          cases h
          exact ⟨_, RS_bad rfl, openBad (Or.inr (Or.inl c3)) v⟩
        · rw [if_neg v] at h ro
          have n39 : (tkn f n i).1 ≠ 39 := by omega
          have i1 := ps_n9 hP n39
          have pA := PS_at hP n39
          rw [c3] at rk
          obtain ⟨w1, s1, g1⟩ := ih d 10 (D + 1) (i + 1) x _ (by omega) h (by omega) _ l0 l0 pA (Nat.le_refl _) (fun z => (by cases z)) (fun _ => rfl) (by unfold rkm gmd at hd ⊢; simp at hd ⊢; omega)
          have g1 : ee_run ee_B P d 52 [.ref 225, .ref b, .int (Int32.ofNat (D + 1))] (atw w (i + 1)) = some ([.int (ee_b (islp r))], w1) := g1
          refine ⟨w1, RS_seq (atw_c w b (i + 1)) (by omega) (fun k hk => atw_k hb w _ k) s1, ?_⟩
          show ee_run ee_B P (d + 1) 46 [.ref 225, .ref b, .int (Int32.ofNat D)] w = some ([.int (ee_b (islp r))], w1)
          rw [rn_46 rd_225]
          cases hr : islp r <;> rw [hr] at g1 <;> simp +decide only [rk, ro, eD, g1, memc, memn, k_11, bd_46, k_0, k_1, k_32, k_36, k_38, k_41, k_9999, nz_1, nz_32, nz_36, nz_38, nz_41, nz_9999, v_and, v_bin, v_call, v_cmp, v_cons, v_int, v_loc, v_mat, v_nil, v_not, v_or, v_tern, v_z, w_case, w_dflt, w_exp0, w_exp1, w_if, w_ret, w_seq, w_set, w_switch, List.getElem?_cons_zero, List.getElem?_cons_succ, List.set_cons_zero, List.set_cons_succ, ee_cmp0, ee_cmp1, ee_cmp2, ee_cmp3, ee_cmp4, ee_cmp5, ee_cmpL0, ee_cmpL1, ee_cmpL2, ee_cmpL3, ee_cmpL4, ee_cmpL5, ee_tru_eb, decide_eq_true_eq, ib_i, ie_b, ie_f, ie_t, ib_l, fin_i, fin_l, fin_v, fin_z, fin_a, fin_n, ee_b_0, ee_fld0, ee_fld1, ee_fld2, ee_fld3, bi_0, bi_1, bi_2, bi_3, bi_4, bi_5, bi_6, bi_7, bi_8, bi_9, bi_10, bl_20, bl_21, bl_22, bl_23, bl_24, bl_25, bl_26, bl_48, bl_49, un_0, un_1, un_2, un_3, if_true, if_false, ite_true, ite_false, Bool.false_eq_true, Bool.not_eq_false, decide_not, Bool.not_not, reduceCtorEq, st_i, st_l, st_r, st_n, ee_noL, ee_noL.eq_1, List.length_cons, List.length_nil, Nat.reduceAdd, Nat.reduceLT, Nat.zero_add, and_true, true_and, and_self, fin_ite, pu_0, pu_1, pu_3, sto_0, el_0, Bool.not_eq_true, decide_eq_false_iff_not, Bool.decide_eq_true, Bool.decide_eq_false, decide_true, decide_false, Bool.not_true, Bool.not_false, Bool.and_self, Bool.and_true, Bool.and_false, Bool.true_and, Bool.false_and, Bool.or_true, Bool.or_false, Bool.true_or, Bool.false_or, if_true, if_false, Bool.false_eq_true] <;> rfl
      rw [if_neg c3] at h
      by_cases c4 : (tkn f n i).1 = 32 ∨ (tkn f n i).1 = 9 ∨ (tkn f n i).1 = 10
      · rw [if_pos c4] at h
        by_cases v : 8 ≤ D
        · rw [if_pos v] at h
          cases h
          exact ⟨_, RS_bad rfl, openBad (by omega) v⟩
        · rw [if_neg v] at h ro
          have n39 : (tkn f n i).1 ≠ 39 := by omega
          have i1 := ps_n9 hP n39
          have pA := PS_at hP n39
          rcases pb_cases h with ⟨y, h1, rfl⟩ | ⟨e, j, h1, h2⟩
          · obtain ⟨w1, s1, g1⟩ := ih d 4 (D + 1) (i + 1) x _ (by omega) h1 (by omega) _ l0 l0 pA (Nat.le_refl _) (fun z => (by cases z)) (fun _ => rfl) (by unfold rkm gmd at hd ⊢; simp at hd ⊢; omega)
            have g1 : ee_run ee_B P d 46 [.ref 225, .ref b, .int (Int32.ofNat (D + 1))] (atw w (i + 1)) = some ([.int (ee_b (islp (.inr y)))], w1) := g1
            rw [isl_r] at g1
            refine ⟨w1, RS_inr (RS_seq (i := i) (l := l0) (l0 := 0) (j := i + 1) (l1 := l0) (atw_c w b (i + 1)) (by omega) (fun k hk => by omega) (RS_inr (l1 := 0) s1)), ?_⟩
            show ee_run ee_B P (d + 1) 46 [.ref 225, .ref b, .int (Int32.ofNat D)] w = some ([.int (ee_b (islp (.inr y)))], w1)
            rw [isl_r, rn_46 rd_225]
            rcases c4 with k | k | k <;> rw [k] at rk
            · simp +decide only [rk, ro, eD, g1, memc, memn, k_32, bd_46, k_0, k_1, k_32, k_36, k_38, k_41, k_9999, nz_1, nz_32, nz_36, nz_38, nz_41, nz_9999, v_and, v_bin, v_call, v_cmp, v_cons, v_int, v_loc, v_mat, v_nil, v_not, v_or, v_tern, v_z, w_case, w_dflt, w_exp0, w_exp1, w_if, w_ret, w_seq, w_set, w_switch, List.getElem?_cons_zero, List.getElem?_cons_succ, List.set_cons_zero, List.set_cons_succ, ee_cmp0, ee_cmp1, ee_cmp2, ee_cmp3, ee_cmp4, ee_cmp5, ee_cmpL0, ee_cmpL1, ee_cmpL2, ee_cmpL3, ee_cmpL4, ee_cmpL5, ee_tru_eb, decide_eq_true_eq, ib_i, ie_b, ie_f, ie_t, ib_l, fin_i, fin_l, fin_v, fin_z, fin_a, fin_n, ee_b_0, ee_fld0, ee_fld1, ee_fld2, ee_fld3, bi_0, bi_1, bi_2, bi_3, bi_4, bi_5, bi_6, bi_7, bi_8, bi_9, bi_10, bl_20, bl_21, bl_22, bl_23, bl_24, bl_25, bl_26, bl_48, bl_49, un_0, un_1, un_2, un_3, if_true, if_false, ite_true, ite_false, Bool.false_eq_true, Bool.not_eq_false, decide_not, Bool.not_not, reduceCtorEq, st_i, st_l, st_r, st_n, ee_noL, ee_noL.eq_1, List.length_cons, List.length_nil, Nat.reduceAdd, Nat.reduceLT, Nat.zero_add, and_true, true_and, and_self, fin_ite, pu_0, pu_1, pu_3, sto_0, el_0, Bool.not_eq_true, decide_eq_false_iff_not, Bool.decide_eq_true, Bool.decide_eq_false, decide_true, decide_false, Bool.not_true, Bool.not_false, Bool.and_self, Bool.and_true, Bool.and_false, Bool.true_and, Bool.false_and, Bool.or_true, Bool.or_false, Bool.true_or, Bool.false_or, if_true, if_false, Bool.false_eq_true]
              rfl
            · simp +decide only [rk, ro, eD, g1, memc, memn, k_9, bd_46, k_0, k_1, k_32, k_36, k_38, k_41, k_9999, nz_1, nz_32, nz_36, nz_38, nz_41, nz_9999, v_and, v_bin, v_call, v_cmp, v_cons, v_int, v_loc, v_mat, v_nil, v_not, v_or, v_tern, v_z, w_case, w_dflt, w_exp0, w_exp1, w_if, w_ret, w_seq, w_set, w_switch, List.getElem?_cons_zero, List.getElem?_cons_succ, List.set_cons_zero, List.set_cons_succ, ee_cmp0, ee_cmp1, ee_cmp2, ee_cmp3, ee_cmp4, ee_cmp5, ee_cmpL0, ee_cmpL1, ee_cmpL2, ee_cmpL3, ee_cmpL4, ee_cmpL5, ee_tru_eb, decide_eq_true_eq, ib_i, ie_b, ie_f, ie_t, ib_l, fin_i, fin_l, fin_v, fin_z, fin_a, fin_n, ee_b_0, ee_fld0, ee_fld1, ee_fld2, ee_fld3, bi_0, bi_1, bi_2, bi_3, bi_4, bi_5, bi_6, bi_7, bi_8, bi_9, bi_10, bl_20, bl_21, bl_22, bl_23, bl_24, bl_25, bl_26, bl_48, bl_49, un_0, un_1, un_2, un_3, if_true, if_false, ite_true, ite_false, Bool.false_eq_true, Bool.not_eq_false, decide_not, Bool.not_not, reduceCtorEq, st_i, st_l, st_r, st_n, ee_noL, ee_noL.eq_1, List.length_cons, List.length_nil, Nat.reduceAdd, Nat.reduceLT, Nat.zero_add, and_true, true_and, and_self, fin_ite, pu_0, pu_1, pu_3, sto_0, el_0, Bool.not_eq_true, decide_eq_false_iff_not, Bool.decide_eq_true, Bool.decide_eq_false, decide_true, decide_false, Bool.not_true, Bool.not_false, Bool.and_self, Bool.and_true, Bool.and_false, Bool.true_and, Bool.false_and, Bool.or_true, Bool.or_false, Bool.true_or, Bool.false_or, if_true, if_false, Bool.false_eq_true]
              rfl
            · simp +decide only [rk, ro, eD, g1, memc, memn, k_10, bd_46, k_0, k_1, k_32, k_36, k_38, k_41, k_9999, nz_1, nz_32, nz_36, nz_38, nz_41, nz_9999, v_and, v_bin, v_call, v_cmp, v_cons, v_int, v_loc, v_mat, v_nil, v_not, v_or, v_tern, v_z, w_case, w_dflt, w_exp0, w_exp1, w_if, w_ret, w_seq, w_set, w_switch, List.getElem?_cons_zero, List.getElem?_cons_succ, List.set_cons_zero, List.set_cons_succ, ee_cmp0, ee_cmp1, ee_cmp2, ee_cmp3, ee_cmp4, ee_cmp5, ee_cmpL0, ee_cmpL1, ee_cmpL2, ee_cmpL3, ee_cmpL4, ee_cmpL5, ee_tru_eb, decide_eq_true_eq, ib_i, ie_b, ie_f, ie_t, ib_l, fin_i, fin_l, fin_v, fin_z, fin_a, fin_n, ee_b_0, ee_fld0, ee_fld1, ee_fld2, ee_fld3, bi_0, bi_1, bi_2, bi_3, bi_4, bi_5, bi_6, bi_7, bi_8, bi_9, bi_10, bl_20, bl_21, bl_22, bl_23, bl_24, bl_25, bl_26, bl_48, bl_49, un_0, un_1, un_2, un_3, if_true, if_false, ite_true, ite_false, Bool.false_eq_true, Bool.not_eq_false, decide_not, Bool.not_not, reduceCtorEq, st_i, st_l, st_r, st_n, ee_noL, ee_noL.eq_1, List.length_cons, List.length_nil, Nat.reduceAdd, Nat.reduceLT, Nat.zero_add, and_true, true_and, and_self, fin_ite, pu_0, pu_1, pu_3, sto_0, el_0, Bool.not_eq_true, decide_eq_false_iff_not, Bool.decide_eq_true, Bool.decide_eq_false, decide_true, decide_false, Bool.not_true, Bool.not_false, Bool.and_self, Bool.and_true, Bool.and_false, Bool.true_and, Bool.false_and, Bool.or_true, Bool.or_false, Bool.true_or, Bool.false_or, if_true, if_false, Bool.false_eq_true]
              rfl
          · obtain ⟨w1, s1, g1⟩ := ih d 4 (D + 1) (i + 1) x _ (by omega) h1 (by omega) _ l0 l0 pA (Nat.le_refl _) (fun z => (by cases z)) (fun _ => rfl) (by unfold rkm gmd at hd ⊢; simp at hd ⊢; omega)
            have g1 : ee_run ee_B P d 46 [.ref 225, .ref b, .int (Int32.ofNat (D + 1))] (atw w (i + 1)) = some ([.int (ee_b (islp (.inl (e, j))))], w1) := g1
            rw [isl_l] at g1
            obtain ⟨cc1, l1, p1, p2, p3, p4⟩ := s1
            dsimp only at p1 p2 p3 p4
            have lt := cseg_lt _ _ _ (Nat.le_refl _) _ _ p3
            have jc := p1.2.2.2.2.1
            obtain ⟨o, ho⟩ : ∃ o, o = (if (tkn f n i).1 = 32 then 41 else (tkn f n i).1) := ⟨_, rfl⟩
            have h2 : some (.inl (l_un o e, j)) = some r := by rw [ho]; exact h2
            cases h2
            have em := r_emit (P := P) hd2 hb p1.2.2.2.1 (show l1 < 300 by omega) o 0
            rw [k_0] at em
            obtain ⟨q1, q2, q3, q4⟩ := PS_em p1 (show l1 + 1 ≤ j by omega) (enc 0 o)
            refine ⟨_, ⟨chk_trans (atw_c w b (i + 1)) (chk_trans cc1 q2), l1 + 1, q1, by show l1 + 1 + i ≤ j + l0; omega, ⟨l1, cseg_cg p3 (fun k _ k2 => q4 k (by omega)), rfl, q3⟩, fun k hk => by rw [q4 k (by omega), p4 k hk]; exact atw_k hb w _ k⟩, ?_⟩
            show ee_run ee_B P (d + 1) 46 [.ref 225, .ref b, .int (Int32.ofNat D)] w = some ([.int (ee_b (islp (.inl _)))], _)
            rw [isl_l, rn_46 rd_225]
            rcases c4 with k | k | k <;> rw [k] at rk ho
            · rw [if_pos rfl] at ho
              subst ho
              rw [k_41] at em
              simp +decide only [rk, ro, eD, g1, em, Value.category, memc, memn, k_32, k_41, bd_46, k_0, k_1, k_32, k_36, k_38, k_41, k_9999, nz_1, nz_32, nz_36, nz_38, nz_41, nz_9999, v_and, v_bin, v_call, v_cmp, v_cons, v_int, v_loc, v_mat, v_nil, v_not, v_or, v_tern, v_z, w_case, w_dflt, w_exp0, w_exp1, w_if, w_ret, w_seq, w_set, w_switch, List.getElem?_cons_zero, List.getElem?_cons_succ, List.set_cons_zero, List.set_cons_succ, ee_cmp0, ee_cmp1, ee_cmp2, ee_cmp3, ee_cmp4, ee_cmp5, ee_cmpL0, ee_cmpL1, ee_cmpL2, ee_cmpL3, ee_cmpL4, ee_cmpL5, ee_tru_eb, decide_eq_true_eq, ib_i, ie_b, ie_f, ie_t, ib_l, fin_i, fin_l, fin_v, fin_z, fin_a, fin_n, ee_b_0, ee_fld0, ee_fld1, ee_fld2, ee_fld3, bi_0, bi_1, bi_2, bi_3, bi_4, bi_5, bi_6, bi_7, bi_8, bi_9, bi_10, bl_20, bl_21, bl_22, bl_23, bl_24, bl_25, bl_26, bl_48, bl_49, un_0, un_1, un_2, un_3, if_true, if_false, ite_true, ite_false, Bool.false_eq_true, Bool.not_eq_false, decide_not, Bool.not_not, reduceCtorEq, st_i, st_l, st_r, st_n, ee_noL, ee_noL.eq_1, List.length_cons, List.length_nil, Nat.reduceAdd, Nat.reduceLT, Nat.zero_add, and_true, true_and, and_self, fin_ite, pu_0, pu_1, pu_3, sto_0, el_0, Bool.not_eq_true, decide_eq_false_iff_not, Bool.decide_eq_true, Bool.decide_eq_false, decide_true, decide_false, Bool.not_true, Bool.not_false, Bool.and_self, Bool.and_true, Bool.and_false, Bool.true_and, Bool.false_and, Bool.or_true, Bool.or_false, Bool.true_or, Bool.false_or, if_true, if_false, Bool.false_eq_true]
              rfl
            · rw [if_neg (by decide)] at ho
              subst ho
              rw [k_9] at em
              simp +decide only [rk, ro, eD, g1, em, Value.category, memc, memn, k_9, bd_46, k_0, k_1, k_32, k_36, k_38, k_41, k_9999, nz_1, nz_32, nz_36, nz_38, nz_41, nz_9999, v_and, v_bin, v_call, v_cmp, v_cons, v_int, v_loc, v_mat, v_nil, v_not, v_or, v_tern, v_z, w_case, w_dflt, w_exp0, w_exp1, w_if, w_ret, w_seq, w_set, w_switch, List.getElem?_cons_zero, List.getElem?_cons_succ, List.set_cons_zero, List.set_cons_succ, ee_cmp0, ee_cmp1, ee_cmp2, ee_cmp3, ee_cmp4, ee_cmp5, ee_cmpL0, ee_cmpL1, ee_cmpL2, ee_cmpL3, ee_cmpL4, ee_cmpL5, ee_tru_eb, decide_eq_true_eq, ib_i, ie_b, ie_f, ie_t, ib_l, fin_i, fin_l, fin_v, fin_z, fin_a, fin_n, ee_b_0, ee_fld0, ee_fld1, ee_fld2, ee_fld3, bi_0, bi_1, bi_2, bi_3, bi_4, bi_5, bi_6, bi_7, bi_8, bi_9, bi_10, bl_20, bl_21, bl_22, bl_23, bl_24, bl_25, bl_26, bl_48, bl_49, un_0, un_1, un_2, un_3, if_true, if_false, ite_true, ite_false, Bool.false_eq_true, Bool.not_eq_false, decide_not, Bool.not_not, reduceCtorEq, st_i, st_l, st_r, st_n, ee_noL, ee_noL.eq_1, List.length_cons, List.length_nil, Nat.reduceAdd, Nat.reduceLT, Nat.zero_add, and_true, true_and, and_self, fin_ite, pu_0, pu_1, pu_3, sto_0, el_0, Bool.not_eq_true, decide_eq_false_iff_not, Bool.decide_eq_true, Bool.decide_eq_false, decide_true, decide_false, Bool.not_true, Bool.not_false, Bool.and_self, Bool.and_true, Bool.and_false, Bool.true_and, Bool.false_and, Bool.or_true, Bool.or_false, Bool.true_or, Bool.false_or, if_true, if_false, Bool.false_eq_true]
              rfl
            · rw [if_neg (by decide)] at ho
              subst ho
              rw [k_10] at em
              simp +decide only [rk, ro, eD, g1, em, Value.category, memc, memn, k_10, bd_46, k_0, k_1, k_32, k_36, k_38, k_41, k_9999, nz_1, nz_32, nz_36, nz_38, nz_41, nz_9999, v_and, v_bin, v_call, v_cmp, v_cons, v_int, v_loc, v_mat, v_nil, v_not, v_or, v_tern, v_z, w_case, w_dflt, w_exp0, w_exp1, w_if, w_ret, w_seq, w_set, w_switch, List.getElem?_cons_zero, List.getElem?_cons_succ, List.set_cons_zero, List.set_cons_succ, ee_cmp0, ee_cmp1, ee_cmp2, ee_cmp3, ee_cmp4, ee_cmp5, ee_cmpL0, ee_cmpL1, ee_cmpL2, ee_cmpL3, ee_cmpL4, ee_cmpL5, ee_tru_eb, decide_eq_true_eq, ib_i, ie_b, ie_f, ie_t, ib_l, fin_i, fin_l, fin_v, fin_z, fin_a, fin_n, ee_b_0, ee_fld0, ee_fld1, ee_fld2, ee_fld3, bi_0, bi_1, bi_2, bi_3, bi_4, bi_5, bi_6, bi_7, bi_8, bi_9, bi_10, bl_20, bl_21, bl_22, bl_23, bl_24, bl_25, bl_26, bl_48, bl_49, un_0, un_1, un_2, un_3, if_true, if_false, ite_true, ite_false, Bool.false_eq_true, Bool.not_eq_false, decide_not, Bool.not_not, reduceCtorEq, st_i, st_l, st_r, st_n, ee_noL, ee_noL.eq_1, List.length_cons, List.length_nil, Nat.reduceAdd, Nat.reduceLT, Nat.zero_add, and_true, true_and, and_self, fin_ite, pu_0, pu_1, pu_3, sto_0, el_0, Bool.not_eq_true, decide_eq_false_iff_not, Bool.decide_eq_true, Bool.decide_eq_false, decide_true, decide_false, Bool.not_true, Bool.not_false, Bool.and_self, Bool.and_true, Bool.and_false, Bool.true_and, Bool.false_and, Bool.or_true, Bool.or_false, Bool.true_or, Bool.false_or, if_true, if_false, Bool.false_eq_true]
              rfl
      rw [if_neg c4] at h
      have rna := r_name (P := P) hd3 hP hlaw
      have dflt : ∀ v w', ee_run ee_B P d 57 [.ref 225, .ref b] w = some ([.int v], w') → v = 0 ∨ v = 1 → ee_run ee_B P (d + 1) 46 [.ref 225, .ref b, .int (Int32.ofNat D)] w = some ([.int v], w') := by
        intro v w' hv h01
        have n38 : ¬ Int32.ofNat (tkn f n i).1 = 38 := fun z => by rw [show (38 : Int32) = Int32.ofNat 38 from rfl, kq (by omega) (by omega)] at z; omega
        have n35 : ¬ Int32.ofNat (tkn f n i).1 = 35 := fun z => by rw [show (35 : Int32) = Int32.ofNat 35 from rfl, kq (by omega) (by omega)] at z; omega
        have n11 : ¬ Int32.ofNat (tkn f n i).1 = 11 := fun z => by rw [show (11 : Int32) = Int32.ofNat 11 from rfl, kq (by omega) (by omega)] at z; omega
        have n32 : ¬ Int32.ofNat (tkn f n i).1 = 32 := fun z => by rw [show (32 : Int32) = Int32.ofNat 32 from rfl, kq (by omega) (by omega)] at z; omega
        have n9 : ¬ Int32.ofNat (tkn f n i).1 = 9 := fun z => by rw [show (9 : Int32) = Int32.ofNat 9 from rfl, kq (by omega) (by omega)] at z; omega
        have n10 : ¬ Int32.ofNat (tkn f n i).1 = 10 := fun z => by rw [show (10 : Int32) = Int32.ofNat 10 from rfl, kq (by omega) (by omega)] at z; omega
        rw [rn_46 rd_225]
        rcases h01 with rfl | rfl
        · simp only [rk, n38, n35, n11, n32, n9, n10, hv, memc, memn, or_false, k_38, k_35, k_11, k_32, k_9, k_10, bd_46, k_0, k_1, k_32, k_36, k_38, k_41, k_9999, nz_1, nz_32, nz_36, nz_38, nz_41, nz_9999, v_and, v_bin, v_call, v_cmp, v_cons, v_int, v_loc, v_mat, v_nil, v_not, v_or, v_tern, v_z, w_case, w_dflt, w_exp0, w_exp1, w_if, w_ret, w_seq, w_set, w_switch, List.getElem?_cons_zero, List.getElem?_cons_succ, List.set_cons_zero, List.set_cons_succ, ee_cmp0, ee_cmp1, ee_cmp2, ee_cmp3, ee_cmp4, ee_cmp5, ee_cmpL0, ee_cmpL1, ee_cmpL2, ee_cmpL3, ee_cmpL4, ee_cmpL5, ee_tru_eb, decide_eq_true_eq, ib_i, ie_b, ie_f, ie_t, ib_l, fin_i, fin_l, fin_v, fin_z, fin_a, fin_n, ee_b_0, ee_fld0, ee_fld1, ee_fld2, ee_fld3, bi_0, bi_1, bi_2, bi_3, bi_4, bi_5, bi_6, bi_7, bi_8, bi_9, bi_10, bl_20, bl_21, bl_22, bl_23, bl_24, bl_25, bl_26, bl_48, bl_49, un_0, un_1, un_2, un_3, if_true, if_false, ite_true, ite_false, Bool.false_eq_true, Bool.not_eq_false, decide_not, Bool.not_not, reduceCtorEq, st_i, st_l, st_r, st_n, ee_noL, ee_noL.eq_1, List.length_cons, List.length_nil, Nat.reduceAdd, Nat.reduceLT, Nat.zero_add, and_true, true_and, and_self, fin_ite, pu_0, pu_1, pu_3, sto_0, el_0, Bool.not_eq_true, decide_eq_false_iff_not, Bool.decide_eq_true, Bool.decide_eq_false, decide_true, decide_false, Bool.not_true, Bool.not_false, Bool.and_self, Bool.and_true, Bool.and_false, Bool.true_and, Bool.false_and, Bool.or_true, Bool.or_false, Bool.true_or, Bool.false_or, if_true, if_false, Bool.false_eq_true]
          rfl
        · simp only [rk, n38, n35, n11, n32, n9, n10, hv, memc, memn, or_false, k_38, k_35, k_11, k_32, k_9, k_10, bd_46, k_0, k_1, k_32, k_36, k_38, k_41, k_9999, nz_1, nz_32, nz_36, nz_38, nz_41, nz_9999, v_and, v_bin, v_call, v_cmp, v_cons, v_int, v_loc, v_mat, v_nil, v_not, v_or, v_tern, v_z, w_case, w_dflt, w_exp0, w_exp1, w_if, w_ret, w_seq, w_set, w_switch, List.getElem?_cons_zero, List.getElem?_cons_succ, List.set_cons_zero, List.set_cons_succ, ee_cmp0, ee_cmp1, ee_cmp2, ee_cmp3, ee_cmp4, ee_cmp5, ee_cmpL0, ee_cmpL1, ee_cmpL2, ee_cmpL3, ee_cmpL4, ee_cmpL5, ee_tru_eb, decide_eq_true_eq, ib_i, ie_b, ie_f, ie_t, ib_l, fin_i, fin_l, fin_v, fin_z, fin_a, fin_n, ee_b_0, ee_fld0, ee_fld1, ee_fld2, ee_fld3, bi_0, bi_1, bi_2, bi_3, bi_4, bi_5, bi_6, bi_7, bi_8, bi_9, bi_10, bl_20, bl_21, bl_22, bl_23, bl_24, bl_25, bl_26, bl_48, bl_49, un_0, un_1, un_2, un_3, if_true, if_false, ite_true, ite_false, Bool.false_eq_true, Bool.not_eq_false, decide_not, Bool.not_not, reduceCtorEq, st_i, st_l, st_r, st_n, ee_noL, ee_noL.eq_1, List.length_cons, List.length_nil, Nat.reduceAdd, Nat.reduceLT, Nat.zero_add, and_true, true_and, and_self, fin_ite, pu_0, pu_1, pu_3, sto_0, el_0, Bool.not_eq_true, decide_eq_false_iff_not, Bool.decide_eq_true, Bool.decide_eq_false, decide_true, decide_false, Bool.not_true, Bool.not_false, Bool.and_self, Bool.and_true, Bool.and_false, Bool.true_and, Bool.false_and, Bool.or_true, Bool.or_false, Bool.true_or, Bool.false_or, if_true, if_false, Bool.false_eq_true]
          rfl
      by_cases c5 : 18 ≤ (tkn f n i).1 ∧ (tkn f n i).1 ≤ 24
      · rw [if_pos c5] at h rna
        by_cases v : (tkn f n i).1 = (if law = 0 then 24 else 23)
        · rw [if_pos v] at h rna
          cases h
          exact ⟨_, RS_bad rfl, dflt _ _ rna (Or.inl rfl)⟩
        · rw [if_neg v] at h rna
          cases h
          obtain ⟨q1, q2, q3, q4⟩ := PS_nm hP (show (tkn f n i).1 ≠ 39 by omega) (enc 0 (tkn f n i).1)
          refine ⟨_, ⟨q2, l0 + 1, q1, by show l0 + 1 + i ≤ i + 1 + l0; omega, ⟨rfl, ?_⟩, fun k hk => q4 k (by omega)⟩, dflt _ _ rna (Or.inr rfl)⟩
          rw [q3, if_neg (show ¬ (tkn f n i).1 = 38 from c1)]
      · rw [if_neg c5] at h rna
        cases h
        exact ⟨_, RS_bad rfl, dflt _ _ rna (Or.inl rfl)⟩
    · have e0 := hx0 rfl
      subst e0
      obtain ⟨d, rfl⟩ : ∃ k, d = k + 1 := ⟨d - 1, by unfold rkm gmd at hd; omega⟩
      rw [pp_5] at h
      rcases pb_cases h with ⟨y, h1, rfl⟩ | ⟨e, j, h1, h2⟩
      · obtain ⟨w1, s1, g1⟩ := ih d 7 D i x _ (by omega) h1 hD w l0 l0 hP (Nat.le_refl _) (fun z => (by cases z)) (fun _ => rfl) (by unfold rkm gmd at hd ⊢; simp at hd ⊢; omega)
        refine ⟨w1, s1, ?_⟩
        have g1 : ee_run ee_B P d 54 [.ref 225, .ref b, .int (Int32.ofNat D)] w = some ([.int (ee_b (islp (.inr y)))], w1) := g1
        show ee_run ee_B P (d + 1) 53 [.ref 225, .ref b, .int (Int32.ofNat D)] w = some ([.int (ee_b (islp (.inr y)))], w1)
        rw [isl_r] at g1 ⊢
        rw [rn_53 rd_225]
        simp only [g1, be_53, k_0, k_1, k_17, k_300, nz_1, nz_17, nz_300, v_and, v_call, v_cmp, v_cons, v_int, v_loc, v_nil, v_not, v_z, w_exp0, w_exp1, w_if, w_inc, w_opf, w_ret, w_seq, w_set, List.getElem?_cons_zero, List.getElem?_cons_succ, List.set_cons_zero, List.set_cons_succ, ee_cmp0, ee_cmp1, ee_cmp2, ee_cmp3, ee_cmp4, ee_cmp5, ee_cmpL0, ee_cmpL1, ee_cmpL2, ee_cmpL3, ee_cmpL4, ee_cmpL5, ee_tru_eb, decide_eq_true_eq, ib_i, ie_b, ie_f, ie_t, ib_l, fin_i, fin_l, fin_v, fin_z, fin_a, fin_n, ee_b_0, ee_fld0, ee_fld1, ee_fld2, ee_fld3, bi_0, bi_1, bi_2, bi_3, bi_4, bi_5, bi_6, bi_7, bi_8, bi_9, bi_10, bl_20, bl_21, bl_22, bl_23, bl_24, bl_25, bl_26, bl_48, bl_49, un_0, un_1, un_2, un_3, if_true, if_false, ite_true, ite_false, Bool.false_eq_true, Bool.not_eq_false, decide_not, Bool.not_not, reduceCtorEq, st_i, st_l, st_r, st_n, ee_noL, ee_noL.eq_1, List.length_cons, List.length_nil, Nat.reduceAdd, Nat.reduceLT, Nat.zero_add, and_true, true_and, and_self, fin_ite, pu_0, pu_1, pu_3, sto_0, el_0, Bool.not_eq_true, decide_eq_false_iff_not, Bool.decide_eq_true, Bool.decide_eq_false, decide_true, decide_false, Bool.not_true, Bool.not_false, Bool.and_self, Bool.and_true, Bool.and_false, Bool.true_and, Bool.false_and, Bool.or_true, Bool.or_false, Bool.true_or, Bool.false_or, if_true, if_false, Bool.false_eq_true]
        rfl
      · obtain ⟨w1, s1, g1⟩ := ih d 7 D i x _ (by omega) h1 hD w l0 l0 hP (Nat.le_refl _) (fun z => (by cases z)) (fun _ => rfl) (by unfold rkm gmd at hd ⊢; simp at hd ⊢; omega)
        have g1 : ee_run ee_B P d 54 [.ref 225, .ref b, .int (Int32.ofNat D)] w = some ([.int (ee_b (islp (.inl (e, j))))], w1) := g1
        obtain ⟨c1, l1, p1, p2, p3, p4⟩ := s1
        dsimp only at p1 p2 p3 p4
        have lt := cseg_lt _ _ _ (Nat.le_refl _) _ _ p3
        obtain ⟨w2, s2, g2⟩ := ih d 6 D j e r (by omega) h2 hD w1 l1 l0 p1 (by omega) (fun _ => p3) (fun z => (by cases z)) (by unfold rkm gmd at hd ⊢; simp at hd ⊢; omega)
        obtain ⟨t', v', g2⟩ := g2 0 none (Nat.zero_le _)
        refine ⟨w2, RS_seq c1 p2 p4 s2, ?_⟩
        show ee_run ee_B P (d + 1) 53 [.ref 225, .ref b, .int (Int32.ofNat D)] w = some ([.int (ee_b (islp r))], w2)
        rw [isl_l] at g1
        rw [k_0] at g2
        rw [rn_53 rd_225]
        cases r with
        | inl z =>
          rw [isl_l, if_pos rfl] at g2
          rw [isl_l]
          simp only [g1, w_while, g2, be_53, k_0, k_1, k_17, k_300, nz_1, nz_17, nz_300, v_and, v_call, v_cmp, v_cons, v_int, v_loc, v_nil, v_not, v_z, w_exp0, w_exp1, w_if, w_inc, w_opf, w_ret, w_seq, w_set, List.getElem?_cons_zero, List.getElem?_cons_succ, List.set_cons_zero, List.set_cons_succ, ee_cmp0, ee_cmp1, ee_cmp2, ee_cmp3, ee_cmp4, ee_cmp5, ee_cmpL0, ee_cmpL1, ee_cmpL2, ee_cmpL3, ee_cmpL4, ee_cmpL5, ee_tru_eb, decide_eq_true_eq, ib_i, ie_b, ie_f, ie_t, ib_l, fin_i, fin_l, fin_v, fin_z, fin_a, fin_n, ee_b_0, ee_fld0, ee_fld1, ee_fld2, ee_fld3, bi_0, bi_1, bi_2, bi_3, bi_4, bi_5, bi_6, bi_7, bi_8, bi_9, bi_10, bl_20, bl_21, bl_22, bl_23, bl_24, bl_25, bl_26, bl_48, bl_49, un_0, un_1, un_2, un_3, if_true, if_false, ite_true, ite_false, Bool.false_eq_true, Bool.not_eq_false, decide_not, Bool.not_not, reduceCtorEq, st_i, st_l, st_r, st_n, ee_noL, ee_noL.eq_1, List.length_cons, List.length_nil, Nat.reduceAdd, Nat.reduceLT, Nat.zero_add, and_true, true_and, and_self, fin_ite, pu_0, pu_1, pu_3, sto_0, el_0, Bool.not_eq_true, decide_eq_false_iff_not, Bool.decide_eq_true, Bool.decide_eq_false, decide_true, decide_false, Bool.not_true, Bool.not_false, Bool.and_self, Bool.and_true, Bool.and_false, Bool.true_and, Bool.false_and, Bool.or_true, Bool.or_false, Bool.true_or, Bool.false_or, if_true, if_false, Bool.false_eq_true]
          rfl
        | inr z =>
          rw [isl_r, if_neg (by decide)] at g2
          rw [isl_r]
          simp only [g1, w_while, g2, be_53, k_0, k_1, k_17, k_300, nz_1, nz_17, nz_300, v_and, v_call, v_cmp, v_cons, v_int, v_loc, v_nil, v_not, v_z, w_exp0, w_exp1, w_if, w_inc, w_opf, w_ret, w_seq, w_set, List.getElem?_cons_zero, List.getElem?_cons_succ, List.set_cons_zero, List.set_cons_succ, ee_cmp0, ee_cmp1, ee_cmp2, ee_cmp3, ee_cmp4, ee_cmp5, ee_cmpL0, ee_cmpL1, ee_cmpL2, ee_cmpL3, ee_cmpL4, ee_cmpL5, ee_tru_eb, decide_eq_true_eq, ib_i, ie_b, ie_f, ie_t, ib_l, fin_i, fin_l, fin_v, fin_z, fin_a, fin_n, ee_b_0, ee_fld0, ee_fld1, ee_fld2, ee_fld3, bi_0, bi_1, bi_2, bi_3, bi_4, bi_5, bi_6, bi_7, bi_8, bi_9, bi_10, bl_20, bl_21, bl_22, bl_23, bl_24, bl_25, bl_26, bl_48, bl_49, un_0, un_1, un_2, un_3, if_true, if_false, ite_true, ite_false, Bool.false_eq_true, Bool.not_eq_false, decide_not, Bool.not_not, reduceCtorEq, st_i, st_l, st_r, st_n, ee_noL, ee_noL.eq_1, List.length_cons, List.length_nil, Nat.reduceAdd, Nat.reduceLT, Nat.zero_add, and_true, true_and, and_self, fin_ite, pu_0, pu_1, pu_3, sto_0, el_0, Bool.not_eq_true, decide_eq_false_iff_not, Bool.decide_eq_true, Bool.decide_eq_false, decide_true, decide_false, Bool.not_true, Bool.not_false, Bool.and_self, Bool.and_true, Bool.and_false, Bool.true_and, Bool.false_and, Bool.or_true, Bool.or_false, Bool.true_or, Bool.false_or, if_true, if_false, Bool.false_eq_true]
          rfl
    · have hx1 := hx rfl
      have rk := r_kind (P := P) (d := d) (by unfold rkm gmd at hd; omega) hP
      have h2' := hP.2.1
      have x0 := hb.2.2.1
      have e17 : (Int32.ofNat (tkn f n i).1 = 17) = ((tkn f n i).1 = 17) := kq (m := 17) (by omega) (by omega)
      rw [pp_6] at h
      by_cases cc : (tkn f n i).1 = 17
      · have h : ppb (pp (fun i => (tkn f n i).1) (fun i => (tkn f n i).2.1) law F 7 D (i + 1) x) (fun e j => pp (fun i => (tkn f n i).1) (fun i => (tkn f n i).2.1) law F 6 D j (l_bin 17 x e)) = some r := by
          rw [if_pos cc] at h; exact h
        have n39 : (tkn f n i).1 ≠ 39 := by omega
        have i1 := ps_n9 hP n39
        have pA := PS_at hP n39
        rcases pb_cases h with ⟨y, h1, rfl⟩ | ⟨e, j, h1, h2⟩
        · obtain ⟨w1, s1, g1⟩ := ih d 7 D (i + 1) x _ (by omega) h1 hD _ l l pA (Nat.le_refl _) (fun z => (by cases z)) (fun _ => rfl) (by unfold rkm gmd at hd ⊢; simp at hd ⊢; omega)
          have g1 : ee_run ee_B P d 54 [.ref 225, .ref b, .int (Int32.ofNat D)] (atw w (i + 1)) = some ([.int (ee_b (islp (.inr y)))], w1) := g1
          rw [isl_r] at g1
          refine ⟨w1, RS_inr (RS_seq (i := i) (l := l) (l0 := 0) (j := i + 1) (l1 := l) (atw_c w b (i + 1)) (by omega) (fun k hk => by omega) (RS_inr (l1 := 0) s1)), fun t v ht => ⟨t, v, ?_⟩⟩
          have c3 : Int32.ofNat t < 300 := (j_lt (b := 300) (by omega) (by omega)).2 (by omega)
          have tt : ee_turn (ee_ev es_sh es_rf (ee_run ee_B P d) lx_53_1) (ee_evS es_sh es_rf (ee_run ee_B P d) lb_53_1) ([some (.ref 225), some (.ref b), some (.int (Int32.ofNat D)), some (.int (Int32.ofNat t))], w) = some (.inr (.inr ([.int 0], w1))) := by
            have ct : ((tkn f n i).1 = 17) = True := eq_true cc
            simp only [c3, rk, e17, ct, h2', g1, rd_225, w_opf, j_s, j_a, lx_53_1, lb_53_1, ee_turn, k_0, k_1, k_17, k_300, nz_1, nz_17, nz_300, v_and, v_call, v_cmp, v_cons, v_int, v_loc, v_nil, v_not, v_z, w_exp0, w_exp1, w_if, w_inc, w_opf, w_ret, w_seq, w_set, List.getElem?_cons_zero, List.getElem?_cons_succ, List.set_cons_zero, List.set_cons_succ, ee_cmp0, ee_cmp1, ee_cmp2, ee_cmp3, ee_cmp4, ee_cmp5, ee_cmpL0, ee_cmpL1, ee_cmpL2, ee_cmpL3, ee_cmpL4, ee_cmpL5, ee_tru_eb, decide_eq_true_eq, ib_i, ie_b, ie_f, ie_t, ib_l, fin_i, fin_l, fin_v, fin_z, fin_a, fin_n, ee_b_0, ee_fld0, ee_fld1, ee_fld2, ee_fld3, bi_0, bi_1, bi_2, bi_3, bi_4, bi_5, bi_6, bi_7, bi_8, bi_9, bi_10, bl_20, bl_21, bl_22, bl_23, bl_24, bl_25, bl_26, bl_48, bl_49, un_0, un_1, un_2, un_3, if_true, if_false, ite_true, ite_false, Bool.false_eq_true, Bool.not_eq_false, decide_not, Bool.not_not, reduceCtorEq, st_i, st_l, st_r, st_n, ee_noL, ee_noL.eq_1, List.length_cons, List.length_nil, Nat.reduceAdd, Nat.reduceLT, Nat.zero_add, and_true, true_and, and_self, fin_ite, pu_0, pu_1, pu_3, sto_0, el_0, Bool.not_eq_true, decide_eq_false_iff_not, Bool.decide_eq_true, Bool.decide_eq_false, decide_true, decide_false, Bool.not_true, Bool.not_false, Bool.and_self, Bool.and_true, Bool.and_false, Bool.true_and, Bool.false_and, Bool.or_true, Bool.or_false, Bool.true_or, Bool.false_or, if_true, if_false, Bool.false_eq_true]
          rw [ee_wh_eq, tt]
          rfl
        · obtain ⟨w1, s1, g1⟩ := ih d 7 D (i + 1) x _ (by omega) h1 hD _ l l pA (Nat.le_refl _) (fun z => (by cases z)) (fun _ => rfl) (by unfold rkm gmd at hd ⊢; simp at hd ⊢; omega)
          have g1 : ee_run ee_B P d 54 [.ref 225, .ref b, .int (Int32.ofNat D)] (atw w (i + 1)) = some ([.int (ee_b (islp (.inl (e, j))))], w1) := g1
          rw [isl_l] at g1
          obtain ⟨c1, l1, p1, p2, p3, p4⟩ := s1
          dsimp only at p1 p2 p3 p4
          have lt := cseg_lt _ _ _ (Nat.le_refl _) _ _ p3
          have jc := p1.2.2.2.2.1
          have em := r_emit (P := P) (d := d) (by unfold rkm gmd at hd; omega) hb p1.2.2.2.1 (show l1 < 300 by omega) 17 0
          rw [k_0, k_17] at em
          obtain ⟨q1, q2, q3, q4⟩ := PS_em p1 (show l1 + 1 ≤ j by omega) (enc 0 17)
          obtain ⟨w2, s2, g2⟩ := ih d 6 D j (l_bin 17 x e) r (by omega) h2 hD _ (l1 + 1) l0 q1 (by omega) (fun _ => ⟨l, l1, cseg_cg hx1 (fun k k1 k2 => by rw [q4 k (by omega), p4 k k2]; exact atw_k hb w _ k), cseg_cg p3 (fun k k1 k2 => q4 k (by omega)), rfl, q3⟩) (fun z => (by cases z)) hd
          refine ⟨w2, RS_seq (j := j) (l1 := l1 + 1) (chk_trans (atw_c w b (i + 1)) (chk_trans c1 q2)) (by omega) (fun k hk => by rw [q4 k (by omega), p4 k (by omega)]; exact atw_k hb w _ k) s2, fun t v ht => ?_⟩
          obtain ⟨t', v', g2⟩ := g2 (t + 1) (v) (by omega)
          refine ⟨t', v', ?_⟩
          have c3 : Int32.ofNat t < 300 := (j_lt (b := 300) (by omega) (by omega)).2 (by omega)
          have tt : ee_turn (ee_ev es_sh es_rf (ee_run ee_B P d) lx_53_1) (ee_evS es_sh es_rf (ee_run ee_B P d) lb_53_1) ([some (.ref 225), some (.ref b), some (.int (Int32.ofNat D)), some (.int (Int32.ofNat t))], w) = some (.inl ([some (.ref 225), some (.ref b), some (.int (Int32.ofNat D)), some (.int (Int32.ofNat (t + 1)))], emw w1 b l1 (enc 0 17))) := by
            have ct : ((tkn f n i).1 = 17) = True := eq_true cc
            simp only [c3, rk, e17, ct, h2', g1, em, Value.category, rd_225, w_opf, j_s, j_a, lx_53_1, lb_53_1, ee_turn, k_0, k_1, k_17, k_300, nz_1, nz_17, nz_300, v_and, v_call, v_cmp, v_cons, v_int, v_loc, v_nil, v_not, v_z, w_exp0, w_exp1, w_if, w_inc, w_opf, w_ret, w_seq, w_set, List.getElem?_cons_zero, List.getElem?_cons_succ, List.set_cons_zero, List.set_cons_succ, ee_cmp0, ee_cmp1, ee_cmp2, ee_cmp3, ee_cmp4, ee_cmp5, ee_cmpL0, ee_cmpL1, ee_cmpL2, ee_cmpL3, ee_cmpL4, ee_cmpL5, ee_tru_eb, decide_eq_true_eq, ib_i, ie_b, ie_f, ie_t, ib_l, fin_i, fin_l, fin_v, fin_z, fin_a, fin_n, ee_b_0, ee_fld0, ee_fld1, ee_fld2, ee_fld3, bi_0, bi_1, bi_2, bi_3, bi_4, bi_5, bi_6, bi_7, bi_8, bi_9, bi_10, bl_20, bl_21, bl_22, bl_23, bl_24, bl_25, bl_26, bl_48, bl_49, un_0, un_1, un_2, un_3, if_true, if_false, ite_true, ite_false, Bool.false_eq_true, Bool.not_eq_false, decide_not, Bool.not_not, reduceCtorEq, st_i, st_l, st_r, st_n, ee_noL, ee_noL.eq_1, List.length_cons, List.length_nil, Nat.reduceAdd, Nat.reduceLT, Nat.zero_add, and_true, true_and, and_self, fin_ite, pu_0, pu_1, pu_3, sto_0, el_0, Bool.not_eq_true, decide_eq_false_iff_not, Bool.decide_eq_true, Bool.decide_eq_false, decide_true, decide_false, Bool.not_true, Bool.not_false, Bool.and_self, Bool.and_true, Bool.and_false, Bool.true_and, Bool.false_and, Bool.or_true, Bool.or_false, Bool.true_or, Bool.false_or, if_true, if_false, Bool.false_eq_true]
          rw [ee_wh_eq, tt]
          exact g2
      · rw [if_neg cc] at h
        cases h
        refine ⟨w, ⟨chk_refl _ _, l, hP, by show l + i ≤ i + l; omega, hx1, fun _ _ => rfl⟩, fun t v ht => ⟨t, v, ?_⟩⟩
        have tt : ee_turn (ee_ev es_sh es_rf (ee_run ee_B P d) lx_53_1) (ee_evS es_sh es_rf (ee_run ee_B P d) lb_53_1) ([some (.ref 225), some (.ref b), some (.int (Int32.ofNat D)), some (.int (Int32.ofNat t))], w) = some (.inr (.inl ([some (.ref 225), some (.ref b), some (.int (Int32.ofNat D)), some (.int (Int32.ofNat t))], w))) := by
          have n17 : ¬ (tkn f n i).1 = 17 := fun z => cc z
          by_cases c3 : Int32.ofNat t < 300
          · simp only [c3, rk, e17, n17, lx_53_1, lb_53_1, ee_turn, k_0, k_1, k_17, k_300, nz_1, nz_17, nz_300, v_and, v_call, v_cmp, v_cons, v_int, v_loc, v_nil, v_not, v_z, w_exp0, w_exp1, w_if, w_inc, w_opf, w_ret, w_seq, w_set, List.getElem?_cons_zero, List.getElem?_cons_succ, List.set_cons_zero, List.set_cons_succ, ee_cmp0, ee_cmp1, ee_cmp2, ee_cmp3, ee_cmp4, ee_cmp5, ee_cmpL0, ee_cmpL1, ee_cmpL2, ee_cmpL3, ee_cmpL4, ee_cmpL5, ee_tru_eb, decide_eq_true_eq, ib_i, ie_b, ie_f, ie_t, ib_l, fin_i, fin_l, fin_v, fin_z, fin_a, fin_n, ee_b_0, ee_fld0, ee_fld1, ee_fld2, ee_fld3, bi_0, bi_1, bi_2, bi_3, bi_4, bi_5, bi_6, bi_7, bi_8, bi_9, bi_10, bl_20, bl_21, bl_22, bl_23, bl_24, bl_25, bl_26, bl_48, bl_49, un_0, un_1, un_2, un_3, if_true, if_false, ite_true, ite_false, Bool.false_eq_true, Bool.not_eq_false, decide_not, Bool.not_not, reduceCtorEq, st_i, st_l, st_r, st_n, ee_noL, ee_noL.eq_1, List.length_cons, List.length_nil, Nat.reduceAdd, Nat.reduceLT, Nat.zero_add, and_true, true_and, and_self, fin_ite, pu_0, pu_1, pu_3, sto_0, el_0, Bool.not_eq_true, decide_eq_false_iff_not, Bool.decide_eq_true, Bool.decide_eq_false, decide_true, decide_false, Bool.not_true, Bool.not_false, Bool.and_self, Bool.and_true, Bool.and_false, Bool.true_and, Bool.false_and, Bool.or_true, Bool.or_false, Bool.true_or, Bool.false_or, if_true, if_false, Bool.false_eq_true]
          · simp only [c3, lx_53_1, lb_53_1, ee_turn, k_0, k_1, k_17, k_300, nz_1, nz_17, nz_300, v_and, v_call, v_cmp, v_cons, v_int, v_loc, v_nil, v_not, v_z, w_exp0, w_exp1, w_if, w_inc, w_opf, w_ret, w_seq, w_set, List.getElem?_cons_zero, List.getElem?_cons_succ, List.set_cons_zero, List.set_cons_succ, ee_cmp0, ee_cmp1, ee_cmp2, ee_cmp3, ee_cmp4, ee_cmp5, ee_cmpL0, ee_cmpL1, ee_cmpL2, ee_cmpL3, ee_cmpL4, ee_cmpL5, ee_tru_eb, decide_eq_true_eq, ib_i, ie_b, ie_f, ie_t, ib_l, fin_i, fin_l, fin_v, fin_z, fin_a, fin_n, ee_b_0, ee_fld0, ee_fld1, ee_fld2, ee_fld3, bi_0, bi_1, bi_2, bi_3, bi_4, bi_5, bi_6, bi_7, bi_8, bi_9, bi_10, bl_20, bl_21, bl_22, bl_23, bl_24, bl_25, bl_26, bl_48, bl_49, un_0, un_1, un_2, un_3, if_true, if_false, ite_true, ite_false, Bool.false_eq_true, Bool.not_eq_false, decide_not, Bool.not_not, reduceCtorEq, st_i, st_l, st_r, st_n, ee_noL, ee_noL.eq_1, List.length_cons, List.length_nil, Nat.reduceAdd, Nat.reduceLT, Nat.zero_add, and_true, true_and, and_self, fin_ite, pu_0, pu_1, pu_3, sto_0, el_0, Bool.not_eq_true, decide_eq_false_iff_not, Bool.decide_eq_true, Bool.decide_eq_false, decide_true, decide_false, Bool.not_true, Bool.not_false, Bool.and_self, Bool.and_true, Bool.and_false, Bool.true_and, Bool.false_and, Bool.or_true, Bool.or_false, Bool.true_or, Bool.false_or, if_true, if_false, Bool.false_eq_true]
        rw [ee_wh_eq, tt]
        rfl
    · have e0 := hx0 rfl
      subst e0
      obtain ⟨d, rfl⟩ : ∃ k, d = k + 1 := ⟨d - 1, by unfold rkm gmd at hd; omega⟩
      rw [pp_7] at h
      rcases pb_cases h with ⟨y, h1, rfl⟩ | ⟨e, j, h1, h2⟩
      · obtain ⟨w1, s1, g1⟩ := ih d 9 D i x _ (by omega) h1 hD w l0 l0 hP (Nat.le_refl _) (fun z => (by cases z)) (fun _ => rfl) (by unfold rkm gmd at hd ⊢; simp at hd ⊢; omega)
        refine ⟨w1, s1, ?_⟩
        have g1 : ee_run ee_B P d 55 [.ref 225, .ref b, .int (Int32.ofNat D)] w = some ([.int (ee_b (islp (.inr y)))], w1) := g1
        show ee_run ee_B P (d + 1) 54 [.ref 225, .ref b, .int (Int32.ofNat D)] w = some ([.int (ee_b (islp (.inr y)))], w1)
        rw [isl_r] at g1 ⊢
        rw [rn_54 rd_225]
        simp only [g1, be_54, k_0, k_1, k_16, k_300, nz_1, nz_16, nz_300, v_and, v_call, v_cmp, v_cons, v_int, v_loc, v_nil, v_not, v_z, w_exp0, w_exp1, w_if, w_inc, w_opf, w_ret, w_seq, w_set, List.getElem?_cons_zero, List.getElem?_cons_succ, List.set_cons_zero, List.set_cons_succ, ee_cmp0, ee_cmp1, ee_cmp2, ee_cmp3, ee_cmp4, ee_cmp5, ee_cmpL0, ee_cmpL1, ee_cmpL2, ee_cmpL3, ee_cmpL4, ee_cmpL5, ee_tru_eb, decide_eq_true_eq, ib_i, ie_b, ie_f, ie_t, ib_l, fin_i, fin_l, fin_v, fin_z, fin_a, fin_n, ee_b_0, ee_fld0, ee_fld1, ee_fld2, ee_fld3, bi_0, bi_1, bi_2, bi_3, bi_4, bi_5, bi_6, bi_7, bi_8, bi_9, bi_10, bl_20, bl_21, bl_22, bl_23, bl_24, bl_25, bl_26, bl_48, bl_49, un_0, un_1, un_2, un_3, if_true, if_false, ite_true, ite_false, Bool.false_eq_true, Bool.not_eq_false, decide_not, Bool.not_not, reduceCtorEq, st_i, st_l, st_r, st_n, ee_noL, ee_noL.eq_1, List.length_cons, List.length_nil, Nat.reduceAdd, Nat.reduceLT, Nat.zero_add, and_true, true_and, and_self, fin_ite, pu_0, pu_1, pu_3, sto_0, el_0, Bool.not_eq_true, decide_eq_false_iff_not, Bool.decide_eq_true, Bool.decide_eq_false, decide_true, decide_false, Bool.not_true, Bool.not_false, Bool.and_self, Bool.and_true, Bool.and_false, Bool.true_and, Bool.false_and, Bool.or_true, Bool.or_false, Bool.true_or, Bool.false_or, if_true, if_false, Bool.false_eq_true]
        rfl
      · obtain ⟨w1, s1, g1⟩ := ih d 9 D i x _ (by omega) h1 hD w l0 l0 hP (Nat.le_refl _) (fun z => (by cases z)) (fun _ => rfl) (by unfold rkm gmd at hd ⊢; simp at hd ⊢; omega)
        have g1 : ee_run ee_B P d 55 [.ref 225, .ref b, .int (Int32.ofNat D)] w = some ([.int (ee_b (islp (.inl (e, j))))], w1) := g1
        obtain ⟨c1, l1, p1, p2, p3, p4⟩ := s1
        dsimp only at p1 p2 p3 p4
        have lt := cseg_lt _ _ _ (Nat.le_refl _) _ _ p3
        obtain ⟨w2, s2, g2⟩ := ih d 8 D j e r (by omega) h2 hD w1 l1 l0 p1 (by omega) (fun _ => p3) (fun z => (by cases z)) (by unfold rkm gmd at hd ⊢; simp at hd ⊢; omega)
        obtain ⟨t', v', g2⟩ := g2 0 none (Nat.zero_le _)
        refine ⟨w2, RS_seq c1 p2 p4 s2, ?_⟩
        show ee_run ee_B P (d + 1) 54 [.ref 225, .ref b, .int (Int32.ofNat D)] w = some ([.int (ee_b (islp r))], w2)
        rw [isl_l] at g1
        rw [k_0] at g2
        rw [rn_54 rd_225]
        cases r with
        | inl z =>
          rw [isl_l, if_pos rfl] at g2
          rw [isl_l]
          simp only [g1, w_while, g2, be_54, k_0, k_1, k_16, k_300, nz_1, nz_16, nz_300, v_and, v_call, v_cmp, v_cons, v_int, v_loc, v_nil, v_not, v_z, w_exp0, w_exp1, w_if, w_inc, w_opf, w_ret, w_seq, w_set, List.getElem?_cons_zero, List.getElem?_cons_succ, List.set_cons_zero, List.set_cons_succ, ee_cmp0, ee_cmp1, ee_cmp2, ee_cmp3, ee_cmp4, ee_cmp5, ee_cmpL0, ee_cmpL1, ee_cmpL2, ee_cmpL3, ee_cmpL4, ee_cmpL5, ee_tru_eb, decide_eq_true_eq, ib_i, ie_b, ie_f, ie_t, ib_l, fin_i, fin_l, fin_v, fin_z, fin_a, fin_n, ee_b_0, ee_fld0, ee_fld1, ee_fld2, ee_fld3, bi_0, bi_1, bi_2, bi_3, bi_4, bi_5, bi_6, bi_7, bi_8, bi_9, bi_10, bl_20, bl_21, bl_22, bl_23, bl_24, bl_25, bl_26, bl_48, bl_49, un_0, un_1, un_2, un_3, if_true, if_false, ite_true, ite_false, Bool.false_eq_true, Bool.not_eq_false, decide_not, Bool.not_not, reduceCtorEq, st_i, st_l, st_r, st_n, ee_noL, ee_noL.eq_1, List.length_cons, List.length_nil, Nat.reduceAdd, Nat.reduceLT, Nat.zero_add, and_true, true_and, and_self, fin_ite, pu_0, pu_1, pu_3, sto_0, el_0, Bool.not_eq_true, decide_eq_false_iff_not, Bool.decide_eq_true, Bool.decide_eq_false, decide_true, decide_false, Bool.not_true, Bool.not_false, Bool.and_self, Bool.and_true, Bool.and_false, Bool.true_and, Bool.false_and, Bool.or_true, Bool.or_false, Bool.true_or, Bool.false_or, if_true, if_false, Bool.false_eq_true]
          rfl
        | inr z =>
          rw [isl_r, if_neg (by decide)] at g2
          rw [isl_r]
          simp only [g1, w_while, g2, be_54, k_0, k_1, k_16, k_300, nz_1, nz_16, nz_300, v_and, v_call, v_cmp, v_cons, v_int, v_loc, v_nil, v_not, v_z, w_exp0, w_exp1, w_if, w_inc, w_opf, w_ret, w_seq, w_set, List.getElem?_cons_zero, List.getElem?_cons_succ, List.set_cons_zero, List.set_cons_succ, ee_cmp0, ee_cmp1, ee_cmp2, ee_cmp3, ee_cmp4, ee_cmp5, ee_cmpL0, ee_cmpL1, ee_cmpL2, ee_cmpL3, ee_cmpL4, ee_cmpL5, ee_tru_eb, decide_eq_true_eq, ib_i, ie_b, ie_f, ie_t, ib_l, fin_i, fin_l, fin_v, fin_z, fin_a, fin_n, ee_b_0, ee_fld0, ee_fld1, ee_fld2, ee_fld3, bi_0, bi_1, bi_2, bi_3, bi_4, bi_5, bi_6, bi_7, bi_8, bi_9, bi_10, bl_20, bl_21, bl_22, bl_23, bl_24, bl_25, bl_26, bl_48, bl_49, un_0, un_1, un_2, un_3, if_true, if_false, ite_true, ite_false, Bool.false_eq_true, Bool.not_eq_false, decide_not, Bool.not_not, reduceCtorEq, st_i, st_l, st_r, st_n, ee_noL, ee_noL.eq_1, List.length_cons, List.length_nil, Nat.reduceAdd, Nat.reduceLT, Nat.zero_add, and_true, true_and, and_self, fin_ite, pu_0, pu_1, pu_3, sto_0, el_0, Bool.not_eq_true, decide_eq_false_iff_not, Bool.decide_eq_true, Bool.decide_eq_false, decide_true, decide_false, Bool.not_true, Bool.not_false, Bool.and_self, Bool.and_true, Bool.and_false, Bool.true_and, Bool.false_and, Bool.or_true, Bool.or_false, Bool.true_or, Bool.false_or, if_true, if_false, Bool.false_eq_true]
          rfl
    · have hx1 := hx rfl
      have rk := r_kind (P := P) (d := d) (by unfold rkm gmd at hd; omega) hP
      have h2' := hP.2.1
      have x0 := hb.2.2.1
      have e16 : (Int32.ofNat (tkn f n i).1 = 16) = ((tkn f n i).1 = 16) := kq (m := 16) (by omega) (by omega)
      rw [pp_8] at h
      by_cases cc : (tkn f n i).1 = 16
      · have h : ppb (pp (fun i => (tkn f n i).1) (fun i => (tkn f n i).2.1) law F 9 D (i + 1) x) (fun e j => pp (fun i => (tkn f n i).1) (fun i => (tkn f n i).2.1) law F 8 D j (l_bin 16 x e)) = some r := by
          rw [if_pos cc] at h; exact h
        have n39 : (tkn f n i).1 ≠ 39 := by omega
        have i1 := ps_n9 hP n39
        have pA := PS_at hP n39
        rcases pb_cases h with ⟨y, h1, rfl⟩ | ⟨e, j, h1, h2⟩
        · obtain ⟨w1, s1, g1⟩ := ih d 9 D (i + 1) x _ (by omega) h1 hD _ l l pA (Nat.le_refl _) (fun z => (by cases z)) (fun _ => rfl) (by unfold rkm gmd at hd ⊢; simp at hd ⊢; omega)
          have g1 : ee_run ee_B P d 55 [.ref 225, .ref b, .int (Int32.ofNat D)] (atw w (i + 1)) = some ([.int (ee_b (islp (.inr y)))], w1) := g1
          rw [isl_r] at g1
          refine ⟨w1, RS_inr (RS_seq (i := i) (l := l) (l0 := 0) (j := i + 1) (l1 := l) (atw_c w b (i + 1)) (by omega) (fun k hk => by omega) (RS_inr (l1 := 0) s1)), fun t v ht => ⟨t, v, ?_⟩⟩
          have c3 : Int32.ofNat t < 300 := (j_lt (b := 300) (by omega) (by omega)).2 (by omega)
          have tt : ee_turn (ee_ev es_sh es_rf (ee_run ee_B P d) lx_54_1) (ee_evS es_sh es_rf (ee_run ee_B P d) lb_54_1) ([some (.ref 225), some (.ref b), some (.int (Int32.ofNat D)), some (.int (Int32.ofNat t))], w) = some (.inr (.inr ([.int 0], w1))) := by
            have ct : ((tkn f n i).1 = 16) = True := eq_true cc
            simp only [c3, rk, e16, ct, h2', g1, rd_225, w_opf, j_s, j_a, lx_54_1, lb_54_1, ee_turn, k_0, k_1, k_16, k_300, nz_1, nz_16, nz_300, v_and, v_call, v_cmp, v_cons, v_int, v_loc, v_nil, v_not, v_z, w_exp0, w_exp1, w_if, w_inc, w_opf, w_ret, w_seq, w_set, List.getElem?_cons_zero, List.getElem?_cons_succ, List.set_cons_zero, List.set_cons_succ, ee_cmp0, ee_cmp1, ee_cmp2, ee_cmp3, ee_cmp4, ee_cmp5, ee_cmpL0, ee_cmpL1, ee_cmpL2, ee_cmpL3, ee_cmpL4, ee_cmpL5, ee_tru_eb, decide_eq_true_eq, ib_i, ie_b, ie_f, ie_t, ib_l, fin_i, fin_l, fin_v, fin_z, fin_a, fin_n, ee_b_0, ee_fld0, ee_fld1, ee_fld2, ee_fld3, bi_0, bi_1, bi_2, bi_3, bi_4, bi_5, bi_6, bi_7, bi_8, bi_9, bi_10, bl_20, bl_21, bl_22, bl_23, bl_24, bl_25, bl_26, bl_48, bl_49, un_0, un_1, un_2, un_3, if_true, if_false, ite_true, ite_false, Bool.false_eq_true, Bool.not_eq_false, decide_not, Bool.not_not, reduceCtorEq, st_i, st_l, st_r, st_n, ee_noL, ee_noL.eq_1, List.length_cons, List.length_nil, Nat.reduceAdd, Nat.reduceLT, Nat.zero_add, and_true, true_and, and_self, fin_ite, pu_0, pu_1, pu_3, sto_0, el_0, Bool.not_eq_true, decide_eq_false_iff_not, Bool.decide_eq_true, Bool.decide_eq_false, decide_true, decide_false, Bool.not_true, Bool.not_false, Bool.and_self, Bool.and_true, Bool.and_false, Bool.true_and, Bool.false_and, Bool.or_true, Bool.or_false, Bool.true_or, Bool.false_or, if_true, if_false, Bool.false_eq_true]
          rw [ee_wh_eq, tt]
          rfl
        · obtain ⟨w1, s1, g1⟩ := ih d 9 D (i + 1) x _ (by omega) h1 hD _ l l pA (Nat.le_refl _) (fun z => (by cases z)) (fun _ => rfl) (by unfold rkm gmd at hd ⊢; simp at hd ⊢; omega)
          have g1 : ee_run ee_B P d 55 [.ref 225, .ref b, .int (Int32.ofNat D)] (atw w (i + 1)) = some ([.int (ee_b (islp (.inl (e, j))))], w1) := g1
          rw [isl_l] at g1
          obtain ⟨c1, l1, p1, p2, p3, p4⟩ := s1
          dsimp only at p1 p2 p3 p4
          have lt := cseg_lt _ _ _ (Nat.le_refl _) _ _ p3
          have jc := p1.2.2.2.2.1
          have em := r_emit (P := P) (d := d) (by unfold rkm gmd at hd; omega) hb p1.2.2.2.1 (show l1 < 300 by omega) 16 0
          rw [k_0, k_16] at em
          obtain ⟨q1, q2, q3, q4⟩ := PS_em p1 (show l1 + 1 ≤ j by omega) (enc 0 16)
          obtain ⟨w2, s2, g2⟩ := ih d 8 D j (l_bin 16 x e) r (by omega) h2 hD _ (l1 + 1) l0 q1 (by omega) (fun _ => ⟨l, l1, cseg_cg hx1 (fun k k1 k2 => by rw [q4 k (by omega), p4 k k2]; exact atw_k hb w _ k), cseg_cg p3 (fun k k1 k2 => q4 k (by omega)), rfl, q3⟩) (fun z => (by cases z)) hd
          refine ⟨w2, RS_seq (j := j) (l1 := l1 + 1) (chk_trans (atw_c w b (i + 1)) (chk_trans c1 q2)) (by omega) (fun k hk => by rw [q4 k (by omega), p4 k (by omega)]; exact atw_k hb w _ k) s2, fun t v ht => ?_⟩
          obtain ⟨t', v', g2⟩ := g2 (t + 1) (v) (by omega)
          refine ⟨t', v', ?_⟩
          have c3 : Int32.ofNat t < 300 := (j_lt (b := 300) (by omega) (by omega)).2 (by omega)
          have tt : ee_turn (ee_ev es_sh es_rf (ee_run ee_B P d) lx_54_1) (ee_evS es_sh es_rf (ee_run ee_B P d) lb_54_1) ([some (.ref 225), some (.ref b), some (.int (Int32.ofNat D)), some (.int (Int32.ofNat t))], w) = some (.inl ([some (.ref 225), some (.ref b), some (.int (Int32.ofNat D)), some (.int (Int32.ofNat (t + 1)))], emw w1 b l1 (enc 0 16))) := by
            have ct : ((tkn f n i).1 = 16) = True := eq_true cc
            simp only [c3, rk, e16, ct, h2', g1, em, Value.category, rd_225, w_opf, j_s, j_a, lx_54_1, lb_54_1, ee_turn, k_0, k_1, k_16, k_300, nz_1, nz_16, nz_300, v_and, v_call, v_cmp, v_cons, v_int, v_loc, v_nil, v_not, v_z, w_exp0, w_exp1, w_if, w_inc, w_opf, w_ret, w_seq, w_set, List.getElem?_cons_zero, List.getElem?_cons_succ, List.set_cons_zero, List.set_cons_succ, ee_cmp0, ee_cmp1, ee_cmp2, ee_cmp3, ee_cmp4, ee_cmp5, ee_cmpL0, ee_cmpL1, ee_cmpL2, ee_cmpL3, ee_cmpL4, ee_cmpL5, ee_tru_eb, decide_eq_true_eq, ib_i, ie_b, ie_f, ie_t, ib_l, fin_i, fin_l, fin_v, fin_z, fin_a, fin_n, ee_b_0, ee_fld0, ee_fld1, ee_fld2, ee_fld3, bi_0, bi_1, bi_2, bi_3, bi_4, bi_5, bi_6, bi_7, bi_8, bi_9, bi_10, bl_20, bl_21, bl_22, bl_23, bl_24, bl_25, bl_26, bl_48, bl_49, un_0, un_1, un_2, un_3, if_true, if_false, ite_true, ite_false, Bool.false_eq_true, Bool.not_eq_false, decide_not, Bool.not_not, reduceCtorEq, st_i, st_l, st_r, st_n, ee_noL, ee_noL.eq_1, List.length_cons, List.length_nil, Nat.reduceAdd, Nat.reduceLT, Nat.zero_add, and_true, true_and, and_self, fin_ite, pu_0, pu_1, pu_3, sto_0, el_0, Bool.not_eq_true, decide_eq_false_iff_not, Bool.decide_eq_true, Bool.decide_eq_false, decide_true, decide_false, Bool.not_true, Bool.not_false, Bool.and_self, Bool.and_true, Bool.and_false, Bool.true_and, Bool.false_and, Bool.or_true, Bool.or_false, Bool.true_or, Bool.false_or, if_true, if_false, Bool.false_eq_true]
          rw [ee_wh_eq, tt]
          exact g2
      · rw [if_neg cc] at h
        cases h
        refine ⟨w, ⟨chk_refl _ _, l, hP, by show l + i ≤ i + l; omega, hx1, fun _ _ => rfl⟩, fun t v ht => ⟨t, v, ?_⟩⟩
        have tt : ee_turn (ee_ev es_sh es_rf (ee_run ee_B P d) lx_54_1) (ee_evS es_sh es_rf (ee_run ee_B P d) lb_54_1) ([some (.ref 225), some (.ref b), some (.int (Int32.ofNat D)), some (.int (Int32.ofNat t))], w) = some (.inr (.inl ([some (.ref 225), some (.ref b), some (.int (Int32.ofNat D)), some (.int (Int32.ofNat t))], w))) := by
          have n16 : ¬ (tkn f n i).1 = 16 := fun z => cc z
          by_cases c3 : Int32.ofNat t < 300
          · simp only [c3, rk, e16, n16, lx_54_1, lb_54_1, ee_turn, k_0, k_1, k_16, k_300, nz_1, nz_16, nz_300, v_and, v_call, v_cmp, v_cons, v_int, v_loc, v_nil, v_not, v_z, w_exp0, w_exp1, w_if, w_inc, w_opf, w_ret, w_seq, w_set, List.getElem?_cons_zero, List.getElem?_cons_succ, List.set_cons_zero, List.set_cons_succ, ee_cmp0, ee_cmp1, ee_cmp2, ee_cmp3, ee_cmp4, ee_cmp5, ee_cmpL0, ee_cmpL1, ee_cmpL2, ee_cmpL3, ee_cmpL4, ee_cmpL5, ee_tru_eb, decide_eq_true_eq, ib_i, ie_b, ie_f, ie_t, ib_l, fin_i, fin_l, fin_v, fin_z, fin_a, fin_n, ee_b_0, ee_fld0, ee_fld1, ee_fld2, ee_fld3, bi_0, bi_1, bi_2, bi_3, bi_4, bi_5, bi_6, bi_7, bi_8, bi_9, bi_10, bl_20, bl_21, bl_22, bl_23, bl_24, bl_25, bl_26, bl_48, bl_49, un_0, un_1, un_2, un_3, if_true, if_false, ite_true, ite_false, Bool.false_eq_true, Bool.not_eq_false, decide_not, Bool.not_not, reduceCtorEq, st_i, st_l, st_r, st_n, ee_noL, ee_noL.eq_1, List.length_cons, List.length_nil, Nat.reduceAdd, Nat.reduceLT, Nat.zero_add, and_true, true_and, and_self, fin_ite, pu_0, pu_1, pu_3, sto_0, el_0, Bool.not_eq_true, decide_eq_false_iff_not, Bool.decide_eq_true, Bool.decide_eq_false, decide_true, decide_false, Bool.not_true, Bool.not_false, Bool.and_self, Bool.and_true, Bool.and_false, Bool.true_and, Bool.false_and, Bool.or_true, Bool.or_false, Bool.true_or, Bool.false_or, if_true, if_false, Bool.false_eq_true]
          · simp only [c3, lx_54_1, lb_54_1, ee_turn, k_0, k_1, k_16, k_300, nz_1, nz_16, nz_300, v_and, v_call, v_cmp, v_cons, v_int, v_loc, v_nil, v_not, v_z, w_exp0, w_exp1, w_if, w_inc, w_opf, w_ret, w_seq, w_set, List.getElem?_cons_zero, List.getElem?_cons_succ, List.set_cons_zero, List.set_cons_succ, ee_cmp0, ee_cmp1, ee_cmp2, ee_cmp3, ee_cmp4, ee_cmp5, ee_cmpL0, ee_cmpL1, ee_cmpL2, ee_cmpL3, ee_cmpL4, ee_cmpL5, ee_tru_eb, decide_eq_true_eq, ib_i, ie_b, ie_f, ie_t, ib_l, fin_i, fin_l, fin_v, fin_z, fin_a, fin_n, ee_b_0, ee_fld0, ee_fld1, ee_fld2, ee_fld3, bi_0, bi_1, bi_2, bi_3, bi_4, bi_5, bi_6, bi_7, bi_8, bi_9, bi_10, bl_20, bl_21, bl_22, bl_23, bl_24, bl_25, bl_26, bl_48, bl_49, un_0, un_1, un_2, un_3, if_true, if_false, ite_true, ite_false, Bool.false_eq_true, Bool.not_eq_false, decide_not, Bool.not_not, reduceCtorEq, st_i, st_l, st_r, st_n, ee_noL, ee_noL.eq_1, List.length_cons, List.length_nil, Nat.reduceAdd, Nat.reduceLT, Nat.zero_add, and_true, true_and, and_self, fin_ite, pu_0, pu_1, pu_3, sto_0, el_0, Bool.not_eq_true, decide_eq_false_iff_not, Bool.decide_eq_true, Bool.decide_eq_false, decide_true, decide_false, Bool.not_true, Bool.not_false, Bool.and_self, Bool.and_true, Bool.and_false, Bool.true_and, Bool.false_and, Bool.or_true, Bool.or_false, Bool.true_or, Bool.false_or, if_true, if_false, Bool.false_eq_true]
        rw [ee_wh_eq, tt]
        rfl
    · have e0 := hx0 rfl
      subst e0
      obtain ⟨d, rfl⟩ : ∃ k, d = k + 1 := ⟨d - 1, by unfold rkm gmd at hd; omega⟩
      have hd3 : 3 ≤ d := by unfold rkm gmd at hd; omega
      have hd1 : 1 ≤ d := by omega
      have hd2 : 2 ≤ d := by omega
      have rk := r_kind (P := P) hd2 hP
      have x0 := hb.2.2.1
      have eD : Int32.ofNat D + 1 = Int32.ofNat (D + 1) := j_s D
      have e15 : (Int32.ofNat (tkn f n i).1 = 15) = ((tkn f n i).1 = 15) := kq (m := 15) (by omega) (by omega)
      rw [pp_9] at h
      by_cases c1 : (tkn f n i).1 = 15
      · have c1t : ((tkn f n i).1 = 15) = True := eq_true c1
        rw [if_pos c1] at h
        have ro := r_open (P := P) hd3 hP hD
        by_cases v : 8 ≤ D
        · rw [if_pos v] at h ro
          cases h
          refine ⟨_, RS_bad rfl, ?_⟩
          show ee_run ee_B P (d + 1) 55 [.ref 225, .ref b, .int (Int32.ofNat D)] w = some ([.int (ee_b (islp (.inr _)))], _)
          rw [isl_r, rn_55 rd_225]
          simp only [rk, e15, c1t, ro, bd_55, k_0, k_1, k_15, k_25, k_30, nz_1, nz_15, nz_25, nz_30, v_bin, v_call, v_cmp, v_cons, v_int, v_loc, v_nil, v_not, v_or, v_z, w_exp0, w_exp1, w_if, w_opf, w_ret, w_seq, w_set, List.getElem?_cons_zero, List.getElem?_cons_succ, List.set_cons_zero, List.set_cons_succ, ee_cmp0, ee_cmp1, ee_cmp2, ee_cmp3, ee_cmp4, ee_cmp5, ee_cmpL0, ee_cmpL1, ee_cmpL2, ee_cmpL3, ee_cmpL4, ee_cmpL5, ee_tru_eb, decide_eq_true_eq, ib_i, ie_b, ie_f, ie_t, ib_l, fin_i, fin_l, fin_v, fin_z, fin_a, fin_n, ee_b_0, ee_fld0, ee_fld1, ee_fld2, ee_fld3, bi_0, bi_1, bi_2, bi_3, bi_4, bi_5, bi_6, bi_7, bi_8, bi_9, bi_10, bl_20, bl_21, bl_22, bl_23, bl_24, bl_25, bl_26, bl_48, bl_49, un_0, un_1, un_2, un_3, if_true, if_false, ite_true, ite_false, Bool.false_eq_true, Bool.not_eq_false, decide_not, Bool.not_not, reduceCtorEq, st_i, st_l, st_r, st_n, ee_noL, ee_noL.eq_1, List.length_cons, List.length_nil, Nat.reduceAdd, Nat.reduceLT, Nat.zero_add, and_true, true_and, and_self, fin_ite, pu_0, pu_1, pu_3, sto_0, el_0, Bool.not_eq_true, decide_eq_false_iff_not, Bool.decide_eq_true, Bool.decide_eq_false, decide_true, decide_false, Bool.not_true, Bool.not_false, Bool.and_self, Bool.and_true, Bool.and_false, Bool.true_and, Bool.false_and, Bool.or_true, Bool.or_false, Bool.true_or, Bool.false_or, if_true, if_false, Bool.false_eq_true]
          rfl
        · rw [if_neg v] at h ro
          have n39 : (tkn f n i).1 ≠ 39 := by omega
          have i1 := ps_n9 hP n39
          have pA := PS_at hP n39
          rcases pb_cases h with ⟨y, h1, rfl⟩ | ⟨e, j, h1, h2⟩
          · obtain ⟨w1, s1, g1⟩ := ih d 9 (D + 1) (i + 1) x _ (by omega) h1 (by omega) _ l0 l0 pA (Nat.le_refl _) (fun z => (by cases z)) (fun _ => rfl) (by unfold rkm gmd at hd ⊢; simp at hd ⊢; omega)
            have g1 : ee_run ee_B P d 55 [.ref 225, .ref b, .int (Int32.ofNat (D + 1))] (atw w (i + 1)) = some ([.int (ee_b (islp (.inr y)))], w1) := g1
            rw [isl_r] at g1
            refine ⟨w1, RS_inr (RS_seq (i := i) (l := l0) (l0 := 0) (j := i + 1) (l1 := l0) (atw_c w b (i + 1)) (by omega) (fun k hk => by omega) (RS_inr (l1 := 0) s1)), ?_⟩
            show ee_run ee_B P (d + 1) 55 [.ref 225, .ref b, .int (Int32.ofNat D)] w = some ([.int (ee_b (islp (.inr y)))], w1)
            rw [isl_r, rn_55 rd_225]
            simp only [rk, e15, c1t, ro, eD, g1, bd_55, k_0, k_1, k_15, k_25, k_30, nz_1, nz_15, nz_25, nz_30, v_bin, v_call, v_cmp, v_cons, v_int, v_loc, v_nil, v_not, v_or, v_z, w_exp0, w_exp1, w_if, w_opf, w_ret, w_seq, w_set, List.getElem?_cons_zero, List.getElem?_cons_succ, List.set_cons_zero, List.set_cons_succ, ee_cmp0, ee_cmp1, ee_cmp2, ee_cmp3, ee_cmp4, ee_cmp5, ee_cmpL0, ee_cmpL1, ee_cmpL2, ee_cmpL3, ee_cmpL4, ee_cmpL5, ee_tru_eb, decide_eq_true_eq, ib_i, ie_b, ie_f, ie_t, ib_l, fin_i, fin_l, fin_v, fin_z, fin_a, fin_n, ee_b_0, ee_fld0, ee_fld1, ee_fld2, ee_fld3, bi_0, bi_1, bi_2, bi_3, bi_4, bi_5, bi_6, bi_7, bi_8, bi_9, bi_10, bl_20, bl_21, bl_22, bl_23, bl_24, bl_25, bl_26, bl_48, bl_49, un_0, un_1, un_2, un_3, if_true, if_false, ite_true, ite_false, Bool.false_eq_true, Bool.not_eq_false, decide_not, Bool.not_not, reduceCtorEq, st_i, st_l, st_r, st_n, ee_noL, ee_noL.eq_1, List.length_cons, List.length_nil, Nat.reduceAdd, Nat.reduceLT, Nat.zero_add, and_true, true_and, and_self, fin_ite, pu_0, pu_1, pu_3, sto_0, el_0, Bool.not_eq_true, decide_eq_false_iff_not, Bool.decide_eq_true, Bool.decide_eq_false, decide_true, decide_false, Bool.not_true, Bool.not_false, Bool.and_self, Bool.and_true, Bool.and_false, Bool.true_and, Bool.false_and, Bool.or_true, Bool.or_false, Bool.true_or, Bool.false_or, if_true, if_false, Bool.false_eq_true]
            rfl
          · obtain ⟨w1, s1, g1⟩ := ih d 9 (D + 1) (i + 1) x _ (by omega) h1 (by omega) _ l0 l0 pA (Nat.le_refl _) (fun z => (by cases z)) (fun _ => rfl) (by unfold rkm gmd at hd ⊢; simp at hd ⊢; omega)
            have g1 : ee_run ee_B P d 55 [.ref 225, .ref b, .int (Int32.ofNat (D + 1))] (atw w (i + 1)) = some ([.int (ee_b (islp (.inl (e, j))))], w1) := g1
            rw [isl_l] at g1
            obtain ⟨cc1, l1, p1, p2, p3, p4⟩ := s1
            dsimp only at p1 p2 p3 p4
            have lt := cseg_lt _ _ _ (Nat.le_refl _) _ _ p3
            have jc := p1.2.2.2.2.1
            have h2 : some (.inl (l_un 15 e, j)) = some r := h2
            cases h2
            have em := r_emit (P := P) hd2 hb p1.2.2.2.1 (show l1 < 300 by omega) 15 0
            rw [k_0, k_15] at em
            obtain ⟨q1, q2, q3, q4⟩ := PS_em p1 (show l1 + 1 ≤ j by omega) (enc 0 15)
            refine ⟨_, ⟨chk_trans (atw_c w b (i + 1)) (chk_trans cc1 q2), l1 + 1, q1, by show l1 + 1 + i ≤ j + l0; omega, ⟨l1, cseg_cg p3 (fun k _ k2 => q4 k (by omega)), rfl, q3⟩, fun k hk => by rw [q4 k (by omega), p4 k hk]; exact atw_k hb w _ k⟩, ?_⟩
            show ee_run ee_B P (d + 1) 55 [.ref 225, .ref b, .int (Int32.ofNat D)] w = some ([.int (ee_b (islp (.inl _)))], _)
            rw [isl_l, rn_55 rd_225]
            simp only [rk, e15, c1t, ro, eD, g1, em, Value.category, bd_55, k_0, k_1, k_15, k_25, k_30, nz_1, nz_15, nz_25, nz_30, v_bin, v_call, v_cmp, v_cons, v_int, v_loc, v_nil, v_not, v_or, v_z, w_exp0, w_exp1, w_if, w_opf, w_ret, w_seq, w_set, List.getElem?_cons_zero, List.getElem?_cons_succ, List.set_cons_zero, List.set_cons_succ, ee_cmp0, ee_cmp1, ee_cmp2, ee_cmp3, ee_cmp4, ee_cmp5, ee_cmpL0, ee_cmpL1, ee_cmpL2, ee_cmpL3, ee_cmpL4, ee_cmpL5, ee_tru_eb, decide_eq_true_eq, ib_i, ie_b, ie_f, ie_t, ib_l, fin_i, fin_l, fin_v, fin_z, fin_a, fin_n, ee_b_0, ee_fld0, ee_fld1, ee_fld2, ee_fld3, bi_0, bi_1, bi_2, bi_3, bi_4, bi_5, bi_6, bi_7, bi_8, bi_9, bi_10, bl_20, bl_21, bl_22, bl_23, bl_24, bl_25, bl_26, bl_48, bl_49, un_0, un_1, un_2, un_3, if_true, if_false, ite_true, ite_false, Bool.false_eq_true, Bool.not_eq_false, decide_not, Bool.not_not, reduceCtorEq, st_i, st_l, st_r, st_n, ee_noL, ee_noL.eq_1, List.length_cons, List.length_nil, Nat.reduceAdd, Nat.reduceLT, Nat.zero_add, and_true, true_and, and_self, fin_ite, pu_0, pu_1, pu_3, sto_0, el_0, Bool.not_eq_true, decide_eq_false_iff_not, Bool.decide_eq_true, Bool.decide_eq_false, decide_true, decide_false, Bool.not_true, Bool.not_false, Bool.and_self, Bool.and_true, Bool.and_false, Bool.true_and, Bool.false_and, Bool.or_true, Bool.or_false, Bool.true_or, Bool.false_or, if_true, if_false, Bool.false_eq_true]
            rfl
      rw [if_neg c1] at h
      rcases pb_cases h with ⟨y, h1, rfl⟩ | ⟨e, j, h1, h2⟩
      · obtain ⟨w1, s1, g1⟩ := ih d 0 D i x _ (by omega) h1 hD _ l0 l0 hP (Nat.le_refl _) (fun z => (by cases z)) (fun _ => rfl) (by unfold rkm gmd at hd ⊢; simp at hd ⊢; omega)
        have g1 : ee_run ee_B P d 44 [.ref 225, .ref b, .int (Int32.ofNat D)] w = some ([.int (ee_b (islp (.inr y)))], w1) := g1
        rw [isl_r] at g1
        refine ⟨w1, s1, ?_⟩
        show ee_run ee_B P (d + 1) 55 [.ref 225, .ref b, .int (Int32.ofNat D)] w = some ([.int (ee_b (islp (.inr y)))], w1)
        rw [isl_r, rn_55 rd_225]
        simp only [rk, e15, c1, g1, bd_55, k_0, k_1, k_15, k_25, k_30, nz_1, nz_15, nz_25, nz_30, v_bin, v_call, v_cmp, v_cons, v_int, v_loc, v_nil, v_not, v_or, v_z, w_exp0, w_exp1, w_if, w_opf, w_ret, w_seq, w_set, List.getElem?_cons_zero, List.getElem?_cons_succ, List.set_cons_zero, List.set_cons_succ, ee_cmp0, ee_cmp1, ee_cmp2, ee_cmp3, ee_cmp4, ee_cmp5, ee_cmpL0, ee_cmpL1, ee_cmpL2, ee_cmpL3, ee_cmpL4, ee_cmpL5, ee_tru_eb, decide_eq_true_eq, ib_i, ie_b, ie_f, ie_t, ib_l, fin_i, fin_l, fin_v, fin_z, fin_a, fin_n, ee_b_0, ee_fld0, ee_fld1, ee_fld2, ee_fld3, bi_0, bi_1, bi_2, bi_3, bi_4, bi_5, bi_6, bi_7, bi_8, bi_9, bi_10, bl_20, bl_21, bl_22, bl_23, bl_24, bl_25, bl_26, bl_48, bl_49, un_0, un_1, un_2, un_3, if_true, if_false, ite_true, ite_false, Bool.false_eq_true, Bool.not_eq_false, decide_not, Bool.not_not, reduceCtorEq, st_i, st_l, st_r, st_n, ee_noL, ee_noL.eq_1, List.length_cons, List.length_nil, Nat.reduceAdd, Nat.reduceLT, Nat.zero_add, and_true, true_and, and_self, fin_ite, pu_0, pu_1, pu_3, sto_0, el_0, Bool.not_eq_true, decide_eq_false_iff_not, Bool.decide_eq_true, Bool.decide_eq_false, decide_true, decide_false, Bool.not_true, Bool.not_false, Bool.and_self, Bool.and_true, Bool.and_false, Bool.true_and, Bool.false_and, Bool.or_true, Bool.or_false, Bool.true_or, Bool.false_or, if_true, if_false, Bool.false_eq_true]
        rfl
      · obtain ⟨w1, s1, g1⟩ := ih d 0 D i x _ (by omega) h1 hD _ l0 l0 hP (Nat.le_refl _) (fun z => (by cases z)) (fun _ => rfl) (by unfold rkm gmd at hd ⊢; simp at hd ⊢; omega)
        have g1 : ee_run ee_B P d 44 [.ref 225, .ref b, .int (Int32.ofNat D)] w = some ([.int (ee_b (islp (.inl (e, j))))], w1) := g1
        rw [isl_l] at g1
        obtain ⟨cc1, l1, p1, p2, p3, p4⟩ := s1
        dsimp only at p1 p2 p3 p4
        have lt := cseg_lt _ _ _ (Nat.le_refl _) _ _ p3
        have rk1 := r_kind (P := P) hd2 p1
        have kb1 := (tkn_b f n j).1
        have h21 := p1.2.1
        by_cases u : 25 ≤ (tkn f n j).1 ∧ (tkn f n j).1 ≤ 30
        · have h2 : ppb (pp (fun i => (tkn f n i).1) (fun i => (tkn f n i).2.1) law F 0 D (j + 1) x) (fun e2 k => some (.inl (l_bin (tkn f n j).1 e e2, k))) = some r := by rw [if_pos u] at h2; exact h2
          have q : (decide ((25 : Int32) ≤ Int32.ofNat (tkn f n j).1) && decide (Int32.ofNat (tkn f n j).1 ≤ 30)) = true := by
            rw [decide_eq_true (show (25 : Int32) ≤ Int32.ofNat (tkn f n j).1 from (j_le (a := 25) (by omega) (by omega)).2 u.1), decide_eq_true (show Int32.ofNat (tkn f n j).1 ≤ (30 : Int32) from (j_le (b := 30) (by omega) (by omega)).2 u.2)]; rfl
          have n39 : (tkn f n j).1 ≠ 39 := by omega
          have pB := PS_at p1 n39
          rcases pb_cases h2 with ⟨y, h3, rfl⟩ | ⟨e2, k2, h3, h4⟩
          · obtain ⟨w2, s2, g2⟩ := ih d 0 D (j + 1) x _ (by omega) h3 hD _ l1 l1 pB (Nat.le_refl _) (fun z => (by cases z)) (fun _ => rfl) (by unfold rkm gmd at hd ⊢; simp at hd ⊢; omega)
            have g2 : ee_run ee_B P d 44 [.ref 225, .ref b, .int (Int32.ofNat D)] (atw w1 (j + 1)) = some ([.int (ee_b (islp (.inr y)))], w2) := g2
            rw [isl_r] at g2
            refine ⟨w2, RS_inr (RS_seq (i := i) (l := l0) (l0 := 0) (chk_trans cc1 (atw_c w1 b (j + 1))) (show l1 + i ≤ j + 1 + l0 by omega) (fun k hk => by omega) (RS_inr (l1 := 0) s2)), ?_⟩
            show ee_run ee_B P (d + 1) 55 [.ref 225, .ref b, .int (Int32.ofNat D)] w = some ([.int (ee_b (islp (.inr y)))], w2)
            rw [isl_r, rn_55 rd_225]
            simp only [rk, e15, c1, g1, rk1, r_within hd1, q, h21, g2, rd_225, w_opf, j_s, j_a, bd_55, k_0, k_1, k_15, k_25, k_30, nz_1, nz_15, nz_25, nz_30, v_bin, v_call, v_cmp, v_cons, v_int, v_loc, v_nil, v_not, v_or, v_z, w_exp0, w_exp1, w_if, w_opf, w_ret, w_seq, w_set, List.getElem?_cons_zero, List.getElem?_cons_succ, List.set_cons_zero, List.set_cons_succ, ee_cmp0, ee_cmp1, ee_cmp2, ee_cmp3, ee_cmp4, ee_cmp5, ee_cmpL0, ee_cmpL1, ee_cmpL2, ee_cmpL3, ee_cmpL4, ee_cmpL5, ee_tru_eb, decide_eq_true_eq, ib_i, ie_b, ie_f, ie_t, ib_l, fin_i, fin_l, fin_v, fin_z, fin_a, fin_n, ee_b_0, ee_fld0, ee_fld1, ee_fld2, ee_fld3, bi_0, bi_1, bi_2, bi_3, bi_4, bi_5, bi_6, bi_7, bi_8, bi_9, bi_10, bl_20, bl_21, bl_22, bl_23, bl_24, bl_25, bl_26, bl_48, bl_49, un_0, un_1, un_2, un_3, if_true, if_false, ite_true, ite_false, Bool.false_eq_true, Bool.not_eq_false, decide_not, Bool.not_not, reduceCtorEq, st_i, st_l, st_r, st_n, ee_noL, ee_noL.eq_1, List.length_cons, List.length_nil, Nat.reduceAdd, Nat.reduceLT, Nat.zero_add, and_true, true_and, and_self, fin_ite, pu_0, pu_1, pu_3, sto_0, el_0, Bool.not_eq_true, decide_eq_false_iff_not, Bool.decide_eq_true, Bool.decide_eq_false, decide_true, decide_false, Bool.not_true, Bool.not_false, Bool.and_self, Bool.and_true, Bool.and_false, Bool.true_and, Bool.false_and, Bool.or_true, Bool.or_false, Bool.true_or, Bool.false_or, if_true, if_false, Bool.false_eq_true]
            rfl
          · obtain ⟨w2, s2, g2⟩ := ih d 0 D (j + 1) x _ (by omega) h3 hD _ l1 l1 pB (Nat.le_refl _) (fun z => (by cases z)) (fun _ => rfl) (by unfold rkm gmd at hd ⊢; simp at hd ⊢; omega)
            have g2 : ee_run ee_B P d 44 [.ref 225, .ref b, .int (Int32.ofNat D)] (atw w1 (j + 1)) = some ([.int (ee_b (islp (.inl (e2, k2))))], w2) := g2
            rw [isl_l] at g2
            obtain ⟨cc2, l2, r1, r2, r3, r4⟩ := s2
            dsimp only at r1 r2 r3 r4
            have lt2 := cseg_lt _ _ _ (Nat.le_refl _) _ _ r3
            have jc := r1.2.2.2.2.1
            have h4 : some (.inl (l_bin (tkn f n j).1 e e2, k2)) = some r := h4
            cases h4
            have em := r_emit (P := P) hd2 hb r1.2.2.2.1 (show l2 < 300 by omega) (tkn f n j).1 0
            rw [k_0] at em
            obtain ⟨q1, q2, q3, q4⟩ := PS_em r1 (show l2 + 1 ≤ k2 by omega) (enc 0 (tkn f n j).1)
            refine ⟨_, ⟨chk_trans cc1 (chk_trans (atw_c w1 b (j + 1)) (chk_trans cc2 q2)), l2 + 1, q1, by show l2 + 1 + i ≤ k2 + l0; omega, ⟨l1, l2, cseg_cg p3 (fun k _ k3 => by rw [q4 k (by omega), r4 k k3]; exact atw_k hb w1 _ k), cseg_cg r3 (fun k _ k3 => q4 k (by omega)), rfl, q3⟩, fun k hk => by rw [q4 k (by omega), r4 k (by omega), atw_k hb]; exact p4 k hk⟩, ?_⟩
            show ee_run ee_B P (d + 1) 55 [.ref 225, .ref b, .int (Int32.ofNat D)] w = some ([.int (ee_b (islp (.inl _)))], _)
            rw [isl_l, rn_55 rd_225]
            simp only [rk, e15, c1, g1, rk1, r_within hd1, q, h21, g2, em, Value.category, rd_225, w_opf, j_s, j_a, bd_55, k_0, k_1, k_15, k_25, k_30, nz_1, nz_15, nz_25, nz_30, v_bin, v_call, v_cmp, v_cons, v_int, v_loc, v_nil, v_not, v_or, v_z, w_exp0, w_exp1, w_if, w_opf, w_ret, w_seq, w_set, List.getElem?_cons_zero, List.getElem?_cons_succ, List.set_cons_zero, List.set_cons_succ, ee_cmp0, ee_cmp1, ee_cmp2, ee_cmp3, ee_cmp4, ee_cmp5, ee_cmpL0, ee_cmpL1, ee_cmpL2, ee_cmpL3, ee_cmpL4, ee_cmpL5, ee_tru_eb, decide_eq_true_eq, ib_i, ie_b, ie_f, ie_t, ib_l, fin_i, fin_l, fin_v, fin_z, fin_a, fin_n, ee_b_0, ee_fld0, ee_fld1, ee_fld2, ee_fld3, bi_0, bi_1, bi_2, bi_3, bi_4, bi_5, bi_6, bi_7, bi_8, bi_9, bi_10, bl_20, bl_21, bl_22, bl_23, bl_24, bl_25, bl_26, bl_48, bl_49, un_0, un_1, un_2, un_3, if_true, if_false, ite_true, ite_false, Bool.false_eq_true, Bool.not_eq_false, decide_not, Bool.not_not, reduceCtorEq, st_i, st_l, st_r, st_n, ee_noL, ee_noL.eq_1, List.length_cons, List.length_nil, Nat.reduceAdd, Nat.reduceLT, Nat.zero_add, and_true, true_and, and_self, fin_ite, pu_0, pu_1, pu_3, sto_0, el_0, Bool.not_eq_true, decide_eq_false_iff_not, Bool.decide_eq_true, Bool.decide_eq_false, decide_true, decide_false, Bool.not_true, Bool.not_false, Bool.and_self, Bool.and_true, Bool.and_false, Bool.true_and, Bool.false_and, Bool.or_true, Bool.or_false, Bool.true_or, Bool.false_or, if_true, if_false, Bool.false_eq_true]
            rfl
        · have h2 : some (.inr (1, j)) = some r := by rw [if_neg u] at h2; exact h2
          cases h2
          have q : (decide ((25 : Int32) ≤ Int32.ofNat (tkn f n j).1) && decide (Int32.ofNat (tkn f n j).1 ≤ 30)) = false := by
            refine bf (fun z => u ?_)
            rw [Bool.and_eq_true, decide_eq_true_eq, decide_eq_true_eq] at z
            exact ⟨(j_le (a := 25) (by omega) (by omega)).1 z.1, (j_le (b := 30) (by omega) (by omega)).1 z.2⟩
          have rr := r_refuse (P := P) hd2 p1 1
          rw [k_1] at rr
          refine ⟨_, RS_seq (l0 := l0) cc1 p2 (fun k hk => p4 k hk) (RS_bad rfl), ?_⟩
          show ee_run ee_B P (d + 1) 55 [.ref 225, .ref b, .int (Int32.ofNat D)] w = some ([.int (ee_b (islp (.inr _)))], _)
          rw [isl_r, rn_55 rd_225]
          simp only [rk, e15, c1, g1, rk1, r_within hd1, q, rr, bd_55, k_0, k_1, k_15, k_25, k_30, nz_1, nz_15, nz_25, nz_30, v_bin, v_call, v_cmp, v_cons, v_int, v_loc, v_nil, v_not, v_or, v_z, w_exp0, w_exp1, w_if, w_opf, w_ret, w_seq, w_set, List.getElem?_cons_zero, List.getElem?_cons_succ, List.set_cons_zero, List.set_cons_succ, ee_cmp0, ee_cmp1, ee_cmp2, ee_cmp3, ee_cmp4, ee_cmp5, ee_cmpL0, ee_cmpL1, ee_cmpL2, ee_cmpL3, ee_cmpL4, ee_cmpL5, ee_tru_eb, decide_eq_true_eq, ib_i, ie_b, ie_f, ie_t, ib_l, fin_i, fin_l, fin_v, fin_z, fin_a, fin_n, ee_b_0, ee_fld0, ee_fld1, ee_fld2, ee_fld3, bi_0, bi_1, bi_2, bi_3, bi_4, bi_5, bi_6, bi_7, bi_8, bi_9, bi_10, bl_20, bl_21, bl_22, bl_23, bl_24, bl_25, bl_26, bl_48, bl_49, un_0, un_1, un_2, un_3, if_true, if_false, ite_true, ite_false, Bool.false_eq_true, Bool.not_eq_false, decide_not, Bool.not_not, reduceCtorEq, st_i, st_l, st_r, st_n, ee_noL, ee_noL.eq_1, List.length_cons, List.length_nil, Nat.reduceAdd, Nat.reduceLT, Nat.zero_add, and_true, true_and, and_self, fin_ite, pu_0, pu_1, pu_3, sto_0, el_0, Bool.not_eq_true, decide_eq_false_iff_not, Bool.decide_eq_true, Bool.decide_eq_false, decide_true, decide_false, Bool.not_true, Bool.not_false, Bool.and_self, Bool.and_true, Bool.and_false, Bool.true_and, Bool.false_and, Bool.or_true, Bool.or_false, Bool.true_or, Bool.false_or, if_true, if_false, Bool.false_eq_true]
          rfl
    · have e0 := hx0 rfl
      subst e0
      obtain ⟨d, rfl⟩ : ∃ k, d = k + 1 := ⟨d - 1, by unfold rkm gmd at hd; omega⟩
      have hd3 : 3 ≤ d := by unfold rkm gmd at hd; omega
      have hd2 : 2 ≤ d := by omega
      have x0 := hb.2.2.1
      rw [pp_10] at h
      rcases pb_cases h with ⟨y, h1, rfl⟩ | ⟨ec, j, h1, h2⟩
      · obtain ⟨w1, s1, g1⟩ := ih d 5 D i x _ (by omega) h1 hD _ l0 l0 hP (Nat.le_refl _) (fun z => (by cases z)) (fun _ => rfl) (by unfold rkm gmd at hd ⊢; simp at hd ⊢; omega)
        have g1 : ee_run ee_B P d 53 [.ref 225, .ref b, .int (Int32.ofNat D)] w = some ([.int (ee_b (islp (.inr y)))], w1) := g1
        rw [isl_r] at g1
        refine ⟨w1, s1, ?_⟩
        show ee_run ee_B P (d + 1) 52 [.ref 225, .ref b, .int (Int32.ofNat D)] w = some ([.int (ee_b (islp (.inr y)))], w1)
        rw [isl_r, rn_52 rd_225]
        simp only [g1, bd_52, k_0, k_1, k_12, k_13, k_14, nz_1, nz_12, nz_13, nz_14, v_call, v_cons, v_int, v_loc, v_nil, v_not, v_or, v_z, w_exp0, w_exp1, w_if, w_ret, w_seq, w_set, List.getElem?_cons_zero, List.getElem?_cons_succ, List.set_cons_zero, List.set_cons_succ, ee_cmp0, ee_cmp1, ee_cmp2, ee_cmp3, ee_cmp4, ee_cmp5, ee_cmpL0, ee_cmpL1, ee_cmpL2, ee_cmpL3, ee_cmpL4, ee_cmpL5, ee_tru_eb, decide_eq_true_eq, ib_i, ie_b, ie_f, ie_t, ib_l, fin_i, fin_l, fin_v, fin_z, fin_a, fin_n, ee_b_0, ee_fld0, ee_fld1, ee_fld2, ee_fld3, bi_0, bi_1, bi_2, bi_3, bi_4, bi_5, bi_6, bi_7, bi_8, bi_9, bi_10, bl_20, bl_21, bl_22, bl_23, bl_24, bl_25, bl_26, bl_48, bl_49, un_0, un_1, un_2, un_3, if_true, if_false, ite_true, ite_false, Bool.false_eq_true, Bool.not_eq_false, decide_not, Bool.not_not, reduceCtorEq, st_i, st_l, st_r, st_n, ee_noL, ee_noL.eq_1, List.length_cons, List.length_nil, Nat.reduceAdd, Nat.reduceLT, Nat.zero_add, and_true, true_and, and_self, fin_ite, pu_0, pu_1, pu_3, sto_0, el_0, Bool.not_eq_true, decide_eq_false_iff_not, Bool.decide_eq_true, Bool.decide_eq_false, decide_true, decide_false, Bool.not_true, Bool.not_false, Bool.and_self, Bool.and_true, Bool.and_false, Bool.true_and, Bool.false_and, Bool.or_true, Bool.or_false, Bool.true_or, Bool.false_or, if_true, if_false, Bool.false_eq_true]
        rfl
      obtain ⟨w1, s1, g1⟩ := ih d 5 D i x _ (by omega) h1 hD _ l0 l0 hP (Nat.le_refl _) (fun z => (by cases z)) (fun _ => rfl) (by unfold rkm gmd at hd ⊢; simp at hd ⊢; omega)
      have g1 : ee_run ee_B P d 53 [.ref 225, .ref b, .int (Int32.ofNat D)] w = some ([.int (ee_b (islp (.inl (ec, j))))], w1) := g1
      rw [isl_l] at g1
      obtain ⟨cc1, l1, p1, p2, p3, p4⟩ := s1
      dsimp only at p1 p2 p3 p4
      have lt := cseg_lt _ _ _ (Nat.le_refl _) _ _ p3
      have t1 := r_take (P := P) hd3 p1 (k := 12) (by omega) (by omega)
      rw [k_12] at t1
      by_cases u1 : (tkn f n j).1 = 12
      case neg =>
        have h2 : some (.inr (1, j)) = some r := by rw [if_neg u1] at h2; exact h2
        cases h2
        rw [if_neg u1] at t1
        refine ⟨_, RS_seq (l0 := l0) cc1 p2 (fun k hk => p4 k hk) (RS_bad rfl), ?_⟩
        show ee_run ee_B P (d + 1) 52 [.ref 225, .ref b, .int (Int32.ofNat D)] w = some ([.int (ee_b (islp (.inr _)))], _)
        rw [isl_r, rn_52 rd_225]
        simp only [g1, t1, bd_52, k_0, k_1, k_12, k_13, k_14, nz_1, nz_12, nz_13, nz_14, v_call, v_cons, v_int, v_loc, v_nil, v_not, v_or, v_z, w_exp0, w_exp1, w_if, w_ret, w_seq, w_set, List.getElem?_cons_zero, List.getElem?_cons_succ, List.set_cons_zero, List.set_cons_succ, ee_cmp0, ee_cmp1, ee_cmp2, ee_cmp3, ee_cmp4, ee_cmp5, ee_cmpL0, ee_cmpL1, ee_cmpL2, ee_cmpL3, ee_cmpL4, ee_cmpL5, ee_tru_eb, decide_eq_true_eq, ib_i, ie_b, ie_f, ie_t, ib_l, fin_i, fin_l, fin_v, fin_z, fin_a, fin_n, ee_b_0, ee_fld0, ee_fld1, ee_fld2, ee_fld3, bi_0, bi_1, bi_2, bi_3, bi_4, bi_5, bi_6, bi_7, bi_8, bi_9, bi_10, bl_20, bl_21, bl_22, bl_23, bl_24, bl_25, bl_26, bl_48, bl_49, un_0, un_1, un_2, un_3, if_true, if_false, ite_true, ite_false, Bool.false_eq_true, Bool.not_eq_false, decide_not, Bool.not_not, reduceCtorEq, st_i, st_l, st_r, st_n, ee_noL, ee_noL.eq_1, List.length_cons, List.length_nil, Nat.reduceAdd, Nat.reduceLT, Nat.zero_add, and_true, true_and, and_self, fin_ite, pu_0, pu_1, pu_3, sto_0, el_0, Bool.not_eq_true, decide_eq_false_iff_not, Bool.decide_eq_true, Bool.decide_eq_false, decide_true, decide_false, Bool.not_true, Bool.not_false, Bool.and_self, Bool.and_true, Bool.and_false, Bool.true_and, Bool.false_and, Bool.or_true, Bool.or_false, Bool.true_or, Bool.false_or, if_true, if_false, Bool.false_eq_true]
        rfl
      have h2 : ppb (pp (fun i => (tkn f n i).1) (fun i => (tkn f n i).2.1) law F 0 D (j + 1) x) (fun a k => if (tkn f n k).1 = 13 then ppb (pp (fun i => (tkn f n i).1) (fun i => (tkn f n i).2.1) law F 0 D (k + 1) x) (fun b l => if (tkn f n l).1 = 14 then some (.inl (l_if ec a b, l + 1)) else some (.inr (1, l))) else some (.inr (1, k))) = some r := by rw [if_pos u1] at h2; exact h2
      rw [if_pos u1] at t1
      have pA := PS_at p1 (show (tkn f n j).1 ≠ 39 by omega)
      have jc := pA.2.2.2.2.1
      have em1 := r_emit (P := P) hd2 hb pA.2.2.2.1 (show l1 < 300 by omega) 12 0
      rw [k_0, k_12] at em1
      obtain ⟨a1, a2, a3, a4⟩ := PS_em pA (show l1 + 1 ≤ j + 1 by omega) (enc 0 12)
      have a4' : ∀ k, k < l1 → (emw (atw w1 (j + 1)) b l1 (enc 0 12)).1 (b + 4) k = w1.1 (b + 4) k := fun k hk => by rw [a4 k (by omega)]; exact atw_k hb w1 _ k
      rcases pb_cases h2 with ⟨y, h3, rfl⟩ | ⟨ea, j2, h3, h4⟩
      · obtain ⟨w2, s2, g2⟩ := ih d 0 D (j + 1) x _ (by omega) h3 hD _ (l1 + 1) (l1 + 1) a1 (Nat.le_refl _) (fun z => (by cases z)) (fun _ => rfl) (by unfold rkm gmd at hd ⊢; simp at hd ⊢; omega)
        have g2 : ee_run ee_B P d 44 [.ref 225, .ref b, .int (Int32.ofNat D)] (emw (atw w1 (j + 1)) b l1 (enc 0 12)) = some ([.int (ee_b (islp (.inr y)))], w2) := g2
        rw [isl_r] at g2
        refine ⟨w2, RS_inr (RS_seq (i := i) (l := l0) (l0 := 0) (chk_trans cc1 (chk_trans (atw_c w1 b (j + 1)) a2)) (show l1 + 1 + i ≤ j + 1 + l0 by omega) (fun k hk => by omega) (RS_inr (l1 := 0) s2)), ?_⟩
        show ee_run ee_B P (d + 1) 52 [.ref 225, .ref b, .int (Int32.ofNat D)] w = some ([.int (ee_b (islp (.inr y)))], w2)
        rw [isl_r, rn_52 rd_225]
        simp only [g1, t1, em1, g2, bd_52, k_0, k_1, k_12, k_13, k_14, nz_1, nz_12, nz_13, nz_14, v_call, v_cons, v_int, v_loc, v_nil, v_not, v_or, v_z, w_exp0, w_exp1, w_if, w_ret, w_seq, w_set, List.getElem?_cons_zero, List.getElem?_cons_succ, List.set_cons_zero, List.set_cons_succ, ee_cmp0, ee_cmp1, ee_cmp2, ee_cmp3, ee_cmp4, ee_cmp5, ee_cmpL0, ee_cmpL1, ee_cmpL2, ee_cmpL3, ee_cmpL4, ee_cmpL5, ee_tru_eb, decide_eq_true_eq, ib_i, ie_b, ie_f, ie_t, ib_l, fin_i, fin_l, fin_v, fin_z, fin_a, fin_n, ee_b_0, ee_fld0, ee_fld1, ee_fld2, ee_fld3, bi_0, bi_1, bi_2, bi_3, bi_4, bi_5, bi_6, bi_7, bi_8, bi_9, bi_10, bl_20, bl_21, bl_22, bl_23, bl_24, bl_25, bl_26, bl_48, bl_49, un_0, un_1, un_2, un_3, if_true, if_false, ite_true, ite_false, Bool.false_eq_true, Bool.not_eq_false, decide_not, Bool.not_not, reduceCtorEq, st_i, st_l, st_r, st_n, ee_noL, ee_noL.eq_1, List.length_cons, List.length_nil, Nat.reduceAdd, Nat.reduceLT, Nat.zero_add, and_true, true_and, and_self, fin_ite, pu_0, pu_1, pu_3, sto_0, el_0, Bool.not_eq_true, decide_eq_false_iff_not, Bool.decide_eq_true, Bool.decide_eq_false, decide_true, decide_false, Bool.not_true, Bool.not_false, Bool.and_self, Bool.and_true, Bool.and_false, Bool.true_and, Bool.false_and, Bool.or_true, Bool.or_false, Bool.true_or, Bool.false_or, if_true, if_false, Bool.false_eq_true]
        rfl
      obtain ⟨w2, s2, g2⟩ := ih d 0 D (j + 1) x _ (by omega) h3 hD _ (l1 + 1) (l1 + 1) a1 (Nat.le_refl _) (fun z => (by cases z)) (fun _ => rfl) (by unfold rkm gmd at hd ⊢; simp at hd ⊢; omega)
      have g2 : ee_run ee_B P d 44 [.ref 225, .ref b, .int (Int32.ofNat D)] (emw (atw w1 (j + 1)) b l1 (enc 0 12)) = some ([.int (ee_b (islp (.inl (ea, j2))))], w2) := g2
      rw [isl_l] at g2
      obtain ⟨cc2, l2, b1, b2, b3, b4⟩ := s2
      dsimp only at b1 b2 b3 b4
      have lt2 := cseg_lt _ _ _ (Nat.le_refl _) _ _ b3
      have t2 := r_take (P := P) hd3 b1 (k := 13) (by omega) (by omega)
      rw [k_13] at t2
      by_cases u2 : (tkn f n j2).1 = 13
      case neg =>
        have h4 : some (.inr (1, j2)) = some r := by rw [if_neg u2] at h4; exact h4
        cases h4
        rw [if_neg u2] at t2
        refine ⟨_, RS_seq (l0 := l0) (chk_trans cc1 (chk_trans (atw_c w1 b (j + 1)) (chk_trans a2 cc2))) (show l2 + i ≤ j2 + l0 by omega) (fun k hk => by rw [b4 k (by omega), a4' k (by omega)]; exact p4 k hk) (RS_bad rfl), ?_⟩
        show ee_run ee_B P (d + 1) 52 [.ref 225, .ref b, .int (Int32.ofNat D)] w = some ([.int (ee_b (islp (.inr _)))], _)
        rw [isl_r, rn_52 rd_225]
        simp only [g1, t1, em1, g2, t2, bd_52, k_0, k_1, k_12, k_13, k_14, nz_1, nz_12, nz_13, nz_14, v_call, v_cons, v_int, v_loc, v_nil, v_not, v_or, v_z, w_exp0, w_exp1, w_if, w_ret, w_seq, w_set, List.getElem?_cons_zero, List.getElem?_cons_succ, List.set_cons_zero, List.set_cons_succ, ee_cmp0, ee_cmp1, ee_cmp2, ee_cmp3, ee_cmp4, ee_cmp5, ee_cmpL0, ee_cmpL1, ee_cmpL2, ee_cmpL3, ee_cmpL4, ee_cmpL5, ee_tru_eb, decide_eq_true_eq, ib_i, ie_b, ie_f, ie_t, ib_l, fin_i, fin_l, fin_v, fin_z, fin_a, fin_n, ee_b_0, ee_fld0, ee_fld1, ee_fld2, ee_fld3, bi_0, bi_1, bi_2, bi_3, bi_4, bi_5, bi_6, bi_7, bi_8, bi_9, bi_10, bl_20, bl_21, bl_22, bl_23, bl_24, bl_25, bl_26, bl_48, bl_49, un_0, un_1, un_2, un_3, if_true, if_false, ite_true, ite_false, Bool.false_eq_true, Bool.not_eq_false, decide_not, Bool.not_not, reduceCtorEq, st_i, st_l, st_r, st_n, ee_noL, ee_noL.eq_1, List.length_cons, List.length_nil, Nat.reduceAdd, Nat.reduceLT, Nat.zero_add, and_true, true_and, and_self, fin_ite, pu_0, pu_1, pu_3, sto_0, el_0, Bool.not_eq_true, decide_eq_false_iff_not, Bool.decide_eq_true, Bool.decide_eq_false, decide_true, decide_false, Bool.not_true, Bool.not_false, Bool.and_self, Bool.and_true, Bool.and_false, Bool.true_and, Bool.false_and, Bool.or_true, Bool.or_false, Bool.true_or, Bool.false_or, if_true, if_false, Bool.false_eq_true]
        rfl
      have h4 : ppb (pp (fun i => (tkn f n i).1) (fun i => (tkn f n i).2.1) law F 0 D (j2 + 1) x) (fun b l => if (tkn f n l).1 = 14 then some (.inl (l_if ec ea b, l + 1)) else some (.inr (1, l))) = some r := by rw [if_pos u2] at h4; exact h4
      rw [if_pos u2] at t2
      have pB := PS_at b1 (show (tkn f n j2).1 ≠ 39 by omega)
      have jc2 := pB.2.2.2.2.1
      have em2 := r_emit (P := P) hd2 hb pB.2.2.2.1 (show l2 < 300 by omega) 13 0
      rw [k_0, k_13] at em2
      obtain ⟨d1, d2, d3, d4⟩ := PS_em pB (show l2 + 1 ≤ j2 + 1 by omega) (enc 0 13)
      have ld1 := r_lead (P := P) hd2 hb d1.2.2.2.1 (m := l1) (by omega) 12
      rw [k_12] at ld1
      have hb9 := hb
      obtain ⟨bk1, bk2, -⟩ := hb9
      -- the jump over the first sum
      have pC : PS (ee_wI (emw (atw w2 (j2 + 1)) b l2 (enc 0 13)) (b + 4) l1 (enc (l2 + 1) 12)) n f c b law (j2 + 1) (l2 + 1) := by
        obtain ⟨z1, z2, z3, z4, z5, z6, z7⟩ := d1
        refine ⟨TOK_p z7 z1 (chk_I (Or.inr (Or.inr rfl)) (chk_refl _ _)), ?_, ?_, ?_, z5, z6, z7⟩
        · rw [wI_at, if_neg (by omega)]; exact z2
        · rw [wI_at, if_neg (by omega)]; exact z3
        · rw [wI_at, if_neg (by omega)]; exact z4
      generalize hw3 : ee_wI (emw (atw w2 (j2 + 1)) b l2 (enc 0 13)) (b + 4) l1 (enc (l2 + 1) 12) = w3 at *
      have k3 : w3.1 (b + 4) l1 = enc (l2 + 1) 12 ∧ w3.1 (b + 4) l2 = enc 0 13 ∧ (∀ k, k ≠ l1 → k ≠ l2 → w3.1 (b + 4) k = w2.1 (b + 4) k) ∧ chk (ppr b) w2 w3 := by
        rw [← hw3]
        refine ⟨by rw [wI_at, if_pos ⟨rfl, rfl⟩], by rw [wI_at, if_neg (by omega)]; exact d3, fun k q1 q2 => ?_, chk_I (Or.inr (Or.inr rfl)) (chk_trans (atw_c w2 b (j2 + 1)) d2)⟩
        rw [wI_at, if_neg (by omega), d4 k q2]
        exact atw_k hb w2 _ k
      obtain ⟨k31, k32, k33, k34⟩ := k3
      rcases pb_cases h4 with ⟨y, h5, rfl⟩ | ⟨eb, j3, h5, h6⟩
      · obtain ⟨w4, s4, g4⟩ := ih d 0 D (j2 + 1) x _ (by omega) h5 hD _ (l2 + 1) (l2 + 1) pC (Nat.le_refl _) (fun z => (by cases z)) (fun _ => rfl) (by unfold rkm gmd at hd ⊢; simp at hd ⊢; omega)
        have g4 : ee_run ee_B P d 44 [.ref 225, .ref b, .int (Int32.ofNat D)] w3 = some ([.int (ee_b (islp (.inr y)))], w4) := g4
        rw [isl_r] at g4
        refine ⟨w4, RS_inr (RS_seq (i := i) (l := l0) (l0 := 0) (chk_trans cc1 (chk_trans (atw_c w1 b (j + 1)) (chk_trans a2 (chk_trans cc2 k34)))) (show l2 + 1 + i ≤ j2 + 1 + l0 by omega) (fun k hk => by omega) (RS_inr (l1 := 0) s4)), ?_⟩
        show ee_run ee_B P (d + 1) 52 [.ref 225, .ref b, .int (Int32.ofNat D)] w = some ([.int (ee_b (islp (.inr y)))], w4)
        rw [isl_r, rn_52 rd_225]
        simp only [g1, t1, em1, g2, t2, em2, ld1, g4, bd_52, k_0, k_1, k_12, k_13, k_14, nz_1, nz_12, nz_13, nz_14, v_call, v_cons, v_int, v_loc, v_nil, v_not, v_or, v_z, w_exp0, w_exp1, w_if, w_ret, w_seq, w_set, List.getElem?_cons_zero, List.getElem?_cons_succ, List.set_cons_zero, List.set_cons_succ, ee_cmp0, ee_cmp1, ee_cmp2, ee_cmp3, ee_cmp4, ee_cmp5, ee_cmpL0, ee_cmpL1, ee_cmpL2, ee_cmpL3, ee_cmpL4, ee_cmpL5, ee_tru_eb, decide_eq_true_eq, ib_i, ie_b, ie_f, ie_t, ib_l, fin_i, fin_l, fin_v, fin_z, fin_a, fin_n, ee_b_0, ee_fld0, ee_fld1, ee_fld2, ee_fld3, bi_0, bi_1, bi_2, bi_3, bi_4, bi_5, bi_6, bi_7, bi_8, bi_9, bi_10, bl_20, bl_21, bl_22, bl_23, bl_24, bl_25, bl_26, bl_48, bl_49, un_0, un_1, un_2, un_3, if_true, if_false, ite_true, ite_false, Bool.false_eq_true, Bool.not_eq_false, decide_not, Bool.not_not, reduceCtorEq, st_i, st_l, st_r, st_n, ee_noL, ee_noL.eq_1, List.length_cons, List.length_nil, Nat.reduceAdd, Nat.reduceLT, Nat.zero_add, and_true, true_and, and_self, fin_ite, pu_0, pu_1, pu_3, sto_0, el_0, Bool.not_eq_true, decide_eq_false_iff_not, Bool.decide_eq_true, Bool.decide_eq_false, decide_true, decide_false, Bool.not_true, Bool.not_false, Bool.and_self, Bool.and_true, Bool.and_false, Bool.true_and, Bool.false_and, Bool.or_true, Bool.or_false, Bool.true_or, Bool.false_or, if_true, if_false, Bool.false_eq_true]
        rfl
      obtain ⟨w4, s4, g4⟩ := ih d 0 D (j2 + 1) x _ (by omega) h5 hD _ (l2 + 1) (l2 + 1) pC (Nat.le_refl _) (fun z => (by cases z)) (fun _ => rfl) (by unfold rkm gmd at hd ⊢; simp at hd ⊢; omega)
      have g4 : ee_run ee_B P d 44 [.ref 225, .ref b, .int (Int32.ofNat D)] w3 = some ([.int (ee_b (islp (.inl (eb, j3))))], w4) := g4
      rw [isl_l] at g4
      obtain ⟨cc4, l4, f1, f2, f3, f4⟩ := s4
      dsimp only at f1 f2 f3 f4
      have lt4 := cseg_lt _ _ _ (Nat.le_refl _) _ _ f3
      have t3 := r_take (P := P) hd3 f1 (k := 14) (by omega) (by omega)
      rw [k_14] at t3
      by_cases u3 : (tkn f n j3).1 = 14
      case neg =>
        have h6 : some (.inr (1, j3)) = some r := by rw [if_neg u3] at h6; exact h6
        cases h6
        rw [if_neg u3] at t3
        refine ⟨_, RS_seq (l0 := l0) (chk_trans cc1 (chk_trans (atw_c w1 b (j + 1)) (chk_trans a2 (chk_trans cc2 (chk_trans k34 cc4))))) (show l4 + i ≤ j3 + l0 by omega) (fun k hk => by rw [f4 k (by omega), k33 k (by omega) (by omega), b4 k (by omega), a4' k (by omega)]; exact p4 k hk) (RS_bad rfl), ?_⟩
        show ee_run ee_B P (d + 1) 52 [.ref 225, .ref b, .int (Int32.ofNat D)] w = some ([.int (ee_b (islp (.inr _)))], _)
        rw [isl_r, rn_52 rd_225]
        simp only [g1, t1, em1, g2, t2, em2, ld1, g4, t3, bd_52, k_0, k_1, k_12, k_13, k_14, nz_1, nz_12, nz_13, nz_14, v_call, v_cons, v_int, v_loc, v_nil, v_not, v_or, v_z, w_exp0, w_exp1, w_if, w_ret, w_seq, w_set, List.getElem?_cons_zero, List.getElem?_cons_succ, List.set_cons_zero, List.set_cons_succ, ee_cmp0, ee_cmp1, ee_cmp2, ee_cmp3, ee_cmp4, ee_cmp5, ee_cmpL0, ee_cmpL1, ee_cmpL2, ee_cmpL3, ee_cmpL4, ee_cmpL5, ee_tru_eb, decide_eq_true_eq, ib_i, ie_b, ie_f, ie_t, ib_l, fin_i, fin_l, fin_v, fin_z, fin_a, fin_n, ee_b_0, ee_fld0, ee_fld1, ee_fld2, ee_fld3, bi_0, bi_1, bi_2, bi_3, bi_4, bi_5, bi_6, bi_7, bi_8, bi_9, bi_10, bl_20, bl_21, bl_22, bl_23, bl_24, bl_25, bl_26, bl_48, bl_49, un_0, un_1, un_2, un_3, if_true, if_false, ite_true, ite_false, Bool.false_eq_true, Bool.not_eq_false, decide_not, Bool.not_not, reduceCtorEq, st_i, st_l, st_r, st_n, ee_noL, ee_noL.eq_1, List.length_cons, List.length_nil, Nat.reduceAdd, Nat.reduceLT, Nat.zero_add, and_true, true_and, and_self, fin_ite, pu_0, pu_1, pu_3, sto_0, el_0, Bool.not_eq_true, decide_eq_false_iff_not, Bool.decide_eq_true, Bool.decide_eq_false, decide_true, decide_false, Bool.not_true, Bool.not_false, Bool.and_self, Bool.and_true, Bool.and_false, Bool.true_and, Bool.false_and, Bool.or_true, Bool.or_false, Bool.true_or, Bool.false_or, if_true, if_false, Bool.false_eq_true]
        rfl
      have h6 : some (.inl (l_if ec ea eb, j3 + 1)) = some r := by rw [if_pos u3] at h6; exact h6
      cases h6
      rw [if_pos u3] at t3
      have pD := PS_at f1 (show (tkn f n j3).1 ≠ 39 by omega)
      have jc3 := pD.2.2.2.2.1
      have ld2 := r_lead (P := P) hd2 hb pD.2.2.2.1 (m := l2) (by omega) 13
      rw [k_13] at ld2
      have fin : ∀ k, k ≠ l2 → (ee_wI (atw w4 (j3 + 1)) (b + 4) l2 (enc l4 13)).1 (b + 4) k = w4.1 (b + 4) k := fun k hk => by
        rw [wI_at, if_neg (by omega)]; exact atw_k hb w4 _ k
      refine ⟨ee_wI (atw w4 (j3 + 1)) (b + 4) l2 (enc l4 13), ⟨chk_I (Or.inr (Or.inr rfl)) (chk_trans cc1 (chk_trans (atw_c w1 b (j + 1)) (chk_trans a2 (chk_trans cc2 (chk_trans k34 (chk_trans cc4 (atw_c w4 b (j3 + 1)))))))), l4, ?_, by show l4 + i ≤ j3 + 1 + l0; omega, ⟨l1, l2, ?_, ?_, ?_, ?_, ?_⟩, fun k hk => ?_⟩, ?_⟩
      · obtain ⟨z1, z2, z3, z4, z5, z6, z7⟩ := pD
        refine ⟨TOK_p z7 z1 (chk_I (Or.inr (Or.inr rfl)) (chk_refl _ _)), ?_, ?_, ?_, z5, z6, z7⟩
        · rw [wI_at, if_neg (by omega)]; exact z2
        · rw [wI_at, if_neg (by omega)]; exact z3
        · rw [wI_at, if_neg (by omega)]; exact z4
      · exact cseg_cg p3 (fun k q1 q2 => by rw [fin k (by omega), f4 k (by omega), k33 k (by omega) (by omega), b4 k (by omega), a4' k q2])
      · rw [fin l1 (by omega), f4 l1 (by omega)]; exact k31
      · exact cseg_cg b3 (fun k q1 q2 => by rw [fin k (by omega), f4 k (by omega), k33 k (by omega) (by omega)])
      · rw [wI_at, if_pos ⟨rfl, rfl⟩]
      · exact cseg_cg f3 (fun k q1 q2 => fin k (by omega))
      · rw [fin k (by omega), f4 k (by omega), k33 k (by omega) (by omega), b4 k (by omega), a4' k (by omega)]; exact p4 k hk
      · show ee_run ee_B P (d + 1) 52 [.ref 225, .ref b, .int (Int32.ofNat D)] w = some ([.int (ee_b (islp (.inl _)))], _)
        rw [isl_l, rn_52 rd_225]
        simp only [g1, t1, em1, g2, t2, em2, ld1, g4, t3, ld2, bd_52, k_0, k_1, k_12, k_13, k_14, nz_1, nz_12, nz_13, nz_14, v_call, v_cons, v_int, v_loc, v_nil, v_not, v_or, v_z, w_exp0, w_exp1, w_if, w_ret, w_seq, w_set, List.getElem?_cons_zero, List.getElem?_cons_succ, List.set_cons_zero, List.set_cons_succ, ee_cmp0, ee_cmp1, ee_cmp2, ee_cmp3, ee_cmp4, ee_cmp5, ee_cmpL0, ee_cmpL1, ee_cmpL2, ee_cmpL3, ee_cmpL4, ee_cmpL5, ee_tru_eb, decide_eq_true_eq, ib_i, ie_b, ie_f, ie_t, ib_l, fin_i, fin_l, fin_v, fin_z, fin_a, fin_n, ee_b_0, ee_fld0, ee_fld1, ee_fld2, ee_fld3, bi_0, bi_1, bi_2, bi_3, bi_4, bi_5, bi_6, bi_7, bi_8, bi_9, bi_10, bl_20, bl_21, bl_22, bl_23, bl_24, bl_25, bl_26, bl_48, bl_49, un_0, un_1, un_2, un_3, if_true, if_false, ite_true, ite_false, Bool.false_eq_true, Bool.not_eq_false, decide_not, Bool.not_not, reduceCtorEq, st_i, st_l, st_r, st_n, ee_noL, ee_noL.eq_1, List.length_cons, List.length_nil, Nat.reduceAdd, Nat.reduceLT, Nat.zero_add, and_true, true_and, and_self, fin_ite, pu_0, pu_1, pu_3, sto_0, el_0, Bool.not_eq_true, decide_eq_false_iff_not, Bool.decide_eq_true, Bool.decide_eq_false, decide_true, decide_false, Bool.not_true, Bool.not_false, Bool.and_self, Bool.and_true, Bool.and_false, Bool.true_and, Bool.false_and, Bool.or_true, Bool.or_false, Bool.true_or, Bool.false_or, if_true, if_false, Bool.false_eq_true]
        rfl
end PCL
