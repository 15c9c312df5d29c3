/-! the law that rules, the class's -/
section PL
variable {P : Nat → Nat → List Value → ee_W → Option (List Value × ee_W)} {d : Nat} {w : ee_W} {h b : Nat} {X : HX}
theorem c_work (hd : 5 ≤ d) (hb : tx_ok b) (hb2 : b + 4 < 229) (hh : hd_ok h) (h229 : h + 2 < 229) (hX : CH w h X) (hc : 0 ≤ (X.1 0).toInt) {e : ee_T} {f t : Nat} (ht : t ≤ 300) (hty : ¬ ty e = 0) (hn : need e ≤ 64) (hs : cseg (w.1 (b + 4)) e f t) (off : Int32) :
    ∃ w', ee_run ee_B P d 88 [.ref 229, .ref b, .int (Int32.ofNat f), .int (Int32.ofNat t), .ref h, .int off] w = some ([.int (av (nmX X off) (xlearnt X) e)], w') ∧ chg mrg w w' := by
  obtain ⟨d, rfl⟩ : ∃ k, d = k + 1 := ⟨d - 1, by omega⟩
  have hd1 : 1 ≤ d := by omega
  have hd2 : 2 ≤ d := by omega
  have hd4 : 4 ≤ d := by omega
  have hw0 : chg mrg w (ee_wI w 229 1 0) := chg_I mrg_29 (chg_refl _ _)
  have z0 : (ee_wI w 229 1 0).1 229 1 = Int32.ofNat 0 := by rw [wI_at, if_pos ⟨rfl, rfl⟩]; rfl
  obtain ⟨w1, k1, m8, m9, m10, r1, r2, r3, r4, r5, r6⟩ := mrun (P := P) (frm := Int32.ofNat f) (off := off) (T := t) hd4 hb hb2 hh h229 hX hc ht _ e (Nat.le_refl _) f t 0 0 (ee_wI w 229 1 0) none none none hty hs (by omega) (Nat.le_refl _) (Nat.zero_le _) hw0 z0
  have q1 : ¬ (Int32.ofNat t < Int32.ofNat t) := fun z => by have := (j_lt (by omega) (by omega)).1 z; omega
  have q2 : FW P d (EV b h (Int32.ofNat f) off t t k1 m8 m9 m10, w1) = some (.inr (.inl (EV b h (Int32.ofNat f) off t t k1 m8 m9 m10, w1))) := by
    unfold FW EV
    by_cases q : Int32.ofNat k1 < 300 <;> simp +decide only [q, q1, lx_88_1, lb_88_1, ee_turn, k_0, k_1, k_299, k_300, k_6, k_63, nz_1, nz_299, nz_300, nz_6, nz_63, v_and, v_bin, v_call, v_cmp, v_cons, v_get, v_idx, v_int, v_loc, v_nil, v_tern, v_un, v_z, w_case, w_dflt, w_exp0, w_exp1, w_inc, w_put, w_ret, w_seq, w_set, w_skip, w_switch, List.getElem?_cons_zero, List.getElem?_cons_succ, List.set_cons_zero, List.set_cons_succ, ee_cmp0, ee_cmp1, ee_cmp2, ee_cmp3, ee_cmp4, ee_cmp5, ee_cmpL0, ee_cmpL1, ee_cmpL2, ee_cmpL3, ee_cmpL4, ee_cmpL5, ee_tru_eb, decide_eq_true_eq, ib_i, ie_b, ie_f, ie_t, ib_l, fin_i, fin_l, fin_v, fin_z, fin_a, fin_n, ee_b_0, ee_fld0, ee_fld1, ee_fld2, ee_fld3, bi_0, bi_1, bi_2, bi_3, bi_4, bi_5, bi_6, bi_7, bi_8, bi_9, bi_10, bl_20, bl_21, bl_22, bl_23, bl_24, bl_25, bl_26, bl_48, bl_49, un_0, un_1, un_2, un_3, if_true, if_false, ite_true, ite_false, Bool.false_eq_true, Bool.not_eq_false, decide_not, Bool.not_not, reduceCtorEq, st_i, st_l, st_r, st_n, ee_noL, ee_noL.eq_1, List.length_cons, List.length_nil, Nat.reduceAdd, Nat.reduceLT, Nat.zero_add, and_true, true_and, and_self, fin_ite, pu_0, pu_1, pu_3, sto_0, el_0, Bool.not_eq_true, decide_eq_false_iff_not, Bool.decide_eq_true, Bool.decide_eq_false, decide_true, decide_false, Bool.not_true, Bool.not_false, Bool.and_self, Bool.and_true, Bool.and_false, Bool.true_and, Bool.false_and, Bool.or_true, Bool.or_false, Bool.true_or, Bool.false_or, if_true, if_false, Bool.false_eq_true]
  rw [ee_wh_eq (FW P d) (EV b h (Int32.ofNat f) off t t k1 m8 m9 m10, w1), q2] at r1
  have p1 := c_pop (P := P) (w := w1) hd2 (show 0 < 64 by omega) r4
  rw [r5] at p1
  unfold FW EV at r1
  rw [k_0] at r1
  rw [rn_88 mc_0]
  refine ⟨popw w1 0, ?_, chg_trans hw0 (chg_trans r3 (popw_c _ _))⟩
  simp only [w_while, mc_0, r1, p1, be_88, k_0, k_1, k_299, k_300, k_6, k_63, nz_1, nz_299, nz_300, nz_6, nz_63, v_and, v_bin, v_call, v_cmp, v_cons, v_get, v_idx, v_int, v_loc, v_nil, v_tern, v_un, v_z, w_case, w_dflt, w_exp0, w_exp1, w_inc, w_put, w_ret, w_seq, w_set, w_skip, w_switch, List.getElem?_cons_zero, List.getElem?_cons_succ, List.set_cons_zero, List.set_cons_succ, ee_cmp0, ee_cmp1, ee_cmp2, ee_cmp3, ee_cmp4, ee_cmp5, ee_cmpL0, ee_cmpL1, ee_cmpL2, ee_cmpL3, ee_cmpL4, ee_cmpL5, ee_tru_eb, decide_eq_true_eq, ib_i, ie_b, ie_f, ie_t, ib_l, fin_i, fin_l, fin_v, fin_z, fin_a, fin_n, ee_b_0, ee_fld0, ee_fld1, ee_fld2, ee_fld3, bi_0, bi_1, bi_2, bi_3, bi_4, bi_5, bi_6, bi_7, bi_8, bi_9, bi_10, bl_20, bl_21, bl_22, bl_23, bl_24, bl_25, bl_26, bl_48, bl_49, un_0, un_1, un_2, un_3, if_true, if_false, ite_true, ite_false, Bool.false_eq_true, Bool.not_eq_false, decide_not, Bool.not_not, reduceCtorEq, st_i, st_l, st_r, st_n, ee_noL, ee_noL.eq_1, List.length_cons, List.length_nil, Nat.reduceAdd, Nat.reduceLT, Nat.zero_add, and_true, true_and, and_self, fin_ite, pu_0, pu_1, pu_3, sto_0, el_0, Bool.not_eq_true, decide_eq_false_iff_not, Bool.decide_eq_true, Bool.decide_eq_false, decide_true, decide_false, Bool.not_true, Bool.not_false, Bool.and_self, Bool.and_true, Bool.and_false, Bool.true_and, Bool.false_and, Bool.or_true, Bool.or_false, Bool.true_or, Bool.false_or, if_true, if_false, Bool.false_eq_true]
def TX : Type := (Nat × (Nat → Int32 × Int32 × Int32)) × Option ee_T × Option ee_T
def CL (w : ee_W) (b p q : Nat) (o : Option ee_T) : Prop := match o with
  | none => w.1 b p = -1
  | some e => ty e = 1 ∧ need e ≤ 64 ∧ ∃ f t, w.1 b p = Int32.ofNat f ∧ w.1 b q = Int32.ofNat t ∧ t ≤ 300 ∧ cseg (w.1 (b + 4)) e f t
def CT (w : ee_W) (b : Nat) (T : TX) : Prop := (T.1.1 ≤ 24 ∧ w.1 b 3 = Int32.ofNat T.1.1 ∧ ∀ i, i < T.1.1 → w.1 (b + 1) i = (T.1.2 i).1 ∧ w.1 (b + 2) i = (T.1.2 i).2.1 ∧ w.1 (b + 3) i = (T.1.2 i).2.2) ∧ CL w b 6 7 T.2.1 ∧ CL w b 8 9 T.2.2
theorem CL_chg {p : Nat → Bool} {w' : ee_W} {i j : Nat} {o : Option ee_T} (hL : CL w b i j o) (hc : chg p w w') (h0 : p b = false) (h4 : p (b + 4) = false) : CL w' b i j o := by
  have e : w'.1 (b + 4) = w.1 (b + 4) := funext (fun k => hc.1 _ _ h4)
  cases o with
  | none => exact (hc.1 _ _ h0).trans hL
  | some e2 =>
    obtain ⟨a1, a2, f, t, a3, a4, a5, a6⟩ := hL
    refine ⟨a1, a2, f, t, (hc.1 _ _ h0).trans a3, (hc.1 _ _ h0).trans a4, a5, ?_⟩
    rw [e]; exact a6
theorem CT_chg {p : Nat → Bool} {w' : ee_W} {T : TX} (hT : CT w b T) (hc : chg p w w') (hp : ∀ c, b ≤ c → c < b + 5 → p c = false) : CT w' b T := by
  obtain ⟨⟨a0, a1, a2⟩, a3, a4⟩ := hT
  refine ⟨⟨a0, (hc.1 _ _ (hp _ (by omega) (by omega))).trans a1, fun i hi => ?_⟩, CL_chg a3 hc (hp _ (by omega) (by omega)) (hp _ (by omega) (by omega)), CL_chg a4 hc (hp _ (by omega) (by omega)) (hp _ (by omega) (by omega))⟩
  rw [hc.1 _ _ (hp _ (by omega) (by omega)), hc.1 _ _ (hp _ (by omega) (by omega)), hc.1 _ _ (hp _ (by omega) (by omega))]
  exact a2 i hi
def pv (X : HX) (o : Option ee_T) : Int32 := match o with
  | none => hold32 (kv (-X.1 5) - X.1 3) (-4) 4
  | some e => hold32 (av (nmX X 0) (xlearnt X) e) (-9) 9
def gv (X : HX) (off : Int32) (o : Option ee_T) : Int32 := match o with
  | none => 4
  | some e => hold32 (av (nmX X off) (xlearnt X) e) 0 16
theorem cz_0 : es_sh 0 = (10, 0) := by decide +kernel
theorem cz_r0 : es_rf 0 0 = some 1 := by decide +kernel
theorem cz_r1 : es_rf 0 1 = some 101 := by decide +kernel
theorem cz_r2 : es_rf 0 2 = some 201 := by decide +kernel
theorem cz_r3 : es_rf 0 3 = some 222 := by decide +kernel
theorem cz_r4 : es_rf 0 4 = some 225 := by decide +kernel
theorem cz_r5 : es_rf 0 5 = some 229 := by decide +kernel
theorem cz_r6 : es_rf 0 6 = some 231 := by decide +kernel
theorem cz_r7 : es_rf 0 7 = some 234 := by decide +kernel
theorem cz_r8 : es_rf 0 8 = some 235 := by decide +kernel
theorem cz_201 : es_sh 201 = (4, 4) := by decide +kernel
theorem cz_tx : ∀ i, i < 4 → es_rf 201 i = some (202 + 5 * i) ∧ es_sh (202 + 5 * i) = (17, 0) := by decide +kernel
theorem al_1 : al_ok 1 := by
  unfold al_ok hd_ok st_ok hd_ok
  decide +kernel
theorem al_101 : al_ok 101 := by
  unfold al_ok hd_ok st_ok hd_ok
  decide +kernel
theorem hd_222 : hd_ok 222 := by
  unfold hd_ok
  decide +kernel
theorem tx_of : ∀ i, i < 4 → tx_ok (202 + 5 * i) := by
  unfold tx_ok
  decide +kernel
theorem c_pullOf0 (hd : 3 ≤ d) (hh : hd_ok h) (hX : CH w h X) : ee_run ee_B P d 99 [.ref 0, .null, .ref h] w = some ([.int (pv X none)], w) := by
  obtain ⟨d, rfl⟩ : ∃ k, d = k + 1 := ⟨d - 1, by omega⟩
  have hd2 : 2 ≤ d := by omega
  obtain ⟨⟨a0, a1, a2, a3, a4, a5, a6, a7, a8⟩, -, -, -⟩ := hX
  have e1 : ee_run ee_B P d 91 [.int (-X.1 5), .int 1] w = some ([.int (kv (-X.1 5))], w) := r_speedOver hd2 _ _
  rw [rn_99_0 cz_0]
  simp only [c_hold hd2, hh.1, a5, a3, e1, pv, bd_99, k_0, k_1, k_4, k_4294967287, k_4294967292, k_4294967295, k_9, nz_1, nz_4, nz_9, v_bin, v_call, v_cmp, v_cons, v_get, v_int, v_isnull, v_loc, v_nil, v_or, v_un, w_if, w_ret, List.getElem?_cons_zero, List.getElem?_cons_succ, List.set_cons_zero, List.set_cons_succ, ee_cmp0, ee_cmp1, ee_cmp2, ee_cmp3, ee_cmp4, ee_cmp5, ee_cmpL0, ee_cmpL1, ee_cmpL2, ee_cmpL3, ee_cmpL4, ee_cmpL5, ee_tru_eb, decide_eq_true_eq, ib_i, ie_b, ie_f, ie_t, ib_l, fin_i, fin_l, fin_v, fin_z, fin_a, fin_n, ee_b_0, ee_fld0, ee_fld1, ee_fld2, ee_fld3, bi_0, bi_1, bi_2, bi_3, bi_4, bi_5, bi_6, bi_7, bi_8, bi_9, bi_10, bl_20, bl_21, bl_22, bl_23, bl_24, bl_25, bl_26, bl_48, bl_49, un_0, un_1, un_2, un_3, if_true, if_false, ite_true, ite_false, Bool.false_eq_true, Bool.not_eq_false, decide_not, Bool.not_not, reduceCtorEq, st_i, st_l, st_r, st_n, ee_noL, ee_noL.eq_1, List.length_cons, List.length_nil, Nat.reduceAdd, Nat.reduceLT, Nat.zero_add, and_true, true_and, and_self, fin_ite, pu_0, pu_1, pu_3, sto_0, el_0, Bool.not_eq_true, decide_eq_false_iff_not, Bool.decide_eq_true, Bool.decide_eq_false, decide_true, decide_false, Bool.not_true, Bool.not_false, Bool.and_self, Bool.and_true, Bool.and_false, Bool.true_and, Bool.false_and, Bool.or_true, Bool.or_false, Bool.true_or, Bool.false_or, if_true, if_false, Bool.false_eq_true]
theorem c_pullOf (hd : 6 ≤ d) (hb : tx_ok b) (hb2 : b + 4 < 229) (hh : hd_ok h) (h229 : h + 2 < 229) (hX : CH w h X) (hc : 0 ≤ (X.1 0).toInt) {T : TX} (hT : CT w b T) : ∃ w', ee_run ee_B P d 99 [.ref 0, .ref b, .ref h] w = some ([.int (pv X T.2.1)], w') ∧ chg mrg w w' := by
  obtain ⟨d, rfl⟩ : ∃ k, d = k + 1 := ⟨d - 1, by omega⟩
  have hd2 : 2 ≤ d := by omega
  have hd5 : 5 ≤ d := by omega
  have hX0 := hX
  have b0 := hb.1
  have hL := hT.2.1
  obtain ⟨⟨a0, a1, a2, a3, a4, a5, a6, a7, a8⟩, -, -, -⟩ := hX
  rw [rn_99 cz_0]
  cases hT2 : T.2.1 with
  | none =>
    rw [hT2] at hL
    have hL : w.1 b 6 = -1 := hL
    have e1 : ee_run ee_B P d 91 [.int (-X.1 5), .int 1] w = some ([.int (kv (-X.1 5))], w) := r_speedOver hd2 _ _
    refine ⟨w, ?_, chg_refl _ _⟩
    simp only [c_hold hd2, b0, hh.1, hL, a5, a3, e1, pv, bd_99, k_0, k_1, k_4, k_4294967287, k_4294967292, k_4294967295, k_9, nz_1, nz_4, nz_9, v_bin, v_call, v_cmp, v_cons, v_get, v_int, v_isnull, v_loc, v_nil, v_or, v_un, w_if, w_ret, List.getElem?_cons_zero, List.getElem?_cons_succ, List.set_cons_zero, List.set_cons_succ, ee_cmp0, ee_cmp1, ee_cmp2, ee_cmp3, ee_cmp4, ee_cmp5, ee_cmpL0, ee_cmpL1, ee_cmpL2, ee_cmpL3, ee_cmpL4, ee_cmpL5, ee_tru_eb, decide_eq_true_eq, ib_i, ie_b, ie_f, ie_t, ib_l, fin_i, fin_l, fin_v, fin_z, fin_a, fin_n, ee_b_0, ee_fld0, ee_fld1, ee_fld2, ee_fld3, bi_0, bi_1, bi_2, bi_3, bi_4, bi_5, bi_6, bi_7, bi_8, bi_9, bi_10, bl_20, bl_21, bl_22, bl_23, bl_24, bl_25, bl_26, bl_48, bl_49, un_0, un_1, un_2, un_3, if_true, if_false, ite_true, ite_false, Bool.false_eq_true, Bool.not_eq_false, decide_not, Bool.not_not, reduceCtorEq, st_i, st_l, st_r, st_n, ee_noL, ee_noL.eq_1, List.length_cons, List.length_nil, Nat.reduceAdd, Nat.reduceLT, Nat.zero_add, and_true, true_and, and_self, fin_ite, pu_0, pu_1, pu_3, sto_0, el_0, Bool.not_eq_true, decide_eq_false_iff_not, Bool.decide_eq_true, Bool.decide_eq_false, decide_true, decide_false, Bool.not_true, Bool.not_false, Bool.and_self, Bool.and_true, Bool.and_false, Bool.true_and, Bool.false_and, Bool.or_true, Bool.or_false, Bool.true_or, Bool.false_or, if_true, if_false, Bool.false_eq_true]
  | some e =>
    rw [hT2] at hL
    obtain ⟨l1, l2, f, t, l3, l4, l5, l6⟩ := hL
    obtain ⟨w', n1, n2⟩ := c_work (P := P) hd5 hb hb2 hh h229 hX0 hc l5 (by omega) l2 l6 0
    have hf : f < 300 := by have := cseg_lt _ _ _ (Nat.le_refl _) _ _ l6; omega
    have nf : ¬ Int32.ofNat f = -1 := fun z => by have := i32_eq.1 z; rw [nI_t (by omega), show (-1 : Int32).toInt = -1 from rfl] at this; omega
    refine ⟨w', ?_, n2⟩
    simp only [c_hold hd2, b0, cz_0, cz_r5, rvs, l3, l4, nf, n1, pv, bd_99, k_0, k_1, k_4, k_4294967287, k_4294967292, k_4294967295, k_9, nz_1, nz_4, nz_9, v_bin, v_call, v_cmp, v_cons, v_get, v_int, v_isnull, v_loc, v_nil, v_or, v_un, w_if, w_ret, List.getElem?_cons_zero, List.getElem?_cons_succ, List.set_cons_zero, List.set_cons_succ, ee_cmp0, ee_cmp1, ee_cmp2, ee_cmp3, ee_cmp4, ee_cmp5, ee_cmpL0, ee_cmpL1, ee_cmpL2, ee_cmpL3, ee_cmpL4, ee_cmpL5, ee_tru_eb, decide_eq_true_eq, ib_i, ie_b, ie_f, ie_t, ib_l, fin_i, fin_l, fin_v, fin_z, fin_a, fin_n, ee_b_0, ee_fld0, ee_fld1, ee_fld2, ee_fld3, bi_0, bi_1, bi_2, bi_3, bi_4, bi_5, bi_6, bi_7, bi_8, bi_9, bi_10, bl_20, bl_21, bl_22, bl_23, bl_24, bl_25, bl_26, bl_48, bl_49, un_0, un_1, un_2, un_3, if_true, if_false, ite_true, ite_false, Bool.false_eq_true, Bool.not_eq_false, decide_not, Bool.not_not, reduceCtorEq, st_i, st_l, st_r, st_n, ee_noL, ee_noL.eq_1, List.length_cons, List.length_nil, Nat.reduceAdd, Nat.reduceLT, Nat.zero_add, and_true, true_and, and_self, fin_ite, pu_0, pu_1, pu_3, sto_0, el_0, Bool.not_eq_true, decide_eq_false_iff_not, Bool.decide_eq_true, Bool.decide_eq_false, decide_true, decide_false, Bool.not_true, Bool.not_false, Bool.and_self, Bool.and_true, Bool.and_false, Bool.true_and, Bool.false_and, Bool.or_true, Bool.or_false, Bool.true_or, Bool.false_or, if_true, if_false, Bool.false_eq_true]
theorem c_gainOf0 (hd : 3 ≤ d) (off : Int32) : ee_run ee_B P d 87 [.ref 0, .null, .ref h, .int off] w = some ([.int (gv X off none)], w) := by
  obtain ⟨d, rfl⟩ : ∃ k, d = k + 1 := ⟨d - 1, by omega⟩
  rw [rn_87_0 cz_0]
  simp only [gv, bd_87, k_0, k_16, k_4, k_4294967295, nz_16, nz_4, v_call, v_cmp, v_cons, v_get, v_int, v_isnull, v_loc, v_nil, v_or, w_if, w_ret, List.getElem?_cons_zero, List.getElem?_cons_succ, List.set_cons_zero, List.set_cons_succ, ee_cmp0, ee_cmp1, ee_cmp2, ee_cmp3, ee_cmp4, ee_cmp5, ee_cmpL0, ee_cmpL1, ee_cmpL2, ee_cmpL3, ee_cmpL4, ee_cmpL5, ee_tru_eb, decide_eq_true_eq, ib_i, ie_b, ie_f, ie_t, ib_l, fin_i, fin_l, fin_v, fin_z, fin_a, fin_n, ee_b_0, ee_fld0, ee_fld1, ee_fld2, ee_fld3, bi_0, bi_1, bi_2, bi_3, bi_4, bi_5, bi_6, bi_7, bi_8, bi_9, bi_10, bl_20, bl_21, bl_22, bl_23, bl_24, bl_25, bl_26, bl_48, bl_49, un_0, un_1, un_2, un_3, if_true, if_false, ite_true, ite_false, Bool.false_eq_true, Bool.not_eq_false, decide_not, Bool.not_not, reduceCtorEq, st_i, st_l, st_r, st_n, ee_noL, ee_noL.eq_1, List.length_cons, List.length_nil, Nat.reduceAdd, Nat.reduceLT, Nat.zero_add, and_true, true_and, and_self, fin_ite, pu_0, pu_1, pu_3, sto_0, el_0, Bool.not_eq_true, decide_eq_false_iff_not, Bool.decide_eq_true, Bool.decide_eq_false, decide_true, decide_false, Bool.not_true, Bool.not_false, Bool.and_self, Bool.and_true, Bool.and_false, Bool.true_and, Bool.false_and, Bool.or_true, Bool.or_false, Bool.true_or, Bool.false_or, if_true, if_false, Bool.false_eq_true]
theorem c_gainOf (hd : 6 ≤ d) (hb : tx_ok b) (hb2 : b + 4 < 229) (hh : hd_ok h) (h229 : h + 2 < 229) (hX : CH w h X) (hc : 0 ≤ (X.1 0).toInt) {T : TX} (hT : CT w b T) (off : Int32) : ∃ w', ee_run ee_B P d 87 [.ref 0, .ref b, .ref h, .int off] w = some ([.int (gv X off T.2.2)], w') ∧ chg mrg w w' := by
  obtain ⟨d, rfl⟩ : ∃ k, d = k + 1 := ⟨d - 1, by omega⟩
  have hd2 : 2 ≤ d := by omega
  have hd5 : 5 ≤ d := by omega
  have b0 := hb.1
  have hL := hT.2.2
  rw [rn_87 cz_0]
  cases hT2 : T.2.2 with
  | none =>
    rw [hT2] at hL
    have hL : w.1 b 8 = -1 := hL
    refine ⟨w, ?_, chg_refl _ _⟩
    simp only [b0, hL, gv, bd_87, k_0, k_16, k_4, k_4294967295, nz_16, nz_4, v_call, v_cmp, v_cons, v_get, v_int, v_isnull, v_loc, v_nil, v_or, w_if, w_ret, List.getElem?_cons_zero, List.getElem?_cons_succ, List.set_cons_zero, List.set_cons_succ, ee_cmp0, ee_cmp1, ee_cmp2, ee_cmp3, ee_cmp4, ee_cmp5, ee_cmpL0, ee_cmpL1, ee_cmpL2, ee_cmpL3, ee_cmpL4, ee_cmpL5, ee_tru_eb, decide_eq_true_eq, ib_i, ie_b, ie_f, ie_t, ib_l, fin_i, fin_l, fin_v, fin_z, fin_a, fin_n, ee_b_0, ee_fld0, ee_fld1, ee_fld2, ee_fld3, bi_0, bi_1, bi_2, bi_3, bi_4, bi_5, bi_6, bi_7, bi_8, bi_9, bi_10, bl_20, bl_21, bl_22, bl_23, bl_24, bl_25, bl_26, bl_48, bl_49, un_0, un_1, un_2, un_3, if_true, if_false, ite_true, ite_false, Bool.false_eq_true, Bool.not_eq_false, decide_not, Bool.not_not, reduceCtorEq, st_i, st_l, st_r, st_n, ee_noL, ee_noL.eq_1, List.length_cons, List.length_nil, Nat.reduceAdd, Nat.reduceLT, Nat.zero_add, and_true, true_and, and_self, fin_ite, pu_0, pu_1, pu_3, sto_0, el_0, Bool.not_eq_true, decide_eq_false_iff_not, Bool.decide_eq_true, Bool.decide_eq_false, decide_true, decide_false, Bool.not_true, Bool.not_false, Bool.and_self, Bool.and_true, Bool.and_false, Bool.true_and, Bool.false_and, Bool.or_true, Bool.or_false, Bool.true_or, Bool.false_or, if_true, if_false, Bool.false_eq_true]
  | some e =>
    rw [hT2] at hL
    obtain ⟨l1, l2, f, t, l3, l4, l5, l6⟩ := hL
    obtain ⟨w', n1, n2⟩ := c_work (P := P) hd5 hb hb2 hh h229 hX hc l5 (by omega) l2 l6 off
    have hf : f < 300 := by have := cseg_lt _ _ _ (Nat.le_refl _) _ _ l6; omega
    have nf : ¬ Int32.ofNat f = -1 := fun z => by have := i32_eq.1 z; rw [nI_t (by omega), show (-1 : Int32).toInt = -1 from rfl] at this; omega
    refine ⟨w', ?_, n2⟩
    simp only [c_hold hd2, b0, cz_0, cz_r5, rvs, l3, l4, nf, n1, gv, bd_87, k_0, k_16, k_4, k_4294967295, nz_16, nz_4, v_call, v_cmp, v_cons, v_get, v_int, v_isnull, v_loc, v_nil, v_or, w_if, w_ret, List.getElem?_cons_zero, List.getElem?_cons_succ, List.set_cons_zero, List.set_cons_succ, ee_cmp0, ee_cmp1, ee_cmp2, ee_cmp3, ee_cmp4, ee_cmp5, ee_cmpL0, ee_cmpL1, ee_cmpL2, ee_cmpL3, ee_cmpL4, ee_cmpL5, ee_tru_eb, decide_eq_true_eq, ib_i, ie_b, ie_f, ie_t, ib_l, fin_i, fin_l, fin_v, fin_z, fin_a, fin_n, ee_b_0, ee_fld0, ee_fld1, ee_fld2, ee_fld3, bi_0, bi_1, bi_2, bi_3, bi_4, bi_5, bi_6, bi_7, bi_8, bi_9, bi_10, bl_20, bl_21, bl_22, bl_23, bl_24, bl_25, bl_26, bl_48, bl_49, un_0, un_1, un_2, un_3, if_true, if_false, ite_true, ite_false, Bool.false_eq_true, Bool.not_eq_false, decide_not, Bool.not_not, reduceCtorEq, st_i, st_l, st_r, st_n, ee_noL, ee_noL.eq_1, List.length_cons, List.length_nil, Nat.reduceAdd, Nat.reduceLT, Nat.zero_add, and_true, true_and, and_self, fin_ite, pu_0, pu_1, pu_3, sto_0, el_0, Bool.not_eq_true, decide_eq_false_iff_not, Bool.decide_eq_true, Bool.decide_eq_false, decide_true, decide_false, Bool.not_true, Bool.not_false, Bool.and_self, Bool.and_true, Bool.and_false, Bool.true_and, Bool.false_and, Bool.or_true, Bool.or_false, Bool.true_or, Bool.false_or, if_true, if_false, Bool.false_eq_true]
end PL
