/-! the machine's turns -/
section MT
variable {P : Nat → Nat → List Value → ee_W → Option (List Value × ee_W)} {d : Nat} {w : ee_W} {h b : Nat} {X : HX}
def tx_ok (b : Nat) : Prop := es_sh b = (17, 0) ∧ es_rf b 0 = some (b + 1) ∧ es_rf b 1 = some (b + 2) ∧ es_rf b 2 = some (b + 3) ∧ es_rf b 4 = some (b + 4) ∧ es_sh (b + 1) = (0, 24) ∧ es_sh (b + 2) = (0, 24) ∧ es_sh (b + 3) = (0, 24) ∧ es_sh (b + 4) = (0, 300)
def nmX (X : HX) (off : Int32) (o : Nat) : Int32 := if o = 18 then X.1 0 else if o = 19 then rem8 (X.1 0) else if o = 20 then X.1 3 else if o = 21 then X.1 5 else if o = 22 then X.1 4 else if o = 23 then X.1 6 else off
def EV (b h : Nat) (frm off : Int32) (T a k : Nat) (l8 l9 l10 : Option Value) : ee_E := [some (.ref 229), some (.ref b), some (.int frm), some (.int (Int32.ofNat T)), some (.ref h), some (.int off), some (.int (Int32.ofNat a)), some (.int (Int32.ofNat k)), l8, l9, l10]
noncomputable def FW (P : Nat → Nat → List Value → ee_W → Option (List Value × ee_W)) (d : Nat) : ee_E × ee_W → Option ((ee_E × ee_W) ⊕ ee_O) := ee_turn (ee_ev es_sh es_rf (ee_run ee_B P d) lx_88_1) (ee_evS es_sh es_rf (ee_run ee_B P d) lb_88_1)
variable {frm off : Int32} {T a k v o n : Nat} {l8 l9 l10 : Option Value}
theorem tcond {a T k : Nat} (ha : a < T) (hT : T ≤ 300) (hk : k ≤ a) : (Int32.ofNat k < 300) ∧ (Int32.ofNat a < Int32.ofNat T) ∧ (decide ((0 : Int32) ≤ Int32.ofNat a) && decide (Int32.ofNat a ≤ 299)) = true ∧ ee_ix (Int32.ofNat a) 300 = true ∧ (Int32.ofNat a).toNatClampNeg = a := by
  refine ⟨(j_lt (b := 300) (by omega) (by omega)).2 (by omega), (j_lt (by omega) (by omega)).2 ha, ?_, ?_, tnc (by omega)⟩
  · rw [in_iff, nI_t (by omega)]
    exact ⟨by show (0 : Int) ≤ _; omega, by show _ ≤ (299 : Int); omega⟩
  · rw [ixn (by omega)]; exact decide_eq_true (by omega)
theorem dok_of (h : dok v o = true) : enc v o &&& 63 = Int32.ofNat o ∧ enc v o >>> ((6 : Int32) &&& 31) = Int32.ofNat v := by
  unfold dok at h
  rw [Bool.and_eq_true, decide_eq_true_eq, decide_eq_true_eq] at h
  exact h
def leafop (o : Nat) : Prop := o = 38 ∨ (18 ≤ o ∧ o ≤ 24)
theorem t_leaf (hd : 3 ≤ d) (hb : tx_ok b) (hh : hd_ok h) (hX : CH w h X) (hc : 0 ≤ (X.1 0).toInt) (ha : a < T) (hT : T ≤ 300) (hk : k ≤ a) (hcode : w.1 (b + 4) a = enc v o) (ho : leafop o) (hv : dok v o = true) (hn : n < 64) (h1 : w.1 229 1 = Int32.ofNat n) :
    FW P d (EV b h frm off T a k l8 l9 l10, w) = some (.inl (EV b h frm off T (a + 1) (k + 1) (some (.int (Int32.ofNat o))) (some (.int (Int32.ofNat v))) l10, pushw w n (if o = 38 then Int32.ofNat v else nmX X off o))) := by
  have hd1 : 1 ≤ d := by omega
  have hd2 : 2 ≤ d := by omega
  obtain ⟨b0, -, -, -, b4, -, -, -, b8⟩ := hb
  have hX0 := hX
  obtain ⟨⟨a0, a1, a2, a3, a4, a5, a6, a7, a8⟩, -, -, -⟩ := hX
  obtain ⟨v1, v2⟩ := dok_of hv
  obtain ⟨t1, t2, t3, t4, t5⟩ := tcond ha hT hk
  have s0 := hh.1
  have sec := c_sectorNow (P := P) hd2 hh hX0 hc
  have : o = 38 ∨ o = 18 ∨ o = 19 ∨ o = 20 ∨ o = 21 ∨ o = 22 ∨ o = 23 ∨ o = 24 := by unfold leafop at ho; omega
  unfold FW EV
  rcases this with rfl | rfl | rfl | rfl | rfl | rfl | rfl | rfl <;>
    simp +decide only [r_within hd1, c_push hd2 hn h1, sec, hcode, v1, v2, t1, t2, t3, t4, t5, b0, b4, b8, s0, rvs, a0, a3, a4, a5, a6, nmX, j_s, j_a, lx_88_1, lb_88_1, ee_turn, k_0, k_1, k_299, k_300, k_6, k_63, nz_1, nz_299, nz_300, nz_6, nz_63, v_and, v_bin, v_call, v_cmp, v_cons, v_get, v_idx, v_int, v_loc, v_nil, v_tern, v_un, v_z, w_case, w_dflt, w_exp0, w_exp1, w_inc, w_put, w_ret, w_seq, w_set, w_skip, w_switch, List.getElem?_cons_zero, List.getElem?_cons_succ, List.set_cons_zero, List.set_cons_succ, ee_cmp0, ee_cmp1, ee_cmp2, ee_cmp3, ee_cmp4, ee_cmp5, ee_cmpL0, ee_cmpL1, ee_cmpL2, ee_cmpL3, ee_cmpL4, ee_cmpL5, ee_tru_eb, decide_eq_true_eq, ib_i, ie_b, ie_f, ie_t, ib_l, fin_i, fin_l, fin_v, fin_z, fin_a, fin_n, ee_b_0, ee_fld0, ee_fld1, ee_fld2, ee_fld3, bi_0, bi_1, bi_2, bi_3, bi_4, bi_5, bi_6, bi_7, bi_8, bi_9, bi_10, bl_20, bl_21, bl_22, bl_23, bl_24, bl_25, bl_26, bl_48, bl_49, un_0, un_1, un_2, un_3, if_true, if_false, ite_true, ite_false, Bool.false_eq_true, Bool.not_eq_false, decide_not, Bool.not_not, reduceCtorEq, st_i, st_l, st_r, st_n, ee_noL, ee_noL.eq_1, List.length_cons, List.length_nil, Nat.reduceAdd, Nat.reduceLT, Nat.zero_add, and_true, true_and, and_self, fin_ite, pu_0, pu_1, pu_3, sto_0, el_0, Bool.not_eq_true, decide_eq_false_iff_not, Bool.decide_eq_true, Bool.decide_eq_false, decide_true, decide_false, Bool.not_true, Bool.not_false, Bool.and_self, Bool.and_true, Bool.and_false, Bool.true_and, Bool.false_and, Bool.or_true, Bool.or_false, Bool.true_or, Bool.false_or, if_true, if_false, Bool.false_eq_true]
theorem popw_at (w : ee_W) (n j : Nat) : (popw w n).1 230 j = w.1 230 j := by
  unfold popw
  rw [wI_at, if_neg (by omega)]
theorem popw_1 (w : ee_W) (n : Nat) : (popw w n).1 229 1 = Int32.ofNat n := by
  unfold popw
  rw [wI_at, if_pos ⟨rfl, rfl⟩]
theorem popw_c (w : ee_W) (n : Nat) : chg mrg w (popw w n) := chg_I mrg_29 (chg_refl _ _)
theorem pushw_c (w : ee_W) (n : Nat) (v : Int32) : chg mrg w (pushw w n v) := chg_I mrg_29 (chg_I mrg_30 (chg_refl _ _))
theorem pushw_1 (w : ee_W) (n : Nat) (v : Int32) : (pushw w n v).1 229 1 = Int32.ofNat (n + 1) := by
  unfold pushw
  rw [wI_at, if_pos ⟨rfl, rfl⟩]
theorem pushw_at (w : ee_W) (n j : Nat) (v : Int32) : (pushw w n v).1 230 j = if j = n then v else w.1 230 j := by
  unfold pushw
  rw [wI_at, if_neg (by omega), wI_at]
  by_cases q : j = n
  · rw [if_pos ⟨rfl, q⟩, if_pos q]
  · rw [if_neg (fun z => q z.2), if_neg q]
theorem mrg_f {c : Nat} (hc : c < 229) : mrg c = false := by
  unfold mrg
  rw [rg_f]
  exact Or.inl hc
def unop (o : Nat) : Prop := o = 9 ∨ o = 10 ∨ o = 41 ∨ o = 15
theorem t_un (hd : 3 ≤ d) (hb : tx_ok b) (hh : hd_ok h) (h229 : h + 2 < 229) (hX : CH w h X) (ha : a < T) (hT : T ≤ 300) (hk : k ≤ a) (hcode : w.1 (b + 4) a = enc 0 o) (ho : unop o) (hn : n < 64) (h1 : w.1 229 1 = Int32.ofNat (n + 1)) :
    FW P d (EV b h frm off T a k l8 l9 l10, w) = some (.inl (EV b h frm off T (a + 1) (k + 1) (some (.int (Int32.ofNat o))) (some (.int (Int32.ofNat 0))) l10, pushw (popw w n) n (uv (xlearnt X) o (w.1 230 n)))) := by
  have hd1 : 1 ≤ d := by omega
  have hd2 : 2 ≤ d := by omega
  obtain ⟨b0, -, -, -, b4, -, -, -, b8⟩ := hb
  have ho2 : o < 64 := by unfold unop at ho; omega
  obtain ⟨v1, v2⟩ := dok_of (dok_0 o ho2)
  obtain ⟨t1, t2, t3, t4, t5⟩ := tcond ha hT hk
  have hX2 : CH (popw w n) h X := CH_chg hX (popw_c w n) (mrg_f (by omega)) (mrg_f (by omega)) (mrg_f (by omega))
  have e1 := c_learntOf (P := P) hd2 hh hX2 (w.1 230 n)
  have e2 : ee_run ee_B P d 91 [.int (w.1 230 n), .int 1] (popw w n) = some ([.int (kv (w.1 230 n))], popw w n) := r_speedOver (P := P) (w := popw w n) hd2 (w.1 230 n) 1
  have e3 := fun x => c_push (P := P) (w := popw w n) hd2 hn (popw_1 w n) x
  have : o = 9 ∨ o = 10 ∨ o = 41 ∨ o = 15 := ho
  unfold FW EV
  rcases this with rfl | rfl | rfl | rfl <;>
    simp +decide only [r_within hd1, c_pop hd2 hn h1, e1, e2, e3, hcode, v1, v2, t1, t2, t3, t4, t5, b0, b4, b8, rvs, uv, j_s, j_a, lx_88_1, lb_88_1, ee_turn, k_0, k_1, k_299, k_300, k_6, k_63, nz_1, nz_299, nz_300, nz_6, nz_63, v_and, v_bin, v_call, v_cmp, v_cons, v_get, v_idx, v_int, v_loc, v_nil, v_tern, v_un, v_z, w_case, w_dflt, w_exp0, w_exp1, w_inc, w_put, w_ret, w_seq, w_set, w_skip, w_switch, List.getElem?_cons_zero, List.getElem?_cons_succ, List.set_cons_zero, List.set_cons_succ, ee_cmp0, ee_cmp1, ee_cmp2, ee_cmp3, ee_cmp4, ee_cmp5, ee_cmpL0, ee_cmpL1, ee_cmpL2, ee_cmpL3, ee_cmpL4, ee_cmpL5, ee_tru_eb, decide_eq_true_eq, ib_i, ie_b, ie_f, ie_t, ib_l, fin_i, fin_l, fin_v, fin_z, fin_a, fin_n, ee_b_0, ee_fld0, ee_fld1, ee_fld2, ee_fld3, bi_0, bi_1, bi_2, bi_3, bi_4, bi_5, bi_6, bi_7, bi_8, bi_9, bi_10, bl_20, bl_21, bl_22, bl_23, bl_24, bl_25, bl_26, bl_48, bl_49, un_0, un_1, un_2, un_3, if_true, if_false, ite_true, ite_false, Bool.false_eq_true, Bool.not_eq_false, decide_not, Bool.not_not, reduceCtorEq, st_i, st_l, st_r, st_n, ee_noL, ee_noL.eq_1, List.length_cons, List.length_nil, Nat.reduceAdd, Nat.reduceLT, Nat.zero_add, and_true, true_and, and_self, fin_ite, pu_0, pu_1, pu_3, sto_0, el_0, Bool.not_eq_true, decide_eq_false_iff_not, Bool.decide_eq_true, Bool.decide_eq_false, decide_true, decide_false, Bool.not_true, Bool.not_false, Bool.and_self, Bool.and_true, Bool.and_false, Bool.true_and, Bool.false_and, Bool.or_true, Bool.or_false, Bool.true_or, Bool.false_or, if_true, if_false, Bool.false_eq_true]
theorem t_bin (hd : 4 ≤ d) (hb : tx_ok b) (ha : a < T) (hT : T ≤ 300) (hk : k ≤ a) (hcode : w.1 (b + 4) a = enc 0 o) (ho : binop o) (hn : n + 1 < 64) (h1 : w.1 229 1 = Int32.ofNat (n + 2)) :
    FW P d (EV b h frm off T a k l8 l9 l10, w) = some (.inl (EV b h frm off T (a + 1) (k + 1) (some (.int (Int32.ofNat o))) (some (.int (Int32.ofNat 0))) (some (.int (w.1 230 (n + 1)))), pushw (popw (popw w (n + 1)) n) n (jv o (w.1 230 n) (w.1 230 (n + 1))))) := by
  have hd1 : 1 ≤ d := by omega
  have hd2 : 2 ≤ d := by omega
  have hd3 : 3 ≤ d := by omega
  obtain ⟨b0, -, -, -, b4, -, -, -, b8⟩ := hb
  have ho2 : o < 64 := by unfold binop at ho; omega
  obtain ⟨v1, v2⟩ := dok_of (dok_0 o ho2)
  obtain ⟨t1, t2, t3, t4, t5⟩ := tcond ha hT hk
  have p1 := c_pop (P := P) (w := w) hd2 hn h1
  have p2 := c_pop (P := P) (w := popw w (n + 1)) hd2 (show n < 64 by omega) (popw_1 w (n + 1))
  rw [popw_at] at p2
  have e3 := fun x => c_push (P := P) (w := popw (popw w (n + 1)) n) hd2 (show n < 64 by omega) (popw_1 _ n) x
  have e4 := c_join (P := P) (w := popw (popw w (n + 1)) n) hd3 ho (w.1 230 n) (w.1 230 (n + 1))
  have : o = 31 ∨ o = 32 ∨ o = 33 ∨ o = 34 ∨ o = 25 ∨ o = 26 ∨ o = 27 ∨ o = 28 ∨ o = 29 ∨ o = 30 ∨ o = 16 ∨ o = 17 := by unfold binop at ho; omega
  unfold FW EV
  rcases this with rfl | rfl | rfl | rfl | rfl | rfl | rfl | rfl | rfl | rfl | rfl | rfl <;>
    simp +decide only [r_within hd1, p1, p2, e3, e4, hcode, v1, v2, t1, t2, t3, t4, t5, b0, b4, b8, rvs, j_s, j_a, lx_88_1, lb_88_1, ee_turn, k_0, k_1, k_299, k_300, k_6, k_63, nz_1, nz_299, nz_300, nz_6, nz_63, v_and, v_bin, v_call, v_cmp, v_cons, v_get, v_idx, v_int, v_loc, v_nil, v_tern, v_un, v_z, w_case, w_dflt, w_exp0, w_exp1, w_inc, w_put, w_ret, w_seq, w_set, w_skip, w_switch, List.getElem?_cons_zero, List.getElem?_cons_succ, List.set_cons_zero, List.set_cons_succ, ee_cmp0, ee_cmp1, ee_cmp2, ee_cmp3, ee_cmp4, ee_cmp5, ee_cmpL0, ee_cmpL1, ee_cmpL2, ee_cmpL3, ee_cmpL4, ee_cmpL5, ee_tru_eb, decide_eq_true_eq, ib_i, ie_b, ie_f, ie_t, ib_l, fin_i, fin_l, fin_v, fin_z, fin_a, fin_n, ee_b_0, ee_fld0, ee_fld1, ee_fld2, ee_fld3, bi_0, bi_1, bi_2, bi_3, bi_4, bi_5, bi_6, bi_7, bi_8, bi_9, bi_10, bl_20, bl_21, bl_22, bl_23, bl_24, bl_25, bl_26, bl_48, bl_49, un_0, un_1, un_2, un_3, if_true, if_false, ite_true, ite_false, Bool.false_eq_true, Bool.not_eq_false, decide_not, Bool.not_not, reduceCtorEq, st_i, st_l, st_r, st_n, ee_noL, ee_noL.eq_1, List.length_cons, List.length_nil, Nat.reduceAdd, Nat.reduceLT, Nat.zero_add, and_true, true_and, and_self, fin_ite, pu_0, pu_1, pu_3, sto_0, el_0, Bool.not_eq_true, decide_eq_false_iff_not, Bool.decide_eq_true, Bool.decide_eq_false, decide_true, decide_false, Bool.not_true, Bool.not_false, Bool.and_self, Bool.and_true, Bool.and_false, Bool.true_and, Bool.false_and, Bool.or_true, Bool.or_false, Bool.true_or, Bool.false_or, if_true, if_false, Bool.false_eq_true]
theorem t_then (hd : 3 ≤ d) (hb : tx_ok b) (ha : a < T) (hT : T ≤ 300) (hk : k ≤ a) (hcode : w.1 (b + 4) a = enc v 12) (hv : dok v 12 = true) (hn : n < 64) (h1 : w.1 229 1 = Int32.ofNat (n + 1)) :
    FW P d (EV b h frm off T a k l8 l9 l10, w) = some (.inl (EV b h frm off T (if w.1 230 n = 0 then v else a + 1) (k + 1) (some (.int (Int32.ofNat 12))) (some (.int (Int32.ofNat v))) l10, popw w n)) := by
  have hd1 : 1 ≤ d := by omega
  have hd2 : 2 ≤ d := by omega
  obtain ⟨b0, -, -, -, b4, -, -, -, b8⟩ := hb
  obtain ⟨v1, v2⟩ := dok_of hv
  obtain ⟨t1, t2, t3, t4, t5⟩ := tcond ha hT hk
  unfold FW EV
  by_cases q : w.1 230 n = 0 <;>
    simp +decide only [r_within hd1, c_pop hd2 hn h1, q, hcode, v1, v2, t1, t2, t3, t4, t5, b0, b4, b8, rvs, j_s, j_a, lx_88_1, lb_88_1, ee_turn, k_0, k_1, k_299, k_300, k_6, k_63, nz_1, nz_299, nz_300, nz_6, nz_63, v_and, v_bin, v_call, v_cmp, v_cons, v_get, v_idx, v_int, v_loc, v_nil, v_tern, v_un, v_z, w_case, w_dflt, w_exp0, w_exp1, w_inc, w_put, w_ret, w_seq, w_set, w_skip, w_switch, List.getElem?_cons_zero, List.getElem?_cons_succ, List.set_cons_zero, List.set_cons_succ, ee_cmp0, ee_cmp1, ee_cmp2, ee_cmp3, ee_cmp4, ee_cmp5, ee_cmpL0, ee_cmpL1, ee_cmpL2, ee_cmpL3, ee_cmpL4, ee_cmpL5, ee_tru_eb, decide_eq_true_eq, ib_i, ie_b, ie_f, ie_t, ib_l, fin_i, fin_l, fin_v, fin_z, fin_a, fin_n, ee_b_0, ee_fld0, ee_fld1, ee_fld2, ee_fld3, bi_0, bi_1, bi_2, bi_3, bi_4, bi_5, bi_6, bi_7, bi_8, bi_9, bi_10, bl_20, bl_21, bl_22, bl_23, bl_24, bl_25, bl_26, bl_48, bl_49, un_0, un_1, un_2, un_3, if_true, if_false, ite_true, ite_false, Bool.false_eq_true, Bool.not_eq_false, decide_not, Bool.not_not, reduceCtorEq, st_i, st_l, st_r, st_n, ee_noL, ee_noL.eq_1, List.length_cons, List.length_nil, Nat.reduceAdd, Nat.reduceLT, Nat.zero_add, and_true, true_and, and_self, fin_ite, pu_0, pu_1, pu_3, sto_0, el_0, Bool.not_eq_true, decide_eq_false_iff_not, Bool.decide_eq_true, Bool.decide_eq_false, decide_true, decide_false, Bool.not_true, Bool.not_false, Bool.and_self, Bool.and_true, Bool.and_false, Bool.true_and, Bool.false_and, Bool.or_true, Bool.or_false, Bool.true_or, Bool.false_or, if_true, if_false, Bool.false_eq_true]
theorem t_else (hd : 3 ≤ d) (hb : tx_ok b) (ha : a < T) (hT : T ≤ 300) (hk : k ≤ a) (hcode : w.1 (b + 4) a = enc v 13) (hv : dok v 13 = true) :
    FW P d (EV b h frm off T a k l8 l9 l10, w) = some (.inl (EV b h frm off T v (k + 1) (some (.int (Int32.ofNat 13))) (some (.int (Int32.ofNat v))) l10, w)) := by
  have hd1 : 1 ≤ d := by omega
  obtain ⟨b0, -, -, -, b4, -, -, -, b8⟩ := hb
  obtain ⟨v1, v2⟩ := dok_of hv
  obtain ⟨t1, t2, t3, t4, t5⟩ := tcond ha hT hk
  unfold FW EV
  simp +decide only [r_within hd1, hcode, v1, v2, t1, t2, t3, t4, t5, b0, b4, b8, rvs, j_s, j_a, lx_88_1, lb_88_1, ee_turn, k_0, k_1, k_299, k_300, k_6, k_63, nz_1, nz_299, nz_300, nz_6, nz_63, v_and, v_bin, v_call, v_cmp, v_cons, v_get, v_idx, v_int, v_loc, v_nil, v_tern, v_un, v_z, w_case, w_dflt, w_exp0, w_exp1, w_inc, w_put, w_ret, w_seq, w_set, w_skip, w_switch, List.getElem?_cons_zero, List.getElem?_cons_succ, List.set_cons_zero, List.set_cons_succ, ee_cmp0, ee_cmp1, ee_cmp2, ee_cmp3, ee_cmp4, ee_cmp5, ee_cmpL0, ee_cmpL1, ee_cmpL2, ee_cmpL3, ee_cmpL4, ee_cmpL5, ee_tru_eb, decide_eq_true_eq, ib_i, ie_b, ie_f, ie_t, ib_l, fin_i, fin_l, fin_v, fin_z, fin_a, fin_n, ee_b_0, ee_fld0, ee_fld1, ee_fld2, ee_fld3, bi_0, bi_1, bi_2, bi_3, bi_4, bi_5, bi_6, bi_7, bi_8, bi_9, bi_10, bl_20, bl_21, bl_22, bl_23, bl_24, bl_25, bl_26, bl_48, bl_49, un_0, un_1, un_2, un_3, if_true, if_false, ite_true, ite_false, Bool.false_eq_true, Bool.not_eq_false, decide_not, Bool.not_not, reduceCtorEq, st_i, st_l, st_r, st_n, ee_noL, ee_noL.eq_1, List.length_cons, List.length_nil, Nat.reduceAdd, Nat.reduceLT, Nat.zero_add, and_true, true_and, and_self, fin_ite, pu_0, pu_1, pu_3, sto_0, el_0, Bool.not_eq_true, decide_eq_false_iff_not, Bool.decide_eq_true, Bool.decide_eq_false, decide_true, decide_false, Bool.not_true, Bool.not_false, Bool.and_self, Bool.and_true, Bool.and_false, Bool.true_and, Bool.false_and, Bool.or_true, Bool.or_false, Bool.true_or, Bool.false_or, if_true, if_false, Bool.false_eq_true]
end MT
