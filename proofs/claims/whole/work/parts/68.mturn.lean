/-! the reference's turns -/
def gm_leaf : ee_T := (s_seq 113 (s_sto 2 (n_get 8 21 2 (n_loc 0 2)) (n_loc 5 0) (n_tern (n_z 0 (n_loc 8 0)) (n_un 1 (n_loc 9 0)) (n_un 1 (n_idx 0 (n_get 8 20 2 (n_loc 0 2)) (n_loc 9 0))))) (s_inc 5 1))
def gm_sel : ee_T := (s_seq 128 (s_inc 5 4294967295) (s_seq 131 (s_inc 6 4294967295) (s_if 141 349 (n_not (n_z 1 (n_idx 1 (n_get 8 22 2 (n_loc 0 2)) (n_loc 6 0)))) (s_sto 2 (n_get 8 21 2 (n_loc 0 2)) (n_bin 1 (n_loc 5 0) (n_int 1)) (n_idx 2 (n_get 8 21 2 (n_loc 0 2)) (n_loc 5 0))) s_skip)))
def gm_one : ee_T := (s_sto 2 (n_get 8 21 2 (n_loc 0 2)) (n_bin 1 (n_loc 5 0) (n_int 1)) (n_call 256 (n_cons (n_loc 0 2) (n_cons (n_loc 8 0) (n_cons (n_idx 2 (n_get 8 21 2 (n_loc 0 2)) (n_bin 1 (n_loc 5 0) (n_int 1))) n_nil)))))
def gm_two : ee_T := (s_seq 203 (s_inc 5 4294967295) (s_sto 2 (n_get 8 21 2 (n_loc 0 2)) (n_bin 1 (n_loc 5 0) (n_int 1)) (n_call 260 (n_cons (n_loc 8 0) (n_cons (n_idx 2 (n_get 8 21 2 (n_loc 0 2)) (n_bin 1 (n_loc 5 0) (n_int 1))) (n_cons (n_idx 2 (n_get 8 21 2 (n_loc 0 2)) (n_loc 5 0)) n_nil))))))
def gm_ask : ee_T := (s_seq 246 (s_inc 5 4294967294) (s_seq 274 (s_sto 1 (n_get 8 22 2 (n_loc 0 2)) (n_loc 6 0) (n_call 262 (n_cons (n_loc 8 0) (n_cons (n_idx 2 (n_get 8 21 2 (n_loc 0 2)) (n_loc 5 0)) (n_cons (n_idx 2 (n_get 8 21 2 (n_loc 0 2)) (n_bin 0 (n_loc 5 0) (n_int 1))) n_nil))))) (s_inc 6 1)))
def gm_not : ee_T := (s_sto 1 (n_get 8 22 2 (n_loc 0 2)) (n_bin 1 (n_loc 6 0) (n_int 1)) (n_mat (n_not (n_z 1 (n_idx 1 (n_get 8 22 2 (n_loc 0 2)) (n_bin 1 (n_loc 6 0) (n_int 1)))))))
def gm_join : ee_T := (s_seq 319 (s_inc 6 4294967295) (s_sto 1 (n_get 8 22 2 (n_loc 0 2)) (n_bin 1 (n_loc 6 0) (n_int 1)) (n_call 263 (n_cons (n_loc 8 0) (n_cons (n_idx 1 (n_get 8 22 2 (n_loc 0 2)) (n_bin 1 (n_loc 6 0) (n_int 1))) (n_cons (n_idx 1 (n_get 8 22 2 (n_loc 0 2)) (n_loc 6 0)) n_nil))))))
theorem lb_255_g : lb_255_1 = (s_seq 349 (s_seq 65 (s_set 8 0 (n_idx 0 (n_get 8 2 2 (n_loc 0 2)) (n_bin 0 (n_loc 4 0) (n_bin 2 (n_int 2) (n_loc 7 0))))) (s_seq 81 (s_set 9 0 (n_idx 0 (n_get 8 2 2 (n_loc 0 2)) (n_bin 0 (n_bin 0 (n_loc 4 0) (n_bin 2 (n_int 2) (n_loc 7 0))) (n_int 1)))) (s_if 87 119 (n_cmp 5 (n_loc 8 0) (n_int 1)) gm_leaf (s_if 125 160 (n_cmp 0 (n_loc 8 0) (n_int 3)) gm_sel (s_if 166 193 (n_cmp 5 (n_loc 8 0) (n_int 5)) gm_one (s_if 200 236 (n_cmp 2 (n_loc 8 0) (n_int 10)) gm_two (s_if 243 280 (n_cmp 2 (n_loc 8 0) (n_int 20)) gm_ask (s_if 287 316 (n_cmp 0 (n_loc 8 0) (n_int 20)) gm_not gm_join)))))))) (s_inc 7 1)) := rfl
section NT
theorem w_incm1 {sh : Nat → Nat × Nat} {rf : Nat → Nat → Option Nat} {C : Nat → List Value → ee_W → Option (List Value × ee_W)} {env : ee_E} {w : ee_W} {v : Int32} (i : Nat) : ee_evS sh rf C (s_inc i 4294967295) v env w = (match env[i]? with
    | some (some (.int x)) => if ee_noL env i = true then some (.inl (env.set i (some (.int (x + -1))), w)) else none
    | _ => none) := by
  rw [w_inc, k_4294967295]
  rfl
theorem w_incm2 {sh : Nat → Nat × Nat} {rf : Nat → Nat → Option Nat} {C : Nat → List Value → ee_W → Option (List Value × ee_W)} {env : ee_E} {w : ee_W} {v : Int32} (i : Nat) : ee_evS sh rf C (s_inc i 4294967294) v env w = (match env[i]? with
    | some (some (.int x)) => if ee_noL env i = true then some (.inl (env.set i (some (.int (x + -2))), w)) else none
    | _ => none) := by
  rw [w_inc, k_4294967294]
  rfl
theorem w_incp1 {sh : Nat → Nat × Nat} {rf : Nat → Nat → Option Nat} {C : Nat → List Value → ee_W → Option (List Value × ee_W)} {env : ee_E} {w : ee_W} {v : Int32} (i : Nat) : ee_evS sh rf C (s_inc i 1) v env w = (match env[i]? with
    | some (some (.int x)) => if ee_noL env i = true then some (.inl (env.set i (some (.int (x + 1))), w)) else none
    | _ => none) := by
  rw [w_inc, k_1]
  rfl
variable {P : Nat → Nat → List Value → ee_W → Option (List Value × ee_W)} {d : Nat} {w w0 : ee_W} {X : HX}
def EM (tx cl : Int32) (xx cd n tr i : Nat) (l8 l9 : Option Value) : ee_E := [some (.ref 236), some (.int tx), some (.int cl), some (.int (Int32.ofNat xx)), some (.int (Int32.ofNat cd)), some (.int (Int32.ofNat n)), some (.int (Int32.ofNat tr)), some (.int (Int32.ofNat i)), l8, l9]
noncomputable def GW (P : Nat → Nat → List Value → ee_W → Option (List Value × ee_W)) (d : Nat) : ee_E × ee_W → Option ((ee_E × ee_W) ⊕ ee_O) := ee_turn (ee_ev es_sh es_rf (ee_run ee_B P d) lx_255_1) (ee_evS es_sh es_rf (ee_run ee_B P d) lb_255_1)
variable {tx cl oI vI : Int32} {xx cd n tr i E o v : Nat} {l8 l9 : Option Value}
def at_ok (w : ee_W) (xx cd i E : Nat) : Prop := xx + 2 < 2724 ∧ cd + 602 < 2724 ∧ i < E ∧ E ≤ 300 ∧ w.1 239 (xx + 2) = Int32.ofNat E
theorem mcond (h : at_ok w xx cd i E) : (Int32.ofNat i < Int32.ofNat E) ∧ ((2 : Int32) * Int32.ofNat i = Int32.ofNat (2 * i)) ∧ (Int32.ofNat xx + 2 = Int32.ofNat (xx + 2)) ∧ ee_ix (Int32.ofNat (xx + 2)) 2724 = true ∧ (Int32.ofNat (xx + 2)).toNatClampNeg = xx + 2 ∧ ee_ix (Int32.ofNat (cd + 2 * i)) 2724 = true ∧ (Int32.ofNat (cd + 2 * i)).toNatClampNeg = cd + 2 * i ∧ ee_ix (Int32.ofNat (cd + 2 * i + 1)) 2724 = true ∧ (Int32.ofNat (cd + 2 * i + 1)).toNatClampNeg = cd + 2 * i + 1 := by
  obtain ⟨h1, h2, h3, h4, h5⟩ := h
  refine ⟨(j_lt (by omega) (by omega)).2 h3, j_m 2 i, j_a _ 2, ?_, tnc (by omega), ?_, tnc (by omega), ?_, tnc (by omega)⟩
  · rw [ixn (by omega)]; exact decide_eq_true (by omega)
  · rw [ixn (by omega)]; exact decide_eq_true (by omega)
  · rw [ixn (by omega)]; exact decide_eq_true (by omega)
theorem ix330 {n : Nat} (h : n < 330) : ee_ix (Int32.ofNat n) 330 = true := by rw [ixn (by omega)]; exact decide_eq_true h
theorem u_num (h : at_ok w xx cd i E) (h1 : w.1 239 (cd + 2 * i) = 0) (h2 : w.1 239 (cd + 2 * i + 1) = vI) (hn : n < 330) :
    GW P d (EM tx cl xx cd n tr i l8 l9, w) = some (.inl (EM tx cl xx cd (n + 1) tr (i + 1) (some (.int 0)) (some (.int vI)), ee_wJ w 243 n vI.toInt64)) := by
  obtain ⟨t1, t2, t3, t4, t5, t6, t7, t8, t9⟩ := mcond h
  obtain ⟨-, -, -, -, hE⟩ := h
  have c1 : (0 : Int32) ≤ 1 := by decide
  unfold GW EM
  simp only [h1, h2, hE, t1, t2, t3, t4, t5, t6, t7, t8, t9, ix330 hn, tnc (show n < 2147483648 by omega), c1, mz_t, mz_ts, mz_v, mz_vs, sto_2, lx_255_1, lb_255_g, gm_leaf, ee_turn, k_0, k_1, k_10, k_2, k_20, k_3, k_5, k_681, k_73, nz_1, nz_10, nz_2, nz_20, nz_3, nz_5, nz_681, nz_73, v_bin, v_call, v_cmp, v_cons, v_get, v_idx, v_int, v_loc, v_mat, v_nil, v_not, v_tern, v_un, v_z, w_if, w_incm1, w_incm2, w_incp1, w_ret, w_seq, w_set, w_skip, w_sto, List.getElem?_cons_zero, List.getElem?_cons_succ, List.set_cons_zero, List.set_cons_succ, ee_cmp0, ee_cmp1, ee_cmp2, ee_cmp3, ee_cmp4, ee_cmp5, ee_cmpL0, ee_cmpL1, ee_cmpL2, ee_cmpL3, ee_cmpL4, ee_cmpL5, ee_tru_eb, decide_eq_true_eq, ib_i, ie_b, ie_f, ie_t, ib_l, fin_i, fin_l, fin_v, fin_z, fin_a, fin_n, ee_b_0, ee_fld0, ee_fld1, ee_fld2, ee_fld3, bi_0, bi_1, bi_2, bi_3, bi_4, bi_5, bi_6, bi_7, bi_8, bi_9, bi_10, bl_20, bl_21, bl_22, bl_23, bl_24, bl_25, bl_26, bl_48, bl_49, un_0, un_1, un_2, un_3, if_true, if_false, ite_true, ite_false, Bool.false_eq_true, Bool.not_eq_false, decide_not, Bool.not_not, reduceCtorEq, st_i, st_l, st_r, st_n, ee_noL, ee_noL.eq_1, List.length_cons, List.length_nil, Nat.reduceAdd, Nat.reduceLT, Nat.zero_add, and_true, true_and, and_self, fin_ite, pu_0, pu_1, pu_3, sto_0, el_0, Bool.not_eq_true, decide_eq_false_iff_not, Bool.decide_eq_true, Bool.decide_eq_false, decide_true, decide_false, Bool.not_true, Bool.not_false, Bool.and_self, Bool.and_true, Bool.and_false, Bool.true_and, Bool.false_and, Bool.or_true, Bool.or_false, Bool.true_or, Bool.false_or, if_true, if_false, Bool.false_eq_true, tc_0, ix_0, tc_1, ix_1, tc_10, ix_10, tc_2, ix_2, tc_20, ix_20, tc_3, ix_3, tc_5, ix_5, tc_681, ix_681, tc_73, ix_73, mz_0, mz_1, mz_a, rvs, j_s, j_a, wI_at, Nat.reduceEqDiff, zero_ne_one_n, one_ne_zero_n]
theorem u_nam (h : at_ok w xx cd i E) (h1 : w.1 239 (cd + 2 * i) = 1) (h2 : w.1 239 (cd + 2 * i + 1) = Int32.ofNat v) (hv : v < 7) (hn : n < 330) :
    GW P d (EM tx cl xx cd n tr i l8 l9, w) = some (.inl (EM tx cl xx cd (n + 1) tr (i + 1) (some (.int 1)) (some (.int (Int32.ofNat v))), ee_wJ w 243 n (w.1 242 v).toInt64)) := by
  obtain ⟨t1, t2, t3, t4, t5, t6, t7, t8, t9⟩ := mcond h
  obtain ⟨-, -, -, -, hE⟩ := h
  have c1 : (1 : Int32) ≤ 1 := by decide
  have x7 : ee_ix (Int32.ofNat v) 7 = true := by rw [ixn (by omega)]; exact decide_eq_true hv
  unfold GW EM
  simp only [h1, h2, hE, t1, t2, t3, t4, t5, t6, t7, t8, t9, ix330 hn, tnc (show n < 2147483648 by omega), x7, tnc (show v < 2147483648 by omega), c1, mz_t, mz_ts, mz_n, mz_ns, mz_v, mz_vs, sto_2, lx_255_1, lb_255_g, gm_leaf, ee_turn, k_0, k_1, k_10, k_2, k_20, k_3, k_5, k_681, k_73, nz_1, nz_10, nz_2, nz_20, nz_3, nz_5, nz_681, nz_73, v_bin, v_call, v_cmp, v_cons, v_get, v_idx, v_int, v_loc, v_mat, v_nil, v_not, v_tern, v_un, v_z, w_if, w_incm1, w_incm2, w_incp1, w_ret, w_seq, w_set, w_skip, w_sto, List.getElem?_cons_zero, List.getElem?_cons_succ, List.set_cons_zero, List.set_cons_succ, ee_cmp0, ee_cmp1, ee_cmp2, ee_cmp3, ee_cmp4, ee_cmp5, ee_cmpL0, ee_cmpL1, ee_cmpL2, ee_cmpL3, ee_cmpL4, ee_cmpL5, ee_tru_eb, decide_eq_true_eq, ib_i, ie_b, ie_f, ie_t, ib_l, fin_i, fin_l, fin_v, fin_z, fin_a, fin_n, ee_b_0, ee_fld0, ee_fld1, ee_fld2, ee_fld3, bi_0, bi_1, bi_2, bi_3, bi_4, bi_5, bi_6, bi_7, bi_8, bi_9, bi_10, bl_20, bl_21, bl_22, bl_23, bl_24, bl_25, bl_26, bl_48, bl_49, un_0, un_1, un_2, un_3, if_true, if_false, ite_true, ite_false, Bool.false_eq_true, Bool.not_eq_false, decide_not, Bool.not_not, reduceCtorEq, st_i, st_l, st_r, st_n, ee_noL, ee_noL.eq_1, List.length_cons, List.length_nil, Nat.reduceAdd, Nat.reduceLT, Nat.zero_add, and_true, true_and, and_self, fin_ite, pu_0, pu_1, pu_3, sto_0, el_0, Bool.not_eq_true, decide_eq_false_iff_not, Bool.decide_eq_true, Bool.decide_eq_false, decide_true, decide_false, Bool.not_true, Bool.not_false, Bool.and_self, Bool.and_true, Bool.and_false, Bool.true_and, Bool.false_and, Bool.or_true, Bool.or_false, Bool.true_or, Bool.false_or, if_true, if_false, Bool.false_eq_true, tc_0, ix_0, tc_1, ix_1, tc_10, ix_10, tc_2, ix_2, tc_20, ix_20, tc_3, ix_3, tc_5, ix_5, tc_681, ix_681, tc_73, ix_73, mz_0, mz_1, mz_a, rvs, j_s, j_a, wI_at, Nat.reduceEqDiff, zero_ne_one_n, one_ne_zero_n]
theorem u_sel (h : at_ok w xx cd i E) (h1 : w.1 239 (cd + 2 * i) = 3) (h2 : w.1 239 (cd + 2 * i + 1) = vI) (hn : n + 1 < 330) (htr : tr < 330) {p : Bool} (hp : w.1 244 tr = ee_b p) :
    GW P d (EM tx cl xx cd (n + 2) (tr + 1) i l8 l9, w) = some (.inl (EM tx cl xx cd (n + 1) tr (i + 1) (some (.int 3)) (some (.int vI)), if p = true then w else ee_wJ w 243 n (w.2.1 243 (n + 1)))) := by
  obtain ⟨t1, t2, t3, t4, t5, t6, t7, t8, t9⟩ := mcond h
  obtain ⟨-, -, -, -, hE⟩ := h
  have c1 : ¬ (3 : Int32) ≤ 1 := by decide
  have e1 : Int32.ofNat (n + 2) + -1 = Int32.ofNat (n + 1) := j_p1 (n := n + 1) (by omega)
  have e2 : Int32.ofNat (tr + 1) + -1 = Int32.ofNat tr := j_p1 (by omega)
  have e3 : Int32.ofNat (n + 1) - 1 = Int32.ofNat n := j_sub1 (by omega) (by omega)
  unfold GW EM
  sorry
end NT
