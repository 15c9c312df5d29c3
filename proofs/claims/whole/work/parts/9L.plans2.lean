/-! fewest and plan, the class's -/
section PLC
variable {P : Nat → Nat → List Value → ee_W → Option (List Value × ee_W)} {d : Nat} {w : ee_W} {Z : ZX} {mo s f l : Nat}
theorem rd_234 : es_sh 234 = (0, 610) := by decide +kernel
def c234 (c : Nat) : Bool := decide (c = 234)
theorem j_dd {a b : Nat} (h : b ≤ a) (ha : a < 2147483648) : Int32.ofNat a - Int32.ofNat b = Int32.ofNat (a - b) := by
  rw [i32_eq, i32_sub (by rw [nI_t (by omega), nI_t (by omega)]; omega) (by rw [nI_t (by omega), nI_t (by omega)]; omega), nI_t (by omega), nI_t (by omega), nI_t (by omega)]
  omega
theorem inb {a b : Nat} (ha : a < 2147483648) (hb : b < 2147483648) : (decide ((0 : Int32) ≤ Int32.ofNat a) && decide (Int32.ofNat a ≤ Int32.ofNat b)) = decide (a ≤ b) := by
  rw [decide_eq_true (show (0 : Int32) ≤ Int32.ofNat a from (j_le (a := 0) (by omega) ha).2 (Nat.zero_le _)), Bool.true_and]
  by_cases y : a ≤ b
  · rw [decide_eq_true y, decide_eq_true ((j_le ha hb).2 y)]
  · rw [decide_eq_false y, decide_eq_false (fun z => y ((j_le ha hb).1 z))]
theorem zof {a : Nat} (ha : a < 2147483648) : (Int32.ofNat a = 0) ↔ a = 0 := by
  rw [i32_eq, nI_t ha, show (0 : Int32).toInt = 0 from rfl]; omega
theorem c_place (hd : 2 ≤ d) (hs : s ≤ 9) (hf : f ≤ 60) : ee_run ee_B P d 138 [.int (Int32.ofNat s), .int (Int32.ofNat f)] w = some ([.int (Int32.ofNat (s * 61 + f))], w) := by
  obtain ⟨d, rfl⟩ : ∃ k, d = k + 1 := ⟨d - 1, by omega⟩
  have hd1 : 1 ≤ d := by omega
  have q1 : (decide ((0 : Int32) ≤ Int32.ofNat s) && decide (Int32.ofNat s ≤ 9)) = true := (inb (b := 9) (by omega) (by omega)).trans (decide_eq_true hs)
  have q2 : (decide ((0 : Int32) ≤ Int32.ofNat f) && decide (Int32.ofNat f ≤ 60)) = true := (inb (b := 60) (by omega) (by omega)).trans (decide_eq_true hf)
  have e : Int32.ofNat s * 61 = Int32.ofNat (s * 61) := j_m s 61
  rw [rn_138]
  simp only [r_within hd1, q1, q2, e, j_a, bd_138, k_0, k_4294967295, k_60, k_61, k_9, nz_60, nz_61, nz_9, v_bin, v_call, v_cons, v_int, v_loc, v_nil, v_not, v_or, v_z, w_if, w_ret, List.getElem?_cons_zero, List.getElem?_cons_succ, List.set_cons_zero, List.set_cons_succ, ee_cmp0, ee_cmp1, ee_cmp2, ee_cmp3, ee_cmp4, ee_cmp5, ee_cmpL0, ee_cmpL1, ee_cmpL2, ee_cmpL3, ee_cmpL4, ee_cmpL5, ee_tru_eb, decide_eq_true_eq, ib_i, ie_b, ie_f, ie_t, ib_l, fin_i, fin_l, fin_v, fin_z, fin_a, fin_n, ee_b_0, ee_fld0, ee_fld1, ee_fld2, ee_fld3, bi_0, bi_1, bi_2, bi_3, bi_4, bi_5, bi_6, bi_7, bi_8, bi_9, bi_10, bl_20, bl_21, bl_22, bl_23, bl_24, bl_25, bl_26, bl_48, bl_49, un_0, un_1, un_2, un_3, if_true, if_false, ite_true, ite_false, Bool.false_eq_true, Bool.not_eq_false, decide_not, Bool.not_not, reduceCtorEq, st_i, st_l, st_r, st_n, ee_noL, ee_noL.eq_1, List.length_cons, List.length_nil, Nat.reduceAdd, Nat.reduceLT, Nat.zero_add, and_true, true_and, and_self, fin_ite, pu_0, pu_1, pu_3, sto_0, el_0, Bool.not_eq_true, decide_eq_false_iff_not, Bool.decide_eq_true, Bool.decide_eq_false, decide_true, decide_false, Bool.not_true, Bool.not_false, Bool.and_self, Bool.and_true, Bool.and_false, Bool.true_and, Bool.false_and, Bool.or_true, Bool.or_false, Bool.true_or, Bool.false_or, if_true, if_false, Bool.false_eq_true]
theorem c_fewestOf (hd : 3 ≤ d) (hs : s ≤ 9) (hf : f ≤ 60) {v : Nat} (hv : w.1 234 (s * 61 + f) = Int32.ofNat v) : ee_run ee_B P d 140 [.ref 0, .int (Int32.ofNat s), .int (Int32.ofNat f)] w = some ([.int (Int32.ofNat v)], w) := by
  obtain ⟨d, rfl⟩ : ∃ k, d = k + 1 := ⟨d - 1, by omega⟩
  have hd2 : 2 ≤ d := by omega
  have n1 : ¬ Int32.ofNat (s * 61 + f) = -1 := ofN_ne (by omega)
  have x1 : ee_ix (Int32.ofNat (s * 61 + f)) 610 = true := by rw [ixn (by omega)]; exact decide_eq_true (by omega)
  rw [rn_140 cz_0]
  simp only [c_place (P := P) (w := w) hd2 hs hf, n1, x1, hv, tnc (show s * 61 + f < 2147483648 by omega), cz_0, cz_r7, rd_234, rvs, bd_140, k_4294967295, k_9999, nz_9999, v_call, v_cmp, v_cons, v_get, v_idx, v_int, v_loc, v_nil, v_tern, w_ret, w_seq, w_set, List.getElem?_cons_zero, List.getElem?_cons_succ, List.set_cons_zero, List.set_cons_succ, ee_cmp0, ee_cmp1, ee_cmp2, ee_cmp3, ee_cmp4, ee_cmp5, ee_cmpL0, ee_cmpL1, ee_cmpL2, ee_cmpL3, ee_cmpL4, ee_cmpL5, ee_tru_eb, decide_eq_true_eq, ib_i, ie_b, ie_f, ie_t, ib_l, fin_i, fin_l, fin_v, fin_z, fin_a, fin_n, ee_b_0, ee_fld0, ee_fld1, ee_fld2, ee_fld3, bi_0, bi_1, bi_2, bi_3, bi_4, bi_5, bi_6, bi_7, bi_8, bi_9, bi_10, bl_20, bl_21, bl_22, bl_23, bl_24, bl_25, bl_26, bl_48, bl_49, un_0, un_1, un_2, un_3, if_true, if_false, ite_true, ite_false, Bool.false_eq_true, Bool.not_eq_false, decide_not, Bool.not_not, reduceCtorEq, st_i, st_l, st_r, st_n, ee_noL, ee_noL.eq_1, List.length_cons, List.length_nil, Nat.reduceAdd, Nat.reduceLT, Nat.zero_add, and_true, true_and, and_self, fin_ite, pu_0, pu_1, pu_3, sto_0, el_0, Bool.not_eq_true, decide_eq_false_iff_not, Bool.decide_eq_true, Bool.decide_eq_false, decide_true, decide_false, Bool.not_true, Bool.not_false, Bool.and_self, Bool.and_true, Bool.and_false, Bool.true_and, Bool.false_and, Bool.or_true, Bool.or_false, Bool.true_or, Bool.false_or, if_true, if_false, Bool.false_eq_true]
def kn (mo : Nat) (w : ee_W) (s f : Nat) : Prop := ∃ v, w.1 234 (s * 61 + f) = Int32.ofNat v ∧ fv mo s f v
theorem wkn {k : Nat} (hk : k < 2147483648) (hm : mo < 2147483648) : (decide ((0 : Int32) ≤ nxv k) && decide (nxv k ≤ Int32.ofNat mo)) = (decide (1 ≤ k) && decide (k - 1 ≤ mo)) := by
  by_cases a : 1 ≤ k
  · rw [decide_eq_true a, decide_eq_true ((nxv_0 hk).2 a)]
    by_cases b : k - 1 ≤ mo
    · rw [decide_eq_true b, decide_eq_true ((nxv_le hk hm).2 (by omega))]
    · rw [decide_eq_false b, decide_eq_false (fun z => by have := (nxv_le hk hm).1 z; omega)]
  · rw [decide_eq_false a, decide_eq_false (fun z => a ((nxv_0 hk).1 z))]; rfl
theorem nxv_z {k : Nat} (hk : k < 2147483648) : (nxv k = 0) ↔ k = 1 := by
  cases k with
  | zero => decide
  | succ k =>
    show Int32.ofNat k = 0 ↔ _
    rw [zof (by omega)]; omega
theorem c_leastOfNext (hd : 4 ≤ d) (hs : s ≤ mo) (hm : mo ≤ 9) (hf : f ≤ 60) (hk : ∀ s' f', s' ≤ mo → (f' < f ∨ (f' = f ∧ s' < s)) → kn mo w s' f') :
    ∃ u, li mo s f (s + 3) u ∧ ee_run ee_B P d 139 [.ref 0, .int (Int32.ofNat s), .int (Int32.ofNat f), .int (Int32.ofNat mo)] w = some ([.int (Int32.ofNat u)], w) := by
  obtain ⟨d, rfl⟩ : ∃ k, d = k + 1 := ⟨d - 1, by omega⟩
  have hd1 : 1 ≤ d := by omega
  have hd3 : 3 ≤ d := by omega
  have zs := zof (a := s) (by omega)
  obtain ⟨⟨u, v⟩, hl, i1, i2, i3⟩ := for_a (x := ee_ev es_sh es_rf (ee_run ee_B P d) lx_139_1) (b := ee_evS es_sh es_rf (ee_run ee_B P d) lb_139_1)
    (fun k (b : Nat × Option Value) => (([some (.ref 0), some (.int (Int32.ofNat s)), some (.int (Int32.ofNat f)), some (.int (Int32.ofNat mo)), some (.int (Int32.ofNat b.1)), some (.int (nxv k)), b.2], w) : ee_E × ee_W)) (s + 3)
    (fun k b => s ≤ k ∧ li mo s f k b.1 ∧ b.1 ≤ 9999)
    (by
      rintro k ⟨u, v⟩ hk3 ⟨i1, i2, i3⟩
      dsimp only at i1 i2 i3
      have h9 : nxv k ≤ Int32.ofNat (s + 1) := (nxv_le (by omega) (by omega)).2 (by omega)
      have zk := nxv_z (k := k) (by omega)
      have wk := wkn (k := k) (mo := mo) (by omega) (by omega)
      have lf := nxv_le (m := k) (s := f) (by omega) (by omega)
      have ns := nxv_s k
      by_cases y1 : s = 0 ∧ k = 1
      · refine ⟨(u, some (.int (ee_b true))), ?_, by omega, li_no i2 (by omega), i3⟩
        have z1 : (s = 0) = True := eq_true y1.1
        have z2 : (k = 1) = True := eq_true y1.2
        simp only [h9, zs, zk, z1, z2, ns, j_s, lx_139_1, lb_139_1, ee_turn, k_0, k_1, k_9999, nz_1, nz_9999, v_and, v_bin, v_call, v_cmp, v_cons, v_int, v_loc, v_mat, v_nil, v_not, v_z, w_if, w_inc, w_ret, w_seq, w_set, w_skip, List.getElem?_cons_zero, List.getElem?_cons_succ, List.set_cons_zero, List.set_cons_succ, ee_cmp0, ee_cmp1, ee_cmp2, ee_cmp3, ee_cmp4, ee_cmp5, ee_cmpL0, ee_cmpL1, ee_cmpL2, ee_cmpL3, ee_cmpL4, ee_cmpL5, ee_tru_eb, decide_eq_true_eq, ib_i, ie_b, ie_f, ie_t, ib_l, fin_i, fin_l, fin_v, fin_z, fin_a, fin_n, ee_b_0, ee_fld0, ee_fld1, ee_fld2, ee_fld3, bi_0, bi_1, bi_2, bi_3, bi_4, bi_5, bi_6, bi_7, bi_8, bi_9, bi_10, bl_20, bl_21, bl_22, bl_23, bl_24, bl_25, bl_26, bl_48, bl_49, un_0, un_1, un_2, un_3, if_true, if_false, ite_true, ite_false, Bool.false_eq_true, Bool.not_eq_false, decide_not, Bool.not_not, reduceCtorEq, st_i, st_l, st_r, st_n, ee_noL, ee_noL.eq_1, List.length_cons, List.length_nil, Nat.reduceAdd, Nat.reduceLT, Nat.zero_add, and_true, true_and, and_self, fin_ite, pu_0, pu_1, pu_3, sto_0, el_0, Bool.not_eq_true, decide_eq_false_iff_not, Bool.decide_eq_true, Bool.decide_eq_false, decide_true, decide_false, Bool.not_true, Bool.not_false, Bool.and_self, Bool.and_true, Bool.and_false, Bool.true_and, Bool.false_and, Bool.or_true, Bool.or_false, Bool.true_or, Bool.false_or, if_true, if_false, Bool.false_eq_true]
      · have e12 : (s = 0) = False ∨ ((s = 0) = True ∧ (k = 1) = False) := by
          by_cases a : s = 0
          · exact Or.inr ⟨eq_true a, eq_false (fun b => y1 ⟨a, b⟩)⟩
          · exact Or.inl (eq_false a)
        by_cases y2 : 1 ≤ k ∧ k - 1 ≤ mo
        · rw [decide_eq_true y2.1, decide_eq_true y2.2] at wk
          by_cases y3 : k - 1 ≤ f
          · have lf1 := lf.2 (by omega)
            have ek := nxv_n y2.1
            have ed : Int32.ofNat f - nxv k = Int32.ofNat (f - (k - 1)) := by rw [ek]; exact j_dd y3 (by omega)
            obtain ⟨x, x1, x2⟩ := hk (k - 1) (f - (k - 1)) y2.2 (by omega)
            have hfo := c_fewestOf (P := P) hd3 (show k - 1 ≤ 9 by omega) (show f - (k - 1) ≤ 60 by omega) x1
            rw [← ek] at hfo
            have x10 : x ≤ 10000 := by
              rcases x2 with ⟨-, a, -⟩ | ⟨a, -⟩ <;> omega
            have em : (if Int32.ofNat u ≤ Int32.ofNat x then Int32.ofNat u else Int32.ofNat x) = Int32.ofNat (if u ≤ x then u else x) := by
              by_cases a : u ≤ x
              · rw [if_pos a, if_pos ((j_le (by omega) (by omega)).2 a)]
              · rw [if_neg a, if_neg (fun b => a ((j_le (by omega) (by omega)).1 b))]
            refine ⟨(if u ≤ x then u else x, some (.int (ee_b false))), ?_, by omega, li_yes i1 (by omega) i2 ⟨y2.1, y2.2, y3, y1⟩ x2 hf, ?_⟩
            · rcases e12 with e1 | ⟨e1, e2⟩
              · simp only [h9, zs, zk, e1, ns, r_within hd1, wk, lf1, ed, hfo, r_min hd1, em, j_s, lx_139_1, lb_139_1, ee_turn, k_0, k_1, k_9999, nz_1, nz_9999, v_and, v_bin, v_call, v_cmp, v_cons, v_int, v_loc, v_mat, v_nil, v_not, v_z, w_if, w_inc, w_ret, w_seq, w_set, w_skip, List.getElem?_cons_zero, List.getElem?_cons_succ, List.set_cons_zero, List.set_cons_succ, ee_cmp0, ee_cmp1, ee_cmp2, ee_cmp3, ee_cmp4, ee_cmp5, ee_cmpL0, ee_cmpL1, ee_cmpL2, ee_cmpL3, ee_cmpL4, ee_cmpL5, ee_tru_eb, decide_eq_true_eq, ib_i, ie_b, ie_f, ie_t, ib_l, fin_i, fin_l, fin_v, fin_z, fin_a, fin_n, ee_b_0, ee_fld0, ee_fld1, ee_fld2, ee_fld3, bi_0, bi_1, bi_2, bi_3, bi_4, bi_5, bi_6, bi_7, bi_8, bi_9, bi_10, bl_20, bl_21, bl_22, bl_23, bl_24, bl_25, bl_26, bl_48, bl_49, un_0, un_1, un_2, un_3, if_true, if_false, ite_true, ite_false, Bool.false_eq_true, Bool.not_eq_false, decide_not, Bool.not_not, reduceCtorEq, st_i, st_l, st_r, st_n, ee_noL, ee_noL.eq_1, List.length_cons, List.length_nil, Nat.reduceAdd, Nat.reduceLT, Nat.zero_add, and_true, true_and, and_self, fin_ite, pu_0, pu_1, pu_3, sto_0, el_0, Bool.not_eq_true, decide_eq_false_iff_not, Bool.decide_eq_true, Bool.decide_eq_false, decide_true, decide_false, Bool.not_true, Bool.not_false, Bool.and_self, Bool.and_true, Bool.and_false, Bool.true_and, Bool.false_and, Bool.or_true, Bool.or_false, Bool.true_or, Bool.false_or, if_true, if_false, Bool.false_eq_true]
              · simp only [h9, zs, zk, e1, e2, ns, r_within hd1, wk, lf1, ed, hfo, r_min hd1, em, j_s, lx_139_1, lb_139_1, ee_turn, k_0, k_1, k_9999, nz_1, nz_9999, v_and, v_bin, v_call, v_cmp, v_cons, v_int, v_loc, v_mat, v_nil, v_not, v_z, w_if, w_inc, w_ret, w_seq, w_set, w_skip, List.getElem?_cons_zero, List.getElem?_cons_succ, List.set_cons_zero, List.set_cons_succ, ee_cmp0, ee_cmp1, ee_cmp2, ee_cmp3, ee_cmp4, ee_cmp5, ee_cmpL0, ee_cmpL1, ee_cmpL2, ee_cmpL3, ee_cmpL4, ee_cmpL5, ee_tru_eb, decide_eq_true_eq, ib_i, ie_b, ie_f, ie_t, ib_l, fin_i, fin_l, fin_v, fin_z, fin_a, fin_n, ee_b_0, ee_fld0, ee_fld1, ee_fld2, ee_fld3, bi_0, bi_1, bi_2, bi_3, bi_4, bi_5, bi_6, bi_7, bi_8, bi_9, bi_10, bl_20, bl_21, bl_22, bl_23, bl_24, bl_25, bl_26, bl_48, bl_49, un_0, un_1, un_2, un_3, if_true, if_false, ite_true, ite_false, Bool.false_eq_true, Bool.not_eq_false, decide_not, Bool.not_not, reduceCtorEq, st_i, st_l, st_r, st_n, ee_noL, ee_noL.eq_1, List.length_cons, List.length_nil, Nat.reduceAdd, Nat.reduceLT, Nat.zero_add, and_true, true_and, and_self, fin_ite, pu_0, pu_1, pu_3, sto_0, el_0, Bool.not_eq_true, decide_eq_false_iff_not, Bool.decide_eq_true, Bool.decide_eq_false, decide_true, decide_false, Bool.not_true, Bool.not_false, Bool.and_self, Bool.and_true, Bool.and_false, Bool.true_and, Bool.false_and, Bool.or_true, Bool.or_false, Bool.true_or, Bool.false_or, if_true, if_false, Bool.false_eq_true]
            · dsimp only
              split <;> omega
          · have lf0 : ¬ nxv k ≤ Int32.ofNat f := fun z => by have := lf.1 z; omega
            refine ⟨(u, some (.int (ee_b false))), ?_, by omega, li_no i2 (by omega), i3⟩
            rcases e12 with e1 | ⟨e1, e2⟩
            · simp only [h9, zs, zk, e1, ns, r_within hd1, wk, lf0, j_s, lx_139_1, lb_139_1, ee_turn, k_0, k_1, k_9999, nz_1, nz_9999, v_and, v_bin, v_call, v_cmp, v_cons, v_int, v_loc, v_mat, v_nil, v_not, v_z, w_if, w_inc, w_ret, w_seq, w_set, w_skip, List.getElem?_cons_zero, List.getElem?_cons_succ, List.set_cons_zero, List.set_cons_succ, ee_cmp0, ee_cmp1, ee_cmp2, ee_cmp3, ee_cmp4, ee_cmp5, ee_cmpL0, ee_cmpL1, ee_cmpL2, ee_cmpL3, ee_cmpL4, ee_cmpL5, ee_tru_eb, decide_eq_true_eq, ib_i, ie_b, ie_f, ie_t, ib_l, fin_i, fin_l, fin_v, fin_z, fin_a, fin_n, ee_b_0, ee_fld0, ee_fld1, ee_fld2, ee_fld3, bi_0, bi_1, bi_2, bi_3, bi_4, bi_5, bi_6, bi_7, bi_8, bi_9, bi_10, bl_20, bl_21, bl_22, bl_23, bl_24, bl_25, bl_26, bl_48, bl_49, un_0, un_1, un_2, un_3, if_true, if_false, ite_true, ite_false, Bool.false_eq_true, Bool.not_eq_false, decide_not, Bool.not_not, reduceCtorEq, st_i, st_l, st_r, st_n, ee_noL, ee_noL.eq_1, List.length_cons, List.length_nil, Nat.reduceAdd, Nat.reduceLT, Nat.zero_add, and_true, true_and, and_self, fin_ite, pu_0, pu_1, pu_3, sto_0, el_0, Bool.not_eq_true, decide_eq_false_iff_not, Bool.decide_eq_true, Bool.decide_eq_false, decide_true, decide_false, Bool.not_true, Bool.not_false, Bool.and_self, Bool.and_true, Bool.and_false, Bool.true_and, Bool.false_and, Bool.or_true, Bool.or_false, Bool.true_or, Bool.false_or, if_true, if_false, Bool.false_eq_true]
            · simp only [h9, zs, zk, e1, e2, ns, r_within hd1, wk, lf0, j_s, lx_139_1, lb_139_1, ee_turn, k_0, k_1, k_9999, nz_1, nz_9999, v_and, v_bin, v_call, v_cmp, v_cons, v_int, v_loc, v_mat, v_nil, v_not, v_z, w_if, w_inc, w_ret, w_seq, w_set, w_skip, List.getElem?_cons_zero, List.getElem?_cons_succ, List.set_cons_zero, List.set_cons_succ, ee_cmp0, ee_cmp1, ee_cmp2, ee_cmp3, ee_cmp4, ee_cmp5, ee_cmpL0, ee_cmpL1, ee_cmpL2, ee_cmpL3, ee_cmpL4, ee_cmpL5, ee_tru_eb, decide_eq_true_eq, ib_i, ie_b, ie_f, ie_t, ib_l, fin_i, fin_l, fin_v, fin_z, fin_a, fin_n, ee_b_0, ee_fld0, ee_fld1, ee_fld2, ee_fld3, bi_0, bi_1, bi_2, bi_3, bi_4, bi_5, bi_6, bi_7, bi_8, bi_9, bi_10, bl_20, bl_21, bl_22, bl_23, bl_24, bl_25, bl_26, bl_48, bl_49, un_0, un_1, un_2, un_3, if_true, if_false, ite_true, ite_false, Bool.false_eq_true, Bool.not_eq_false, decide_not, Bool.not_not, reduceCtorEq, st_i, st_l, st_r, st_n, ee_noL, ee_noL.eq_1, List.length_cons, List.length_nil, Nat.reduceAdd, Nat.reduceLT, Nat.zero_add, and_true, true_and, and_self, fin_ite, pu_0, pu_1, pu_3, sto_0, el_0, Bool.not_eq_true, decide_eq_false_iff_not, Bool.decide_eq_true, Bool.decide_eq_false, decide_true, decide_false, Bool.not_true, Bool.not_false, Bool.and_self, Bool.and_true, Bool.and_false, Bool.true_and, Bool.false_and, Bool.or_true, Bool.or_false, Bool.true_or, Bool.false_or, if_true, if_false, Bool.false_eq_true]
        · have wk0 : (decide (1 ≤ k) && decide (k - 1 ≤ mo)) = false := by
            by_cases a : 1 ≤ k
            · rw [decide_eq_false (show ¬ k - 1 ≤ mo by omega), Bool.and_false]
            · rw [decide_eq_false a]; rfl
          rw [wk0] at wk
          refine ⟨(u, some (.int (ee_b false))), ?_, by omega, li_no i2 (by omega), i3⟩
          rcases e12 with e1 | ⟨e1, e2⟩
          · simp only [h9, zs, zk, e1, ns, r_within hd1, wk, j_s, lx_139_1, lb_139_1, ee_turn, k_0, k_1, k_9999, nz_1, nz_9999, v_and, v_bin, v_call, v_cmp, v_cons, v_int, v_loc, v_mat, v_nil, v_not, v_z, w_if, w_inc, w_ret, w_seq, w_set, w_skip, List.getElem?_cons_zero, List.getElem?_cons_succ, List.set_cons_zero, List.set_cons_succ, ee_cmp0, ee_cmp1, ee_cmp2, ee_cmp3, ee_cmp4, ee_cmp5, ee_cmpL0, ee_cmpL1, ee_cmpL2, ee_cmpL3, ee_cmpL4, ee_cmpL5, ee_tru_eb, decide_eq_true_eq, ib_i, ie_b, ie_f, ie_t, ib_l, fin_i, fin_l, fin_v, fin_z, fin_a, fin_n, ee_b_0, ee_fld0, ee_fld1, ee_fld2, ee_fld3, bi_0, bi_1, bi_2, bi_3, bi_4, bi_5, bi_6, bi_7, bi_8, bi_9, bi_10, bl_20, bl_21, bl_22, bl_23, bl_24, bl_25, bl_26, bl_48, bl_49, un_0, un_1, un_2, un_3, if_true, if_false, ite_true, ite_false, Bool.false_eq_true, Bool.not_eq_false, decide_not, Bool.not_not, reduceCtorEq, st_i, st_l, st_r, st_n, ee_noL, ee_noL.eq_1, List.length_cons, List.length_nil, Nat.reduceAdd, Nat.reduceLT, Nat.zero_add, and_true, true_and, and_self, fin_ite, pu_0, pu_1, pu_3, sto_0, el_0, Bool.not_eq_true, decide_eq_false_iff_not, Bool.decide_eq_true, Bool.decide_eq_false, decide_true, decide_false, Bool.not_true, Bool.not_false, Bool.and_self, Bool.and_true, Bool.and_false, Bool.true_and, Bool.false_and, Bool.or_true, Bool.or_false, Bool.true_or, Bool.false_or, if_true, if_false, Bool.false_eq_true]
          · simp only [h9, zs, zk, e1, e2, ns, r_within hd1, wk, j_s, lx_139_1, lb_139_1, ee_turn, k_0, k_1, k_9999, nz_1, nz_9999, v_and, v_bin, v_call, v_cmp, v_cons, v_int, v_loc, v_mat, v_nil, v_not, v_z, w_if, w_inc, w_ret, w_seq, w_set, w_skip, List.getElem?_cons_zero, List.getElem?_cons_succ, List.set_cons_zero, List.set_cons_succ, ee_cmp0, ee_cmp1, ee_cmp2, ee_cmp3, ee_cmp4, ee_cmp5, ee_cmpL0, ee_cmpL1, ee_cmpL2, ee_cmpL3, ee_cmpL4, ee_cmpL5, ee_tru_eb, decide_eq_true_eq, ib_i, ie_b, ie_f, ie_t, ib_l, fin_i, fin_l, fin_v, fin_z, fin_a, fin_n, ee_b_0, ee_fld0, ee_fld1, ee_fld2, ee_fld3, bi_0, bi_1, bi_2, bi_3, bi_4, bi_5, bi_6, bi_7, bi_8, bi_9, bi_10, bl_20, bl_21, bl_22, bl_23, bl_24, bl_25, bl_26, bl_48, bl_49, un_0, un_1, un_2, un_3, if_true, if_false, ite_true, ite_false, Bool.false_eq_true, Bool.not_eq_false, decide_not, Bool.not_not, reduceCtorEq, st_i, st_l, st_r, st_n, ee_noL, ee_noL.eq_1, List.length_cons, List.length_nil, Nat.reduceAdd, Nat.reduceLT, Nat.zero_add, and_true, true_and, and_self, fin_ite, pu_0, pu_1, pu_3, sto_0, el_0, Bool.not_eq_true, decide_eq_false_iff_not, Bool.decide_eq_true, Bool.decide_eq_false, decide_true, decide_false, Bool.not_true, Bool.not_false, Bool.and_self, Bool.and_true, Bool.and_false, Bool.true_and, Bool.false_and, Bool.or_true, Bool.or_false, Bool.true_or, Bool.false_or, if_true, if_false, Bool.false_eq_true])
    (by
      rintro ⟨u, v⟩ -
      have h9 : ¬ nxv (s + 3) ≤ Int32.ofNat (s + 1) := fun z => by have := (nxv_le (by omega) (by omega)).1 z; omega
      simp only [h9, j_s, lx_139_1, lb_139_1, ee_turn, k_0, k_1, k_9999, nz_1, nz_9999, v_and, v_bin, v_call, v_cmp, v_cons, v_int, v_loc, v_mat, v_nil, v_not, v_z, w_if, w_inc, w_ret, w_seq, w_set, w_skip, List.getElem?_cons_zero, List.getElem?_cons_succ, List.set_cons_zero, List.set_cons_succ, ee_cmp0, ee_cmp1, ee_cmp2, ee_cmp3, ee_cmp4, ee_cmp5, ee_cmpL0, ee_cmpL1, ee_cmpL2, ee_cmpL3, ee_cmpL4, ee_cmpL5, ee_tru_eb, decide_eq_true_eq, ib_i, ie_b, ie_f, ie_t, ib_l, fin_i, fin_l, fin_v, fin_z, fin_a, fin_n, ee_b_0, ee_fld0, ee_fld1, ee_fld2, ee_fld3, bi_0, bi_1, bi_2, bi_3, bi_4, bi_5, bi_6, bi_7, bi_8, bi_9, bi_10, bl_20, bl_21, bl_22, bl_23, bl_24, bl_25, bl_26, bl_48, bl_49, un_0, un_1, un_2, un_3, if_true, if_false, ite_true, ite_false, Bool.false_eq_true, Bool.not_eq_false, decide_not, Bool.not_not, reduceCtorEq, st_i, st_l, st_r, st_n, ee_noL, ee_noL.eq_1, List.length_cons, List.length_nil, Nat.reduceAdd, Nat.reduceLT, Nat.zero_add, and_true, true_and, and_self, fin_ite, pu_0, pu_1, pu_3, sto_0, el_0, Bool.not_eq_true, decide_eq_false_iff_not, Bool.decide_eq_true, Bool.decide_eq_false, decide_true, decide_false, Bool.not_true, Bool.not_false, Bool.and_self, Bool.and_true, Bool.and_false, Bool.true_and, Bool.false_and, Bool.or_true, Bool.or_false, Bool.true_or, Bool.false_or, if_true, if_false, Bool.false_eq_true])
    3 s (9999, none) rfl ⟨Nat.le_refl _, li_0, Nat.le_refl _⟩
  dsimp only at hl i2
  rw [show Int32.ofNat 9999 = 9999 from rfl] at hl
  refine ⟨u, i2, ?_⟩
  rw [rn_139 cz_0]
  simp only [w_while, nxv_1 (show s < 2147483648 by omega), hl, be_139, k_0, k_1, k_9999, nz_1, nz_9999, v_and, v_bin, v_call, v_cmp, v_cons, v_int, v_loc, v_mat, v_nil, v_not, v_z, w_if, w_inc, w_ret, w_seq, w_set, w_skip, List.getElem?_cons_zero, List.getElem?_cons_succ, List.set_cons_zero, List.set_cons_succ, ee_cmp0, ee_cmp1, ee_cmp2, ee_cmp3, ee_cmp4, ee_cmp5, ee_cmpL0, ee_cmpL1, ee_cmpL2, ee_cmpL3, ee_cmpL4, ee_cmpL5, ee_tru_eb, decide_eq_true_eq, ib_i, ie_b, ie_f, ie_t, ib_l, fin_i, fin_l, fin_v, fin_z, fin_a, fin_n, ee_b_0, ee_fld0, ee_fld1, ee_fld2, ee_fld3, bi_0, bi_1, bi_2, bi_3, bi_4, bi_5, bi_6, bi_7, bi_8, bi_9, bi_10, bl_20, bl_21, bl_22, bl_23, bl_24, bl_25, bl_26, bl_48, bl_49, un_0, un_1, un_2, un_3, if_true, if_false, ite_true, ite_false, Bool.false_eq_true, Bool.not_eq_false, decide_not, Bool.not_not, reduceCtorEq, st_i, st_l, st_r, st_n, ee_noL, ee_noL.eq_1, List.length_cons, List.length_nil, Nat.reduceAdd, Nat.reduceLT, Nat.zero_add, and_true, true_and, and_self, fin_ite, pu_0, pu_1, pu_3, sto_0, el_0, Bool.not_eq_true, decide_eq_false_iff_not, Bool.decide_eq_true, Bool.decide_eq_false, decide_true, decide_false, Bool.not_true, Bool.not_false, Bool.and_self, Bool.and_true, Bool.and_false, Bool.true_and, Bool.false_and, Bool.or_true, Bool.or_false, Bool.true_or, Bool.false_or, if_true, if_false, Bool.false_eq_true]
theorem kn_up {x : ee_W} {s f v : Nat} (hf : f ≤ 60) (hv : fv mo s f v) {s' f' : Nat} (hf' : f' ≤ 60) (h : (s' = s ∧ f' = f) ∨ kn mo x s' f') : kn mo (ee_wI x 234 (s * 61 + f) (Int32.ofNat v)) s' f' := by
  by_cases y : s' = s ∧ f' = f
  · obtain ⟨rfl, rfl⟩ := y
    exact ⟨v, by rw [wI_at, if_pos ⟨rfl, rfl⟩], hv⟩
  · rcases h with h | ⟨u, h1, h2⟩
    · exact absurd h y
    · exact ⟨u, by rw [wI_at, if_neg (by omega)]; exact h1, h2⟩
theorem c_findFewest (hd : 5 ≤ d) {far : Nat} (hf : far ≤ 60) (hm : mo ≤ 9) : ∃ w', ee_run ee_B P d 137 [.ref 0, .int (Int32.ofNat far), .int (Int32.ofNat mo)] w = some ([], w') ∧ (∀ s f, s ≤ mo → f ≤ far → kn mo w' s f) ∧ chg c234 w w' := by
  obtain ⟨d, rfl⟩ : ∃ k, d = k + 1 := ⟨d - 1, by omega⟩
  have hd2 : 2 ≤ d := by omega
  have hd4 : 4 ≤ d := by omega
  obtain ⟨⟨x, v4, v5⟩, hl, i1, i2⟩ := for_a (x := ee_ev es_sh es_rf (ee_run ee_B P d) lx_137_2) (b := ee_evS es_sh es_rf (ee_run ee_B P d) lb_137_2)
    (fun k (b : ee_W × Option Value × Option Value) => (([some (.ref 0), some (.int (Int32.ofNat far)), some (.int (Int32.ofNat mo)), some (.int (Int32.ofNat k)), b.2.1, b.2.2], b.1) : ee_E × ee_W)) (far + 1)
    (fun k b => (∀ s f, s ≤ mo → f < k → kn mo b.1 s f) ∧ chg c234 w b.1)
    (by
      rintro k ⟨x, v4, v5⟩ hk ⟨i1, i2⟩
      dsimp only at i1 i2
      have h9 : Int32.ofNat k ≤ Int32.ofNat far := (j_le (by omega) (by omega)).2 (by omega)
      obtain ⟨⟨y, u5⟩, hc, c1, c2⟩ := for_a (x := ee_ev es_sh es_rf (ee_run ee_B P d) lx_137_1) (b := ee_evS es_sh es_rf (ee_run ee_B P d) lb_137_1)
        (fun s (b : ee_W × Option Value) => (([some (.ref 0), some (.int (Int32.ofNat far)), some (.int (Int32.ofNat mo)), some (.int (Int32.ofNat k)), some (.int (Int32.ofNat s)), b.2], b.1) : ee_E × ee_W)) (mo + 1)
        (fun s b => (∀ s' f', s' ≤ mo → (f' < k ∨ (f' = k ∧ s' < s)) → kn mo b.1 s' f') ∧ chg c234 w b.1)
        (by
          rintro s ⟨y, u5⟩ hs ⟨j1, j2⟩
          dsimp only at j1 j2
          have g9 : Int32.ofNat s ≤ Int32.ofNat mo := (j_le (by omega) (by omega)).2 (by omega)
          have pl := c_place (P := P) (w := y) hd2 (show s ≤ 9 by omega) (show k ≤ 60 by omega)
          have n1 : ¬ Int32.ofNat (s * 61 + k) = -1 := ofN_ne (by omega)
          have x1 : ee_ix (Int32.ofNat (s * 61 + k)) 610 = true := by rw [ixn (by omega)]; exact decide_eq_true (by omega)
          have zk := zof (a := k) (by omega)
          have s1 : Int32.ofNat s ≤ 1 ↔ s ≤ 1 := j_le (b := 1) (by omega) (by omega)
          by_cases y0 : k = 0 ∧ s ≤ 1
          · refine ⟨(ee_wI y 234 (s * 61 + k) (Int32.ofNat 0), some (.int (Int32.ofNat (s * 61 + k)))), ?_, fun s' f' q1 q2 => kn_up (by omega) (fv_0 y0) (by omega) ?_, chg_I rfl j2⟩
            · have z1 : (k = 0) = True := eq_true y0.1
              have z2 : (s ≤ 1) = True := eq_true y0.2
              simp only [g9, pl, n1, x1, zk, s1, z1, z2, tnc (show s * 61 + k < 2147483648 by omega), cz_0, cz_r7, rd_234, rvs, j_s, lx_137_1, lb_137_1, ee_turn, k_0, k_1, k_4294967295, nz_1, v_and, v_bin, v_call, v_cmp, v_cons, v_get, v_int, v_loc, v_nil, v_tern, v_z, w_if, w_inc, w_retv, w_seq, w_set, w_skip, w_sto, List.getElem?_cons_zero, List.getElem?_cons_succ, List.set_cons_zero, List.set_cons_succ, ee_cmp0, ee_cmp1, ee_cmp2, ee_cmp3, ee_cmp4, ee_cmp5, ee_cmpL0, ee_cmpL1, ee_cmpL2, ee_cmpL3, ee_cmpL4, ee_cmpL5, ee_tru_eb, decide_eq_true_eq, ib_i, ie_b, ie_f, ie_t, ib_l, fin_i, fin_l, fin_v, fin_z, fin_a, fin_n, ee_b_0, ee_fld0, ee_fld1, ee_fld2, ee_fld3, bi_0, bi_1, bi_2, bi_3, bi_4, bi_5, bi_6, bi_7, bi_8, bi_9, bi_10, bl_20, bl_21, bl_22, bl_23, bl_24, bl_25, bl_26, bl_48, bl_49, un_0, un_1, un_2, un_3, if_true, if_false, ite_true, ite_false, Bool.false_eq_true, Bool.not_eq_false, decide_not, Bool.not_not, reduceCtorEq, st_i, st_l, st_r, st_n, ee_noL, ee_noL.eq_1, List.length_cons, List.length_nil, Nat.reduceAdd, Nat.reduceLT, Nat.zero_add, and_true, true_and, and_self, fin_ite, pu_0, pu_1, pu_3, sto_0, el_0, Bool.not_eq_true, decide_eq_false_iff_not, Bool.decide_eq_true, Bool.decide_eq_false, decide_true, decide_false, Bool.not_true, Bool.not_false, Bool.and_self, Bool.and_true, Bool.and_false, Bool.true_and, Bool.false_and, Bool.or_true, Bool.or_false, Bool.true_or, Bool.false_or, if_true, if_false, Bool.false_eq_true]
            · by_cases q : s' = s ∧ f' = k
              · exact Or.inl q
              · exact Or.inr (j1 s' f' q1 (by omega))
          · obtain ⟨u, u1, u2⟩ := c_leastOfNext (P := P) hd4 (show s ≤ mo by omega) hm (show k ≤ 60 by omega) j1
            refine ⟨(ee_wI y 234 (s * 61 + k) (Int32.ofNat (u + 1)), some (.int (Int32.ofNat (s * 61 + k)))), ?_, fun s' f' q1 q2 => kn_up (by omega) (fv_step y0 u1) (by omega) ?_, chg_I rfl j2⟩
            · have e12 : (k = 0) = False ∨ ((k = 0) = True ∧ (s ≤ 1) = False) := by
                by_cases a : k = 0
                · exact Or.inr ⟨eq_true a, eq_false (fun b => y0 ⟨a, b⟩)⟩
                · exact Or.inl (eq_false a)
              rcases e12 with z1 | ⟨z1, z2⟩
              · simp only [g9, pl, n1, x1, zk, s1, z1, u2, tnc (show s * 61 + k < 2147483648 by omega), cz_0, cz_r7, rd_234, rvs, j_s, lx_137_1, lb_137_1, ee_turn, k_0, k_1, k_4294967295, nz_1, v_and, v_bin, v_call, v_cmp, v_cons, v_get, v_int, v_loc, v_nil, v_tern, v_z, w_if, w_inc, w_retv, w_seq, w_set, w_skip, w_sto, List.getElem?_cons_zero, List.getElem?_cons_succ, List.set_cons_zero, List.set_cons_succ, ee_cmp0, ee_cmp1, ee_cmp2, ee_cmp3, ee_cmp4, ee_cmp5, ee_cmpL0, ee_cmpL1, ee_cmpL2, ee_cmpL3, ee_cmpL4, ee_cmpL5, ee_tru_eb, decide_eq_true_eq, ib_i, ie_b, ie_f, ie_t, ib_l, fin_i, fin_l, fin_v, fin_z, fin_a, fin_n, ee_b_0, ee_fld0, ee_fld1, ee_fld2, ee_fld3, bi_0, bi_1, bi_2, bi_3, bi_4, bi_5, bi_6, bi_7, bi_8, bi_9, bi_10, bl_20, bl_21, bl_22, bl_23, bl_24, bl_25, bl_26, bl_48, bl_49, un_0, un_1, un_2, un_3, if_true, if_false, ite_true, ite_false, Bool.false_eq_true, Bool.not_eq_false, decide_not, Bool.not_not, reduceCtorEq, st_i, st_l, st_r, st_n, ee_noL, ee_noL.eq_1, List.length_cons, List.length_nil, Nat.reduceAdd, Nat.reduceLT, Nat.zero_add, and_true, true_and, and_self, fin_ite, pu_0, pu_1, pu_3, sto_0, el_0, Bool.not_eq_true, decide_eq_false_iff_not, Bool.decide_eq_true, Bool.decide_eq_false, decide_true, decide_false, Bool.not_true, Bool.not_false, Bool.and_self, Bool.and_true, Bool.and_false, Bool.true_and, Bool.false_and, Bool.or_true, Bool.or_false, Bool.true_or, Bool.false_or, if_true, if_false, Bool.false_eq_true]
              · simp only [g9, pl, n1, x1, zk, s1, z1, z2, u2, tnc (show s * 61 + k < 2147483648 by omega), cz_0, cz_r7, rd_234, rvs, j_s, lx_137_1, lb_137_1, ee_turn, k_0, k_1, k_4294967295, nz_1, v_and, v_bin, v_call, v_cmp, v_cons, v_get, v_int, v_loc, v_nil, v_tern, v_z, w_if, w_inc, w_retv, w_seq, w_set, w_skip, w_sto, List.getElem?_cons_zero, List.getElem?_cons_succ, List.set_cons_zero, List.set_cons_succ, ee_cmp0, ee_cmp1, ee_cmp2, ee_cmp3, ee_cmp4, ee_cmp5, ee_cmpL0, ee_cmpL1, ee_cmpL2, ee_cmpL3, ee_cmpL4, ee_cmpL5, ee_tru_eb, decide_eq_true_eq, ib_i, ie_b, ie_f, ie_t, ib_l, fin_i, fin_l, fin_v, fin_z, fin_a, fin_n, ee_b_0, ee_fld0, ee_fld1, ee_fld2, ee_fld3, bi_0, bi_1, bi_2, bi_3, bi_4, bi_5, bi_6, bi_7, bi_8, bi_9, bi_10, bl_20, bl_21, bl_22, bl_23, bl_24, bl_25, bl_26, bl_48, bl_49, un_0, un_1, un_2, un_3, if_true, if_false, ite_true, ite_false, Bool.false_eq_true, Bool.not_eq_false, decide_not, Bool.not_not, reduceCtorEq, st_i, st_l, st_r, st_n, ee_noL, ee_noL.eq_1, List.length_cons, List.length_nil, Nat.reduceAdd, Nat.reduceLT, Nat.zero_add, and_true, true_and, and_self, fin_ite, pu_0, pu_1, pu_3, sto_0, el_0, Bool.not_eq_true, decide_eq_false_iff_not, Bool.decide_eq_true, Bool.decide_eq_false, decide_true, decide_false, Bool.not_true, Bool.not_false, Bool.and_self, Bool.and_true, Bool.and_false, Bool.true_and, Bool.false_and, Bool.or_true, Bool.or_false, Bool.true_or, Bool.false_or, if_true, if_false, Bool.false_eq_true]
            · by_cases q : s' = s ∧ f' = k
              · exact Or.inl q
              · exact Or.inr (j1 s' f' q1 (by omega)))
        (by
          rintro ⟨y, u5⟩ -
          have g9 : ¬ Int32.ofNat (mo + 1) ≤ Int32.ofNat mo := fun z => by have := (j_le (by omega) (by omega)).1 z; omega
          simp only [g9, lx_137_1, lb_137_1, ee_turn, k_0, k_1, k_4294967295, nz_1, v_and, v_bin, v_call, v_cmp, v_cons, v_get, v_int, v_loc, v_nil, v_tern, v_z, w_if, w_inc, w_retv, w_seq, w_set, w_skip, w_sto, List.getElem?_cons_zero, List.getElem?_cons_succ, List.set_cons_zero, List.set_cons_succ, ee_cmp0, ee_cmp1, ee_cmp2, ee_cmp3, ee_cmp4, ee_cmp5, ee_cmpL0, ee_cmpL1, ee_cmpL2, ee_cmpL3, ee_cmpL4, ee_cmpL5, ee_tru_eb, decide_eq_true_eq, ib_i, ie_b, ie_f, ie_t, ib_l, fin_i, fin_l, fin_v, fin_z, fin_a, fin_n, ee_b_0, ee_fld0, ee_fld1, ee_fld2, ee_fld3, bi_0, bi_1, bi_2, bi_3, bi_4, bi_5, bi_6, bi_7, bi_8, bi_9, bi_10, bl_20, bl_21, bl_22, bl_23, bl_24, bl_25, bl_26, bl_48, bl_49, un_0, un_1, un_2, un_3, if_true, if_false, ite_true, ite_false, Bool.false_eq_true, Bool.not_eq_false, decide_not, Bool.not_not, reduceCtorEq, st_i, st_l, st_r, st_n, ee_noL, ee_noL.eq_1, List.length_cons, List.length_nil, Nat.reduceAdd, Nat.reduceLT, Nat.zero_add, and_true, true_and, and_self, fin_ite, pu_0, pu_1, pu_3, sto_0, el_0, Bool.not_eq_true, decide_eq_false_iff_not, Bool.decide_eq_true, Bool.decide_eq_false, decide_true, decide_false, Bool.not_true, Bool.not_false, Bool.and_self, Bool.and_true, Bool.and_false, Bool.true_and, Bool.false_and, Bool.or_true, Bool.or_false, Bool.true_or, Bool.false_or, if_true, if_false, Bool.false_eq_true])
        (mo + 1) 0 (x, v5) (by omega) ⟨fun s' f' q1 q2 => i1 s' f' q1 (by omega), i2⟩
      dsimp only at hc c1 c2
      rw [k_0] at hc
      refine ⟨(y, some (.int (Int32.ofNat (mo + 1))), u5), ?_, fun s f q1 q2 => c1 s f q1 (by omega), c2⟩
      simp only [h9, w_while, hc, j_s, lx_137_2, lb_137_2, ee_turn, k_0, k_1, k_4294967295, nz_1, v_and, v_bin, v_call, v_cmp, v_cons, v_get, v_int, v_loc, v_nil, v_tern, v_z, w_if, w_inc, w_retv, w_seq, w_set, w_skip, w_sto, List.getElem?_cons_zero, List.getElem?_cons_succ, List.set_cons_zero, List.set_cons_succ, ee_cmp0, ee_cmp1, ee_cmp2, ee_cmp3, ee_cmp4, ee_cmp5, ee_cmpL0, ee_cmpL1, ee_cmpL2, ee_cmpL3, ee_cmpL4, ee_cmpL5, ee_tru_eb, decide_eq_true_eq, ib_i, ie_b, ie_f, ie_t, ib_l, fin_i, fin_l, fin_v, fin_z, fin_a, fin_n, ee_b_0, ee_fld0, ee_fld1, ee_fld2, ee_fld3, bi_0, bi_1, bi_2, bi_3, bi_4, bi_5, bi_6, bi_7, bi_8, bi_9, bi_10, bl_20, bl_21, bl_22, bl_23, bl_24, bl_25, bl_26, bl_48, bl_49, un_0, un_1, un_2, un_3, if_true, if_false, ite_true, ite_false, Bool.false_eq_true, Bool.not_eq_false, decide_not, Bool.not_not, reduceCtorEq, st_i, st_l, st_r, st_n, ee_noL, ee_noL.eq_1, List.length_cons, List.length_nil, Nat.reduceAdd, Nat.reduceLT, Nat.zero_add, and_true, true_and, and_self, fin_ite, pu_0, pu_1, pu_3, sto_0, el_0, Bool.not_eq_true, decide_eq_false_iff_not, Bool.decide_eq_true, Bool.decide_eq_false, decide_true, decide_false, Bool.not_true, Bool.not_false, Bool.and_self, Bool.and_true, Bool.and_false, Bool.true_and, Bool.false_and, Bool.or_true, Bool.or_false, Bool.true_or, Bool.false_or, if_true, if_false, Bool.false_eq_true])
    (by
      rintro ⟨x, v4, v5⟩ -
      have h9 : ¬ Int32.ofNat (far + 1) ≤ Int32.ofNat far := fun z => by have := (j_le (by omega) (by omega)).1 z; omega
      simp only [h9, lx_137_2, lb_137_2, ee_turn, k_0, k_1, k_4294967295, nz_1, v_and, v_bin, v_call, v_cmp, v_cons, v_get, v_int, v_loc, v_nil, v_tern, v_z, w_if, w_inc, w_retv, w_seq, w_set, w_skip, w_sto, List.getElem?_cons_zero, List.getElem?_cons_succ, List.set_cons_zero, List.set_cons_succ, ee_cmp0, ee_cmp1, ee_cmp2, ee_cmp3, ee_cmp4, ee_cmp5, ee_cmpL0, ee_cmpL1, ee_cmpL2, ee_cmpL3, ee_cmpL4, ee_cmpL5, ee_tru_eb, decide_eq_true_eq, ib_i, ie_b, ie_f, ie_t, ib_l, fin_i, fin_l, fin_v, fin_z, fin_a, fin_n, ee_b_0, ee_fld0, ee_fld1, ee_fld2, ee_fld3, bi_0, bi_1, bi_2, bi_3, bi_4, bi_5, bi_6, bi_7, bi_8, bi_9, bi_10, bl_20, bl_21, bl_22, bl_23, bl_24, bl_25, bl_26, bl_48, bl_49, un_0, un_1, un_2, un_3, if_true, if_false, ite_true, ite_false, Bool.false_eq_true, Bool.not_eq_false, decide_not, Bool.not_not, reduceCtorEq, st_i, st_l, st_r, st_n, ee_noL, ee_noL.eq_1, List.length_cons, List.length_nil, Nat.reduceAdd, Nat.reduceLT, Nat.zero_add, and_true, true_and, and_self, fin_ite, pu_0, pu_1, pu_3, sto_0, el_0, Bool.not_eq_true, decide_eq_false_iff_not, Bool.decide_eq_true, Bool.decide_eq_false, decide_true, decide_false, Bool.not_true, Bool.not_false, Bool.and_self, Bool.and_true, Bool.and_false, Bool.true_and, Bool.false_and, Bool.or_true, Bool.or_false, Bool.true_or, Bool.false_or, if_true, if_false, Bool.false_eq_true])
    (far + 1) 0 (w, none, none) (by omega) ⟨fun s f _ h => by omega, chg_refl _ _⟩
  dsimp only at hl i1 i2
  rw [k_0] at hl
  refine ⟨x, ?_, fun s f q1 q2 => i1 s f q1 (by omega), i2⟩
  rw [rn_137 cz_0]
  simp only [w_while, hl, be_137, k_0, k_1, k_4294967295, nz_1, v_and, v_bin, v_call, v_cmp, v_cons, v_get, v_int, v_loc, v_nil, v_tern, v_z, w_if, w_inc, w_retv, w_seq, w_set, w_skip, w_sto, List.getElem?_cons_zero, List.getElem?_cons_succ, List.set_cons_zero, List.set_cons_succ, ee_cmp0, ee_cmp1, ee_cmp2, ee_cmp3, ee_cmp4, ee_cmp5, ee_cmpL0, ee_cmpL1, ee_cmpL2, ee_cmpL3, ee_cmpL4, ee_cmpL5, ee_tru_eb, decide_eq_true_eq, ib_i, ie_b, ie_f, ie_t, ib_l, fin_i, fin_l, fin_v, fin_z, fin_a, fin_n, ee_b_0, ee_fld0, ee_fld1, ee_fld2, ee_fld3, bi_0, bi_1, bi_2, bi_3, bi_4, bi_5, bi_6, bi_7, bi_8, bi_9, bi_10, bl_20, bl_21, bl_22, bl_23, bl_24, bl_25, bl_26, bl_48, bl_49, un_0, un_1, un_2, un_3, if_true, if_false, ite_true, ite_false, Bool.false_eq_true, Bool.not_eq_false, decide_not, Bool.not_not, reduceCtorEq, st_i, st_l, st_r, st_n, ee_noL, ee_noL.eq_1, List.length_cons, List.length_nil, Nat.reduceAdd, Nat.reduceLT, Nat.zero_add, and_true, true_and, and_self, fin_ite, pu_0, pu_1, pu_3, sto_0, el_0, Bool.not_eq_true, decide_eq_false_iff_not, Bool.decide_eq_true, Bool.decide_eq_false, decide_true, decide_false, Bool.not_true, Bool.not_false, Bool.and_self, Bool.and_true, Bool.and_false, Bool.true_and, Bool.false_and, Bool.or_true, Bool.or_false, Bool.true_or, Bool.false_or, if_true, if_false, Bool.false_eq_true]
theorem c_fewest (hd : 6 ≤ d) {far : Nat} (hf : far ≤ 60) (h1 : 1 ≤ mo) (hm : mo ≤ 9) : ∃ w' L, ee_run ee_B P d 136 [.ref 0, .int (Int32.ofNat far), .int (Int32.ofNat mo)] w = some ([.int (Int32.ofNat L)], w') ∧ ls mo 0 far L ∧ (∀ s f, s ≤ mo → f ≤ far → kn mo w' s f) ∧ chg c234 w w' := by
  obtain ⟨d, rfl⟩ : ∃ k, d = k + 1 := ⟨d - 1, by omega⟩
  have hd1 : 1 ≤ d := by omega
  have hd3 : 3 ≤ d := by omega
  obtain ⟨w', c1, c2, c3⟩ := c_findFewest (P := P) (w := w) (d := d) (mo := mo) (far := far) (by omega) hf hm
  obtain ⟨v, v1, v2⟩ := c2 0 far (Nat.zero_le _) (Nat.le_refl _)
  refine ⟨w', v, ?_, fv_ls h1 v2, c2, c3⟩
  have q1 : (decide ((0 : Int32) ≤ Int32.ofNat far) && decide (Int32.ofNat far ≤ 60)) = true := (inb (b := 60) (by omega) (by omega)).trans (decide_eq_true hf)
  have q2 : (decide ((1 : Int32) ≤ Int32.ofNat mo) && decide (Int32.ofNat mo ≤ 9)) = true := by
    rw [decide_eq_true (show (1 : Int32) ≤ Int32.ofNat mo from (j_le (a := 1) (by omega) (by omega)).2 h1), decide_eq_true (show Int32.ofNat mo ≤ (9 : Int32) from (j_le (b := 9) (by omega) (by omega)).2 hm)]; rfl
  have fo := c_fewestOf (P := P) hd3 (show 0 ≤ 9 by omega) hf v1
  rw [k_0] at fo
  rw [rn_136 cz_0]
  simp only [r_within hd1, q1, q2, c1, fo, bd_136, k_0, k_1, k_4294967295, k_60, k_9, nz_1, nz_60, nz_9, v_call, v_cons, v_int, v_loc, v_nil, v_not, v_or, v_z, w_exp0, w_exp1, w_if, w_ret, w_seq, List.getElem?_cons_zero, List.getElem?_cons_succ, List.set_cons_zero, List.set_cons_succ, ee_cmp0, ee_cmp1, ee_cmp2, ee_cmp3, ee_cmp4, ee_cmp5, ee_cmpL0, ee_cmpL1, ee_cmpL2, ee_cmpL3, ee_cmpL4, ee_cmpL5, ee_tru_eb, decide_eq_true_eq, ib_i, ie_b, ie_f, ie_t, ib_l, fin_i, fin_l, fin_v, fin_z, fin_a, fin_n, ee_b_0, ee_fld0, ee_fld1, ee_fld2, ee_fld3, bi_0, bi_1, bi_2, bi_3, bi_4, bi_5, bi_6, bi_7, bi_8, bi_9, bi_10, bl_20, bl_21, bl_22, bl_23, bl_24, bl_25, bl_26, bl_48, bl_49, un_0, un_1, un_2, un_3, if_true, if_false, ite_true, ite_false, Bool.false_eq_true, Bool.not_eq_false, decide_not, Bool.not_not, reduceCtorEq, st_i, st_l, st_r, st_n, ee_noL, ee_noL.eq_1, List.length_cons, List.length_nil, Nat.reduceAdd, Nat.reduceLT, Nat.zero_add, and_true, true_and, and_self, fin_ite, pu_0, pu_1, pu_3, sto_0, el_0, Bool.not_eq_true, decide_eq_false_iff_not, Bool.decide_eq_true, Bool.decide_eq_false, decide_true, decide_false, Bool.not_true, Bool.not_false, Bool.and_self, Bool.and_true, Bool.and_false, Bool.true_and, Bool.false_and, Bool.or_true, Bool.or_false, Bool.true_or, Bool.false_or, if_true, if_false, Bool.false_eq_true]
theorem c_lowestNext (hd : 4 ≤ d) (hs : s ≤ mo) (hm : mo ≤ 9) (hf : f ≤ 60) (hk : ∀ s' f', s' ≤ mo → f' ≤ f → kn mo w s' f') (h : ls mo s f (l + 1)) (hl : l < 9999) :
    ee_run ee_B P d 142 [.ref 0, .int (Int32.ofNat s), .int (Int32.ofNat f), .int (Int32.ofNat mo)] w = some ([.int (nxv (pn mo l s f))], w) := by
  obtain ⟨d, rfl⟩ : ∃ k, d = k + 1 := ⟨d - 1, by omega⟩
  have hd1 : 1 ≤ d := by omega
  have hd3 : 3 ≤ d := by omega
  obtain ⟨v0, w0, w2⟩ := hk s f hs (Nat.le_refl _)
  have ev : v0 = l + 1 := by
    rcases w2 with ⟨w2, -⟩ | ⟨-, w2⟩
    · exact ls_un w2 h
    · have := w2 (l + 1)
      rw [h.1] at this
      cases this
  rw [ev] at w0
  have fo0 := c_fewestOf (P := P) hd3 (show s ≤ 9 by omega) hf w0
  have el : Int32.ofNat (l + 1) - 1 = Int32.ofNat l := j_sub1 (by omega) (by omega)
  have tt : ∀ m, s ≤ m → m < s + 3 → ee_turn (ee_ev es_sh es_rf (ee_run ee_B P d) lx_142_1) (ee_evS es_sh es_rf (ee_run ee_B P d) lb_142_1) ([some (.ref 0), some (.int (Int32.ofNat s)), some (.int (Int32.ofNat f)), some (.int (Int32.ofNat mo)), some (.int (Int32.ofNat (l + 1))), some (.int (nxv m))], w) =
      if pg mo (pc mo l) m f = true then some (.inr (.inr ([.int (nxv m)], w))) else some (.inl ([some (.ref 0), some (.int (Int32.ofNat s)), some (.int (Int32.ofNat f)), some (.int (Int32.ofNat mo)), some (.int (Int32.ofNat (l + 1))), some (.int (nxv (m + 1)))], w)) := by
    intro m m1 m2
    have h9 : nxv m ≤ Int32.ofNat (s + 1) := (nxv_le (by omega) (by omega)).2 (by omega)
    have wk := wkn (k := m) (mo := mo) (by omega) (by omega)
    have lf := nxv_le (m := m) (s := f) (by omega) (by omega)
    have ns := nxv_s m
    by_cases y2 : 1 ≤ m ∧ m - 1 ≤ mo
    · rw [decide_eq_true y2.1, decide_eq_true y2.2] at wk
      by_cases y3 : m - 1 ≤ f
      · have lf1 := lf.2 (by omega)
        have ek := nxv_n y2.1
        have ed : Int32.ofNat f - nxv m = Int32.ofNat (f - (m - 1)) := by rw [ek]; exact j_dd y3 (by omega)
        obtain ⟨x, x1, x2⟩ := hk (m - 1) (f - (m - 1)) y2.2 (by omega)
        have hfo := c_fewestOf (P := P) hd3 (show m - 1 ≤ 9 by omega) (show f - (m - 1) ≤ 60 by omega) x1
        rw [← ek] at hfo
        have x10 : x ≤ 10000 := by
          rcases x2 with ⟨-, a, -⟩ | ⟨a, -⟩ <;> omega
        have hn := fv_next h hl m1 m2 ⟨y2.1, y2.2, y3⟩ x2
        have xe : (Int32.ofNat x = Int32.ofNat l) ↔ x = l := by rw [i32_eq, nI_t (by omega), nI_t (by omega)]; omega
        by_cases g : pg mo (pc mo l) m f = true
        · rw [if_pos g]
          have xt : (x = l) = True := eq_true (hn.2 g)
          simp only [h9, ns, r_within hd1, wk, lf1, ed, hfo, el, xe, xt, j_s, lx_142_1, lb_142_1, ee_turn, k_0, k_1, nz_1, v_and, v_bin, v_call, v_cmp, v_cons, v_int, v_loc, v_nil, v_z, w_if, w_inc, w_ret, w_seq, w_set, w_skip, List.getElem?_cons_zero, List.getElem?_cons_succ, List.set_cons_zero, List.set_cons_succ, ee_cmp0, ee_cmp1, ee_cmp2, ee_cmp3, ee_cmp4, ee_cmp5, ee_cmpL0, ee_cmpL1, ee_cmpL2, ee_cmpL3, ee_cmpL4, ee_cmpL5, ee_tru_eb, decide_eq_true_eq, ib_i, ie_b, ie_f, ie_t, ib_l, fin_i, fin_l, fin_v, fin_z, fin_a, fin_n, ee_b_0, ee_fld0, ee_fld1, ee_fld2, ee_fld3, bi_0, bi_1, bi_2, bi_3, bi_4, bi_5, bi_6, bi_7, bi_8, bi_9, bi_10, bl_20, bl_21, bl_22, bl_23, bl_24, bl_25, bl_26, bl_48, bl_49, un_0, un_1, un_2, un_3, if_true, if_false, ite_true, ite_false, Bool.false_eq_true, Bool.not_eq_false, decide_not, Bool.not_not, reduceCtorEq, st_i, st_l, st_r, st_n, ee_noL, ee_noL.eq_1, List.length_cons, List.length_nil, Nat.reduceAdd, Nat.reduceLT, Nat.zero_add, and_true, true_and, and_self, fin_ite, pu_0, pu_1, pu_3, sto_0, el_0, Bool.not_eq_true, decide_eq_false_iff_not, Bool.decide_eq_true, Bool.decide_eq_false, decide_true, decide_false, Bool.not_true, Bool.not_false, Bool.and_self, Bool.and_true, Bool.and_false, Bool.true_and, Bool.false_and, Bool.or_true, Bool.or_false, Bool.true_or, Bool.false_or, if_true, if_false, Bool.false_eq_true]
        · rw [if_neg g]
          have xt : (x = l) = False := eq_false (fun z => g (hn.1 z))
          simp only [h9, ns, r_within hd1, wk, lf1, ed, hfo, el, xe, xt, j_s, lx_142_1, lb_142_1, ee_turn, k_0, k_1, nz_1, v_and, v_bin, v_call, v_cmp, v_cons, v_int, v_loc, v_nil, v_z, w_if, w_inc, w_ret, w_seq, w_set, w_skip, List.getElem?_cons_zero, List.getElem?_cons_succ, List.set_cons_zero, List.set_cons_succ, ee_cmp0, ee_cmp1, ee_cmp2, ee_cmp3, ee_cmp4, ee_cmp5, ee_cmpL0, ee_cmpL1, ee_cmpL2, ee_cmpL3, ee_cmpL4, ee_cmpL5, ee_tru_eb, decide_eq_true_eq, ib_i, ie_b, ie_f, ie_t, ib_l, fin_i, fin_l, fin_v, fin_z, fin_a, fin_n, ee_b_0, ee_fld0, ee_fld1, ee_fld2, ee_fld3, bi_0, bi_1, bi_2, bi_3, bi_4, bi_5, bi_6, bi_7, bi_8, bi_9, bi_10, bl_20, bl_21, bl_22, bl_23, bl_24, bl_25, bl_26, bl_48, bl_49, un_0, un_1, un_2, un_3, if_true, if_false, ite_true, ite_false, Bool.false_eq_true, Bool.not_eq_false, decide_not, Bool.not_not, reduceCtorEq, st_i, st_l, st_r, st_n, ee_noL, ee_noL.eq_1, List.length_cons, List.length_nil, Nat.reduceAdd, Nat.reduceLT, Nat.zero_add, and_true, true_and, and_self, fin_ite, pu_0, pu_1, pu_3, sto_0, el_0, Bool.not_eq_true, decide_eq_false_iff_not, Bool.decide_eq_true, Bool.decide_eq_false, decide_true, decide_false, Bool.not_true, Bool.not_false, Bool.and_self, Bool.and_true, Bool.and_false, Bool.true_and, Bool.false_and, Bool.or_true, Bool.or_false, Bool.true_or, Bool.false_or, if_true, if_false, Bool.false_eq_true]
      · have lf0 : ¬ nxv m ≤ Int32.ofNat f := fun z => by have := lf.1 z; omega
        rw [if_neg (fun z => y3 (pg_t.1 z).2.2.1)]
        simp only [h9, ns, r_within hd1, wk, lf0, j_s, lx_142_1, lb_142_1, ee_turn, k_0, k_1, nz_1, v_and, v_bin, v_call, v_cmp, v_cons, v_int, v_loc, v_nil, v_z, w_if, w_inc, w_ret, w_seq, w_set, w_skip, List.getElem?_cons_zero, List.getElem?_cons_succ, List.set_cons_zero, List.set_cons_succ, ee_cmp0, ee_cmp1, ee_cmp2, ee_cmp3, ee_cmp4, ee_cmp5, ee_cmpL0, ee_cmpL1, ee_cmpL2, ee_cmpL3, ee_cmpL4, ee_cmpL5, ee_tru_eb, decide_eq_true_eq, ib_i, ie_b, ie_f, ie_t, ib_l, fin_i, fin_l, fin_v, fin_z, fin_a, fin_n, ee_b_0, ee_fld0, ee_fld1, ee_fld2, ee_fld3, bi_0, bi_1, bi_2, bi_3, bi_4, bi_5, bi_6, bi_7, bi_8, bi_9, bi_10, bl_20, bl_21, bl_22, bl_23, bl_24, bl_25, bl_26, bl_48, bl_49, un_0, un_1, un_2, un_3, if_true, if_false, ite_true, ite_false, Bool.false_eq_true, Bool.not_eq_false, decide_not, Bool.not_not, reduceCtorEq, st_i, st_l, st_r, st_n, ee_noL, ee_noL.eq_1, List.length_cons, List.length_nil, Nat.reduceAdd, Nat.reduceLT, Nat.zero_add, and_true, true_and, and_self, fin_ite, pu_0, pu_1, pu_3, sto_0, el_0, Bool.not_eq_true, decide_eq_false_iff_not, Bool.decide_eq_true, Bool.decide_eq_false, decide_true, decide_false, Bool.not_true, Bool.not_false, Bool.and_self, Bool.and_true, Bool.and_false, Bool.true_and, Bool.false_and, Bool.or_true, Bool.or_false, Bool.true_or, Bool.false_or, if_true, if_false, Bool.false_eq_true]
    · have wk0 : (decide (1 ≤ m) && decide (m - 1 ≤ mo)) = false := by
        by_cases a : 1 ≤ m
        · rw [decide_eq_false (show ¬ m - 1 ≤ mo by omega), Bool.and_false]
        · rw [decide_eq_false a]; rfl
      rw [wk0] at wk
      rw [if_neg (fun z => y2 ⟨(pg_t.1 z).1, (pg_t.1 z).2.1⟩)]
      simp only [h9, ns, r_within hd1, wk, j_s, lx_142_1, lb_142_1, ee_turn, k_0, k_1, nz_1, v_and, v_bin, v_call, v_cmp, v_cons, v_int, v_loc, v_nil, v_z, w_if, w_inc, w_ret, w_seq, w_set, w_skip, List.getElem?_cons_zero, List.getElem?_cons_succ, List.set_cons_zero, List.set_cons_succ, ee_cmp0, ee_cmp1, ee_cmp2, ee_cmp3, ee_cmp4, ee_cmp5, ee_cmpL0, ee_cmpL1, ee_cmpL2, ee_cmpL3, ee_cmpL4, ee_cmpL5, ee_tru_eb, decide_eq_true_eq, ib_i, ie_b, ie_f, ie_t, ib_l, fin_i, fin_l, fin_v, fin_z, fin_a, fin_n, ee_b_0, ee_fld0, ee_fld1, ee_fld2, ee_fld3, bi_0, bi_1, bi_2, bi_3, bi_4, bi_5, bi_6, bi_7, bi_8, bi_9, bi_10, bl_20, bl_21, bl_22, bl_23, bl_24, bl_25, bl_26, bl_48, bl_49, un_0, un_1, un_2, un_3, if_true, if_false, ite_true, ite_false, Bool.false_eq_true, Bool.not_eq_false, decide_not, Bool.not_not, reduceCtorEq, st_i, st_l, st_r, st_n, ee_noL, ee_noL.eq_1, List.length_cons, List.length_nil, Nat.reduceAdd, Nat.reduceLT, Nat.zero_add, and_true, true_and, and_self, fin_ite, pu_0, pu_1, pu_3, sto_0, el_0, Bool.not_eq_true, decide_eq_false_iff_not, Bool.decide_eq_true, Bool.decide_eq_false, decide_true, decide_false, Bool.not_true, Bool.not_false, Bool.and_self, Bool.and_true, Bool.and_false, Bool.true_and, Bool.false_and, Bool.or_true, Bool.or_false, Bool.true_or, Bool.false_or, if_true, if_false, Bool.false_eq_true]
  have hw : ee_wh (ee_turn (ee_ev es_sh es_rf (ee_run ee_B P d) lx_142_1) (ee_evS es_sh es_rf (ee_run ee_B P d) lb_142_1)) ([some (.ref 0), some (.int (Int32.ofNat s)), some (.int (Int32.ofNat f)), some (.int (Int32.ofNat mo)), some (.int (Int32.ofNat (l + 1))), some (.int (nxv s))], w) = some (.inr ([.int (nxv (pn mo l s f))], w)) := by
    have t3 := (pn_t h.1).2.2
    unfold pn at t3 ⊢
    rw [ee_wh_eq, tt s (by omega) (by omega)]
    by_cases a : pg mo (pc mo l) s f = true
    · rw [if_pos a, if_pos a]
    · rw [if_neg a, if_neg a]
      dsimp only
      rw [if_neg a] at t3
      rw [ee_wh_eq, tt (s + 1) (by omega) (by omega)]
      by_cases b : pg mo (pc mo l) (s + 1) f = true
      · rw [if_pos b, if_pos b]
      · rw [if_neg b, if_neg b]
        dsimp only
        rw [if_neg b] at t3
        rw [ee_wh_eq, tt (s + 2) (by omega) (by omega), if_pos t3]
  rw [rn_142 cz_0]
  simp only [fo0, w_while, nxv_1 (show s < 2147483648 by omega), hw, be_142, k_0, k_1, nz_1, v_and, v_bin, v_call, v_cmp, v_cons, v_int, v_loc, v_nil, v_z, w_if, w_inc, w_ret, w_seq, w_set, w_skip, List.getElem?_cons_zero, List.getElem?_cons_succ, List.set_cons_zero, List.set_cons_succ, ee_cmp0, ee_cmp1, ee_cmp2, ee_cmp3, ee_cmp4, ee_cmp5, ee_cmpL0, ee_cmpL1, ee_cmpL2, ee_cmpL3, ee_cmpL4, ee_cmpL5, ee_tru_eb, decide_eq_true_eq, ib_i, ie_b, ie_f, ie_t, ib_l, fin_i, fin_l, fin_v, fin_z, fin_a, fin_n, ee_b_0, ee_fld0, ee_fld1, ee_fld2, ee_fld3, bi_0, bi_1, bi_2, bi_3, bi_4, bi_5, bi_6, bi_7, bi_8, bi_9, bi_10, bl_20, bl_21, bl_22, bl_23, bl_24, bl_25, bl_26, bl_48, bl_49, un_0, un_1, un_2, un_3, if_true, if_false, ite_true, ite_false, Bool.false_eq_true, Bool.not_eq_false, decide_not, Bool.not_not, reduceCtorEq, st_i, st_l, st_r, st_n, ee_noL, ee_noL.eq_1, List.length_cons, List.length_nil, Nat.reduceAdd, Nat.reduceLT, Nat.zero_add, and_true, true_and, and_self, fin_ite, pu_0, pu_1, pu_3, sto_0, el_0, Bool.not_eq_true, decide_eq_false_iff_not, Bool.decide_eq_true, Bool.decide_eq_false, decide_true, decide_false, Bool.not_true, Bool.not_false, Bool.and_self, Bool.and_true, Bool.and_false, Bool.true_and, Bool.false_and, Bool.or_true, Bool.or_false, Bool.true_or, Bool.false_or, if_true, if_false, Bool.false_eq_true]
theorem c_plan (hd : 7 ≤ d) {far i : Nat} (hf : far ≤ 60) (h1 : 1 ≤ mo) (hm : mo ≤ 9) {L : Nat} (hL : ls mo 0 far L) (hi : i < L) : ∃ w', ee_run ee_B P d 141 [.ref 0, .int (Int32.ofNat far), .int (Int32.ofNat mo), .int (Int32.ofNat i)] w = some ([.int (Int32.ofNat (pl mo L far (i + 1)).1)], w') ∧ chg c234 w w' := by
  obtain ⟨d, rfl⟩ : ∃ k, d = k + 1 := ⟨d - 1, by omega⟩
  have hd1 : 1 ≤ d := by omega
  have hd4 : 4 ≤ d := by omega
  obtain ⟨w', L', c1, c2, c3, c4⟩ := c_fewest (P := P) (w := w) (d := d) (by omega) hf h1 hm
  have eL := ls_un c2 hL
  rw [eL] at c1
  have L60 := ls_le h1 hL
  refine ⟨w', ?_, c4⟩
  have q0 : Int32.ofNat L - 1 = Int32.ofNat (L - 1) := j_sub1 (by omega) (by omega)
  have q1 : (decide ((0 : Int32) ≤ Int32.ofNat i) && decide (Int32.ofNat i ≤ Int32.ofNat (L - 1))) = true := (inb (by omega) (by omega)).trans (decide_eq_true (by omega))
  have hl := for_q (w := w') (x := ee_ev es_sh es_rf (ee_run ee_B P d) lx_141_1) (b := ee_evS es_sh es_rf (ee_run ee_B P d) lb_141_1)
    (fun k => [some (.ref 0), some (.int (Int32.ofNat far)), some (.int (Int32.ofNat mo)), some (.int (Int32.ofNat i)), some (.int (Int32.ofNat L)), some (.int (Int32.ofNat (pl mo L far k).1)), some (.int (Int32.ofNat (pl mo L far k).2)), some (.int (Int32.ofNat k))]) (i + 1)
    (by
      intro k hk
      obtain ⟨p1, p2, p3⟩ := pl_ok hL k (by omega)
      rw [show L - k = L - (k + 1) + 1 by omega] at p1
      obtain ⟨t1, t2, t3⟩ := pn_t p1.1
      obtain ⟨n1, n2, n3, n4⟩ := pg_t.1 t3
      have ln := c_lowestNext (P := P) hd4 p2 hm (show (pl mo L far k).2 ≤ 60 by omega) (fun s' f' q1 q2 => c3 s' f' q1 (by omega)) p1 (by omega)
      have es := pl_s (mo := mo) L far k
      have e1 : (pl mo L far (k + 1)).1 = pn mo (L - (k + 1)) (pl mo L far k).1 (pl mo L far k).2 - 1 := by rw [es]
      have e2 : (pl mo L far (k + 1)).2 = (pl mo L far k).2 - (pn mo (L - (k + 1)) (pl mo L far k).1 (pl mo L far k).2 - 1) := by rw [es]
      have h9 : Int32.ofNat k ≤ Int32.ofNat i := (j_le (by omega) (by omega)).2 (by omega)
      rw [nxv_n n1] at ln
      have ed := j_dd n3 (by omega)
      simp only [h9, ln, ed, e1, e2, j_s, lx_141_1, lb_141_1, ee_turn, k_0, k_1, k_4294967295, nz_1, v_bin, v_call, v_cmp, v_cons, v_int, v_loc, v_nil, v_not, v_z, w_if, w_inc, w_ret, w_seq, w_set, List.getElem?_cons_zero, List.getElem?_cons_succ, List.set_cons_zero, List.set_cons_succ, ee_cmp0, ee_cmp1, ee_cmp2, ee_cmp3, ee_cmp4, ee_cmp5, ee_cmpL0, ee_cmpL1, ee_cmpL2, ee_cmpL3, ee_cmpL4, ee_cmpL5, ee_tru_eb, decide_eq_true_eq, ib_i, ie_b, ie_f, ie_t, ib_l, fin_i, fin_l, fin_v, fin_z, fin_a, fin_n, ee_b_0, ee_fld0, ee_fld1, ee_fld2, ee_fld3, bi_0, bi_1, bi_2, bi_3, bi_4, bi_5, bi_6, bi_7, bi_8, bi_9, bi_10, bl_20, bl_21, bl_22, bl_23, bl_24, bl_25, bl_26, bl_48, bl_49, un_0, un_1, un_2, un_3, if_true, if_false, ite_true, ite_false, Bool.false_eq_true, Bool.not_eq_false, decide_not, Bool.not_not, reduceCtorEq, st_i, st_l, st_r, st_n, ee_noL, ee_noL.eq_1, List.length_cons, List.length_nil, Nat.reduceAdd, Nat.reduceLT, Nat.zero_add, and_true, true_and, and_self, fin_ite, pu_0, pu_1, pu_3, sto_0, el_0, Bool.not_eq_true, decide_eq_false_iff_not, Bool.decide_eq_true, Bool.decide_eq_false, decide_true, decide_false, Bool.not_true, Bool.not_false, Bool.and_self, Bool.and_true, Bool.and_false, Bool.true_and, Bool.false_and, Bool.or_true, Bool.or_false, Bool.true_or, Bool.false_or, if_true, if_false, Bool.false_eq_true])
    (by
      have h9 : ¬ Int32.ofNat (i + 1) ≤ Int32.ofNat i := fun y => by have := (j_le (by omega) (by omega)).1 y; omega
      simp only [h9, lx_141_1, lb_141_1, ee_turn, k_0, k_1, k_4294967295, nz_1, v_bin, v_call, v_cmp, v_cons, v_int, v_loc, v_nil, v_not, v_z, w_if, w_inc, w_ret, w_seq, w_set, List.getElem?_cons_zero, List.getElem?_cons_succ, List.set_cons_zero, List.set_cons_succ, ee_cmp0, ee_cmp1, ee_cmp2, ee_cmp3, ee_cmp4, ee_cmp5, ee_cmpL0, ee_cmpL1, ee_cmpL2, ee_cmpL3, ee_cmpL4, ee_cmpL5, ee_tru_eb, decide_eq_true_eq, ib_i, ie_b, ie_f, ie_t, ib_l, fin_i, fin_l, fin_v, fin_z, fin_a, fin_n, ee_b_0, ee_fld0, ee_fld1, ee_fld2, ee_fld3, bi_0, bi_1, bi_2, bi_3, bi_4, bi_5, bi_6, bi_7, bi_8, bi_9, bi_10, bl_20, bl_21, bl_22, bl_23, bl_24, bl_25, bl_26, bl_48, bl_49, un_0, un_1, un_2, un_3, if_true, if_false, ite_true, ite_false, Bool.false_eq_true, Bool.not_eq_false, decide_not, Bool.not_not, reduceCtorEq, st_i, st_l, st_r, st_n, ee_noL, ee_noL.eq_1, List.length_cons, List.length_nil, Nat.reduceAdd, Nat.reduceLT, Nat.zero_add, and_true, true_and, and_self, fin_ite, pu_0, pu_1, pu_3, sto_0, el_0, Bool.not_eq_true, decide_eq_false_iff_not, Bool.decide_eq_true, Bool.decide_eq_false, decide_true, decide_false, Bool.not_true, Bool.not_false, Bool.and_self, Bool.and_true, Bool.and_false, Bool.true_and, Bool.false_and, Bool.or_true, Bool.or_false, Bool.true_or, Bool.false_or, if_true, if_false, Bool.false_eq_true])
  rw [k_0, show (pl mo L far 0).1 = 0 from rfl, show (pl mo L far 0).2 = far from rfl, k_0] at hl
  rw [rn_141 cz_0]
  simp only [c1, q0, r_within hd1, q1, w_while, hl, be_141, k_0, k_1, k_4294967295, nz_1, v_bin, v_call, v_cmp, v_cons, v_int, v_loc, v_nil, v_not, v_z, w_if, w_inc, w_ret, w_seq, w_set, List.getElem?_cons_zero, List.getElem?_cons_succ, List.set_cons_zero, List.set_cons_succ, ee_cmp0, ee_cmp1, ee_cmp2, ee_cmp3, ee_cmp4, ee_cmp5, ee_cmpL0, ee_cmpL1, ee_cmpL2, ee_cmpL3, ee_cmpL4, ee_cmpL5, ee_tru_eb, decide_eq_true_eq, ib_i, ie_b, ie_f, ie_t, ib_l, fin_i, fin_l, fin_v, fin_z, fin_a, fin_n, ee_b_0, ee_fld0, ee_fld1, ee_fld2, ee_fld3, bi_0, bi_1, bi_2, bi_3, bi_4, bi_5, bi_6, bi_7, bi_8, bi_9, bi_10, bl_20, bl_21, bl_22, bl_23, bl_24, bl_25, bl_26, bl_48, bl_49, un_0, un_1, un_2, un_3, if_true, if_false, ite_true, ite_false, Bool.false_eq_true, Bool.not_eq_false, decide_not, Bool.not_not, reduceCtorEq, st_i, st_l, st_r, st_n, ee_noL, ee_noL.eq_1, List.length_cons, List.length_nil, Nat.reduceAdd, Nat.reduceLT, Nat.zero_add, and_true, true_and, and_self, fin_ite, pu_0, pu_1, pu_3, sto_0, el_0, Bool.not_eq_true, decide_eq_false_iff_not, Bool.decide_eq_true, Bool.decide_eq_false, decide_true, decide_false, Bool.not_true, Bool.not_false, Bool.and_self, Bool.and_true, Bool.and_false, Bool.true_and, Bool.false_and, Bool.or_true, Bool.or_false, Bool.true_or, Bool.false_or, if_true, if_false, Bool.false_eq_true]
end PLC
