/-! both Euclids -/
section BEU
variable {P : Nat → Nat → List Value → ee_W → Option (List Value × ee_W)} {d : Nat} {w : ee_W} {Z : ZX}
theorem rmN {a b : Nat} (ha : a < 2 ^ 31) (hb : b < 2 ^ 31) : Int32.ofNat a - Int32.ofNat a / Int32.ofNat b * Int32.ofNat b = Int32.ofNat (a % b) := by
  have e1 : Int32.ofNat a / Int32.ofNat b = Int32.ofNat (a / b) := (Int32.ofNat_div ha hb).symm
  have e2 : Int32.ofNat (a / b) * Int32.ofNat b = Int32.ofNat (a / b * b) := j_m (a / b) b
  have e3 : Int32.ofNat (a / b * b) + Int32.ofNat (a % b) = Int32.ofNat (a / b * b + a % b) := j_a _ _
  rw [show a / b * b + a % b = a by rw [Nat.mul_comm]; exact Nat.div_add_mod a b] at e3
  rw [e1, e2, ← e3]
  grind
theorem rmL {a b : Nat} (ha : a < 2 ^ 63) (hb : b < 2 ^ 63) : Int64.ofNat a - Int64.ofNat a / Int64.ofNat b * Int64.ofNat b = Int64.ofNat (a % b) := by
  have e1 : Int64.ofNat a / Int64.ofNat b = Int64.ofNat (a / b) := (Int64.ofNat_div ha hb).symm
  have e2 : Int64.ofNat (a / b) * Int64.ofNat b = Int64.ofNat (a / b * b) := (Int64.ofNat_mul _ _).symm
  have e3 : Int64.ofNat (a / b * b) + Int64.ofNat (a % b) = Int64.ofNat (a / b * b + a % b) := (Int64.ofNat_add _ _).symm
  rw [show a / b * b + a % b = a by rw [Nat.mul_comm]; exact Nat.div_add_mod a b] at e3
  rw [e1, e2, ← e3]
  grind
theorem gcd_st (g r : Nat) : Nat.gcd r (g % r) = Nat.gcd g r := by rw [Nat.gcd_comm r (g % r), ← Nat.gcd_rec, Nat.gcd_comm]
theorem c_gcd (hd : 1 ≤ d) {c S : Nat} (hc : c ≤ 8) (hS : S ≤ 2000) : ee_run ee_B P d 166 [.int (Int32.ofNat c), .int (Int32.ofNat S)] w = some ([.int (Int32.ofNat (Nat.gcd c S))], w) := by
  obtain ⟨d, rfl⟩ : ∃ k, d = k + 1 := ⟨d - 1, by omega⟩
  obtain ⟨r, hr, hq⟩ := wh_n (f := ee_turn (ee_ev es_sh es_rf (ee_run ee_B P d) lx_166_1) (ee_evS es_sh es_rf (ee_run ee_B P d) lb_166_1))
    (I := fun m y => ∃ g r i v, m = 64 - i ∧ Nat.gcd g r = Nat.gcd c S ∧ g ≤ 2000 ∧ r ≤ 2000 ∧ (i = 0 ∧ g ≤ 8 ∨ i + r ≤ 9) ∧ y = ([some (.int (Int32.ofNat c)), some (.int (Int32.ofNat S)), some (.int (Int32.ofNat g)), some (.int (Int32.ofNat r)), some (.int (Int32.ofNat i)), v], w))
    (Q := fun r => ∃ i j v, r = .inl ([some (.int (Int32.ofNat c)), some (.int (Int32.ofNat S)), some (.int (Int32.ofNat (Nat.gcd c S))), some (.int j), some (.int i), v], w))
    (by
      rintro m y ⟨g, r, i, v, rfl, hg, g1, r1, hi, rfl⟩
      have h9 : Int32.ofNat i < 64 := (j_lt (b := 64) (by omega) (by omega)).2 (by omega)
      by_cases z : r = 0
      · right
        subst z
        rw [Nat.gcd_zero_right] at hg
        subst hg
        exact ⟨.inl ([some (.int (Int32.ofNat c)), some (.int (Int32.ofNat S)), some (.int (Int32.ofNat (Nat.gcd c S))), some (.int (Int32.ofNat 0)), some (.int (Int32.ofNat i)), v], w), by simp only [h9, lx_166_1, lb_166_1, ee_turn, k_0, k_64, nz_64, v_and, v_bin, v_cmp, v_int, v_loc, v_z, w_inc, w_ret, w_seq, w_set, List.getElem?_cons_zero, List.getElem?_cons_succ, List.set_cons_zero, List.set_cons_succ, ee_cmp0, ee_cmp1, ee_cmp2, ee_cmp3, ee_cmp4, ee_cmp5, ee_cmpL0, ee_cmpL1, ee_cmpL2, ee_cmpL3, ee_cmpL4, ee_cmpL5, ee_tru_eb, decide_eq_true_eq, ib_i, ie_b, ie_f, ie_t, ib_l, fin_i, fin_l, fin_v, fin_z, fin_a, fin_n, ee_b_0, ee_fld0, ee_fld1, ee_fld2, ee_fld3, bi_0, bi_1, bi_2, bi_3, bi_4, bi_5, bi_6, bi_7, bi_8, bi_9, bi_10, bl_20, bl_21, bl_22, bl_23, bl_24, bl_25, bl_26, bl_48, bl_49, un_0, un_1, un_2, un_3, if_true, if_false, ite_true, ite_false, Bool.false_eq_true, Bool.not_eq_false, decide_not, Bool.not_not, reduceCtorEq, st_i, st_l, st_r, st_n, ee_noL, ee_noL.eq_1, List.length_cons, List.length_nil, Nat.reduceAdd, Nat.reduceLT, Nat.zero_add, and_true, true_and, and_self, fin_ite, pu_0, pu_1, pu_3, sto_0, el_0, Bool.not_eq_true, decide_eq_false_iff_not, Bool.decide_eq_true, Bool.decide_eq_false, decide_true, decide_false, Bool.not_true, Bool.not_false, Bool.and_self, Bool.and_true, Bool.and_false, Bool.true_and, Bool.false_and, Bool.or_true, Bool.or_false, Bool.true_or, Bool.false_or, if_true, if_false, Bool.false_eq_true], _, _, _, rfl⟩
      · left
        have nr : ¬ Int32.ofNat r = 0 := fun y => by
          have := i32_eq.1 y
          rw [nI_t (by omega), show (0 : Int32).toInt = 0 from rfl] at this
          omega
        have e := rmN (show g < 2 ^ 31 by omega) (show r < 2 ^ 31 by omega)
        have ml := Nat.mod_lt g (show r > 0 by omega)
        have ml' := Nat.mod_le g r
        refine ⟨([some (.int (Int32.ofNat c)), some (.int (Int32.ofNat S)), some (.int (Int32.ofNat r)), some (.int (Int32.ofNat (g % r))), some (.int (Int32.ofNat (i + 1))), some (.int (Int32.ofNat (g % r)))], w), 64 - (i + 1), ?_, by omega, r, g % r, i + 1, _, rfl, ?_, by omega, by omega, ?_, rfl⟩
        · simp only [h9, nr, e, j_s, j_a, lx_166_1, lb_166_1, ee_turn, k_0, k_64, nz_64, v_and, v_bin, v_cmp, v_int, v_loc, v_z, w_inc, w_ret, w_seq, w_set, List.getElem?_cons_zero, List.getElem?_cons_succ, List.set_cons_zero, List.set_cons_succ, ee_cmp0, ee_cmp1, ee_cmp2, ee_cmp3, ee_cmp4, ee_cmp5, ee_cmpL0, ee_cmpL1, ee_cmpL2, ee_cmpL3, ee_cmpL4, ee_cmpL5, ee_tru_eb, decide_eq_true_eq, ib_i, ie_b, ie_f, ie_t, ib_l, fin_i, fin_l, fin_v, fin_z, fin_a, fin_n, ee_b_0, ee_fld0, ee_fld1, ee_fld2, ee_fld3, bi_0, bi_1, bi_2, bi_3, bi_4, bi_5, bi_6, bi_7, bi_8, bi_9, bi_10, bl_20, bl_21, bl_22, bl_23, bl_24, bl_25, bl_26, bl_48, bl_49, un_0, un_1, un_2, un_3, if_true, if_false, ite_true, ite_false, Bool.false_eq_true, Bool.not_eq_false, decide_not, Bool.not_not, reduceCtorEq, st_i, st_l, st_r, st_n, ee_noL, ee_noL.eq_1, List.length_cons, List.length_nil, Nat.reduceAdd, Nat.reduceLT, Nat.zero_add, and_true, true_and, and_self, fin_ite, pu_0, pu_1, pu_3, sto_0, el_0, Bool.not_eq_true, decide_eq_false_iff_not, Bool.decide_eq_true, Bool.decide_eq_false, decide_true, decide_false, Bool.not_true, Bool.not_false, Bool.and_self, Bool.and_true, Bool.and_false, Bool.true_and, Bool.false_and, Bool.or_true, Bool.or_false, Bool.true_or, Bool.false_or, if_true, if_false, Bool.false_eq_true]
        · rw [gcd_st, hg]
        · right; omega)
    (64 - 0) ([some (.int (Int32.ofNat c)), some (.int (Int32.ofNat S)), some (.int (Int32.ofNat c)), some (.int (Int32.ofNat S)), some (.int (Int32.ofNat 0)), none], w) ⟨c, S, 0, _, rfl, rfl, by omega, hS, Or.inl ⟨rfl, hc⟩, rfl⟩
  rw [k_0] at hr
  obtain ⟨i, j, v, rfl⟩ := hq
  rw [rn_166]
  simp only [w_while, hr, be_166, k_0, k_64, nz_64, v_and, v_bin, v_cmp, v_int, v_loc, v_z, w_inc, w_ret, w_seq, w_set, List.getElem?_cons_zero, List.getElem?_cons_succ, List.set_cons_zero, List.set_cons_succ, ee_cmp0, ee_cmp1, ee_cmp2, ee_cmp3, ee_cmp4, ee_cmp5, ee_cmpL0, ee_cmpL1, ee_cmpL2, ee_cmpL3, ee_cmpL4, ee_cmpL5, ee_tru_eb, decide_eq_true_eq, ib_i, ie_b, ie_f, ie_t, ib_l, fin_i, fin_l, fin_v, fin_z, fin_a, fin_n, ee_b_0, ee_fld0, ee_fld1, ee_fld2, ee_fld3, bi_0, bi_1, bi_2, bi_3, bi_4, bi_5, bi_6, bi_7, bi_8, bi_9, bi_10, bl_20, bl_21, bl_22, bl_23, bl_24, bl_25, bl_26, bl_48, bl_49, un_0, un_1, un_2, un_3, if_true, if_false, ite_true, ite_false, Bool.false_eq_true, Bool.not_eq_false, decide_not, Bool.not_not, reduceCtorEq, st_i, st_l, st_r, st_n, ee_noL, ee_noL.eq_1, List.length_cons, List.length_nil, Nat.reduceAdd, Nat.reduceLT, Nat.zero_add, and_true, true_and, and_self, fin_ite, pu_0, pu_1, pu_3, sto_0, el_0, Bool.not_eq_true, decide_eq_false_iff_not, Bool.decide_eq_true, Bool.decide_eq_false, decide_true, decide_false, Bool.not_true, Bool.not_false, Bool.and_self, Bool.and_true, Bool.and_false, Bool.true_and, Bool.false_and, Bool.or_true, Bool.or_false, Bool.true_or, Bool.false_or, if_true, if_false, Bool.false_eq_true]
theorem m_gcd (hd : 1 ≤ d) {c S : Nat} (hc : c ≤ 2000) (hS : S ≤ 2000) : ee_run ee_B P d 335 [.long (Int64.ofNat S), .long (Int64.ofNat c)] w = some ([.long (Int64.ofNat (Nat.gcd c S))], w) := by
  obtain ⟨d, rfl⟩ : ∃ k, d = k + 1 := ⟨d - 1, by omega⟩
  obtain ⟨r, hr, hq⟩ := wh_n (f := ee_turn (ee_ev es_sh es_rf (ee_run ee_B P d) lx_335_1) (ee_evS es_sh es_rf (ee_run ee_B P d) lb_335_1))
    (I := fun m y => ∃ g r v, m = r ∧ Nat.gcd g r = Nat.gcd c S ∧ g ≤ 2000 ∧ r ≤ 2000 ∧ y = ([some (.long (Int64.ofNat S)), none, some (.long (Int64.ofNat c)), none, some (.long (Int64.ofNat g)), none, some (.long (Int64.ofNat r)), none, v, none], w))
    (Q := fun r => ∃ j v, r = .inl ([some (.long (Int64.ofNat S)), none, some (.long (Int64.ofNat c)), none, some (.long (Int64.ofNat (Nat.gcd c S))), none, some (.long j), none, v, none], w))
    (by
      rintro m y ⟨g, r, v, rfl, hg, g1, r1, rfl⟩
      have hz : Int64.ofNat m = Int64.ofNat 0 ↔ m = 0 := by
        rw [← Int64.toInt_inj, Int64.toInt_ofNat_of_lt (by omega), Int64.toInt_ofNat_of_lt (by omega)]
        omega
      by_cases z : m = 0
      · right
        subst z
        rw [Nat.gcd_zero_right] at hg
        subst hg
        exact ⟨.inl ([some (.long (Int64.ofNat S)), none, some (.long (Int64.ofNat c)), none, some (.long (Int64.ofNat (Nat.gcd c S))), none, some (.long (Int64.ofNat 0)), none, v, none], w), by simp only [lx_335_1, lb_335_1, ee_turn, kl_0, v_bin, v_cmpL, v_loc, v_long, w_ret, w_seq, w_set, List.getElem?_cons_zero, List.getElem?_cons_succ, List.set_cons_zero, List.set_cons_succ, ee_cmp0, ee_cmp1, ee_cmp2, ee_cmp3, ee_cmp4, ee_cmp5, ee_cmpL0, ee_cmpL1, ee_cmpL2, ee_cmpL3, ee_cmpL4, ee_cmpL5, ee_tru_eb, decide_eq_true_eq, ib_i, ie_b, ie_f, ie_t, ib_l, fin_i, fin_l, fin_v, fin_z, fin_a, fin_n, ee_b_0, ee_fld0, ee_fld1, ee_fld2, ee_fld3, bi_0, bi_1, bi_2, bi_3, bi_4, bi_5, bi_6, bi_7, bi_8, bi_9, bi_10, bl_20, bl_21, bl_22, bl_23, bl_24, bl_25, bl_26, bl_48, bl_49, un_0, un_1, un_2, un_3, if_true, if_false, ite_true, ite_false, Bool.false_eq_true, Bool.not_eq_false, decide_not, Bool.not_not, reduceCtorEq, st_i, st_l, st_r, st_n, ee_noL, ee_noL.eq_1, List.length_cons, List.length_nil, Nat.reduceAdd, Nat.reduceLT, Nat.zero_add, and_true, true_and, and_self, fin_ite, pu_0, pu_1, pu_3, sto_0, el_0, Bool.not_eq_true, decide_eq_false_iff_not, Bool.decide_eq_true, Bool.decide_eq_false, decide_true, decide_false, Bool.not_true, Bool.not_false, Bool.and_self, Bool.and_true, Bool.and_false, Bool.true_and, Bool.false_and, Bool.or_true, Bool.or_false, Bool.true_or, Bool.false_or, if_true, if_false, Bool.false_eq_true], _, _, rfl⟩
      · left
        have nr : ¬ Int64.ofNat m = Int64.ofNat 0 := fun y => z (hz.1 y)
        have nr' : ¬ Int64.ofNat m = 0 := nr
        have e := rmL (show g < 2 ^ 63 by omega) (show m < 2 ^ 63 by omega)
        have ml := Nat.mod_lt g (show m > 0 by omega)
        refine ⟨([some (.long (Int64.ofNat S)), none, some (.long (Int64.ofNat c)), none, some (.long (Int64.ofNat m)), none, some (.long (Int64.ofNat (g % m))), none, some (.long (Int64.ofNat (g % m))), none], w), g % m, ?_, ml, m, g % m, _, rfl, ?_, r1, by omega, rfl⟩
        · simp only [nr, nr', e, lx_335_1, lb_335_1, ee_turn, kl_0, v_bin, v_cmpL, v_loc, v_long, w_ret, w_seq, w_set, List.getElem?_cons_zero, List.getElem?_cons_succ, List.set_cons_zero, List.set_cons_succ, ee_cmp0, ee_cmp1, ee_cmp2, ee_cmp3, ee_cmp4, ee_cmp5, ee_cmpL0, ee_cmpL1, ee_cmpL2, ee_cmpL3, ee_cmpL4, ee_cmpL5, ee_tru_eb, decide_eq_true_eq, ib_i, ie_b, ie_f, ie_t, ib_l, fin_i, fin_l, fin_v, fin_z, fin_a, fin_n, ee_b_0, ee_fld0, ee_fld1, ee_fld2, ee_fld3, bi_0, bi_1, bi_2, bi_3, bi_4, bi_5, bi_6, bi_7, bi_8, bi_9, bi_10, bl_20, bl_21, bl_22, bl_23, bl_24, bl_25, bl_26, bl_48, bl_49, un_0, un_1, un_2, un_3, if_true, if_false, ite_true, ite_false, Bool.false_eq_true, Bool.not_eq_false, decide_not, Bool.not_not, reduceCtorEq, st_i, st_l, st_r, st_n, ee_noL, ee_noL.eq_1, List.length_cons, List.length_nil, Nat.reduceAdd, Nat.reduceLT, Nat.zero_add, and_true, true_and, and_self, fin_ite, pu_0, pu_1, pu_3, sto_0, el_0, Bool.not_eq_true, decide_eq_false_iff_not, Bool.decide_eq_true, Bool.decide_eq_false, decide_true, decide_false, Bool.not_true, Bool.not_false, Bool.and_self, Bool.and_true, Bool.and_false, Bool.true_and, Bool.false_and, Bool.or_true, Bool.or_false, Bool.true_or, Bool.false_or, if_true, if_false, Bool.false_eq_true]
        · rw [gcd_st, hg])
    c ([some (.long (Int64.ofNat S)), none, some (.long (Int64.ofNat c)), none, some (.long (Int64.ofNat S)), none, some (.long (Int64.ofNat c)), none, none, none], w) ⟨S, c, _, rfl, Nat.gcd_comm _ _, hS, hc, rfl⟩
  obtain ⟨j, v, rfl⟩ := hq
  rw [rn_335]
  simp only [w_while, hr, be_335, kl_0, v_bin, v_cmpL, v_loc, v_long, w_ret, w_seq, w_set, List.getElem?_cons_zero, List.getElem?_cons_succ, List.set_cons_zero, List.set_cons_succ, ee_cmp0, ee_cmp1, ee_cmp2, ee_cmp3, ee_cmp4, ee_cmp5, ee_cmpL0, ee_cmpL1, ee_cmpL2, ee_cmpL3, ee_cmpL4, ee_cmpL5, ee_tru_eb, decide_eq_true_eq, ib_i, ie_b, ie_f, ie_t, ib_l, fin_i, fin_l, fin_v, fin_z, fin_a, fin_n, ee_b_0, ee_fld0, ee_fld1, ee_fld2, ee_fld3, bi_0, bi_1, bi_2, bi_3, bi_4, bi_5, bi_6, bi_7, bi_8, bi_9, bi_10, bl_20, bl_21, bl_22, bl_23, bl_24, bl_25, bl_26, bl_48, bl_49, un_0, un_1, un_2, un_3, if_true, if_false, ite_true, ite_false, Bool.false_eq_true, Bool.not_eq_false, decide_not, Bool.not_not, reduceCtorEq, st_i, st_l, st_r, st_n, ee_noL, ee_noL.eq_1, List.length_cons, List.length_nil, Nat.reduceAdd, Nat.reduceLT, Nat.zero_add, and_true, true_and, and_self, fin_ite, pu_0, pu_1, pu_3, sto_0, el_0, Bool.not_eq_true, decide_eq_false_iff_not, Bool.decide_eq_true, Bool.decide_eq_false, decide_true, decide_false, Bool.not_true, Bool.not_false, Bool.and_self, Bool.and_true, Bool.and_false, Bool.true_and, Bool.false_and, Bool.or_true, Bool.or_false, Bool.true_or, Bool.false_or, if_true, if_false, Bool.false_eq_true]
end BEU
