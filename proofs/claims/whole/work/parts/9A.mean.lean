/-! mean on both sides -/
section BME
variable {P : Nat → Nat → List Value → ee_W → Option (List Value × ee_W)} {d : Nat} {w : ee_W} {Z : ZX}
def ms (Z : ZX) : Nat → Int32
  | 0 => 0
  | k + 1 => if lsb Z k = true then ms Z k else ms Z k + lf Z k
def mq (Z : ZX) : Nat → Nat
  | 0 => 0
  | k + 1 => if lsb Z k = true then mq Z k else mq Z k + 1
theorem ms_s (k : Nat) : ms Z (k + 1) = if lsb Z k = true then ms Z k else ms Z k + lf Z k := rfl
theorem mq_s (k : Nat) : mq Z (k + 1) = if lsb Z k = true then mq Z k else mq Z k + 1 := rfl
theorem lf_b (hW : WZ Z) {k : Nat} (hk : k < 8) : bI (lf Z k) (-200) 200 := by
  have v := vsp_b hW 1 hk
  rw [show vsp Z 1 k = lf Z k from rfl] at v
  exact v
theorem ms_b (hW : WZ Z) : ∀ k, k ≤ 8 → bI (ms Z k) (-200 * k) (200 * k) ∧ mq Z k ≤ k := by
  intro k
  induction k with
  | zero => intro _; exact ⟨⟨by rw [show ms Z 0 = 0 from rfl]; decide, by rw [show ms Z 0 = 0 from rfl]; decide⟩, Nat.le_refl _⟩
  | succ k ih =>
    intro hk
    obtain ⟨i1, i2⟩ := ih (by omega)
    have v := lf_b hW (show k < 8 by omega)
    rw [ms_s, mq_s]
    unfold bI at *
    cases a : lsb Z k
    · rw [if_neg (by decide), if_neg (by decide)]
      rw [i32_add (by omega) (by omega)]
      refine ⟨⟨?_, ?_⟩, ?_⟩ <;> omega
    · rw [if_pos rfl, if_pos rfl]
      refine ⟨⟨?_, ?_⟩, ?_⟩ <;> omega
theorem mn_add {a b : Int32} (h1 : -1000000 ≤ a.toInt) (h2 : a.toInt ≤ 1000000) (h3 : -1000000 ≤ b.toInt) (h4 : b.toInt ≤ 1000000) : a.toInt64 + b.toInt64 = (a + b).toInt64 := by
  have e := i32_add (a := a) (b := b) (by omega) (by omega)
  rw [← Int64.toInt_inj, Int64.toInt_add, Int32.toInt_toInt64, Int32.toInt_toInt64, Int32.toInt_toInt64, e]
  exact Int.bmod_eq_of_le (by omega) (by omega)
theorem td_b {a : Int} {g : Nat} (h1 : -2000 ≤ a) (h2 : a ≤ 2000) : -2000 ≤ a.tdiv g ∧ a.tdiv g ≤ 2000 := by
  have e := Int.natAbs_tdiv a g
  have l := Nat.div_le_self a.natAbs (Int.natAbs g)
  rw [show a.natAbs.div (Int.natAbs g) = a.natAbs / Int.natAbs g from rfl] at e
  omega
theorem mn_div {a : Int32} {g : Nat} (hg : g ≤ 2000) (h1 : -2000 ≤ a.toInt) (h2 : a.toInt ≤ 2000) : a.toInt64 / Int64.ofNat g = (a / Int32.ofNat g).toInt64 := by
  have b := td_b (g := g) h1 h2
  rw [← Int64.toInt_inj, Int64.toInt_div, Int32.toInt_toInt64, Int32.toInt_toInt64, Int32.toInt_div, Int64.toInt_ofNat_of_lt (by omega), nI_t (by omega)]
  rw [Int.bmod_eq_of_le (by omega) (by omega), Int.bmod_eq_of_le (by omega) (by omega)]
theorem mn_n {n : Nat} (h : n ≤ 2000) : (Int32.ofNat n).toInt64 = Int64.ofNat n := by
  rw [← Int64.toInt_inj, Int32.toInt_toInt64, Int64.toInt_ofNat_of_lt (by omega), nI_t (by omega)]
def mrs (u : Int32) (c : Nat) (s : Int32) (S : Nat) : Int64 := if c = 0 then (if u = 0 then 0 else 1) else if u = 0 then (s / Int32.ofNat (Nat.gcd c S)).toInt64 else (Int32.ofNat c / Int32.ofNat (Nat.gcd c S)).toInt64
theorem c_mean (hd : 5 ≤ d) (h1 : CZ w Z) (h3 : WZ Z) (u : Int32) {S : Nat} (hS : S ≤ 2000) (hab : ab (ms Z 8) = Int32.ofNat S) : ee_run ee_B P d 165 [.ref 0, .int u] w = some ([.long (mrs u (mq Z 8) (ms Z 8) S)], w) := by
  obtain ⟨d, rfl⟩ : ∃ k, d = k + 1 := ⟨d - 1, by omega⟩
  have hd1 : 1 ≤ d := by omega
  have hd3 : 3 ≤ d := by omega
  have hl := for_q (w := w) (x := ee_ev es_sh es_rf (ee_run ee_B P d) lx_165_1) (b := ee_evS es_sh es_rf (ee_run ee_B P d) lb_165_1)
    (fun k => [some (.ref 0), some (.int u), some (.int (ms Z k)), some (.int (Int32.ofNat (mq Z k))), some (.int (Int32.ofNat k))]) 8
    (by
      intro k hk
      have h9 : Int32.ofNat k < 8 := (j_lt (b := 8) (by omega) (by omega)).2 hk
      have l := c_lostZ (P := P) hd1 h1 k
      have lv := c_leftOf (P := P) hd3 h1 hk
      have e1 := ms_s (Z := Z) k
      have e2 := mq_s (Z := Z) k
      rw [e1, e2]
      cases a : lsb Z k <;> rw [a] at l <;> simp only [h9, l, lv, j_s, j_a, lx_165_1, lb_165_1, ee_turn, k_0, k_8, kl_0, kl_1, kl_18446744073709551615, nz_8, v_bin, v_call, v_cmp, v_cons, v_int, v_loc, v_long, v_nil, v_not, v_tern, v_un, v_z, w_if, w_inc, w_ret, w_seq, w_set, w_skip, List.getElem?_cons_zero, List.getElem?_cons_succ, List.set_cons_zero, List.set_cons_succ, ee_cmp0, ee_cmp1, ee_cmp2, ee_cmp3, ee_cmp4, ee_cmp5, ee_cmpL0, ee_cmpL1, ee_cmpL2, ee_cmpL3, ee_cmpL4, ee_cmpL5, ee_tru_eb, decide_eq_true_eq, ib_i, ie_b, ie_f, ie_t, ib_l, fin_i, fin_l, fin_v, fin_z, fin_a, fin_n, ee_b_0, ee_fld0, ee_fld1, ee_fld2, ee_fld3, bi_0, bi_1, bi_2, bi_3, bi_4, bi_5, bi_6, bi_7, bi_8, bi_9, bi_10, bl_20, bl_21, bl_22, bl_23, bl_24, bl_25, bl_26, bl_48, bl_49, un_0, un_1, un_2, un_3, if_true, if_false, ite_true, ite_false, Bool.false_eq_true, Bool.not_eq_false, decide_not, Bool.not_not, reduceCtorEq, st_i, st_l, st_r, st_n, ee_noL, ee_noL.eq_1, List.length_cons, List.length_nil, Nat.reduceAdd, Nat.reduceLT, Nat.zero_add, and_true, true_and, and_self, fin_ite, pu_0, pu_1, pu_3, sto_0, el_0, Bool.not_eq_true, decide_eq_false_iff_not, Bool.decide_eq_true, Bool.decide_eq_false, decide_true, decide_false, Bool.not_true, Bool.not_false, Bool.and_self, Bool.and_true, Bool.and_false, Bool.true_and, Bool.false_and, Bool.or_true, Bool.or_false, Bool.true_or, Bool.false_or, if_true, if_false, Bool.false_eq_true])
    (by
      have h9 : ¬ (8 : Int32) < 8 := by decide
      simp only [h9, lx_165_1, lb_165_1, ee_turn, k_0, k_8, kl_0, kl_1, kl_18446744073709551615, nz_8, v_bin, v_call, v_cmp, v_cons, v_int, v_loc, v_long, v_nil, v_not, v_tern, v_un, v_z, w_if, w_inc, w_ret, w_seq, w_set, w_skip, List.getElem?_cons_zero, List.getElem?_cons_succ, List.set_cons_zero, List.set_cons_succ, ee_cmp0, ee_cmp1, ee_cmp2, ee_cmp3, ee_cmp4, ee_cmp5, ee_cmpL0, ee_cmpL1, ee_cmpL2, ee_cmpL3, ee_cmpL4, ee_cmpL5, ee_tru_eb, decide_eq_true_eq, ib_i, ie_b, ie_f, ie_t, ib_l, fin_i, fin_l, fin_v, fin_z, fin_a, fin_n, ee_b_0, ee_fld0, ee_fld1, ee_fld2, ee_fld3, bi_0, bi_1, bi_2, bi_3, bi_4, bi_5, bi_6, bi_7, bi_8, bi_9, bi_10, bl_20, bl_21, bl_22, bl_23, bl_24, bl_25, bl_26, bl_48, bl_49, un_0, un_1, un_2, un_3, if_true, if_false, ite_true, ite_false, Bool.false_eq_true, Bool.not_eq_false, decide_not, Bool.not_not, reduceCtorEq, st_i, st_l, st_r, st_n, ee_noL, ee_noL.eq_1, List.length_cons, List.length_nil, Nat.reduceAdd, Nat.reduceLT, Nat.zero_add, and_true, true_and, and_self, fin_ite, pu_0, pu_1, pu_3, sto_0, el_0, Bool.not_eq_true, decide_eq_false_iff_not, Bool.decide_eq_true, Bool.decide_eq_false, decide_true, decide_false, Bool.not_true, Bool.not_false, Bool.and_self, Bool.and_true, Bool.and_false, Bool.true_and, Bool.false_and, Bool.or_true, Bool.or_false, Bool.true_or, Bool.false_or, if_true, if_false, Bool.false_eq_true])
  rw [show ms Z 0 = 0 from rfl, show mq Z 0 = 0 from rfl, k_0] at hl
  have ea := r_abs (P := P) (w := w) hd1 (ms Z 8)
  rw [show (if ms Z 8 < 0 then -ms Z 8 else ms Z 8) = ab (ms Z 8) from rfl, hab] at ea
  have hc := (ms_b h3 8 (Nat.le_refl _)).2
  have hg := c_gcd (P := P) (w := w) hd1 hc hS
  rw [rn_165 cz_0]
  generalize mq Z 8 = c at *
  have zc : Int32.ofNat c = 0 ↔ c = 0 := by
    rw [i32_eq, nI_t (by omega), show (0 : Int32).toInt = 0 from rfl]
    omega
  by_cases z : c = 0
  · subst z
    rw [k_0] at hl
    by_cases y : u = 0
    · subst y
      simp only [w_while, hl, mrs, eq_self, if_true, be_165, k_0, k_8, kl_0, kl_1, kl_18446744073709551615, nz_8, v_bin, v_call, v_cmp, v_cons, v_int, v_loc, v_long, v_nil, v_not, v_tern, v_un, v_z, w_if, w_inc, w_ret, w_seq, w_set, w_skip, List.getElem?_cons_zero, List.getElem?_cons_succ, List.set_cons_zero, List.set_cons_succ, ee_cmp0, ee_cmp1, ee_cmp2, ee_cmp3, ee_cmp4, ee_cmp5, ee_cmpL0, ee_cmpL1, ee_cmpL2, ee_cmpL3, ee_cmpL4, ee_cmpL5, ee_tru_eb, decide_eq_true_eq, ib_i, ie_b, ie_f, ie_t, ib_l, fin_i, fin_l, fin_v, fin_z, fin_a, fin_n, ee_b_0, ee_fld0, ee_fld1, ee_fld2, ee_fld3, bi_0, bi_1, bi_2, bi_3, bi_4, bi_5, bi_6, bi_7, bi_8, bi_9, bi_10, bl_20, bl_21, bl_22, bl_23, bl_24, bl_25, bl_26, bl_48, bl_49, un_0, un_1, un_2, un_3, if_true, if_false, ite_true, ite_false, Bool.false_eq_true, Bool.not_eq_false, decide_not, Bool.not_not, reduceCtorEq, st_i, st_l, st_r, st_n, ee_noL, ee_noL.eq_1, List.length_cons, List.length_nil, Nat.reduceAdd, Nat.reduceLT, Nat.zero_add, and_true, true_and, and_self, fin_ite, pu_0, pu_1, pu_3, sto_0, el_0, Bool.not_eq_true, decide_eq_false_iff_not, Bool.decide_eq_true, Bool.decide_eq_false, decide_true, decide_false, Bool.not_true, Bool.not_false, Bool.and_self, Bool.and_true, Bool.and_false, Bool.true_and, Bool.false_and, Bool.or_true, Bool.or_false, Bool.true_or, Bool.false_or, if_true, if_false, Bool.false_eq_true]
    · simp only [w_while, hl, y, mrs, be_165, k_0, k_8, kl_0, kl_1, kl_18446744073709551615, nz_8, v_bin, v_call, v_cmp, v_cons, v_int, v_loc, v_long, v_nil, v_not, v_tern, v_un, v_z, w_if, w_inc, w_ret, w_seq, w_set, w_skip, List.getElem?_cons_zero, List.getElem?_cons_succ, List.set_cons_zero, List.set_cons_succ, ee_cmp0, ee_cmp1, ee_cmp2, ee_cmp3, ee_cmp4, ee_cmp5, ee_cmpL0, ee_cmpL1, ee_cmpL2, ee_cmpL3, ee_cmpL4, ee_cmpL5, ee_tru_eb, decide_eq_true_eq, ib_i, ie_b, ie_f, ie_t, ib_l, fin_i, fin_l, fin_v, fin_z, fin_a, fin_n, ee_b_0, ee_fld0, ee_fld1, ee_fld2, ee_fld3, bi_0, bi_1, bi_2, bi_3, bi_4, bi_5, bi_6, bi_7, bi_8, bi_9, bi_10, bl_20, bl_21, bl_22, bl_23, bl_24, bl_25, bl_26, bl_48, bl_49, un_0, un_1, un_2, un_3, if_true, if_false, ite_true, ite_false, Bool.false_eq_true, Bool.not_eq_false, decide_not, Bool.not_not, reduceCtorEq, st_i, st_l, st_r, st_n, ee_noL, ee_noL.eq_1, List.length_cons, List.length_nil, Nat.reduceAdd, Nat.reduceLT, Nat.zero_add, and_true, true_and, and_self, fin_ite, pu_0, pu_1, pu_3, sto_0, el_0, Bool.not_eq_true, decide_eq_false_iff_not, Bool.decide_eq_true, Bool.decide_eq_false, decide_true, decide_false, Bool.not_true, Bool.not_false, Bool.and_self, Bool.and_true, Bool.and_false, Bool.true_and, Bool.false_and, Bool.or_true, Bool.or_false, Bool.true_or, Bool.false_or, if_true, if_false, Bool.false_eq_true]
  · have gp : 0 < Nat.gcd c S := Nat.gcd_pos_of_pos_left _ (by omega)
    have gl : Nat.gcd c S ≤ c := Nat.gcd_le_left _ (by omega)
    have zc' : ¬ Int32.ofNat c = 0 := fun q => z (zc.1 q)
    have zg : ¬ Int32.ofNat (Nat.gcd c S) = 0 := fun q => by
      rw [i32_eq, nI_t (by omega), show (0 : Int32).toInt = 0 from rfl] at q
      omega
    by_cases y : u = 0
    · subst y
      simp only [w_while, hl, ea, hg, zc', z, zg, mrs, eq_self, if_true, be_165, k_0, k_8, kl_0, kl_1, kl_18446744073709551615, nz_8, v_bin, v_call, v_cmp, v_cons, v_int, v_loc, v_long, v_nil, v_not, v_tern, v_un, v_z, w_if, w_inc, w_ret, w_seq, w_set, w_skip, List.getElem?_cons_zero, List.getElem?_cons_succ, List.set_cons_zero, List.set_cons_succ, ee_cmp0, ee_cmp1, ee_cmp2, ee_cmp3, ee_cmp4, ee_cmp5, ee_cmpL0, ee_cmpL1, ee_cmpL2, ee_cmpL3, ee_cmpL4, ee_cmpL5, ee_tru_eb, decide_eq_true_eq, ib_i, ie_b, ie_f, ie_t, ib_l, fin_i, fin_l, fin_v, fin_z, fin_a, fin_n, ee_b_0, ee_fld0, ee_fld1, ee_fld2, ee_fld3, bi_0, bi_1, bi_2, bi_3, bi_4, bi_5, bi_6, bi_7, bi_8, bi_9, bi_10, bl_20, bl_21, bl_22, bl_23, bl_24, bl_25, bl_26, bl_48, bl_49, un_0, un_1, un_2, un_3, if_true, if_false, ite_true, ite_false, Bool.false_eq_true, Bool.not_eq_false, decide_not, Bool.not_not, reduceCtorEq, st_i, st_l, st_r, st_n, ee_noL, ee_noL.eq_1, List.length_cons, List.length_nil, Nat.reduceAdd, Nat.reduceLT, Nat.zero_add, and_true, true_and, and_self, fin_ite, pu_0, pu_1, pu_3, sto_0, el_0, Bool.not_eq_true, decide_eq_false_iff_not, Bool.decide_eq_true, Bool.decide_eq_false, decide_true, decide_false, Bool.not_true, Bool.not_false, Bool.and_self, Bool.and_true, Bool.and_false, Bool.true_and, Bool.false_and, Bool.or_true, Bool.or_false, Bool.true_or, Bool.false_or, if_true, if_false, Bool.false_eq_true]
    · simp only [w_while, hl, ea, hg, zc', z, zg, y, mrs, be_165, k_0, k_8, kl_0, kl_1, kl_18446744073709551615, nz_8, v_bin, v_call, v_cmp, v_cons, v_int, v_loc, v_long, v_nil, v_not, v_tern, v_un, v_z, w_if, w_inc, w_ret, w_seq, w_set, w_skip, List.getElem?_cons_zero, List.getElem?_cons_succ, List.set_cons_zero, List.set_cons_succ, ee_cmp0, ee_cmp1, ee_cmp2, ee_cmp3, ee_cmp4, ee_cmp5, ee_cmpL0, ee_cmpL1, ee_cmpL2, ee_cmpL3, ee_cmpL4, ee_cmpL5, ee_tru_eb, decide_eq_true_eq, ib_i, ie_b, ie_f, ie_t, ib_l, fin_i, fin_l, fin_v, fin_z, fin_a, fin_n, ee_b_0, ee_fld0, ee_fld1, ee_fld2, ee_fld3, bi_0, bi_1, bi_2, bi_3, bi_4, bi_5, bi_6, bi_7, bi_8, bi_9, bi_10, bl_20, bl_21, bl_22, bl_23, bl_24, bl_25, bl_26, bl_48, bl_49, un_0, un_1, un_2, un_3, if_true, if_false, ite_true, ite_false, Bool.false_eq_true, Bool.not_eq_false, decide_not, Bool.not_not, reduceCtorEq, st_i, st_l, st_r, st_n, ee_noL, ee_noL.eq_1, List.length_cons, List.length_nil, Nat.reduceAdd, Nat.reduceLT, Nat.zero_add, and_true, true_and, and_self, fin_ite, pu_0, pu_1, pu_3, sto_0, el_0, Bool.not_eq_true, decide_eq_false_iff_not, Bool.decide_eq_true, Bool.decide_eq_false, decide_true, decide_false, Bool.not_true, Bool.not_false, Bool.and_self, Bool.and_true, Bool.and_false, Bool.true_and, Bool.false_and, Bool.or_true, Bool.or_false, Bool.true_or, Bool.false_or, if_true, if_false, Bool.false_eq_true]
theorem m_mean (hd : 3 ≤ d) (h2 : MZ w Z) (h3 : WZ Z) (u : Int32) {S : Nat} (hS : S ≤ 2000) (hab : ab (ms Z 8) = Int32.ofNat S) : ee_run ee_B P d 334 [.ref 236, .int u] w = some ([.long (mrs u (mq Z 8) (ms Z 8) S)], w) := by
  obtain ⟨d, rfl⟩ : ∃ k, d = k + 1 := ⟨d - 1, by omega⟩
  have hd1 : 1 ≤ d := by omega
  have hd2 : 2 ≤ d := by omega
  have hl := for_q (w := w) (x := ee_ev es_sh es_rf (ee_run ee_B P d) lx_334_1) (b := ee_evS es_sh es_rf (ee_run ee_B P d) lb_334_1)
    (fun k => [some (.ref 236), some (.int u), some (.long (ms Z k).toInt64), none, some (.long (Int64.ofNat (mq Z k))), none, some (.int (Int32.ofNat k))]) 8
    (by
      intro k hk
      have h9 : Int32.ofNat k < 8 := (j_lt (b := 8) (by omega) (by omega)).2 hk
      have l := m_lostZ (P := P) hd2 h2 k
      have lv := m_leftOf (P := P) hd1 h2 hk
      have e1 := ms_s (Z := Z) k
      have e2 := mq_s (Z := Z) k
      have b1 := (ms_b h3 k (by omega)).1
      have b2 := lf_b h3 hk
      unfold bI at b1 b2
      have s1 := mn_add (a := ms Z k) (b := lf Z k) (by omega) (by omega) (by omega) (by omega)
      have s2 : Int64.ofNat (mq Z k) + 1 = Int64.ofNat (mq Z k + 1) := (Int64.ofNat_add _ _).symm
      rw [e1, e2]
      cases a : lsb Z k <;> rw [a] at l <;> simp only [h9, l, lv, s1, s2, j_s, j_a, lx_334_1, lb_334_1, ee_turn, k_0, k_8, kl_0, kl_1, nz_8, v_bin, v_call, v_cmp, v_cmpL, v_cons, v_int, v_loc, v_long, v_nil, v_tern, v_un, v_z, w_if, w_inc, w_ret, w_seq, w_set, w_skip, List.getElem?_cons_zero, List.getElem?_cons_succ, List.set_cons_zero, List.set_cons_succ, ee_cmp0, ee_cmp1, ee_cmp2, ee_cmp3, ee_cmp4, ee_cmp5, ee_cmpL0, ee_cmpL1, ee_cmpL2, ee_cmpL3, ee_cmpL4, ee_cmpL5, ee_tru_eb, decide_eq_true_eq, ib_i, ie_b, ie_f, ie_t, ib_l, fin_i, fin_l, fin_v, fin_z, fin_a, fin_n, ee_b_0, ee_fld0, ee_fld1, ee_fld2, ee_fld3, bi_0, bi_1, bi_2, bi_3, bi_4, bi_5, bi_6, bi_7, bi_8, bi_9, bi_10, bl_20, bl_21, bl_22, bl_23, bl_24, bl_25, bl_26, bl_48, bl_49, un_0, un_1, un_2, un_3, if_true, if_false, ite_true, ite_false, Bool.false_eq_true, Bool.not_eq_false, decide_not, Bool.not_not, reduceCtorEq, st_i, st_l, st_r, st_n, ee_noL, ee_noL.eq_1, List.length_cons, List.length_nil, Nat.reduceAdd, Nat.reduceLT, Nat.zero_add, and_true, true_and, and_self, fin_ite, pu_0, pu_1, pu_3, sto_0, el_0, Bool.not_eq_true, decide_eq_false_iff_not, Bool.decide_eq_true, Bool.decide_eq_false, decide_true, decide_false, Bool.not_true, Bool.not_false, Bool.and_self, Bool.and_true, Bool.and_false, Bool.true_and, Bool.false_and, Bool.or_true, Bool.or_false, Bool.true_or, Bool.false_or, if_true, if_false, Bool.false_eq_true, tc_0, ix_0, tc_8, ix_8, mz_0, mz_1, mz_a, rvs, j_s, j_a, wI_at, Nat.reduceEqDiff, zero_ne_one_n, one_ne_zero_n])
    (by
      have h9 : ¬ (8 : Int32) < 8 := by decide
      simp only [h9, lx_334_1, lb_334_1, ee_turn, k_0, k_8, kl_0, kl_1, nz_8, v_bin, v_call, v_cmp, v_cmpL, v_cons, v_int, v_loc, v_long, v_nil, v_tern, v_un, v_z, w_if, w_inc, w_ret, w_seq, w_set, w_skip, List.getElem?_cons_zero, List.getElem?_cons_succ, List.set_cons_zero, List.set_cons_succ, ee_cmp0, ee_cmp1, ee_cmp2, ee_cmp3, ee_cmp4, ee_cmp5, ee_cmpL0, ee_cmpL1, ee_cmpL2, ee_cmpL3, ee_cmpL4, ee_cmpL5, ee_tru_eb, decide_eq_true_eq, ib_i, ie_b, ie_f, ie_t, ib_l, fin_i, fin_l, fin_v, fin_z, fin_a, fin_n, ee_b_0, ee_fld0, ee_fld1, ee_fld2, ee_fld3, bi_0, bi_1, bi_2, bi_3, bi_4, bi_5, bi_6, bi_7, bi_8, bi_9, bi_10, bl_20, bl_21, bl_22, bl_23, bl_24, bl_25, bl_26, bl_48, bl_49, un_0, un_1, un_2, un_3, if_true, if_false, ite_true, ite_false, Bool.false_eq_true, Bool.not_eq_false, decide_not, Bool.not_not, reduceCtorEq, st_i, st_l, st_r, st_n, ee_noL, ee_noL.eq_1, List.length_cons, List.length_nil, Nat.reduceAdd, Nat.reduceLT, Nat.zero_add, and_true, true_and, and_self, fin_ite, pu_0, pu_1, pu_3, sto_0, el_0, Bool.not_eq_true, decide_eq_false_iff_not, Bool.decide_eq_true, Bool.decide_eq_false, decide_true, decide_false, Bool.not_true, Bool.not_false, Bool.and_self, Bool.and_true, Bool.and_false, Bool.true_and, Bool.false_and, Bool.or_true, Bool.or_false, Bool.true_or, Bool.false_or, if_true, if_false, Bool.false_eq_true, tc_0, ix_0, tc_8, ix_8, mz_0, mz_1, mz_a, rvs, j_s, j_a, wI_at, Nat.reduceEqDiff, zero_ne_one_n, one_ne_zero_n])
  rw [show ms Z 0 = 0 from rfl, show mq Z 0 = 0 from rfl, k_0, show (0 : Int32).toInt64 = 0 from rfl, kl_0] at hl
  obtain ⟨b1, hc⟩ := ms_b h3 8 (Nat.le_refl _)
  have hg := m_gcd (P := P) (w := w) hd1 (show mq Z 8 ≤ 2000 by omega) hS
  rw [rn_334 mz_0]
  unfold bI at b1
  generalize mq Z 8 = c at *
  generalize ms Z 8 = s at *
  have zc : Int64.ofNat c = Int64.ofNat 0 ↔ c = 0 := by
    rw [← Int64.toInt_inj, Int64.toInt_ofNat_of_lt (by omega), Int64.toInt_ofNat_of_lt (by omega)]
    omega
  by_cases z : c = 0
  · subst z
    rw [kl_0] at hl
    by_cases y : u = 0
    · subst y
      simp only [w_while, hl, mrs, eq_self, if_true, be_334, k_0, k_8, kl_0, kl_1, nz_8, v_bin, v_call, v_cmp, v_cmpL, v_cons, v_int, v_loc, v_long, v_nil, v_tern, v_un, v_z, w_if, w_inc, w_ret, w_seq, w_set, w_skip, List.getElem?_cons_zero, List.getElem?_cons_succ, List.set_cons_zero, List.set_cons_succ, ee_cmp0, ee_cmp1, ee_cmp2, ee_cmp3, ee_cmp4, ee_cmp5, ee_cmpL0, ee_cmpL1, ee_cmpL2, ee_cmpL3, ee_cmpL4, ee_cmpL5, ee_tru_eb, decide_eq_true_eq, ib_i, ie_b, ie_f, ie_t, ib_l, fin_i, fin_l, fin_v, fin_z, fin_a, fin_n, ee_b_0, ee_fld0, ee_fld1, ee_fld2, ee_fld3, bi_0, bi_1, bi_2, bi_3, bi_4, bi_5, bi_6, bi_7, bi_8, bi_9, bi_10, bl_20, bl_21, bl_22, bl_23, bl_24, bl_25, bl_26, bl_48, bl_49, un_0, un_1, un_2, un_3, if_true, if_false, ite_true, ite_false, Bool.false_eq_true, Bool.not_eq_false, decide_not, Bool.not_not, reduceCtorEq, st_i, st_l, st_r, st_n, ee_noL, ee_noL.eq_1, List.length_cons, List.length_nil, Nat.reduceAdd, Nat.reduceLT, Nat.zero_add, and_true, true_and, and_self, fin_ite, pu_0, pu_1, pu_3, sto_0, el_0, Bool.not_eq_true, decide_eq_false_iff_not, Bool.decide_eq_true, Bool.decide_eq_false, decide_true, decide_false, Bool.not_true, Bool.not_false, Bool.and_self, Bool.and_true, Bool.and_false, Bool.true_and, Bool.false_and, Bool.or_true, Bool.or_false, Bool.true_or, Bool.false_or, if_true, if_false, Bool.false_eq_true, ix_0, ix_8, tc_0, tc_8, mz_0, mz_1, mz_a, rvs, j_s, j_a, wI_at, Nat.reduceEqDiff, zero_ne_one_n, one_ne_zero_n]
    · simp only [w_while, hl, y, mrs, be_334, k_0, k_8, kl_0, kl_1, nz_8, v_bin, v_call, v_cmp, v_cmpL, v_cons, v_int, v_loc, v_long, v_nil, v_tern, v_un, v_z, w_if, w_inc, w_ret, w_seq, w_set, w_skip, List.getElem?_cons_zero, List.getElem?_cons_succ, List.set_cons_zero, List.set_cons_succ, ee_cmp0, ee_cmp1, ee_cmp2, ee_cmp3, ee_cmp4, ee_cmp5, ee_cmpL0, ee_cmpL1, ee_cmpL2, ee_cmpL3, ee_cmpL4, ee_cmpL5, ee_tru_eb, decide_eq_true_eq, ib_i, ie_b, ie_f, ie_t, ib_l, fin_i, fin_l, fin_v, fin_z, fin_a, fin_n, ee_b_0, ee_fld0, ee_fld1, ee_fld2, ee_fld3, bi_0, bi_1, bi_2, bi_3, bi_4, bi_5, bi_6, bi_7, bi_8, bi_9, bi_10, bl_20, bl_21, bl_22, bl_23, bl_24, bl_25, bl_26, bl_48, bl_49, un_0, un_1, un_2, un_3, if_true, if_false, ite_true, ite_false, Bool.false_eq_true, Bool.not_eq_false, decide_not, Bool.not_not, reduceCtorEq, st_i, st_l, st_r, st_n, ee_noL, ee_noL.eq_1, List.length_cons, List.length_nil, Nat.reduceAdd, Nat.reduceLT, Nat.zero_add, and_true, true_and, and_self, fin_ite, pu_0, pu_1, pu_3, sto_0, el_0, Bool.not_eq_true, decide_eq_false_iff_not, Bool.decide_eq_true, Bool.decide_eq_false, decide_true, decide_false, Bool.not_true, Bool.not_false, Bool.and_self, Bool.and_true, Bool.and_false, Bool.true_and, Bool.false_and, Bool.or_true, Bool.or_false, Bool.true_or, Bool.false_or, if_true, if_false, Bool.false_eq_true, ix_0, ix_8, tc_0, tc_8, mz_0, mz_1, mz_a, rvs, j_s, j_a, wI_at, Nat.reduceEqDiff, zero_ne_one_n, one_ne_zero_n]
  · have gp : 0 < Nat.gcd c S := Nat.gcd_pos_of_pos_left _ (by omega)
    have gl : Nat.gcd c S ≤ c := Nat.gcd_le_left _ (by omega)
    have zc' : ¬ Int64.ofNat c = 0 := fun q => z (zc.1 q)
    have zg : ¬ Int64.ofNat (Nat.gcd c S) = 0 := fun q => by
      rw [show (0 : Int64) = Int64.ofNat 0 from rfl, ← Int64.toInt_inj, Int64.toInt_ofNat_of_lt (by omega), Int64.toInt_ofNat_of_lt (by omega)] at q
      omega
    have d1 := mn_div (a := s) (g := Nat.gcd c S) (by omega) (by omega) (by omega)
    have d2 := mn_div (a := Int32.ofNat c) (g := Nat.gcd c S) (by omega) (by rw [nI_t (by omega)]; omega) (by rw [nI_t (by omega)]; omega)
    rw [mn_n (by omega)] at d2
    have sg : s.toInt64 < 0 ↔ s < 0 := by
      rw [← kl_0]
      rw [Int64.lt_iff_toInt_lt, Int32.toInt_toInt64, Int64.toInt_ofNat_of_lt (by omega), i32_lt, show (0 : Int32).toInt = 0 from rfl]
      omega
    unfold ab at hab
    by_cases q : s < 0
    · rw [if_pos q] at hab
      have ng : -s.toInt64 = Int64.ofNat S := by
        rw [i32_lt, show (0 : Int32).toInt = 0 from rfl] at q
        have e : (0 - s).toInt = 0 - s.toInt := by rw [i32_sub (by rw [show (0 : Int32).toInt = 0 from rfl]; omega) (by rw [show (0 : Int32).toInt = 0 from rfl]; omega), show (0 : Int32).toInt = 0 from rfl]
        rw [Int32.zero_sub, hab, nI_t (by omega)] at e
        rw [← Int64.toInt_inj, Int64.toInt_neg, Int32.toInt_toInt64, Int64.toInt_ofNat_of_lt (by omega), Int.bmod_eq_of_le (by omega) (by omega)]
        omega
      by_cases y : u = 0
      · subst y
        simp only [w_while, hl, hg, zc', z, zg, sg, q, ng, d1, d2, mrs, eq_self, if_true, be_334, k_0, k_8, kl_0, kl_1, nz_8, v_bin, v_call, v_cmp, v_cmpL, v_cons, v_int, v_loc, v_long, v_nil, v_tern, v_un, v_z, w_if, w_inc, w_ret, w_seq, w_set, w_skip, List.getElem?_cons_zero, List.getElem?_cons_succ, List.set_cons_zero, List.set_cons_succ, ee_cmp0, ee_cmp1, ee_cmp2, ee_cmp3, ee_cmp4, ee_cmp5, ee_cmpL0, ee_cmpL1, ee_cmpL2, ee_cmpL3, ee_cmpL4, ee_cmpL5, ee_tru_eb, decide_eq_true_eq, ib_i, ie_b, ie_f, ie_t, ib_l, fin_i, fin_l, fin_v, fin_z, fin_a, fin_n, ee_b_0, ee_fld0, ee_fld1, ee_fld2, ee_fld3, bi_0, bi_1, bi_2, bi_3, bi_4, bi_5, bi_6, bi_7, bi_8, bi_9, bi_10, bl_20, bl_21, bl_22, bl_23, bl_24, bl_25, bl_26, bl_48, bl_49, un_0, un_1, un_2, un_3, if_true, if_false, ite_true, ite_false, Bool.false_eq_true, Bool.not_eq_false, decide_not, Bool.not_not, reduceCtorEq, st_i, st_l, st_r, st_n, ee_noL, ee_noL.eq_1, List.length_cons, List.length_nil, Nat.reduceAdd, Nat.reduceLT, Nat.zero_add, and_true, true_and, and_self, fin_ite, pu_0, pu_1, pu_3, sto_0, el_0, Bool.not_eq_true, decide_eq_false_iff_not, Bool.decide_eq_true, Bool.decide_eq_false, decide_true, decide_false, Bool.not_true, Bool.not_false, Bool.and_self, Bool.and_true, Bool.and_false, Bool.true_and, Bool.false_and, Bool.or_true, Bool.or_false, Bool.true_or, Bool.false_or, if_true, if_false, Bool.false_eq_true, ix_0, ix_8, tc_0, tc_8, mz_0, mz_1, mz_a, rvs, j_s, j_a, wI_at, Nat.reduceEqDiff, zero_ne_one_n, one_ne_zero_n]
      · simp only [w_while, hl, hg, zc', z, zg, y, sg, q, ng, d1, d2, mrs, be_334, k_0, k_8, kl_0, kl_1, nz_8, v_bin, v_call, v_cmp, v_cmpL, v_cons, v_int, v_loc, v_long, v_nil, v_tern, v_un, v_z, w_if, w_inc, w_ret, w_seq, w_set, w_skip, List.getElem?_cons_zero, List.getElem?_cons_succ, List.set_cons_zero, List.set_cons_succ, ee_cmp0, ee_cmp1, ee_cmp2, ee_cmp3, ee_cmp4, ee_cmp5, ee_cmpL0, ee_cmpL1, ee_cmpL2, ee_cmpL3, ee_cmpL4, ee_cmpL5, ee_tru_eb, decide_eq_true_eq, ib_i, ie_b, ie_f, ie_t, ib_l, fin_i, fin_l, fin_v, fin_z, fin_a, fin_n, ee_b_0, ee_fld0, ee_fld1, ee_fld2, ee_fld3, bi_0, bi_1, bi_2, bi_3, bi_4, bi_5, bi_6, bi_7, bi_8, bi_9, bi_10, bl_20, bl_21, bl_22, bl_23, bl_24, bl_25, bl_26, bl_48, bl_49, un_0, un_1, un_2, un_3, if_true, if_false, ite_true, ite_false, Bool.false_eq_true, Bool.not_eq_false, decide_not, Bool.not_not, reduceCtorEq, st_i, st_l, st_r, st_n, ee_noL, ee_noL.eq_1, List.length_cons, List.length_nil, Nat.reduceAdd, Nat.reduceLT, Nat.zero_add, and_true, true_and, and_self, fin_ite, pu_0, pu_1, pu_3, sto_0, el_0, Bool.not_eq_true, decide_eq_false_iff_not, Bool.decide_eq_true, Bool.decide_eq_false, decide_true, decide_false, Bool.not_true, Bool.not_false, Bool.and_self, Bool.and_true, Bool.and_false, Bool.true_and, Bool.false_and, Bool.or_true, Bool.or_false, Bool.true_or, Bool.false_or, if_true, if_false, Bool.false_eq_true, ix_0, ix_8, tc_0, tc_8, mz_0, mz_1, mz_a, rvs, j_s, j_a, wI_at, Nat.reduceEqDiff, zero_ne_one_n, one_ne_zero_n]
    · rw [if_neg q] at hab
      have ng : s.toInt64 = Int64.ofNat S := by rw [hab, mn_n hS]
      by_cases y : u = 0
      · subst y
        rw [ng] at d1 sg hl
        simp only [w_while, hl, hg, zc', z, zg, sg, q, d1, d2, mrs, eq_self, if_true, be_334, k_0, k_8, kl_0, kl_1, nz_8, v_bin, v_call, v_cmp, v_cmpL, v_cons, v_int, v_loc, v_long, v_nil, v_tern, v_un, v_z, w_if, w_inc, w_ret, w_seq, w_set, w_skip, List.getElem?_cons_zero, List.getElem?_cons_succ, List.set_cons_zero, List.set_cons_succ, ee_cmp0, ee_cmp1, ee_cmp2, ee_cmp3, ee_cmp4, ee_cmp5, ee_cmpL0, ee_cmpL1, ee_cmpL2, ee_cmpL3, ee_cmpL4, ee_cmpL5, ee_tru_eb, decide_eq_true_eq, ib_i, ie_b, ie_f, ie_t, ib_l, fin_i, fin_l, fin_v, fin_z, fin_a, fin_n, ee_b_0, ee_fld0, ee_fld1, ee_fld2, ee_fld3, bi_0, bi_1, bi_2, bi_3, bi_4, bi_5, bi_6, bi_7, bi_8, bi_9, bi_10, bl_20, bl_21, bl_22, bl_23, bl_24, bl_25, bl_26, bl_48, bl_49, un_0, un_1, un_2, un_3, if_true, if_false, ite_true, ite_false, Bool.false_eq_true, Bool.not_eq_false, decide_not, Bool.not_not, reduceCtorEq, st_i, st_l, st_r, st_n, ee_noL, ee_noL.eq_1, List.length_cons, List.length_nil, Nat.reduceAdd, Nat.reduceLT, Nat.zero_add, and_true, true_and, and_self, fin_ite, pu_0, pu_1, pu_3, sto_0, el_0, Bool.not_eq_true, decide_eq_false_iff_not, Bool.decide_eq_true, Bool.decide_eq_false, decide_true, decide_false, Bool.not_true, Bool.not_false, Bool.and_self, Bool.and_true, Bool.and_false, Bool.true_and, Bool.false_and, Bool.or_true, Bool.or_false, Bool.true_or, Bool.false_or, if_true, if_false, Bool.false_eq_true, ix_0, ix_8, tc_0, tc_8, mz_0, mz_1, mz_a, rvs, j_s, j_a, wI_at, Nat.reduceEqDiff, zero_ne_one_n, one_ne_zero_n]
      · rw [ng] at d1 sg hl
        simp only [w_while, hl, hg, zc', z, zg, y, sg, q, d1, d2, mrs, be_334, k_0, k_8, kl_0, kl_1, nz_8, v_bin, v_call, v_cmp, v_cmpL, v_cons, v_int, v_loc, v_long, v_nil, v_tern, v_un, v_z, w_if, w_inc, w_ret, w_seq, w_set, w_skip, List.getElem?_cons_zero, List.getElem?_cons_succ, List.set_cons_zero, List.set_cons_succ, ee_cmp0, ee_cmp1, ee_cmp2, ee_cmp3, ee_cmp4, ee_cmp5, ee_cmpL0, ee_cmpL1, ee_cmpL2, ee_cmpL3, ee_cmpL4, ee_cmpL5, ee_tru_eb, decide_eq_true_eq, ib_i, ie_b, ie_f, ie_t, ib_l, fin_i, fin_l, fin_v, fin_z, fin_a, fin_n, ee_b_0, ee_fld0, ee_fld1, ee_fld2, ee_fld3, bi_0, bi_1, bi_2, bi_3, bi_4, bi_5, bi_6, bi_7, bi_8, bi_9, bi_10, bl_20, bl_21, bl_22, bl_23, bl_24, bl_25, bl_26, bl_48, bl_49, un_0, un_1, un_2, un_3, if_true, if_false, ite_true, ite_false, Bool.false_eq_true, Bool.not_eq_false, decide_not, Bool.not_not, reduceCtorEq, st_i, st_l, st_r, st_n, ee_noL, ee_noL.eq_1, List.length_cons, List.length_nil, Nat.reduceAdd, Nat.reduceLT, Nat.zero_add, and_true, true_and, and_self, fin_ite, pu_0, pu_1, pu_3, sto_0, el_0, Bool.not_eq_true, decide_eq_false_iff_not, Bool.decide_eq_true, Bool.decide_eq_false, decide_true, decide_false, Bool.not_true, Bool.not_false, Bool.and_self, Bool.and_true, Bool.and_false, Bool.true_and, Bool.false_and, Bool.or_true, Bool.or_false, Bool.true_or, Bool.false_or, if_true, if_false, Bool.false_eq_true, ix_0, ix_8, tc_0, tc_8, mz_0, mz_1, mz_a, rvs, j_s, j_a, wI_at, Nat.reduceEqDiff, zero_ne_one_n, one_ne_zero_n]
theorem b_mean (hd : 5 ≤ d) (hS : Sim w) (u : Int32) : Both P d 165 334 [.int u] w := by
  obtain ⟨Z, h1, h2, h3⟩ := hS
  obtain ⟨b1, -⟩ := ms_b h3 8 (Nat.le_refl _)
  unfold bI at b1
  have e : 0 ≤ (ab (ms Z 8)).toInt ∧ (ab (ms Z 8)).toInt ≤ 1600 := by
    unfold ab
    by_cases q : ms Z 8 < 0
    · rw [if_pos q]
      rw [i32_lt, show (0 : Int32).toInt = 0 from rfl] at q
      have e : (0 - ms Z 8).toInt = 0 - (ms Z 8).toInt := by rw [i32_sub (by rw [show (0 : Int32).toInt = 0 from rfl]; omega) (by rw [show (0 : Int32).toInt = 0 from rfl]; omega), show (0 : Int32).toInt = 0 from rfl]
      rw [Int32.zero_sub] at e
      omega
    · rw [if_neg q]
      rw [i32_lt, show (0 : Int32).toInt = 0 from rfl] at q
      omega
  obtain ⟨S, q1, q2, q3⟩ := j_of e.1
  have hS2 : S ≤ 2000 := by
    have := e.2
    rw [q2, nI_t (by omega)] at this
    omega
  exact both_q h1 h2 h3 (c_mean hd h1 h3 u hS2 q2) (m_mean (by omega) h2 h3 u hS2 q2)
end BME
