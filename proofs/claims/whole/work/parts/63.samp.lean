/-! a sample, the class's -/
section SA
variable {P : Nat → Nat → List Value → ee_W → Option (List Value × ee_W)} {d : Nat} {w : ee_W} {h b : Nat} {X : HX} {R : Option TX} {lv : Value}
theorem ofnat_rem {n m : Nat} (hn : n < 2147483648) (hm : m < 2147483648) (h0 : 0 < m) : Int32.ofNat n - Int32.ofNat n / Int32.ofNat m * Int32.ofNat m = Int32.ofNat (n % m) := by
  rw [← Int32.ofNat_div hn hm, ← Int32.ofNat_mul, ← Int32.ofNat_sub _ _ (Nat.div_mul_le_self n m)]
  congr 1
  have := Nat.div_add_mod n m
  rw [Nat.mul_comm] at this
  omega
theorem rem8_of {c : Int32} (h : 0 ≤ c.toInt) : ∃ k, k < 8 ∧ rem8 c = Int32.ofNat k ∧ k = c.toInt.toNat % 8 := by
  obtain ⟨n, h1, h2, h3⟩ := j_of h
  refine ⟨n % 8, Nat.mod_lt _ (by omega), ?_, by omega⟩
  rw [h2]
  exact ofnat_rem h1 (m := 8) (by omega) (by omega)
def LV (w : ee_W) (lv : Value) (R : Option TX) : Prop := (lv = .null ∧ R = none) ∨ ∃ (i : Nat) (T : TX), i < 4 ∧ lv = .ref (202 + 5 * i) ∧ R = some T ∧ CT w (202 + 5 * i) T
theorem LV_chg {p : Nat → Bool} {w' : ee_W} (hL : LV w lv R) (hc : chg p w w') (hp : ∀ c, 202 ≤ c → c < 222 → p c = false) : LV w' lv R := by
  rcases hL with hL | ⟨i, T, h1, h2, h3, h4⟩
  · exact Or.inl hL
  · exact Or.inr ⟨i, T, h1, h2, h3, CT_chg h4 hc (fun c q1 q2 => hp c (by omega) (by omega))⟩
def lawP (R : Option TX) : Option ee_T := match R with
  | none => none
  | some T => T.2.1
def lawG (R : Option TX) : Option ee_T := match R with
  | none => none
  | some T => T.2.2
theorem c_pullL (hd : 6 ≤ d) (hL : LV w lv R) (hh : hd_ok h) (h229 : h + 2 < 229) (hX : CH w h X) (hc : 0 ≤ (X.1 0).toInt) : ∃ w', ee_run ee_B P d 99 [.ref 0, lv, .ref h] w = some ([.int (pv X (lawP R))], w') ∧ chg mrg w w' := by
  rcases hL with ⟨rfl, rfl⟩ | ⟨i, T, h1, rfl, rfl, h4⟩
  · exact ⟨w, c_pullOf0 (by omega) hh hX, chg_refl _ _⟩
  · exact c_pullOf hd (tx_of i h1) (by omega) hh h229 hX hc h4
theorem c_gainL (hd : 6 ≤ d) (hL : LV w lv R) (hh : hd_ok h) (h229 : h + 2 < 229) (hX : CH w h X) (hc : 0 ≤ (X.1 0).toInt) (off : Int32) : ∃ w', ee_run ee_B P d 87 [.ref 0, lv, .ref h, .int off] w = some ([.int (gv X off (lawG R))], w') ∧ chg mrg w w' := by
  rcases hL with ⟨rfl, rfl⟩ | ⟨i, T, h1, rfl, rfl, h4⟩
  · exact ⟨w, c_gainOf0 (by omega) off, chg_refl _ _⟩
  · exact c_gainOf hd (tx_of i h1) (by omega) hh h229 hX hc h4 off
/-- which TEXT rules -/
def RL (w : ee_W) (R : Option TX) : Prop := ∃ n, n ≤ 4 ∧ w.1 1 4 = Int32.ofNat n ∧ ((∃ (i : Nat) (T : TX), i < n ∧ w.1 1 5 = Int32.ofNat i ∧ R = some T ∧ CT w (202 + 5 * i) T) ∨ (w.1 1 5 = -1 ∧ R = none))
theorem c_textIs (hd : 2 ≤ d) {n i : Nat} (hn : n ≤ 4) (h4 : w.1 1 4 = Int32.ofNat n) (hi : i < n) : ee_run ee_B P d 62 [.ref 0, .int (Int32.ofNat i)] w = some ([.ref (202 + 5 * i)], w) := by
  obtain ⟨d, rfl⟩ : ∃ k, d = k + 1 := ⟨d - 1, by omega⟩
  have hd1 : 1 ≤ d := by omega
  have a0 := al_1.1
  have e1 : (decide ((0 : Int32) ≤ Int32.ofNat i) && decide (Int32.ofNat i ≤ 3)) = true := by
    rw [in_iff, nI_t (by omega)]
    exact ⟨by show (0 : Int) ≤ _; omega, by show _ ≤ (3 : Int); omega⟩
  have e2 : ¬ (Int32.ofNat n ≤ Int32.ofNat i) := fun z => by have := (j_le (by omega) (by omega)).1 z; omega
  have x1 : ee_ix (Int32.ofNat i) 4 = true := by rw [ixn (by omega)]; exact decide_eq_true (by omega)
  obtain ⟨q1, q2⟩ := cz_tx i (by omega)
  rw [rn_62 cz_0]
  simp +decide only [r_within hd1, e1, e2, cz_0, cz_r0, cz_r2, cz_201, a0, rvs, h4, x1, ee_elt, tnc (show i < 2147483648 by omega), q1, bd_62, k_0, k_3, nz_3, v_call, v_cmp, v_cons, v_get, v_idx, v_int, v_loc, v_nil, v_not, v_null, v_or, v_z, w_if, w_ret, List.getElem?_cons_zero, List.getElem?_cons_succ, List.set_cons_zero, List.set_cons_succ, ee_cmp0, ee_cmp1, ee_cmp2, ee_cmp3, ee_cmp4, ee_cmp5, ee_cmpL0, ee_cmpL1, ee_cmpL2, ee_cmpL3, ee_cmpL4, ee_cmpL5, ee_tru_eb, decide_eq_true_eq, ib_i, ie_b, ie_f, ie_t, ib_l, fin_i, fin_l, fin_v, fin_z, fin_a, fin_n, ee_b_0, ee_fld0, ee_fld1, ee_fld2, ee_fld3, bi_0, bi_1, bi_2, bi_3, bi_4, bi_5, bi_6, bi_7, bi_8, bi_9, bi_10, bl_20, bl_21, bl_22, bl_23, bl_24, bl_25, bl_26, bl_48, bl_49, un_0, un_1, un_2, un_3, if_true, if_false, ite_true, ite_false, Bool.false_eq_true, Bool.not_eq_false, decide_not, Bool.not_not, reduceCtorEq, st_i, st_l, st_r, st_n, ee_noL, ee_noL.eq_1, List.length_cons, List.length_nil, Nat.reduceAdd, Nat.reduceLT, Nat.zero_add, and_true, true_and, and_self, fin_ite, pu_0, pu_1, pu_3, sto_0, el_0, Bool.not_eq_true, decide_eq_false_iff_not, Bool.decide_eq_true, Bool.decide_eq_false, decide_true, decide_false, Bool.not_true, Bool.not_false, Bool.and_self, Bool.and_true, Bool.and_false, Bool.true_and, Bool.false_and, Bool.or_true, Bool.or_false, Bool.true_or, Bool.false_or, if_true, if_false, Bool.false_eq_true]
theorem c_textNo (hd : 2 ≤ d) {n : Nat} {r : Int32} (hn : n ≤ 4) (h4 : w.1 1 4 = Int32.ofNat n) (hr : ¬ ∃ i, i < n ∧ r = Int32.ofNat i) : ee_run ee_B P d 62 [.ref 0, .int r] w = some ([.null], w) := by
  obtain ⟨d, rfl⟩ : ∃ k, d = k + 1 := ⟨d - 1, by omega⟩
  have hd1 : 1 ≤ d := by omega
  have a0 := al_1.1
  rw [rn_62 cz_0]
  cases e1 : (decide ((0 : Int32) ≤ r) && decide (r ≤ 3))
  · simp +decide only [r_within hd1, e1, cz_0, cz_r0, cz_r2, cz_201, a0, rvs, h4, bd_62, k_0, k_3, nz_3, v_call, v_cmp, v_cons, v_get, v_idx, v_int, v_loc, v_nil, v_not, v_null, v_or, v_z, w_if, w_ret, List.getElem?_cons_zero, List.getElem?_cons_succ, List.set_cons_zero, List.set_cons_succ, ee_cmp0, ee_cmp1, ee_cmp2, ee_cmp3, ee_cmp4, ee_cmp5, ee_cmpL0, ee_cmpL1, ee_cmpL2, ee_cmpL3, ee_cmpL4, ee_cmpL5, ee_tru_eb, decide_eq_true_eq, ib_i, ie_b, ie_f, ie_t, ib_l, fin_i, fin_l, fin_v, fin_z, fin_a, fin_n, ee_b_0, ee_fld0, ee_fld1, ee_fld2, ee_fld3, bi_0, bi_1, bi_2, bi_3, bi_4, bi_5, bi_6, bi_7, bi_8, bi_9, bi_10, bl_20, bl_21, bl_22, bl_23, bl_24, bl_25, bl_26, bl_48, bl_49, un_0, un_1, un_2, un_3, if_true, if_false, ite_true, ite_false, Bool.false_eq_true, Bool.not_eq_false, decide_not, Bool.not_not, reduceCtorEq, st_i, st_l, st_r, st_n, ee_noL, ee_noL.eq_1, List.length_cons, List.length_nil, Nat.reduceAdd, Nat.reduceLT, Nat.zero_add, and_true, true_and, and_self, fin_ite, pu_0, pu_1, pu_3, sto_0, el_0, Bool.not_eq_true, decide_eq_false_iff_not, Bool.decide_eq_true, Bool.decide_eq_false, decide_true, decide_false, Bool.not_true, Bool.not_false, Bool.and_self, Bool.and_true, Bool.and_false, Bool.true_and, Bool.false_and, Bool.or_true, Bool.or_false, Bool.true_or, Bool.false_or, if_true, if_false, Bool.false_eq_true]
  · obtain ⟨i, hi, rfl⟩ := in_nat 3 (by omega) e1
    have e2 : (Int32.ofNat n ≤ Int32.ofNat i) := (j_le (by omega) (by omega)).2 (by
      rcases Nat.lt_or_ge i n with q | q
      · exact absurd ⟨i, q, rfl⟩ hr
      · exact q)
    simp +decide only [r_within hd1, e1, e2, cz_0, cz_r0, cz_r2, cz_201, a0, rvs, h4, bd_62, k_0, k_3, nz_3, v_call, v_cmp, v_cons, v_get, v_idx, v_int, v_loc, v_nil, v_not, v_null, v_or, v_z, w_if, w_ret, List.getElem?_cons_zero, List.getElem?_cons_succ, List.set_cons_zero, List.set_cons_succ, ee_cmp0, ee_cmp1, ee_cmp2, ee_cmp3, ee_cmp4, ee_cmp5, ee_cmpL0, ee_cmpL1, ee_cmpL2, ee_cmpL3, ee_cmpL4, ee_cmpL5, ee_tru_eb, decide_eq_true_eq, ib_i, ie_b, ie_f, ie_t, ib_l, fin_i, fin_l, fin_v, fin_z, fin_a, fin_n, ee_b_0, ee_fld0, ee_fld1, ee_fld2, ee_fld3, bi_0, bi_1, bi_2, bi_3, bi_4, bi_5, bi_6, bi_7, bi_8, bi_9, bi_10, bl_20, bl_21, bl_22, bl_23, bl_24, bl_25, bl_26, bl_48, bl_49, un_0, un_1, un_2, un_3, if_true, if_false, ite_true, ite_false, Bool.false_eq_true, Bool.not_eq_false, decide_not, Bool.not_not, reduceCtorEq, st_i, st_l, st_r, st_n, ee_noL, ee_noL.eq_1, List.length_cons, List.length_nil, Nat.reduceAdd, Nat.reduceLT, Nat.zero_add, and_true, true_and, and_self, fin_ite, pu_0, pu_1, pu_3, sto_0, el_0, Bool.not_eq_true, decide_eq_false_iff_not, Bool.decide_eq_true, Bool.decide_eq_false, decide_true, decide_false, Bool.not_true, Bool.not_false, Bool.and_self, Bool.and_true, Bool.and_false, Bool.true_and, Bool.false_and, Bool.or_true, Bool.or_false, Bool.true_or, Bool.false_or, if_true, if_false, Bool.false_eq_true]
theorem c_ruling (hd : 2 ≤ d) (hR : RL w R) : ∃ lv, LV w lv R ∧ ee_run ee_B P d 62 [.ref 0, .int (w.1 1 5)] w = some ([lv], w) := by
  obtain ⟨n, h1, h2, h3 | h3⟩ := hR
  · obtain ⟨i, T, q1, q2, q3, q4⟩ := h3
    rw [q2]
    exact ⟨_, Or.inr ⟨i, T, by omega, rfl, q3, q4⟩, c_textIs hd h1 h2 q1⟩
  · obtain ⟨q1, q2⟩ := h3
    refine ⟨_, Or.inl ⟨rfl, q2⟩, c_textNo hd h1 h2 ?_⟩
    rintro ⟨i, hi, hz⟩
    rw [q1, i32_eq, nI_t (by omega), show (-1 : Int32).toInt = -1 from rfl] at hz
    omega
def isl (lost s : Int32) : Bool := decide ((lost >>> (s &&& 31)) &&& 1 = 1)
theorem c_isLost (hd : 1 ≤ d) {lost : Int32} (hl : w.1 1 3 = lost) (s : Int32) : ee_run ee_B P d 82 [.ref 0, .int s] w = some ([.int (ee_b (isl lost s))], w) := by
  obtain ⟨d, rfl⟩ : ∃ k, d = k + 1 := ⟨d - 1, by omega⟩
  have a0 := al_1.1
  rw [rn_82 cz_0]
  simp only [cz_0, cz_r0, a0, rvs, hl, isl, bd_82, k_1, nz_1, v_bin, v_cmp, v_get, v_int, v_loc, v_mat, w_ret, List.getElem?_cons_zero, List.getElem?_cons_succ, List.set_cons_zero, List.set_cons_succ, ee_cmp0, ee_cmp1, ee_cmp2, ee_cmp3, ee_cmp4, ee_cmp5, ee_cmpL0, ee_cmpL1, ee_cmpL2, ee_cmpL3, ee_cmpL4, ee_cmpL5, ee_tru_eb, decide_eq_true_eq, ib_i, ie_b, ie_f, ie_t, ib_l, fin_i, fin_l, fin_v, fin_z, fin_a, fin_n, ee_b_0, ee_fld0, ee_fld1, ee_fld2, ee_fld3, bi_0, bi_1, bi_2, bi_3, bi_4, bi_5, bi_6, bi_7, bi_8, bi_9, bi_10, bl_20, bl_21, bl_22, bl_23, bl_24, bl_25, bl_26, bl_48, bl_49, un_0, un_1, un_2, un_3, if_true, if_false, ite_true, ite_false, Bool.false_eq_true, Bool.not_eq_false, decide_not, Bool.not_not, reduceCtorEq, st_i, st_l, st_r, st_n, ee_noL, ee_noL.eq_1, List.length_cons, List.length_nil, Nat.reduceAdd, Nat.reduceLT, Nat.zero_add, and_true, true_and, and_self, fin_ite, pu_0, pu_1, pu_3, sto_0, el_0, Bool.not_eq_true, decide_eq_false_iff_not, Bool.decide_eq_true, Bool.decide_eq_false, decide_true, decide_false, Bool.not_true, Bool.not_false, Bool.and_self, Bool.and_true, Bool.and_false, Bool.true_and, Bool.false_and, Bool.or_true, Bool.or_false, Bool.true_or, Bool.false_or, if_true, if_false, Bool.false_eq_true]
def xwob (wob : Nat → Int32) (s : Int32) : Int32 := if in07 s = true then wob s.toNatClampNeg else 0
theorem c_wobbleOf (hd : 2 ≤ d) {wob : Nat → Int32} (hl : ∀ k, k < 8 → w.1 97 k = wob k) (s : Int32) : ee_run ee_B P d 84 [.ref 0, .int s] w = some ([.int (xwob wob s)], w) := by
  obtain ⟨d, rfl⟩ : ∃ k, d = k + 1 := ⟨d - 1, by omega⟩
  have hd1 : 1 ≤ d := by omega
  obtain ⟨p0, p1, p2, p3, p4, p5, p6, p7, p8, p9, p10, p11, p12⟩ := al_1
  rw [rn_84 cz_0]
  unfold xwob
  have e : (decide ((0 : Int32) ≤ s) && decide (s ≤ 7)) = in07 s := rfl
  cases q : in07 s
  · simp only [r_within hd1, e, q, bd_84, k_0, k_7, nz_7, v_call, v_cons, v_get, v_idx, v_int, v_loc, v_nil, v_tern, v_z, w_ret, List.getElem?_cons_zero, List.getElem?_cons_succ, List.set_cons_zero, List.set_cons_succ, ee_cmp0, ee_cmp1, ee_cmp2, ee_cmp3, ee_cmp4, ee_cmp5, ee_cmpL0, ee_cmpL1, ee_cmpL2, ee_cmpL3, ee_cmpL4, ee_cmpL5, ee_tru_eb, decide_eq_true_eq, ib_i, ie_b, ie_f, ie_t, ib_l, fin_i, fin_l, fin_v, fin_z, fin_a, fin_n, ee_b_0, ee_fld0, ee_fld1, ee_fld2, ee_fld3, bi_0, bi_1, bi_2, bi_3, bi_4, bi_5, bi_6, bi_7, bi_8, bi_9, bi_10, bl_20, bl_21, bl_22, bl_23, bl_24, bl_25, bl_26, bl_48, bl_49, un_0, un_1, un_2, un_3, if_true, if_false, ite_true, ite_false, Bool.false_eq_true, Bool.not_eq_false, decide_not, Bool.not_not, reduceCtorEq, st_i, st_l, st_r, st_n, ee_noL, ee_noL.eq_1, List.length_cons, List.length_nil, Nat.reduceAdd, Nat.reduceLT, Nat.zero_add, and_true, true_and, and_self, fin_ite, pu_0, pu_1, pu_3, sto_0, el_0, Bool.not_eq_true, decide_eq_false_iff_not, Bool.decide_eq_true, Bool.decide_eq_false, decide_true, decide_false, Bool.not_true, Bool.not_false, Bool.and_self, Bool.and_true, Bool.and_false, Bool.true_and, Bool.false_and, Bool.or_true, Bool.or_false, Bool.true_or, Bool.false_or, if_true, if_false, Bool.false_eq_true]
  · obtain ⟨q1, q2⟩ := in07_of q
    have x1 : ee_ix s 8 = true := by rw [q2, ixn (by omega)]; exact decide_eq_true q1
    simp only [r_within hd1, e, q, cz_0, cz_r0, p0, p3, p7, rvs, x1, hl _ q1, bd_84, k_0, k_7, nz_7, v_call, v_cons, v_get, v_idx, v_int, v_loc, v_nil, v_tern, v_z, w_ret, List.getElem?_cons_zero, List.getElem?_cons_succ, List.set_cons_zero, List.set_cons_succ, ee_cmp0, ee_cmp1, ee_cmp2, ee_cmp3, ee_cmp4, ee_cmp5, ee_cmpL0, ee_cmpL1, ee_cmpL2, ee_cmpL3, ee_cmpL4, ee_cmpL5, ee_tru_eb, decide_eq_true_eq, ib_i, ie_b, ie_f, ie_t, ib_l, fin_i, fin_l, fin_v, fin_z, fin_a, fin_n, ee_b_0, ee_fld0, ee_fld1, ee_fld2, ee_fld3, bi_0, bi_1, bi_2, bi_3, bi_4, bi_5, bi_6, bi_7, bi_8, bi_9, bi_10, bl_20, bl_21, bl_22, bl_23, bl_24, bl_25, bl_26, bl_48, bl_49, un_0, un_1, un_2, un_3, if_true, if_false, ite_true, ite_false, Bool.false_eq_true, Bool.not_eq_false, decide_not, Bool.not_not, reduceCtorEq, st_i, st_l, st_r, st_n, ee_noL, ee_noL.eq_1, List.length_cons, List.length_nil, Nat.reduceAdd, Nat.reduceLT, Nat.zero_add, and_true, true_and, and_self, fin_ite, pu_0, pu_1, pu_3, sto_0, el_0, Bool.not_eq_true, decide_eq_false_iff_not, Bool.decide_eq_true, Bool.decide_eq_false, decide_true, decide_false, Bool.not_true, Bool.not_false, Bool.and_self, Bool.and_true, Bool.and_false, Bool.true_and, Bool.false_and, Bool.or_true, Bool.or_false, Bool.true_or, Bool.false_or, if_true, if_false, Bool.false_eq_true]
def xoff (wob : Nat → Int32) (X : HX) (k : Nat) : Int32 := hold32 (X.1 2 + wob k + (X.1 1 - X.1 1 / 3 * 3) - 1) 0 1023 - (X.1 4 * 16 + 8) - X.1 (10 + k)
def xerr (X : HX) (off : Int32) : HX := (up (xdraw X).1 5 (hold32 off (-999) 999), X.2)
def xread (wob : Nat → Int32) (R : Option TX) (X : HX) (k : Nat) : HX :=
  (up (xerr X (xoff wob X k)).1 (10 + k) (hold32 (X.1 (10 + k) + xoff wob X k * gv (xerr X (xoff wob X k)) (xoff wob X k) (lawG R) / 16) (-99) 99), X.2)
def xsec (X : HX) : Nat := (X.1 0).toInt.toNat % 8
def xs_1 (wob : Nat → Int32) (lost : Int32) (R : Option TX) (X : HX) : HX := if isl lost (Int32.ofNat (xsec X)) = true then X else xread wob R X (xsec X)
def xsample (wob : Nat → Int32) (lost : Int32) (R : Option TX) (X : HX) : HX := xmove (xs_1 wob lost R X) (pv (xs_1 wob lost R X) (lawP R))
theorem xs_1_2 (wob : Nat → Int32) (lost : Int32) (R : Option TX) (X : HX) : (xs_1 wob lost R X).2 = X.2 := by
  unfold xs_1
  split <;> rfl
theorem xs_1_0 (wob : Nat → Int32) (lost : Int32) (R : Option TX) (X : HX) : (xs_1 wob lost R X).1 0 = X.1 0 := by
  unfold xs_1
  split
  · rfl
  · unfold xread xerr xdraw
    dsimp only
    rw [up_at, if_neg (by omega), up_at, if_neg (by omega), up_at, if_neg (by omega)]
def smrg (h : Nat) : Nat → Bool := rgo (hrg h) mrg
theorem smrg_f {h c : Nat} (h1 : c < h ∨ h + 3 ≤ c) (h2 : c < 229) : smrg h c = false := by
  unfold smrg
  rw [rgo_f]
  exact ⟨hrg_ne h1, mrg_f h2⟩
theorem smrg_h (h : Nat) : ∀ c, smrg h c = false → hrg h c = false := fun c hc => (rgo_f.1 hc).1
theorem smrg_m (h : Nat) : ∀ c, smrg h c = false → mrg c = false := fun c hc => (rgo_f.1 hc).2
theorem c_sample (hd : 8 ≤ d) (hh : hd_ok h) (hne : (2 ≤ h ∧ h + 3 ≤ 97) ∨ (222 ≤ h ∧ h + 3 ≤ 229)) (hX : CH w h X) (hn : X.2.1 ≤ 25) (hc : 0 ≤ (X.1 0).toInt) (hR : RL w R) {wob : Nat → Int32} {lost : Int32} (hw : ∀ k, k < 8 → w.1 97 k = wob k) (hl : w.1 1 3 = lost) :
    ∃ w', ee_run ee_B P d 80 [.ref 0, .ref h] w = some ([], w') ∧ CH w' h (xsample wob lost R X) ∧ chg (smrg h) w w' := by
  obtain ⟨d, rfl⟩ : ∃ k, d = k + 1 := ⟨d - 1, by omega⟩
  have hd1 : 1 ≤ d := by omega
  have hd2 : 2 ≤ d := by omega
  have hd3 : 3 ≤ d := by omega
  have hd6 : 6 ≤ d := by omega
  obtain ⟨k, k1, k2, k3⟩ := rem8_of hc
  have k4 : xsec X = k := k3.symm
  have s1 := c_sectorNow (P := P) hd2 hh hX hc
  rw [k2] at s1
  obtain ⟨lv, hL, s2⟩ := c_ruling (P := P) (w := w) hd2 hR
  have s3 := c_isLost (P := P) (w := w) hd1 hl (Int32.ofNat k)
  have a0 := al_1.1
  have h0 := hh.1
  have e1 : xs_1 wob lost R X = if isl lost (Int32.ofNat k) = true then X else xread wob R X k := by unfold xs_1; rw [k4]
  have hc1 : 0 ≤ ((xs_1 wob lost R X).1 0).toInt := by rw [xs_1_0]; exact hc
  have hn1 : (xs_1 wob lost R X).2.1 ≤ 25 := by rw [xs_1_2]; exact hn
  have e7 : Int32.ofNat k = Int32.ofNat k := rfl
  rw [rn_80 cz_0]
  cases q : isl lost (Int32.ofNat k)
  · rw [q, if_neg (by decide)] at e1
    rw [q] at s3
    obtain ⟨w1, t1, t2, t3⟩ := c_draw (P := P) hd1 hh hX
    have t4 := c_wobbleOf (P := P) (w := w1) hd2 (wob := wob) (fun j hj => (t3.1 _ _ (hrg_ne (by omega))).trans (hw j hj)) (Int32.ofNat k)
    have e2 : xwob wob (Int32.ofNat k) = wob k := by unfold xwob; rw [if_pos (in07_n k1), tnc (by omega)]
    rw [e2] at t4
    have t5 := c_learntOf (P := P) hd2 hh t2 (Int32.ofNat k)
    have e3 : xlearnt (xdraw X) (Int32.ofNat k) = X.1 (10 + k) := by
      unfold xlearnt
      rw [if_pos (in07_n k1), tnc (by omega)]
      unfold xdraw
      dsimp only
      rw [up_at, if_neg (by omega)]
    rw [e3] at t5
    have hX2 := CH_put t2 3 (by omega) (hold32 (xoff wob X k) (-999) 999)
    have e4 : (up (xdraw X).1 (fi 3) (hold32 (xoff wob X k) (-999) 999), (xdraw X).2) = xerr X (xoff wob X k) := rfl
    rw [e4] at hX2
    have hw2 : chg (hrg h) w (ee_wI w1 h 3 (hold32 (xoff wob X k) (-999) 999)) := chg_I (hrg_0 h) t3
    have hL2 := LV_chg hL hw2 (fun c q1 q2 => hrg_ne (by omega))
    have hc2 : 0 ≤ ((xerr X (xoff wob X k)).1 0).toInt := by
      unfold xerr xdraw
      dsimp only
      rw [up_at, if_neg (by omega), up_at, if_neg (by omega)]
      exact hc
    obtain ⟨w3, u1, u2⟩ := c_gainL (P := P) hd6 hL2 hh (by omega) hX2 hc2 (xoff wob X k)
    have hX3 : CH w3 h (xerr X (xoff wob X k)) := CH_chg hX2 u2 (mrg_f (by omega)) (mrg_f (by omega)) (mrg_f (by omega))
    obtain ⟨w4, v1, v2, v3⟩ := c_addLearnt (P := P) hd3 hh hX3 k k1 (xoff wob X k * gv (xerr X (xoff wob X k)) (xoff wob X k) (lawG R) / 16)
    have e5 : (xerr X (xoff wob X k)).1 (10 + k) = X.1 (10 + k) := by
      unfold xerr xdraw
      dsimp only
      rw [up_at, if_neg (by omega), up_at, if_neg (by omega)]
    rw [e5] at v2
    have e6 : (up (xerr X (xoff wob X k)).1 (10 + k) (hold32 (X.1 (10 + k) + xoff wob X k * gv (xerr X (xoff wob X k)) (xoff wob X k) (lawG R) / 16) (-99) 99), (xerr X (xoff wob X k)).2) = xs_1 wob lost R X := by rw [e1]; rfl
    rw [e6] at v2
    have hw4 : chg (smrg h) w w4 := chg_trans (chg_trans (chg_mono hw2 (smrg_h h)) (chg_mono u2 (smrg_m h))) (chg_mono v3 (smrg_h h))
    have hL4 := LV_chg hL hw4 (fun c q1 q2 => smrg_f (by omega) (by omega))
    obtain ⟨w5, x1, x2⟩ := c_pullL (P := P) hd6 hL4 hh (by omega) v2 hc1
    have hX5 : CH w5 h (xs_1 wob lost R X) := CH_chg v2 x2 (mrg_f (by omega)) (mrg_f (by omega)) (mrg_f (by omega))
    obtain ⟨w6, y1, y2, y3⟩ := c_move (P := P) hd3 hh hX5 hn1 (pv (xs_1 wob lost R X) (lawP R))
    have f0 : w1.1 h 0 = X.1 2 := t2.1.2.2.1
    have f2 : w1.1 h 2 = X.1 4 := t2.1.2.2.2.2.1
    have e8 : hold32 (X.1 2 + wob k + (X.1 1 - X.1 1 / 3 * 3) - 1) 0 1023 - (X.1 4 * 16 + 8) - X.1 (10 + k) = xoff wob X k := rfl
    refine ⟨w6, ?_, y2, chg_trans (chg_trans hw4 (chg_mono x2 (smrg_m h))) (chg_mono y3 (smrg_h h))⟩
    rcases hL with ⟨rfl, -⟩ | ⟨i, T, -, rfl, -, -⟩ <;>
      simp only [cz_0, cz_r0, a0, h0, rvs, s1, s2, s3, t1, t4, t5, f0, f2, c_hold hd2, r_middle hd1, e8, u1, v1, x1, y1, zz_ce, zz_ec, zz_cf, zz_fc, zz_ef, zz_fe, wI_at, wI_2, wJ_at, wJ_1, wJ_2, and_true, true_and, and_false, false_and, if_true, if_false, Nat.reduceEqDiff, Nat.reduceAdd, zero_ne_one_n, one_ne_zero_n, bd_80, k_0, k_1, k_1023, k_16, k_3, k_4294966297, k_999, nz_1, nz_1023, nz_16, nz_3, nz_999, v_bin, v_call, v_cons, v_get, v_int, v_loc, v_nil, v_not, v_z, w_exp0, w_exp1, w_if, w_put, w_retv, w_seq, w_set, w_skip, List.getElem?_cons_zero, List.getElem?_cons_succ, List.set_cons_zero, List.set_cons_succ, ee_cmp0, ee_cmp1, ee_cmp2, ee_cmp3, ee_cmp4, ee_cmp5, ee_cmpL0, ee_cmpL1, ee_cmpL2, ee_cmpL3, ee_cmpL4, ee_cmpL5, ee_tru_eb, decide_eq_true_eq, ib_i, ie_b, ie_f, ie_t, ib_l, fin_i, fin_l, fin_v, fin_z, fin_a, fin_n, ee_b_0, ee_fld0, ee_fld1, ee_fld2, ee_fld3, bi_0, bi_1, bi_2, bi_3, bi_4, bi_5, bi_6, bi_7, bi_8, bi_9, bi_10, bl_20, bl_21, bl_22, bl_23, bl_24, bl_25, bl_26, bl_48, bl_49, un_0, un_1, un_2, un_3, if_true, if_false, ite_true, ite_false, Bool.false_eq_true, Bool.not_eq_false, decide_not, Bool.not_not, reduceCtorEq, st_i, st_l, st_r, st_n, ee_noL, ee_noL.eq_1, List.length_cons, List.length_nil, Nat.reduceAdd, Nat.reduceLT, Nat.zero_add, and_true, true_and, and_self, fin_ite, pu_0, pu_1, pu_3, sto_0, el_0, Bool.not_eq_true, decide_eq_false_iff_not, Bool.decide_eq_true, Bool.decide_eq_false, decide_true, decide_false, Bool.not_true, Bool.not_false, Bool.and_self, Bool.and_true, Bool.and_false, Bool.true_and, Bool.false_and, Bool.or_true, Bool.or_false, Bool.true_or, Bool.false_or, if_true, if_false, Bool.false_eq_true]
  · rw [q, if_pos rfl] at e1
    rw [q] at s3
    have hX1 : CH w h (xs_1 wob lost R X) := by rw [e1]; exact hX
    obtain ⟨w5, x1, x2⟩ := c_pullL (P := P) hd6 hL hh (by omega) hX1 hc1
    have hX5 : CH w5 h (xs_1 wob lost R X) := CH_chg hX1 x2 (mrg_f (by omega)) (mrg_f (by omega)) (mrg_f (by omega))
    obtain ⟨w6, y1, y2, y3⟩ := c_move (P := P) hd3 hh hX5 hn1 (pv (xs_1 wob lost R X) (lawP R))
    refine ⟨w6, ?_, y2, chg_trans (chg_mono x2 (smrg_m h)) (chg_mono y3 (smrg_h h))⟩
    rcases hL with ⟨rfl, -⟩ | ⟨i, T, -, rfl, -, -⟩ <;>
      simp only [cz_0, cz_r0, a0, h0, rvs, s1, s2, s3, x1, y1, zz_ce, zz_ec, zz_cf, zz_fc, zz_ef, zz_fe, wI_at, wI_2, wJ_at, wJ_1, wJ_2, and_true, true_and, and_false, false_and, if_true, if_false, Nat.reduceEqDiff, Nat.reduceAdd, zero_ne_one_n, one_ne_zero_n, bd_80, k_0, k_1, k_1023, k_16, k_3, k_4294966297, k_999, nz_1, nz_1023, nz_16, nz_3, nz_999, v_bin, v_call, v_cons, v_get, v_int, v_loc, v_nil, v_not, v_z, w_exp0, w_exp1, w_if, w_put, w_retv, w_seq, w_set, w_skip, List.getElem?_cons_zero, List.getElem?_cons_succ, List.set_cons_zero, List.set_cons_succ, ee_cmp0, ee_cmp1, ee_cmp2, ee_cmp3, ee_cmp4, ee_cmp5, ee_cmpL0, ee_cmpL1, ee_cmpL2, ee_cmpL3, ee_cmpL4, ee_cmpL5, ee_tru_eb, decide_eq_true_eq, ib_i, ie_b, ie_f, ie_t, ib_l, fin_i, fin_l, fin_v, fin_z, fin_a, fin_n, ee_b_0, ee_fld0, ee_fld1, ee_fld2, ee_fld3, bi_0, bi_1, bi_2, bi_3, bi_4, bi_5, bi_6, bi_7, bi_8, bi_9, bi_10, bl_20, bl_21, bl_22, bl_23, bl_24, bl_25, bl_26, bl_48, bl_49, un_0, un_1, un_2, un_3, if_true, if_false, ite_true, ite_false, Bool.false_eq_true, Bool.not_eq_false, decide_not, Bool.not_not, reduceCtorEq, st_i, st_l, st_r, st_n, ee_noL, ee_noL.eq_1, List.length_cons, List.length_nil, Nat.reduceAdd, Nat.reduceLT, Nat.zero_add, and_true, true_and, and_self, fin_ite, pu_0, pu_1, pu_3, sto_0, el_0, Bool.not_eq_true, decide_eq_false_iff_not, Bool.decide_eq_true, Bool.decide_eq_false, decide_true, decide_false, Bool.not_true, Bool.not_false, Bool.and_self, Bool.and_true, Bool.and_false, Bool.true_and, Bool.false_and, Bool.or_true, Bool.or_false, Bool.true_or, Bool.false_or, if_true, if_false, Bool.false_eq_true]
end SA
