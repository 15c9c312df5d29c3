/-! window on both sides -/
section BWN
variable {P : Nat → Nat → List Value → ee_W → Option (List Value × ee_W)} {d : Nat} {w : ee_W} {Z : ZX}
def fa (Z : ZX) (i : Nat) : Nat → Option Int32
  | 0 => some 0
  | k + 1 => match fa Z i k with
    | none => none
    | some m => if lsb Z ((i + k) % 8) = true then none else some (mxI m (ab (lf Z ((i + k) % 8))))
theorem fa_s (i k : Nat) : fa Z i (k + 1) = match fa Z i k with
    | none => none
    | some m => if lsb Z ((i + k) % 8) = true then none else some (mxI m (ab (lf Z ((i + k) % 8)))) := rfl
theorem fa_none (i k : Nat) (h : fa Z i k = none) : ∀ j, fa Z i (k + j) = none := by
  intro j
  induction j with
  | zero => exact h
  | succ j ih => rw [show k + (j + 1) = (k + j) + 1 from rfl, fa_s, ih]
theorem ab_b (hW : WZ Z) {k : Nat} (hk : k < 8) : bI (ab (lf Z k)) 0 200 := by
  have v := vsp_b hW 1 hk
  rw [show vsp Z 1 k = lf Z k from rfl] at v
  unfold bI at *
  unfold ab
  by_cases q : lf Z k < 0
  · rw [if_pos q]
    rw [i32_lt, show (0 : Int32).toInt = 0 from rfl] at q
    have e : -(lf Z k) = 0 - lf Z k := (Int32.zero_sub _).symm
    rw [e, i32_sub (by rw [show (0 : Int32).toInt = 0 from rfl]; omega) (by rw [show (0 : Int32).toInt = 0 from rfl]; omega), show (0 : Int32).toInt = 0 from rfl]
    omega
  · rw [if_neg q]
    rw [i32_lt, show (0 : Int32).toInt = 0 from rfl] at q
    omega
theorem fa_b (hW : WZ Z) (i : Nat) : ∀ k m, fa Z i k = some m → bI m 0 200 := by
  intro k
  induction k with
  | zero =>
    intro m h
    injection h with h
    rw [← h]
    exact ⟨by decide, by decide⟩
  | succ k ih =>
    intro m h
    rw [fa_s] at h
    cases c : fa Z i k with
    | none => rw [c] at h; cases h
    | some q =>
      rw [c] at h
      dsimp only at h
      cases a : lsb Z ((i + k) % 8)
      · rw [a, if_neg (by decide)] at h
        injection h with h
        have v := ab_b hW (Nat.mod_lt (i + k) (show 8 > 0 by decide))
        have u := ih q c
        rw [← h]
        unfold bI at *
        unfold mxI
        split <;> omega
      · rw [a, if_pos rfl] at h
        cases h
def faI (o : Option Int32) : Int32 := match o with
  | none => -1
  | some m => m
def faM (o : Option Int32) : Int32 := match o with
  | none => 1000000
  | some m => m
theorem c_far (hd : 4 ≤ d) (h1 : CZ w Z) {i n : Nat} (hi : i < 8) (hn : n ≤ 8) : ee_run ee_B P d 168 [.ref 0, .int (Int32.ofNat i), .int (Int32.ofNat n)] w = some ([.int (faI (fa Z i n))], w) := by
  obtain ⟨d, rfl⟩ : ∃ k, d = k + 1 := ⟨d - 1, by omega⟩
  have hd1 : 1 ≤ d := by omega
  have hd3 : 3 ≤ d := by omega
  obtain ⟨r, hr, hq⟩ := wh_n (f := ee_turn (ee_ev es_sh es_rf (ee_run ee_B P d) lx_168_1) (ee_evS es_sh es_rf (ee_run ee_B P d) lb_168_1))
    (I := fun m y => ∃ k v q, m = n - k ∧ k ≤ n ∧ fa Z i k = some q ∧ y = ([some (.ref 0), some (.int (Int32.ofNat i)), some (.int (Int32.ofNat n)), some (.int q), some (.int (Int32.ofNat k)), v], w))
    (Q := fun r => (∃ k v q, fa Z i n = some q ∧ r = .inl ([some (.ref 0), some (.int (Int32.ofNat i)), some (.int (Int32.ofNat n)), some (.int q), some (.int k), v], w)) ∨ (fa Z i n = none ∧ r = .inr ([.int (-1)], w)))
    (by
      rintro m y ⟨k, v, q, rfl, hk, hq, rfl⟩
      have h9 : (Int32.ofNat k < Int32.ofNat n) ↔ k < n := j_lt (by omega) (by omega)
      by_cases g : k < n
      · have hm : (i + k) % 8 < 8 := Nat.mod_lt _ (by decide)
        have l := c_lostZ (P := P) hd1 h1 ((i + k) % 8)
        have ia : Int32.ofNat i + Int32.ofNat k = Int32.ofNat (i + k) := j_a i k
        have m8 := rm8 (show i + k < 2 ^ 31 by omega)
        have e := fa_s (Z := Z) i k
        rw [hq] at e
        dsimp only at e
        cases a : lsb Z ((i + k) % 8)
        · left
          rw [a, if_neg (by decide)] at e
          rw [a] at l
          have lv := c_leftOf (P := P) hd3 h1 hm
          have ea := r_abs (P := P) (w := w) hd1 (lf Z ((i + k) % 8))
          rw [show (if lf Z ((i + k) % 8) < 0 then -lf Z ((i + k) % 8) else lf Z ((i + k) % 8)) = ab (lf Z ((i + k) % 8)) from rfl] at ea
          have em : (if ab (lf Z ((i + k) % 8)) ≤ q then q else ab (lf Z ((i + k) % 8))) = mxI q (ab (lf Z ((i + k) % 8))) := rfl
          refine ⟨([some (.ref 0), some (.int (Int32.ofNat i)), some (.int (Int32.ofNat n)), some (.int (mxI q (ab (lf Z ((i + k) % 8))))), some (.int (Int32.ofNat (k + 1))), some (.int (Int32.ofNat ((i + k) % 8)))], w), n - (k + 1), ?_, by omega, k + 1, _, _, rfl, by omega, e, rfl⟩
          simp only [h9, g, l, lv, ea, em, ia, m8, r_max hd1, j_s, j_a, lx_168_1, lb_168_1, ee_turn, k_0, k_4294967295, k_8, nz_8, v_bin, v_call, v_cmp, v_cons, v_int, v_loc, v_nil, v_z, w_if, w_inc, w_ret, w_seq, w_set, List.getElem?_cons_zero, List.getElem?_cons_succ, List.set_cons_zero, List.set_cons_succ, ee_cmp0, ee_cmp1, ee_cmp2, ee_cmp3, ee_cmp4, ee_cmp5, ee_cmpL0, ee_cmpL1, ee_cmpL2, ee_cmpL3, ee_cmpL4, ee_cmpL5, ee_tru_eb, decide_eq_true_eq, ib_i, ie_b, ie_f, ie_t, ib_l, fin_i, fin_l, fin_v, fin_z, fin_a, fin_n, ee_b_0, ee_fld0, ee_fld1, ee_fld2, ee_fld3, bi_0, bi_1, bi_2, bi_3, bi_4, bi_5, bi_6, bi_7, bi_8, bi_9, bi_10, bl_20, bl_21, bl_22, bl_23, bl_24, bl_25, bl_26, bl_48, bl_49, un_0, un_1, un_2, un_3, if_true, if_false, ite_true, ite_false, Bool.false_eq_true, Bool.not_eq_false, decide_not, Bool.not_not, reduceCtorEq, st_i, st_l, st_r, st_n, ee_noL, ee_noL.eq_1, List.length_cons, List.length_nil, Nat.reduceAdd, Nat.reduceLT, Nat.zero_add, and_true, true_and, and_self, fin_ite, pu_0, pu_1, pu_3, sto_0, el_0, Bool.not_eq_true, decide_eq_false_iff_not, Bool.decide_eq_true, Bool.decide_eq_false, decide_true, decide_false, Bool.not_true, Bool.not_false, Bool.and_self, Bool.and_true, Bool.and_false, Bool.true_and, Bool.false_and, Bool.or_true, Bool.or_false, Bool.true_or, Bool.false_or, if_true, if_false, Bool.false_eq_true]
        · right
          rw [a, if_pos rfl] at e
          rw [a] at l
          refine ⟨.inr ([.int (-1)], w), ?_, Or.inr ⟨?_, rfl⟩⟩
          · simp only [h9, g, l, ia, m8, j_s, j_a, lx_168_1, lb_168_1, ee_turn, k_0, k_4294967295, k_8, nz_8, v_bin, v_call, v_cmp, v_cons, v_int, v_loc, v_nil, v_z, w_if, w_inc, w_ret, w_seq, w_set, List.getElem?_cons_zero, List.getElem?_cons_succ, List.set_cons_zero, List.set_cons_succ, ee_cmp0, ee_cmp1, ee_cmp2, ee_cmp3, ee_cmp4, ee_cmp5, ee_cmpL0, ee_cmpL1, ee_cmpL2, ee_cmpL3, ee_cmpL4, ee_cmpL5, ee_tru_eb, decide_eq_true_eq, ib_i, ie_b, ie_f, ie_t, ib_l, fin_i, fin_l, fin_v, fin_z, fin_a, fin_n, ee_b_0, ee_fld0, ee_fld1, ee_fld2, ee_fld3, bi_0, bi_1, bi_2, bi_3, bi_4, bi_5, bi_6, bi_7, bi_8, bi_9, bi_10, bl_20, bl_21, bl_22, bl_23, bl_24, bl_25, bl_26, bl_48, bl_49, un_0, un_1, un_2, un_3, if_true, if_false, ite_true, ite_false, Bool.false_eq_true, Bool.not_eq_false, decide_not, Bool.not_not, reduceCtorEq, st_i, st_l, st_r, st_n, ee_noL, ee_noL.eq_1, List.length_cons, List.length_nil, Nat.reduceAdd, Nat.reduceLT, Nat.zero_add, and_true, true_and, and_self, fin_ite, pu_0, pu_1, pu_3, sto_0, el_0, Bool.not_eq_true, decide_eq_false_iff_not, Bool.decide_eq_true, Bool.decide_eq_false, decide_true, decide_false, Bool.not_true, Bool.not_false, Bool.and_self, Bool.and_true, Bool.and_false, Bool.true_and, Bool.false_and, Bool.or_true, Bool.or_false, Bool.true_or, Bool.false_or, if_true, if_false, Bool.false_eq_true]
          · have := fa_none i (k + 1) e (n - (k + 1))
            rw [show k + 1 + (n - (k + 1)) = n by omega] at this
            exact this
      · right
        have hkn : k = n := by omega
        subst hkn
        refine ⟨.inl ([some (.ref 0), some (.int (Int32.ofNat i)), some (.int (Int32.ofNat k)), some (.int q), some (.int (Int32.ofNat k)), v], w), ?_, Or.inl ⟨_, _, _, hq, rfl⟩⟩
        simp only [h9, g, lx_168_1, lb_168_1, ee_turn, k_0, k_4294967295, k_8, nz_8, v_bin, v_call, v_cmp, v_cons, v_int, v_loc, v_nil, v_z, w_if, w_inc, w_ret, w_seq, w_set, List.getElem?_cons_zero, List.getElem?_cons_succ, List.set_cons_zero, List.set_cons_succ, ee_cmp0, ee_cmp1, ee_cmp2, ee_cmp3, ee_cmp4, ee_cmp5, ee_cmpL0, ee_cmpL1, ee_cmpL2, ee_cmpL3, ee_cmpL4, ee_cmpL5, ee_tru_eb, decide_eq_true_eq, ib_i, ie_b, ie_f, ie_t, ib_l, fin_i, fin_l, fin_v, fin_z, fin_a, fin_n, ee_b_0, ee_fld0, ee_fld1, ee_fld2, ee_fld3, bi_0, bi_1, bi_2, bi_3, bi_4, bi_5, bi_6, bi_7, bi_8, bi_9, bi_10, bl_20, bl_21, bl_22, bl_23, bl_24, bl_25, bl_26, bl_48, bl_49, un_0, un_1, un_2, un_3, if_true, if_false, ite_true, ite_false, Bool.false_eq_true, Bool.not_eq_false, decide_not, Bool.not_not, reduceCtorEq, st_i, st_l, st_r, st_n, ee_noL, ee_noL.eq_1, List.length_cons, List.length_nil, Nat.reduceAdd, Nat.reduceLT, Nat.zero_add, and_true, true_and, and_self, fin_ite, pu_0, pu_1, pu_3, sto_0, el_0, Bool.not_eq_true, decide_eq_false_iff_not, Bool.decide_eq_true, Bool.decide_eq_false, decide_true, decide_false, Bool.not_true, Bool.not_false, Bool.and_self, Bool.and_true, Bool.and_false, Bool.true_and, Bool.false_and, Bool.or_true, Bool.or_false, Bool.true_or, Bool.false_or, if_true, if_false, Bool.false_eq_true])
    (n - 0) ([some (.ref 0), some (.int (Int32.ofNat i)), some (.int (Int32.ofNat n)), some (.int 0), some (.int (Int32.ofNat 0)), none], w) ⟨0, _, _, rfl, Nat.zero_le _, rfl, rfl⟩
  rw [k_0] at hr
  rw [rn_168 cz_0]
  rcases hq with ⟨k, v, q, hq, rfl⟩ | ⟨hq, rfl⟩
  · rw [hq, show faI (some q) = q from rfl]
    simp only [w_while, hr, be_168, k_0, k_4294967295, k_8, nz_8, v_bin, v_call, v_cmp, v_cons, v_int, v_loc, v_nil, v_z, w_if, w_inc, w_ret, w_seq, w_set, List.getElem?_cons_zero, List.getElem?_cons_succ, List.set_cons_zero, List.set_cons_succ, ee_cmp0, ee_cmp1, ee_cmp2, ee_cmp3, ee_cmp4, ee_cmp5, ee_cmpL0, ee_cmpL1, ee_cmpL2, ee_cmpL3, ee_cmpL4, ee_cmpL5, ee_tru_eb, decide_eq_true_eq, ib_i, ie_b, ie_f, ie_t, ib_l, fin_i, fin_l, fin_v, fin_z, fin_a, fin_n, ee_b_0, ee_fld0, ee_fld1, ee_fld2, ee_fld3, bi_0, bi_1, bi_2, bi_3, bi_4, bi_5, bi_6, bi_7, bi_8, bi_9, bi_10, bl_20, bl_21, bl_22, bl_23, bl_24, bl_25, bl_26, bl_48, bl_49, un_0, un_1, un_2, un_3, if_true, if_false, ite_true, ite_false, Bool.false_eq_true, Bool.not_eq_false, decide_not, Bool.not_not, reduceCtorEq, st_i, st_l, st_r, st_n, ee_noL, ee_noL.eq_1, List.length_cons, List.length_nil, Nat.reduceAdd, Nat.reduceLT, Nat.zero_add, and_true, true_and, and_self, fin_ite, pu_0, pu_1, pu_3, sto_0, el_0, Bool.not_eq_true, decide_eq_false_iff_not, Bool.decide_eq_true, Bool.decide_eq_false, decide_true, decide_false, Bool.not_true, Bool.not_false, Bool.and_self, Bool.and_true, Bool.and_false, Bool.true_and, Bool.false_and, Bool.or_true, Bool.or_false, Bool.true_or, Bool.false_or, if_true, if_false, Bool.false_eq_true]
  · rw [hq, show faI none = -1 from rfl]
    simp only [w_while, hr, be_168, k_0, k_4294967295, k_8, nz_8, v_bin, v_call, v_cmp, v_cons, v_int, v_loc, v_nil, v_z, w_if, w_inc, w_ret, w_seq, w_set, List.getElem?_cons_zero, List.getElem?_cons_succ, List.set_cons_zero, List.set_cons_succ, ee_cmp0, ee_cmp1, ee_cmp2, ee_cmp3, ee_cmp4, ee_cmp5, ee_cmpL0, ee_cmpL1, ee_cmpL2, ee_cmpL3, ee_cmpL4, ee_cmpL5, ee_tru_eb, decide_eq_true_eq, ib_i, ie_b, ie_f, ie_t, ib_l, fin_i, fin_l, fin_v, fin_z, fin_a, fin_n, ee_b_0, ee_fld0, ee_fld1, ee_fld2, ee_fld3, bi_0, bi_1, bi_2, bi_3, bi_4, bi_5, bi_6, bi_7, bi_8, bi_9, bi_10, bl_20, bl_21, bl_22, bl_23, bl_24, bl_25, bl_26, bl_48, bl_49, un_0, un_1, un_2, un_3, if_true, if_false, ite_true, ite_false, Bool.false_eq_true, Bool.not_eq_false, decide_not, Bool.not_not, reduceCtorEq, st_i, st_l, st_r, st_n, ee_noL, ee_noL.eq_1, List.length_cons, List.length_nil, Nat.reduceAdd, Nat.reduceLT, Nat.zero_add, and_true, true_and, and_self, fin_ite, pu_0, pu_1, pu_3, sto_0, el_0, Bool.not_eq_true, decide_eq_false_iff_not, Bool.decide_eq_true, Bool.decide_eq_false, decide_true, decide_false, Bool.not_true, Bool.not_false, Bool.and_self, Bool.and_true, Bool.and_false, Bool.true_and, Bool.false_and, Bool.or_true, Bool.or_false, Bool.true_or, Bool.false_or, if_true, if_false, Bool.false_eq_true]
theorem m_far (hd : 3 ≤ d) (h2 : MZ w Z) (h3 : WZ Z) {i n : Nat} (hi : i < 8) (hn : n ≤ 8) : ee_run ee_B P d 337 [.ref 236, .int (Int32.ofNat i), .int (Int32.ofNat n)] w = some ([.int (faM (fa Z i n))], w) := by
  obtain ⟨d, rfl⟩ : ∃ k, d = k + 1 := ⟨d - 1, by omega⟩
  have hd1 : 1 ≤ d := by omega
  have hd2 : 2 ≤ d := by omega
  obtain ⟨r, hr, hq⟩ := wh_n (f := ee_turn (ee_ev es_sh es_rf (ee_run ee_B P d) lx_337_1) (ee_evS es_sh es_rf (ee_run ee_B P d) lb_337_1))
    (I := fun m y => ∃ k v v', m = n - k ∧ k ≤ n ∧ y = ([some (.ref 236), some (.int (Int32.ofNat i)), some (.int (Int32.ofNat n)), some (.int (faM (fa Z i k))), some (.int (Int32.ofNat k)), v, v'], w))
    (Q := fun r => ∃ k v v', r = .inl ([some (.ref 236), some (.int (Int32.ofNat i)), some (.int (Int32.ofNat n)), some (.int (faM (fa Z i n))), some (.int k), v, v'], w))
    (by
      rintro m y ⟨k, v, v', rfl, hk, rfl⟩
      have h9 : (Int32.ofNat k < Int32.ofNat n) ↔ k < n := j_lt (by omega) (by omega)
      by_cases g : k < n
      · left
        have hm : (i + k) % 8 < 8 := Nat.mod_lt _ (by decide)
        have l := m_lostZ (P := P) hd2 h2 ((i + k) % 8)
        have ia : Int32.ofNat i + Int32.ofNat k = Int32.ofNat (i + k) := j_a i k
        have m8 := rm8 (show i + k < 2 ^ 31 by omega)
        have e := fa_s (Z := Z) i k
        have bb := fa_b h3 i k
        have av := ab_b h3 hm
        obtain ⟨F, hF⟩ : ∃ F, F = fa Z i (k + 1) := ⟨_, rfl⟩
        rw [← hF] at e
        cases a : lsb Z ((i + k) % 8)
        · rw [a] at l
          have lv := m_leftOf (P := P) hd1 h2 hm
          have ea := r_apartBy (P := P) (w := w) hd1 (lf Z ((i + k) % 8)) 0
          rw [ab_0] at ea
          have em : (if faM (fa Z i k) < ab (lf Z ((i + k) % 8)) then ab (lf Z ((i + k) % 8)) else faM (fa Z i k)) = faM F := by
            rw [mx_m, e]
            cases c : fa Z i k with
            | none =>
              unfold mxI faM
              unfold bI at av
              rw [if_pos (by rw [i32_le, show (1000000 : Int32).toInt = 1000000 from rfl]; omega)]
            | some q =>
              dsimp only
              rw [a, if_neg (by decide)]
              rfl
          refine ⟨([some (.ref 236), some (.int (Int32.ofNat i)), some (.int (Int32.ofNat n)), some (.int (faM F)), some (.int (Int32.ofNat (k + 1))), some (.int (Int32.ofNat ((i + k) % 8))), some (.int (ab (lf Z ((i + k) % 8))))], w), n - (k + 1), ?_, by omega, k + 1, some (.int (Int32.ofNat ((i + k) % 8))), some (.int (ab (lf Z ((i + k) % 8)))), rfl, by omega, ?_⟩
          · rw [← em]
            by_cases z : faM (fa Z i k) < ab (lf Z ((i + k) % 8)) <;> simp only [h9, g, l, lv, ea, z, ia, m8, j_s, j_a, lx_337_1, lb_337_1, ee_turn, k_0, k_1000000, k_8, nz_1000000, nz_8, v_bin, v_call, v_cmp, v_cons, v_int, v_loc, v_nil, v_tern, v_z, w_inc, w_ret, w_seq, w_set, List.getElem?_cons_zero, List.getElem?_cons_succ, List.set_cons_zero, List.set_cons_succ, ee_cmp0, ee_cmp1, ee_cmp2, ee_cmp3, ee_cmp4, ee_cmp5, ee_cmpL0, ee_cmpL1, ee_cmpL2, ee_cmpL3, ee_cmpL4, ee_cmpL5, ee_tru_eb, decide_eq_true_eq, ib_i, ie_b, ie_f, ie_t, ib_l, fin_i, fin_l, fin_v, fin_z, fin_a, fin_n, ee_b_0, ee_fld0, ee_fld1, ee_fld2, ee_fld3, bi_0, bi_1, bi_2, bi_3, bi_4, bi_5, bi_6, bi_7, bi_8, bi_9, bi_10, bl_20, bl_21, bl_22, bl_23, bl_24, bl_25, bl_26, bl_48, bl_49, un_0, un_1, un_2, un_3, if_true, if_false, ite_true, ite_false, Bool.false_eq_true, Bool.not_eq_false, decide_not, Bool.not_not, reduceCtorEq, st_i, st_l, st_r, st_n, ee_noL, ee_noL.eq_1, List.length_cons, List.length_nil, Nat.reduceAdd, Nat.reduceLT, Nat.zero_add, and_true, true_and, and_self, fin_ite, pu_0, pu_1, pu_3, sto_0, el_0, Bool.not_eq_true, decide_eq_false_iff_not, Bool.decide_eq_true, Bool.decide_eq_false, decide_true, decide_false, Bool.not_true, Bool.not_false, Bool.and_self, Bool.and_true, Bool.and_false, Bool.true_and, Bool.false_and, Bool.or_true, Bool.or_false, Bool.true_or, Bool.false_or, if_true, if_false, Bool.false_eq_true, tc_0, ix_0, tc_1000000, ix_1000000, tc_8, ix_8, mz_0, mz_1, mz_a, rvs, j_s, j_a, wI_at, Nat.reduceEqDiff, zero_ne_one_n, one_ne_zero_n]
          · rw [hF]
        · rw [a] at l
          have em : (if faM (fa Z i k) < 1000000 then 1000000 else faM (fa Z i k)) = faM F := by
            rw [mx_m, e]
            cases c : fa Z i k with
            | none => rfl
            | some q =>
              dsimp only
              rw [a, if_pos rfl]
              have b := bb q c
              unfold bI at b
              unfold mxI faM
              dsimp only
              rw [if_neg (by rw [i32_le, show (1000000 : Int32).toInt = 1000000 from rfl]; omega)]
          refine ⟨([some (.ref 236), some (.int (Int32.ofNat i)), some (.int (Int32.ofNat n)), some (.int (faM F)), some (.int (Int32.ofNat (k + 1))), some (.int (Int32.ofNat ((i + k) % 8))), some (.int 1000000)], w), n - (k + 1), ?_, by omega, k + 1, some (.int (Int32.ofNat ((i + k) % 8))), some (.int 1000000), rfl, by omega, ?_⟩
          · rw [← em]
            by_cases z : faM (fa Z i k) < 1000000 <;> simp only [h9, g, l, z, ia, m8, j_s, j_a, lx_337_1, lb_337_1, ee_turn, k_0, k_1000000, k_8, nz_1000000, nz_8, v_bin, v_call, v_cmp, v_cons, v_int, v_loc, v_nil, v_tern, v_z, w_inc, w_ret, w_seq, w_set, List.getElem?_cons_zero, List.getElem?_cons_succ, List.set_cons_zero, List.set_cons_succ, ee_cmp0, ee_cmp1, ee_cmp2, ee_cmp3, ee_cmp4, ee_cmp5, ee_cmpL0, ee_cmpL1, ee_cmpL2, ee_cmpL3, ee_cmpL4, ee_cmpL5, ee_tru_eb, decide_eq_true_eq, ib_i, ie_b, ie_f, ie_t, ib_l, fin_i, fin_l, fin_v, fin_z, fin_a, fin_n, ee_b_0, ee_fld0, ee_fld1, ee_fld2, ee_fld3, bi_0, bi_1, bi_2, bi_3, bi_4, bi_5, bi_6, bi_7, bi_8, bi_9, bi_10, bl_20, bl_21, bl_22, bl_23, bl_24, bl_25, bl_26, bl_48, bl_49, un_0, un_1, un_2, un_3, if_true, if_false, ite_true, ite_false, Bool.false_eq_true, Bool.not_eq_false, decide_not, Bool.not_not, reduceCtorEq, st_i, st_l, st_r, st_n, ee_noL, ee_noL.eq_1, List.length_cons, List.length_nil, Nat.reduceAdd, Nat.reduceLT, Nat.zero_add, and_true, true_and, and_self, fin_ite, pu_0, pu_1, pu_3, sto_0, el_0, Bool.not_eq_true, decide_eq_false_iff_not, Bool.decide_eq_true, Bool.decide_eq_false, decide_true, decide_false, Bool.not_true, Bool.not_false, Bool.and_self, Bool.and_true, Bool.and_false, Bool.true_and, Bool.false_and, Bool.or_true, Bool.or_false, Bool.true_or, Bool.false_or, if_true, if_false, Bool.false_eq_true, tc_0, ix_0, tc_1000000, ix_1000000, tc_8, ix_8, mz_0, mz_1, mz_a, rvs, j_s, j_a, wI_at, Nat.reduceEqDiff, zero_ne_one_n, one_ne_zero_n]
          · rw [hF]
      · right
        have hkn : k = n := by omega
        subst hkn
        refine ⟨.inl ([some (.ref 236), some (.int (Int32.ofNat i)), some (.int (Int32.ofNat k)), some (.int (faM (fa Z i k))), some (.int (Int32.ofNat k)), v, v'], w), ?_, _, _, _, rfl⟩
        simp only [h9, g, lx_337_1, lb_337_1, ee_turn, k_0, k_1000000, k_8, nz_1000000, nz_8, v_bin, v_call, v_cmp, v_cons, v_int, v_loc, v_nil, v_tern, v_z, w_inc, w_ret, w_seq, w_set, List.getElem?_cons_zero, List.getElem?_cons_succ, List.set_cons_zero, List.set_cons_succ, ee_cmp0, ee_cmp1, ee_cmp2, ee_cmp3, ee_cmp4, ee_cmp5, ee_cmpL0, ee_cmpL1, ee_cmpL2, ee_cmpL3, ee_cmpL4, ee_cmpL5, ee_tru_eb, decide_eq_true_eq, ib_i, ie_b, ie_f, ie_t, ib_l, fin_i, fin_l, fin_v, fin_z, fin_a, fin_n, ee_b_0, ee_fld0, ee_fld1, ee_fld2, ee_fld3, bi_0, bi_1, bi_2, bi_3, bi_4, bi_5, bi_6, bi_7, bi_8, bi_9, bi_10, bl_20, bl_21, bl_22, bl_23, bl_24, bl_25, bl_26, bl_48, bl_49, un_0, un_1, un_2, un_3, if_true, if_false, ite_true, ite_false, Bool.false_eq_true, Bool.not_eq_false, decide_not, Bool.not_not, reduceCtorEq, st_i, st_l, st_r, st_n, ee_noL, ee_noL.eq_1, List.length_cons, List.length_nil, Nat.reduceAdd, Nat.reduceLT, Nat.zero_add, and_true, true_and, and_self, fin_ite, pu_0, pu_1, pu_3, sto_0, el_0, Bool.not_eq_true, decide_eq_false_iff_not, Bool.decide_eq_true, Bool.decide_eq_false, decide_true, decide_false, Bool.not_true, Bool.not_false, Bool.and_self, Bool.and_true, Bool.and_false, Bool.true_and, Bool.false_and, Bool.or_true, Bool.or_false, Bool.true_or, Bool.false_or, if_true, if_false, Bool.false_eq_true, tc_0, ix_0, tc_1000000, ix_1000000, tc_8, ix_8, mz_0, mz_1, mz_a, rvs, j_s, j_a, wI_at, Nat.reduceEqDiff, zero_ne_one_n, one_ne_zero_n])
    (n - 0) ([some (.ref 236), some (.int (Int32.ofNat i)), some (.int (Int32.ofNat n)), some (.int 0), some (.int (Int32.ofNat 0)), none, none], w) ⟨0, _, _, rfl, Nat.zero_le _, rfl⟩
  rw [k_0] at hr
  rw [rn_337 mz_0]
  obtain ⟨k, v, v', rfl⟩ := hq
  simp only [w_while, hr, be_337, k_0, k_1000000, k_8, nz_1000000, nz_8, v_bin, v_call, v_cmp, v_cons, v_int, v_loc, v_nil, v_tern, v_z, w_inc, w_ret, w_seq, w_set, List.getElem?_cons_zero, List.getElem?_cons_succ, List.set_cons_zero, List.set_cons_succ, ee_cmp0, ee_cmp1, ee_cmp2, ee_cmp3, ee_cmp4, ee_cmp5, ee_cmpL0, ee_cmpL1, ee_cmpL2, ee_cmpL3, ee_cmpL4, ee_cmpL5, ee_tru_eb, decide_eq_true_eq, ib_i, ie_b, ie_f, ie_t, ib_l, fin_i, fin_l, fin_v, fin_z, fin_a, fin_n, ee_b_0, ee_fld0, ee_fld1, ee_fld2, ee_fld3, bi_0, bi_1, bi_2, bi_3, bi_4, bi_5, bi_6, bi_7, bi_8, bi_9, bi_10, bl_20, bl_21, bl_22, bl_23, bl_24, bl_25, bl_26, bl_48, bl_49, un_0, un_1, un_2, un_3, if_true, if_false, ite_true, ite_false, Bool.false_eq_true, Bool.not_eq_false, decide_not, Bool.not_not, reduceCtorEq, st_i, st_l, st_r, st_n, ee_noL, ee_noL.eq_1, List.length_cons, List.length_nil, Nat.reduceAdd, Nat.reduceLT, Nat.zero_add, and_true, true_and, and_self, fin_ite, pu_0, pu_1, pu_3, sto_0, el_0, Bool.not_eq_true, decide_eq_false_iff_not, Bool.decide_eq_true, Bool.decide_eq_false, decide_true, decide_false, Bool.not_true, Bool.not_false, Bool.and_self, Bool.and_true, Bool.and_false, Bool.true_and, Bool.false_and, Bool.or_true, Bool.or_false, Bool.true_or, Bool.false_or, if_true, if_false, Bool.false_eq_true, ix_0, ix_1000000, ix_8, tc_0, tc_1000000, tc_8, mz_0, mz_1, mz_a, rvs, j_s, j_a, wI_at, Nat.reduceEqDiff, zero_ne_one_n, one_ne_zero_n]
def wn (Z : ZX) (n : Nat) : Nat → Option (Nat × Int32)
  | 0 => none
  | k + 1 => match fa Z k n with
    | none => wn Z n k
    | some m => match wn Z n k with
      | none => some (k, m)
      | some p => if m < p.2 then some (k, m) else some p
theorem wn_s (n k : Nat) : wn Z n (k + 1) = match fa Z k n with
    | none => wn Z n k
    | some m => match wn Z n k with
      | none => some (k, m)
      | some p => if m < p.2 then some (k, m) else some p := rfl
theorem wn_p (hW : WZ Z) (n : Nat) : ∀ k p, wn Z n k = some p → p.1 < k ∧ bI p.2 0 200 := by
  intro k
  induction k with
  | zero => intro p h; cases h
  | succ k ih =>
    intro p h
    rw [wn_s] at h
    cases c : fa Z k n with
    | none =>
      rw [c] at h
      have := ih p h
      exact ⟨by omega, this.2⟩
    | some m =>
      rw [c] at h
      have b := fa_b hW k n m c
      cases e : wn Z n k with
      | none =>
        rw [e] at h
        injection h with h
        subst h
        exact ⟨by omega, b⟩
      | some q =>
        rw [e] at h
        dsimp only at h
        have := ih q e
        split at h
        · injection h with h
          subst h
          exact ⟨by omega, b⟩
        · injection h with h
          subst h
          exact ⟨by omega, this.2⟩
def wnK (o : Option (Nat × Int32)) : Int32 := match o with
  | none => -1
  | some p => Int32.ofNat p.1
def wnC (o : Option (Nat × Int32)) : Int32 := match o with
  | none => 0
  | some p => p.2
def wnM (o : Option (Nat × Int32)) : Int32 := match o with
  | none => 1000000
  | some p => p.2
def wnL (Z : ZX) (n : Nat) : Nat → Option Value
  | 0 => none
  | k + 1 => some (.int (faI (fa Z k n)))
theorem b_window (hd : 6 ≤ d) (hS : Sim w) (u : Int32) : Both P d 167 336 [.int u] w := by
  obtain ⟨Z, h1, h2, h3⟩ := hS
  obtain ⟨d, rfl⟩ : ∃ k, d = k + 1 := ⟨d - 1, by omega⟩
  have hd1 : 1 ≤ d := by omega
  have hd3 : 3 ≤ d := by omega
  have hd4 : 4 ≤ d := by omega
  cases hu : (decide (1 ≤ u) && decide (u ≤ 8))
  · refine both_q h1 h2 h3 (r := .int (-1)) ?_ ?_
    · rw [rn_167 cz_0]
      simp only [r_within hd1, hu, be_167, k_0, k_1, k_4294967295, k_8, nz_1, nz_8, v_and, v_call, v_cmp, v_cons, v_int, v_loc, v_nil, v_not, v_or, v_z, w_if, w_inc, w_ret, w_seq, w_set, w_skip, List.getElem?_cons_zero, List.getElem?_cons_succ, List.set_cons_zero, List.set_cons_succ, ee_cmp0, ee_cmp1, ee_cmp2, ee_cmp3, ee_cmp4, ee_cmp5, ee_cmpL0, ee_cmpL1, ee_cmpL2, ee_cmpL3, ee_cmpL4, ee_cmpL5, ee_tru_eb, decide_eq_true_eq, ib_i, ie_b, ie_f, ie_t, ib_l, fin_i, fin_l, fin_v, fin_z, fin_a, fin_n, ee_b_0, ee_fld0, ee_fld1, ee_fld2, ee_fld3, bi_0, bi_1, bi_2, bi_3, bi_4, bi_5, bi_6, bi_7, bi_8, bi_9, bi_10, bl_20, bl_21, bl_22, bl_23, bl_24, bl_25, bl_26, bl_48, bl_49, un_0, un_1, un_2, un_3, if_true, if_false, ite_true, ite_false, Bool.false_eq_true, Bool.not_eq_false, decide_not, Bool.not_not, reduceCtorEq, st_i, st_l, st_r, st_n, ee_noL, ee_noL.eq_1, List.length_cons, List.length_nil, Nat.reduceAdd, Nat.reduceLT, Nat.zero_add, and_true, true_and, and_self, fin_ite, pu_0, pu_1, pu_3, sto_0, el_0, Bool.not_eq_true, decide_eq_false_iff_not, Bool.decide_eq_true, Bool.decide_eq_false, decide_true, decide_false, Bool.not_true, Bool.not_false, Bool.and_self, Bool.and_true, Bool.and_false, Bool.true_and, Bool.false_and, Bool.or_true, Bool.or_false, Bool.true_or, Bool.false_or, if_true, if_false, Bool.false_eq_true]
    · rw [rn_336 mz_0]
      simp only [r_isIn hd1, hu, be_336, k_0, k_1, k_1000000, k_4294967295, k_8, nz_1, nz_1000000, nz_8, v_call, v_cmp, v_cons, v_int, v_loc, v_nil, v_not, v_z, w_if, w_inc, w_ret, w_seq, w_set, w_skip, List.getElem?_cons_zero, List.getElem?_cons_succ, List.set_cons_zero, List.set_cons_succ, ee_cmp0, ee_cmp1, ee_cmp2, ee_cmp3, ee_cmp4, ee_cmp5, ee_cmpL0, ee_cmpL1, ee_cmpL2, ee_cmpL3, ee_cmpL4, ee_cmpL5, ee_tru_eb, decide_eq_true_eq, ib_i, ie_b, ie_f, ie_t, ib_l, fin_i, fin_l, fin_v, fin_z, fin_a, fin_n, ee_b_0, ee_fld0, ee_fld1, ee_fld2, ee_fld3, bi_0, bi_1, bi_2, bi_3, bi_4, bi_5, bi_6, bi_7, bi_8, bi_9, bi_10, bl_20, bl_21, bl_22, bl_23, bl_24, bl_25, bl_26, bl_48, bl_49, un_0, un_1, un_2, un_3, if_true, if_false, ite_true, ite_false, Bool.false_eq_true, Bool.not_eq_false, decide_not, Bool.not_not, reduceCtorEq, st_i, st_l, st_r, st_n, ee_noL, ee_noL.eq_1, List.length_cons, List.length_nil, Nat.reduceAdd, Nat.reduceLT, Nat.zero_add, and_true, true_and, and_self, fin_ite, pu_0, pu_1, pu_3, sto_0, el_0, Bool.not_eq_true, decide_eq_false_iff_not, Bool.decide_eq_true, Bool.decide_eq_false, decide_true, decide_false, Bool.not_true, Bool.not_false, Bool.and_self, Bool.and_true, Bool.and_false, Bool.true_and, Bool.false_and, Bool.or_true, Bool.or_false, Bool.true_or, Bool.false_or, if_true, if_false, Bool.false_eq_true, ix_0, ix_1, ix_1000000, ix_8, tc_0, tc_1, tc_1000000, tc_8, mz_0, mz_1, mz_a, rvs, j_s, j_a, wI_at, Nat.reduceEqDiff, zero_ne_one_n, one_ne_zero_n]
  · obtain ⟨n, hn, rfl⟩ : ∃ n, n ≤ 8 ∧ u = Int32.ofNat n := by
      refine in_nat 8 (by decide) ?_
      rw [Bool.and_eq_true, decide_eq_true_eq, decide_eq_true_eq] at hu ⊢
      refine ⟨?_, hu.2⟩
      have := hu.1
      rw [i32_le, show (1 : Int32).toInt = 1 from rfl] at this
      rw [i32_le, show (0 : Int32).toInt = 0 from rfl]
      omega
    have nn1 : ¬ ((-1 : Int32) = -1) ↔ False := ⟨fun h => h rfl, fun h => h.elim⟩
    refine both_q h1 h2 h3 (r := .int (wnK (wn Z n 8))) ?_ ?_
    · have hl := for_q (w := w) (x := ee_ev es_sh es_rf (ee_run ee_B P d) lx_167_1) (b := ee_evS es_sh es_rf (ee_run ee_B P d) lb_167_1)
        (fun k => [some (.ref 0), some (.int (Int32.ofNat n)), some (.int (wnK (wn Z n k))), some (.int (wnC (wn Z n k))), some (.int (Int32.ofNat k)), wnL Z n k]) 8
        (by
          intro k hk
          have h9 : Int32.ofNat k < 8 := (j_lt (b := 8) (by omega) (by omega)).2 hk
          have l := c_far (P := P) hd4 h1 hk hn
          have e := wn_s (Z := Z) n k
          have el : wnL Z n (k + 1) = some (.int (faI (fa Z k n))) := rfl
          rw [el, e]
          cases c : fa Z k n with
          | none =>
            rw [c, show faI none = -1 from rfl] at l
            simp only [h9, l, faI, j_s, j_a, lx_167_1, lb_167_1, ee_turn, k_0, k_1, k_4294967295, k_8, nz_1, nz_8, v_and, v_call, v_cmp, v_cons, v_int, v_loc, v_nil, v_not, v_or, v_z, w_if, w_inc, w_ret, w_seq, w_set, w_skip, List.getElem?_cons_zero, List.getElem?_cons_succ, List.set_cons_zero, List.set_cons_succ, ee_cmp0, ee_cmp1, ee_cmp2, ee_cmp3, ee_cmp4, ee_cmp5, ee_cmpL0, ee_cmpL1, ee_cmpL2, ee_cmpL3, ee_cmpL4, ee_cmpL5, ee_tru_eb, decide_eq_true_eq, ib_i, ie_b, ie_f, ie_t, ib_l, fin_i, fin_l, fin_v, fin_z, fin_a, fin_n, ee_b_0, ee_fld0, ee_fld1, ee_fld2, ee_fld3, bi_0, bi_1, bi_2, bi_3, bi_4, bi_5, bi_6, bi_7, bi_8, bi_9, bi_10, bl_20, bl_21, bl_22, bl_23, bl_24, bl_25, bl_26, bl_48, bl_49, un_0, un_1, un_2, un_3, if_true, if_false, ite_true, ite_false, Bool.false_eq_true, Bool.not_eq_false, decide_not, Bool.not_not, reduceCtorEq, st_i, st_l, st_r, st_n, ee_noL, ee_noL.eq_1, List.length_cons, List.length_nil, Nat.reduceAdd, Nat.reduceLT, Nat.zero_add, and_true, true_and, and_self, fin_ite, pu_0, pu_1, pu_3, sto_0, el_0, Bool.not_eq_true, decide_eq_false_iff_not, Bool.decide_eq_true, Bool.decide_eq_false, decide_true, decide_false, Bool.not_true, Bool.not_false, Bool.and_self, Bool.and_true, Bool.and_false, Bool.true_and, Bool.false_and, Bool.or_true, Bool.or_false, Bool.true_or, Bool.false_or, if_true, if_false, Bool.false_eq_true]
          | some m =>
            rw [c, show faI (some m) = m from rfl] at l
            have b := fa_b h3 k n m c
            have nm : ¬ m = -1 := fun z => by
              rw [z] at b
              exact absurd b.1 (by decide)
            cases q : wn Z n k with
            | none => simp only [h9, l, faI, nm, wnK, wnC, j_s, j_a, lx_167_1, lb_167_1, ee_turn, k_0, k_1, k_4294967295, k_8, nz_1, nz_8, v_and, v_call, v_cmp, v_cons, v_int, v_loc, v_nil, v_not, v_or, v_z, w_if, w_inc, w_ret, w_seq, w_set, w_skip, List.getElem?_cons_zero, List.getElem?_cons_succ, List.set_cons_zero, List.set_cons_succ, ee_cmp0, ee_cmp1, ee_cmp2, ee_cmp3, ee_cmp4, ee_cmp5, ee_cmpL0, ee_cmpL1, ee_cmpL2, ee_cmpL3, ee_cmpL4, ee_cmpL5, ee_tru_eb, decide_eq_true_eq, ib_i, ie_b, ie_f, ie_t, ib_l, fin_i, fin_l, fin_v, fin_z, fin_a, fin_n, ee_b_0, ee_fld0, ee_fld1, ee_fld2, ee_fld3, bi_0, bi_1, bi_2, bi_3, bi_4, bi_5, bi_6, bi_7, bi_8, bi_9, bi_10, bl_20, bl_21, bl_22, bl_23, bl_24, bl_25, bl_26, bl_48, bl_49, un_0, un_1, un_2, un_3, if_true, if_false, ite_true, ite_false, Bool.false_eq_true, Bool.not_eq_false, decide_not, Bool.not_not, reduceCtorEq, st_i, st_l, st_r, st_n, ee_noL, ee_noL.eq_1, List.length_cons, List.length_nil, Nat.reduceAdd, Nat.reduceLT, Nat.zero_add, and_true, true_and, and_self, fin_ite, pu_0, pu_1, pu_3, sto_0, el_0, Bool.not_eq_true, decide_eq_false_iff_not, Bool.decide_eq_true, Bool.decide_eq_false, decide_true, decide_false, Bool.not_true, Bool.not_false, Bool.and_self, Bool.and_true, Bool.and_false, Bool.true_and, Bool.false_and, Bool.or_true, Bool.or_false, Bool.true_or, Bool.false_or, if_true, if_false, Bool.false_eq_true]
            | some p =>
              have np := ofN_ne (show p.1 < 2147483648 by have := (wn_p h3 n k p q).1; omega)
              by_cases z : m < p.2 <;> simp only [h9, l, faI, nm, np, z, wnK, wnC, j_s, j_a, lx_167_1, lb_167_1, ee_turn, k_0, k_1, k_4294967295, k_8, nz_1, nz_8, v_and, v_call, v_cmp, v_cons, v_int, v_loc, v_nil, v_not, v_or, v_z, w_if, w_inc, w_ret, w_seq, w_set, w_skip, List.getElem?_cons_zero, List.getElem?_cons_succ, List.set_cons_zero, List.set_cons_succ, ee_cmp0, ee_cmp1, ee_cmp2, ee_cmp3, ee_cmp4, ee_cmp5, ee_cmpL0, ee_cmpL1, ee_cmpL2, ee_cmpL3, ee_cmpL4, ee_cmpL5, ee_tru_eb, decide_eq_true_eq, ib_i, ie_b, ie_f, ie_t, ib_l, fin_i, fin_l, fin_v, fin_z, fin_a, fin_n, ee_b_0, ee_fld0, ee_fld1, ee_fld2, ee_fld3, bi_0, bi_1, bi_2, bi_3, bi_4, bi_5, bi_6, bi_7, bi_8, bi_9, bi_10, bl_20, bl_21, bl_22, bl_23, bl_24, bl_25, bl_26, bl_48, bl_49, un_0, un_1, un_2, un_3, if_true, if_false, ite_true, ite_false, Bool.false_eq_true, Bool.not_eq_false, decide_not, Bool.not_not, reduceCtorEq, st_i, st_l, st_r, st_n, ee_noL, ee_noL.eq_1, List.length_cons, List.length_nil, Nat.reduceAdd, Nat.reduceLT, Nat.zero_add, and_true, true_and, and_self, fin_ite, pu_0, pu_1, pu_3, sto_0, el_0, Bool.not_eq_true, decide_eq_false_iff_not, Bool.decide_eq_true, Bool.decide_eq_false, decide_true, decide_false, Bool.not_true, Bool.not_false, Bool.and_self, Bool.and_true, Bool.and_false, Bool.true_and, Bool.false_and, Bool.or_true, Bool.or_false, Bool.true_or, Bool.false_or, if_true, if_false, Bool.false_eq_true])
        (by
          have h9 : ¬ (8 : Int32) < 8 := by decide
          simp only [h9, lx_167_1, lb_167_1, ee_turn, k_0, k_1, k_4294967295, k_8, nz_1, nz_8, v_and, v_call, v_cmp, v_cons, v_int, v_loc, v_nil, v_not, v_or, v_z, w_if, w_inc, w_ret, w_seq, w_set, w_skip, List.getElem?_cons_zero, List.getElem?_cons_succ, List.set_cons_zero, List.set_cons_succ, ee_cmp0, ee_cmp1, ee_cmp2, ee_cmp3, ee_cmp4, ee_cmp5, ee_cmpL0, ee_cmpL1, ee_cmpL2, ee_cmpL3, ee_cmpL4, ee_cmpL5, ee_tru_eb, decide_eq_true_eq, ib_i, ie_b, ie_f, ie_t, ib_l, fin_i, fin_l, fin_v, fin_z, fin_a, fin_n, ee_b_0, ee_fld0, ee_fld1, ee_fld2, ee_fld3, bi_0, bi_1, bi_2, bi_3, bi_4, bi_5, bi_6, bi_7, bi_8, bi_9, bi_10, bl_20, bl_21, bl_22, bl_23, bl_24, bl_25, bl_26, bl_48, bl_49, un_0, un_1, un_2, un_3, if_true, if_false, ite_true, ite_false, Bool.false_eq_true, Bool.not_eq_false, decide_not, Bool.not_not, reduceCtorEq, st_i, st_l, st_r, st_n, ee_noL, ee_noL.eq_1, List.length_cons, List.length_nil, Nat.reduceAdd, Nat.reduceLT, Nat.zero_add, and_true, true_and, and_self, fin_ite, pu_0, pu_1, pu_3, sto_0, el_0, Bool.not_eq_true, decide_eq_false_iff_not, Bool.decide_eq_true, Bool.decide_eq_false, decide_true, decide_false, Bool.not_true, Bool.not_false, Bool.and_self, Bool.and_true, Bool.and_false, Bool.true_and, Bool.false_and, Bool.or_true, Bool.or_false, Bool.true_or, Bool.false_or, if_true, if_false, Bool.false_eq_true])
      rw [show wnK (wn Z n 0) = -1 from rfl, show wnC (wn Z n 0) = 0 from rfl, k_0, show wnL Z n 0 = none from rfl] at hl
      rw [rn_167 cz_0]
      simp only [r_within hd1, hu, w_while, hl, be_167, k_0, k_1, k_4294967295, k_8, nz_1, nz_8, v_and, v_call, v_cmp, v_cons, v_int, v_loc, v_nil, v_not, v_or, v_z, w_if, w_inc, w_ret, w_seq, w_set, w_skip, List.getElem?_cons_zero, List.getElem?_cons_succ, List.set_cons_zero, List.set_cons_succ, ee_cmp0, ee_cmp1, ee_cmp2, ee_cmp3, ee_cmp4, ee_cmp5, ee_cmpL0, ee_cmpL1, ee_cmpL2, ee_cmpL3, ee_cmpL4, ee_cmpL5, ee_tru_eb, decide_eq_true_eq, ib_i, ie_b, ie_f, ie_t, ib_l, fin_i, fin_l, fin_v, fin_z, fin_a, fin_n, ee_b_0, ee_fld0, ee_fld1, ee_fld2, ee_fld3, bi_0, bi_1, bi_2, bi_3, bi_4, bi_5, bi_6, bi_7, bi_8, bi_9, bi_10, bl_20, bl_21, bl_22, bl_23, bl_24, bl_25, bl_26, bl_48, bl_49, un_0, un_1, un_2, un_3, if_true, if_false, ite_true, ite_false, Bool.false_eq_true, Bool.not_eq_false, decide_not, Bool.not_not, reduceCtorEq, st_i, st_l, st_r, st_n, ee_noL, ee_noL.eq_1, List.length_cons, List.length_nil, Nat.reduceAdd, Nat.reduceLT, Nat.zero_add, and_true, true_and, and_self, fin_ite, pu_0, pu_1, pu_3, sto_0, el_0, Bool.not_eq_true, decide_eq_false_iff_not, Bool.decide_eq_true, Bool.decide_eq_false, decide_true, decide_false, Bool.not_true, Bool.not_false, Bool.and_self, Bool.and_true, Bool.and_false, Bool.true_and, Bool.false_and, Bool.or_true, Bool.or_false, Bool.true_or, Bool.false_or, if_true, if_false, Bool.false_eq_true]
    · have hl := for_q (w := w) (x := ee_ev es_sh es_rf (ee_run ee_B P d) lx_336_1) (b := ee_evS es_sh es_rf (ee_run ee_B P d) lb_336_1)
        (fun k => [some (.ref 236), some (.int (Int32.ofNat n)), some (.int (wnK (wn Z n k))), some (.int (wnM (wn Z n k))), some (.int (Int32.ofNat k))]) 8
        (by
          intro k hk
          have h9 : Int32.ofNat k < 8 := (j_lt (b := 8) (by omega) (by omega)).2 hk
          have l := m_far (P := P) hd3 h2 h3 hk hn
          have e := wn_s (Z := Z) n k
          rw [e]
          have t1 : ∀ x : Int32, bI x 0 200 → x < 1000000 := fun x b => by
            unfold bI at b
            rw [i32_lt, show (1000000 : Int32).toInt = 1000000 from rfl]
            omega
          have tn : ∀ a b : Int32, a < b → ¬ b ≤ a := fun a b h => by rw [i32_lt] at h; rw [i32_le]; omega
          have tp : ∀ a b : Int32, ¬ a < b → b ≤ a := fun a b h => by rw [i32_lt] at h; rw [i32_le]; omega
          cases c : fa Z k n with
          | none =>
            rw [c, show faM none = 1000000 from rfl] at l
            have g : wnM (wn Z n k) ≤ 1000000 := by
              cases q : wn Z n k with
              | none => decide
              | some p => exact Int32.le_of_lt (t1 _ (wn_p h3 n k p q).2)
            simp only [h9, l, g, j_s, j_a, lx_336_1, lb_336_1, ee_turn, k_0, k_1, k_1000000, k_4294967295, k_8, nz_1, nz_1000000, nz_8, v_call, v_cmp, v_cons, v_int, v_loc, v_nil, v_not, v_z, w_if, w_inc, w_ret, w_seq, w_set, w_skip, List.getElem?_cons_zero, List.getElem?_cons_succ, List.set_cons_zero, List.set_cons_succ, ee_cmp0, ee_cmp1, ee_cmp2, ee_cmp3, ee_cmp4, ee_cmp5, ee_cmpL0, ee_cmpL1, ee_cmpL2, ee_cmpL3, ee_cmpL4, ee_cmpL5, ee_tru_eb, decide_eq_true_eq, ib_i, ie_b, ie_f, ie_t, ib_l, fin_i, fin_l, fin_v, fin_z, fin_a, fin_n, ee_b_0, ee_fld0, ee_fld1, ee_fld2, ee_fld3, bi_0, bi_1, bi_2, bi_3, bi_4, bi_5, bi_6, bi_7, bi_8, bi_9, bi_10, bl_20, bl_21, bl_22, bl_23, bl_24, bl_25, bl_26, bl_48, bl_49, un_0, un_1, un_2, un_3, if_true, if_false, ite_true, ite_false, Bool.false_eq_true, Bool.not_eq_false, decide_not, Bool.not_not, reduceCtorEq, st_i, st_l, st_r, st_n, ee_noL, ee_noL.eq_1, List.length_cons, List.length_nil, Nat.reduceAdd, Nat.reduceLT, Nat.zero_add, and_true, true_and, and_self, fin_ite, pu_0, pu_1, pu_3, sto_0, el_0, Bool.not_eq_true, decide_eq_false_iff_not, Bool.decide_eq_true, Bool.decide_eq_false, decide_true, decide_false, Bool.not_true, Bool.not_false, Bool.and_self, Bool.and_true, Bool.and_false, Bool.true_and, Bool.false_and, Bool.or_true, Bool.or_false, Bool.true_or, Bool.false_or, if_true, if_false, Bool.false_eq_true, tc_0, ix_0, tc_1, ix_1, tc_1000000, ix_1000000, tc_8, ix_8, mz_0, mz_1, mz_a, rvs, j_s, j_a, wI_at, Nat.reduceEqDiff, zero_ne_one_n, one_ne_zero_n]
          | some m =>
            rw [c, show faM (some m) = m from rfl] at l
            have b := fa_b h3 k n m c
            cases q : wn Z n k with
            | none =>
              have g := tn _ _ (t1 m b)
              simp only [h9, l, g, wnK, wnM, j_s, j_a, lx_336_1, lb_336_1, ee_turn, k_0, k_1, k_1000000, k_4294967295, k_8, nz_1, nz_1000000, nz_8, v_call, v_cmp, v_cons, v_int, v_loc, v_nil, v_not, v_z, w_if, w_inc, w_ret, w_seq, w_set, w_skip, List.getElem?_cons_zero, List.getElem?_cons_succ, List.set_cons_zero, List.set_cons_succ, ee_cmp0, ee_cmp1, ee_cmp2, ee_cmp3, ee_cmp4, ee_cmp5, ee_cmpL0, ee_cmpL1, ee_cmpL2, ee_cmpL3, ee_cmpL4, ee_cmpL5, ee_tru_eb, decide_eq_true_eq, ib_i, ie_b, ie_f, ie_t, ib_l, fin_i, fin_l, fin_v, fin_z, fin_a, fin_n, ee_b_0, ee_fld0, ee_fld1, ee_fld2, ee_fld3, bi_0, bi_1, bi_2, bi_3, bi_4, bi_5, bi_6, bi_7, bi_8, bi_9, bi_10, bl_20, bl_21, bl_22, bl_23, bl_24, bl_25, bl_26, bl_48, bl_49, un_0, un_1, un_2, un_3, if_true, if_false, ite_true, ite_false, Bool.false_eq_true, Bool.not_eq_false, decide_not, Bool.not_not, reduceCtorEq, st_i, st_l, st_r, st_n, ee_noL, ee_noL.eq_1, List.length_cons, List.length_nil, Nat.reduceAdd, Nat.reduceLT, Nat.zero_add, and_true, true_and, and_self, fin_ite, pu_0, pu_1, pu_3, sto_0, el_0, Bool.not_eq_true, decide_eq_false_iff_not, Bool.decide_eq_true, Bool.decide_eq_false, decide_true, decide_false, Bool.not_true, Bool.not_false, Bool.and_self, Bool.and_true, Bool.and_false, Bool.true_and, Bool.false_and, Bool.or_true, Bool.or_false, Bool.true_or, Bool.false_or, if_true, if_false, Bool.false_eq_true, tc_0, ix_0, tc_1, ix_1, tc_1000000, ix_1000000, tc_8, ix_8, mz_0, mz_1, mz_a, rvs, j_s, j_a, wI_at, Nat.reduceEqDiff, zero_ne_one_n, one_ne_zero_n]
            | some p =>
              by_cases z : m < p.2
              · have g := tn _ _ z
                simp only [h9, l, z, g, wnK, wnM, j_s, j_a, lx_336_1, lb_336_1, ee_turn, k_0, k_1, k_1000000, k_4294967295, k_8, nz_1, nz_1000000, nz_8, v_call, v_cmp, v_cons, v_int, v_loc, v_nil, v_not, v_z, w_if, w_inc, w_ret, w_seq, w_set, w_skip, List.getElem?_cons_zero, List.getElem?_cons_succ, List.set_cons_zero, List.set_cons_succ, ee_cmp0, ee_cmp1, ee_cmp2, ee_cmp3, ee_cmp4, ee_cmp5, ee_cmpL0, ee_cmpL1, ee_cmpL2, ee_cmpL3, ee_cmpL4, ee_cmpL5, ee_tru_eb, decide_eq_true_eq, ib_i, ie_b, ie_f, ie_t, ib_l, fin_i, fin_l, fin_v, fin_z, fin_a, fin_n, ee_b_0, ee_fld0, ee_fld1, ee_fld2, ee_fld3, bi_0, bi_1, bi_2, bi_3, bi_4, bi_5, bi_6, bi_7, bi_8, bi_9, bi_10, bl_20, bl_21, bl_22, bl_23, bl_24, bl_25, bl_26, bl_48, bl_49, un_0, un_1, un_2, un_3, if_true, if_false, ite_true, ite_false, Bool.false_eq_true, Bool.not_eq_false, decide_not, Bool.not_not, reduceCtorEq, st_i, st_l, st_r, st_n, ee_noL, ee_noL.eq_1, List.length_cons, List.length_nil, Nat.reduceAdd, Nat.reduceLT, Nat.zero_add, and_true, true_and, and_self, fin_ite, pu_0, pu_1, pu_3, sto_0, el_0, Bool.not_eq_true, decide_eq_false_iff_not, Bool.decide_eq_true, Bool.decide_eq_false, decide_true, decide_false, Bool.not_true, Bool.not_false, Bool.and_self, Bool.and_true, Bool.and_false, Bool.true_and, Bool.false_and, Bool.or_true, Bool.or_false, Bool.true_or, Bool.false_or, if_true, if_false, Bool.false_eq_true, tc_0, ix_0, tc_1, ix_1, tc_1000000, ix_1000000, tc_8, ix_8, mz_0, mz_1, mz_a, rvs, j_s, j_a, wI_at, Nat.reduceEqDiff, zero_ne_one_n, one_ne_zero_n]
              · have g := tp _ _ z
                simp only [h9, l, z, g, wnK, wnM, j_s, j_a, lx_336_1, lb_336_1, ee_turn, k_0, k_1, k_1000000, k_4294967295, k_8, nz_1, nz_1000000, nz_8, v_call, v_cmp, v_cons, v_int, v_loc, v_nil, v_not, v_z, w_if, w_inc, w_ret, w_seq, w_set, w_skip, List.getElem?_cons_zero, List.getElem?_cons_succ, List.set_cons_zero, List.set_cons_succ, ee_cmp0, ee_cmp1, ee_cmp2, ee_cmp3, ee_cmp4, ee_cmp5, ee_cmpL0, ee_cmpL1, ee_cmpL2, ee_cmpL3, ee_cmpL4, ee_cmpL5, ee_tru_eb, decide_eq_true_eq, ib_i, ie_b, ie_f, ie_t, ib_l, fin_i, fin_l, fin_v, fin_z, fin_a, fin_n, ee_b_0, ee_fld0, ee_fld1, ee_fld2, ee_fld3, bi_0, bi_1, bi_2, bi_3, bi_4, bi_5, bi_6, bi_7, bi_8, bi_9, bi_10, bl_20, bl_21, bl_22, bl_23, bl_24, bl_25, bl_26, bl_48, bl_49, un_0, un_1, un_2, un_3, if_true, if_false, ite_true, ite_false, Bool.false_eq_true, Bool.not_eq_false, decide_not, Bool.not_not, reduceCtorEq, st_i, st_l, st_r, st_n, ee_noL, ee_noL.eq_1, List.length_cons, List.length_nil, Nat.reduceAdd, Nat.reduceLT, Nat.zero_add, and_true, true_and, and_self, fin_ite, pu_0, pu_1, pu_3, sto_0, el_0, Bool.not_eq_true, decide_eq_false_iff_not, Bool.decide_eq_true, Bool.decide_eq_false, decide_true, decide_false, Bool.not_true, Bool.not_false, Bool.and_self, Bool.and_true, Bool.and_false, Bool.true_and, Bool.false_and, Bool.or_true, Bool.or_false, Bool.true_or, Bool.false_or, if_true, if_false, Bool.false_eq_true, tc_0, ix_0, tc_1, ix_1, tc_1000000, ix_1000000, tc_8, ix_8, mz_0, mz_1, mz_a, rvs, j_s, j_a, wI_at, Nat.reduceEqDiff, zero_ne_one_n, one_ne_zero_n])
        (by
          have h9 : ¬ (8 : Int32) < 8 := by decide
          simp only [h9, lx_336_1, lb_336_1, ee_turn, k_0, k_1, k_1000000, k_4294967295, k_8, nz_1, nz_1000000, nz_8, v_call, v_cmp, v_cons, v_int, v_loc, v_nil, v_not, v_z, w_if, w_inc, w_ret, w_seq, w_set, w_skip, List.getElem?_cons_zero, List.getElem?_cons_succ, List.set_cons_zero, List.set_cons_succ, ee_cmp0, ee_cmp1, ee_cmp2, ee_cmp3, ee_cmp4, ee_cmp5, ee_cmpL0, ee_cmpL1, ee_cmpL2, ee_cmpL3, ee_cmpL4, ee_cmpL5, ee_tru_eb, decide_eq_true_eq, ib_i, ie_b, ie_f, ie_t, ib_l, fin_i, fin_l, fin_v, fin_z, fin_a, fin_n, ee_b_0, ee_fld0, ee_fld1, ee_fld2, ee_fld3, bi_0, bi_1, bi_2, bi_3, bi_4, bi_5, bi_6, bi_7, bi_8, bi_9, bi_10, bl_20, bl_21, bl_22, bl_23, bl_24, bl_25, bl_26, bl_48, bl_49, un_0, un_1, un_2, un_3, if_true, if_false, ite_true, ite_false, Bool.false_eq_true, Bool.not_eq_false, decide_not, Bool.not_not, reduceCtorEq, st_i, st_l, st_r, st_n, ee_noL, ee_noL.eq_1, List.length_cons, List.length_nil, Nat.reduceAdd, Nat.reduceLT, Nat.zero_add, and_true, true_and, and_self, fin_ite, pu_0, pu_1, pu_3, sto_0, el_0, Bool.not_eq_true, decide_eq_false_iff_not, Bool.decide_eq_true, Bool.decide_eq_false, decide_true, decide_false, Bool.not_true, Bool.not_false, Bool.and_self, Bool.and_true, Bool.and_false, Bool.true_and, Bool.false_and, Bool.or_true, Bool.or_false, Bool.true_or, Bool.false_or, if_true, if_false, Bool.false_eq_true, tc_0, ix_0, tc_1, ix_1, tc_1000000, ix_1000000, tc_8, ix_8, mz_0, mz_1, mz_a, rvs, j_s, j_a, wI_at, Nat.reduceEqDiff, zero_ne_one_n, one_ne_zero_n])
      rw [show wnK (wn Z n 0) = -1 from rfl, show wnM (wn Z n 0) = 1000000 from rfl, k_0] at hl
      rw [rn_336 mz_0]
      simp only [r_isIn hd1, hu, w_while, hl, be_336, k_0, k_1, k_1000000, k_4294967295, k_8, nz_1, nz_1000000, nz_8, v_call, v_cmp, v_cons, v_int, v_loc, v_nil, v_not, v_z, w_if, w_inc, w_ret, w_seq, w_set, w_skip, List.getElem?_cons_zero, List.getElem?_cons_succ, List.set_cons_zero, List.set_cons_succ, ee_cmp0, ee_cmp1, ee_cmp2, ee_cmp3, ee_cmp4, ee_cmp5, ee_cmpL0, ee_cmpL1, ee_cmpL2, ee_cmpL3, ee_cmpL4, ee_cmpL5, ee_tru_eb, decide_eq_true_eq, ib_i, ie_b, ie_f, ie_t, ib_l, fin_i, fin_l, fin_v, fin_z, fin_a, fin_n, ee_b_0, ee_fld0, ee_fld1, ee_fld2, ee_fld3, bi_0, bi_1, bi_2, bi_3, bi_4, bi_5, bi_6, bi_7, bi_8, bi_9, bi_10, bl_20, bl_21, bl_22, bl_23, bl_24, bl_25, bl_26, bl_48, bl_49, un_0, un_1, un_2, un_3, if_true, if_false, ite_true, ite_false, Bool.false_eq_true, Bool.not_eq_false, decide_not, Bool.not_not, reduceCtorEq, st_i, st_l, st_r, st_n, ee_noL, ee_noL.eq_1, List.length_cons, List.length_nil, Nat.reduceAdd, Nat.reduceLT, Nat.zero_add, and_true, true_and, and_self, fin_ite, pu_0, pu_1, pu_3, sto_0, el_0, Bool.not_eq_true, decide_eq_false_iff_not, Bool.decide_eq_true, Bool.decide_eq_false, decide_true, decide_false, Bool.not_true, Bool.not_false, Bool.and_self, Bool.and_true, Bool.and_false, Bool.true_and, Bool.false_and, Bool.or_true, Bool.or_false, Bool.true_or, Bool.false_or, if_true, if_false, Bool.false_eq_true, ix_0, ix_1, ix_1000000, ix_8, tc_0, tc_1, tc_1000000, tc_8, mz_0, mz_1, mz_a, rvs, j_s, j_a, wI_at, Nat.reduceEqDiff, zero_ne_one_n, one_ne_zero_n]
end BWN
