/-! order on both sides -/
section ORD
variable {P : Nat → Nat → List Value → ee_W → Option (List Value × ee_W)} {d : Nat} {w : ee_W} {Z : ZX} {f : Nat → Nat} {a n : Nat}
theorem lb_hv {q : Nat → Nat} {m : Nat} (hs : so q n) {t : Nat} (ht : 0 < cu q n m t) : ∃ i, i < n ∧ m.testBit i = false ∧ q i = t ∧ LB (off1 (cu q n m) t) t (lvv q n t (m ||| 2 ^ i)) := by
  obtain ⟨i, h1, h2, h3⟩ := cu_pos.1 ht
  refine ⟨i, h1, h2, h3, ?_⟩
  have := LB_lvv hs t (m ||| 2 ^ i)
  rw [cu_off h1 h2, h3] at this
  exact this
theorem c_find (hd : 4 ≤ d) {a0 : Nat} (hn : n ≤ 6) (hr6 : ∀ i, i < n → w.1 98 i = Int32.ofNat (f i)) (hf : ∀ i, i < n → f i < 64) (ha : a0 < 64) :
    ∃ w' r v, ee_run ee_B P d 152 [.ref 231, .int (Int32.ofNat a0), .ref 98, .int (Int32.ofNat n)] w = some ([], w') ∧ w'.1 231 3 = Int32.ofNat v ∧ (∀ i, i < n → w'.1 233 i = Int32.ofNat (r i)) ∧ GR n a0 (oc f n) r 0 ∧ LB (oc f n) a0 v ∧ chg prt w w' := by
  obtain ⟨d, rfl⟩ : ∃ k, d = k + 1 := ⟨d - 1, by omega⟩
  have hd1 : 1 ≤ d := by omega
  have hd2 : 2 ≤ d := by omega
  have hd3 : 3 ≤ d := by omega
  obtain ⟨r0, r1, r2, r3, r4⟩ := ro_0
  have p98 : es_sh 98 = (0, 6) := al_1.2.2.2.2.2.2.2.2.1
  have pr98 : prt 98 = false := by decide
  obtain ⟨⟨x, q⟩, hl, i1, i2, i3, i4⟩ := for_a (x := ee_ev es_sh es_rf (ee_run ee_B P d) lx_152_1) (b := ee_evS es_sh es_rf (ee_run ee_B P d) lb_152_1)
    (fun k (b : ee_W × (Nat → Nat)) => (([some (.ref 231), some (.int (Int32.ofNat a0)), some (.ref 98), some (.int (Int32.ofNat n)), some (.int (Int32.ofNat k)), none, none, none], b.1) : ee_E × ee_W)) n
    (fun k b => AK b.1 k b.2 ∧ so b.2 k ∧ (∀ u, oc b.2 k u = oc f k u) ∧ chg prt w b.1)
    (by
      rintro k ⟨x, q⟩ hk ⟨i1, i2, i3, i4⟩
      dsimp only at i1 i2 i3 i4
      have h9 : Int32.ofNat k < Int32.ofNat n := (j_lt (by omega) (by omega)).2 hk
      have h8 : Int32.ofNat k < 6 := (j_lt (b := 6) (by omega) (by omega)).2 (by omega)
      have x1 : ee_ix (Int32.ofNat k) 6 = true := by rw [ixn (by omega)]; exact decide_eq_true (by omega)
      have v : x.1 98 k = Int32.ofNat (f k) := (i4.1 _ _ pr98).trans (hr6 k hk)
      have qb : ∀ i, i < k → q i < 64 := fun i hi => by
        obtain ⟨p, hp, e⟩ := oc_in i3 hi
        rw [← e]; exact hf p (by omega)
      obtain ⟨x2, q2, c1, c2, c3, c4, c5⟩ := c_insert (P := P) hd2 i1 (show k < 6 by omega) i2 qb (hf k hk)
      refine ⟨(x2, q2), ?_, c2, c3, fun u => ?_, chg_trans i4 c5⟩
      · simp only [h9, h8, x1, v, c1, p98, tnc (show k < 2147483648 by omega), k_6, j_s, j_a, lx_152_1, lb_152_1, ee_turn, k_0, k_1, k_5, k_6, nz_1, nz_5, nz_6, v_and, v_bin, v_call, v_cmp, v_cons, v_get, v_idx, v_int, v_len, v_loc, v_nil, v_z, w_exp0, w_exp1, w_if, w_inc, w_put, w_retv, w_seq, w_set, w_skip, w_sto, List.getElem?_cons_zero, List.getElem?_cons_succ, List.set_cons_zero, List.set_cons_succ, ee_cmp0, ee_cmp1, ee_cmp2, ee_cmp3, ee_cmp4, ee_cmp5, ee_cmpL0, ee_cmpL1, ee_cmpL2, ee_cmpL3, ee_cmpL4, ee_cmpL5, ee_tru_eb, decide_eq_true_eq, ib_i, ie_b, ie_f, ie_t, ib_l, fin_i, fin_l, fin_v, fin_z, fin_a, fin_n, ee_b_0, ee_fld0, ee_fld1, ee_fld2, ee_fld3, bi_0, bi_1, bi_2, bi_3, bi_4, bi_5, bi_6, bi_7, bi_8, bi_9, bi_10, bl_20, bl_21, bl_22, bl_23, bl_24, bl_25, bl_26, bl_48, bl_49, un_0, un_1, un_2, un_3, if_true, if_false, ite_true, ite_false, Bool.false_eq_true, Bool.not_eq_false, decide_not, Bool.not_not, reduceCtorEq, st_i, st_l, st_r, st_n, ee_noL, ee_noL.eq_1, List.length_cons, List.length_nil, Nat.reduceAdd, Nat.reduceLT, Nat.zero_add, and_true, true_and, and_self, fin_ite, pu_0, pu_1, pu_3, sto_0, el_0, Bool.not_eq_true, decide_eq_false_iff_not, Bool.decide_eq_true, Bool.decide_eq_false, decide_true, decide_false, Bool.not_true, Bool.not_false, Bool.and_self, Bool.and_true, Bool.and_false, Bool.true_and, Bool.false_and, Bool.or_true, Bool.or_false, Bool.true_or, Bool.false_or, if_true, if_false, Bool.false_eq_true]
      · rw [c4, i3]
        show _ = cn (fun i => decide (f i = u)) k + (if decide (f k = u) = true then 1 else 0)
        unfold oc
        by_cases y : f k = u
        · rw [if_pos y, if_pos (decide_eq_true y)]
        · rw [if_neg y, if_neg (by rw [decide_eq_false y]; decide)])
    (by
      rintro ⟨x, q⟩ -
      have h9 : ¬ Int32.ofNat n < Int32.ofNat n := fun y => by have := (j_lt (by omega) (by omega)).1 y; omega
      simp only [h9, lx_152_1, lb_152_1, ee_turn, k_0, k_1, k_5, k_6, nz_1, nz_5, nz_6, v_and, v_bin, v_call, v_cmp, v_cons, v_get, v_idx, v_int, v_len, v_loc, v_nil, v_z, w_exp0, w_exp1, w_if, w_inc, w_put, w_retv, w_seq, w_set, w_skip, w_sto, List.getElem?_cons_zero, List.getElem?_cons_succ, List.set_cons_zero, List.set_cons_succ, ee_cmp0, ee_cmp1, ee_cmp2, ee_cmp3, ee_cmp4, ee_cmp5, ee_cmpL0, ee_cmpL1, ee_cmpL2, ee_cmpL3, ee_cmpL4, ee_cmpL5, ee_tru_eb, decide_eq_true_eq, ib_i, ie_b, ie_f, ie_t, ib_l, fin_i, fin_l, fin_v, fin_z, fin_a, fin_n, ee_b_0, ee_fld0, ee_fld1, ee_fld2, ee_fld3, bi_0, bi_1, bi_2, bi_3, bi_4, bi_5, bi_6, bi_7, bi_8, bi_9, bi_10, bl_20, bl_21, bl_22, bl_23, bl_24, bl_25, bl_26, bl_48, bl_49, un_0, un_1, un_2, un_3, if_true, if_false, ite_true, ite_false, Bool.false_eq_true, Bool.not_eq_false, decide_not, Bool.not_not, reduceCtorEq, st_i, st_l, st_r, st_n, ee_noL, ee_noL.eq_1, List.length_cons, List.length_nil, Nat.reduceAdd, Nat.reduceLT, Nat.zero_add, and_true, true_and, and_self, fin_ite, pu_0, pu_1, pu_3, sto_0, el_0, Bool.not_eq_true, decide_eq_false_iff_not, Bool.decide_eq_true, Bool.decide_eq_false, decide_true, decide_false, Bool.not_true, Bool.not_false, Bool.and_self, Bool.and_true, Bool.and_false, Bool.true_and, Bool.false_and, Bool.or_true, Bool.or_false, Bool.true_or, Bool.false_or, if_true, if_false, Bool.false_eq_true])
    n 0 (ee_wI w 231 2 0, f) (by omega) ⟨⟨by rw [wI_at, if_pos ⟨rfl, rfl⟩]; rfl, fun i hi => by omega⟩, fun u v h1 h2 => by omega, fun u => rfl, chg_I (by decide) (chg_refl _ _)⟩
  dsimp only at hl i1 i2 i3 i4
  rw [k_0] at hl
  have qb : ∀ i, i < n → q i < 64 := fun i hi => by
    obtain ⟨p, hp, e⟩ := oc_in i3 hi
    rw [← e]; exact hf p hp
  have lf := c_leastFrom (P := P) hd2 i1 hn i2 qb ha (show 0 < 64 by omega)
  rw [k_0] at lf
  have hcu : cu q n 0 = oc f n := by
    funext t
    rw [← i3 t]
    unfold cu oc
    exact cn_congr n (fun i _ => by rw [Nat.zero_testBit]; rfl)
  have hv := LB_lvv i2 a0 0
  rw [hcu] at hv
  obtain ⟨⟨y, a, m, r, v7⟩, hl2, e1, e2, e3, e4, e5, e6, e7, e8⟩ := for_a (x := ee_ev es_sh es_rf (ee_run ee_B P d) lx_152_2) (b := ee_evS es_sh es_rf (ee_run ee_B P d) lb_152_2)
    (fun k (b : ee_W × Nat × Nat × (Nat → Nat) × Option Value) => (([some (.ref 231), some (.int (Int32.ofNat a0)), some (.ref 98), some (.int (Int32.ofNat n)), some (.int (Int32.ofNat b.2.1)), some (.int (Int32.ofNat b.2.2.1)), some (.int (Int32.ofNat k)), b.2.2.2.2], b.1) : ee_E × ee_W)) n
    (fun k b => b.2.1 < 64 ∧ b.2.2.1 < 64 ∧ AK b.1 n q ∧ cn (fun i => !b.2.2.1.testBit i) n + k = n ∧ (∀ j, j < k → b.1.1 233 j = Int32.ofNat (b.2.2.2.1 j)) ∧ b.1.1 231 3 = Int32.ofNat (lvv q n a0 0) ∧ chg prt w b.1 ∧ ∀ r', (∀ j, j < k → r' j = b.2.2.2.1 j) → GR (n - k) b.2.1 (cu q n b.2.2.1) r' k → GR n a0 (cu q n 0) r' 0)
    (by
      rintro k ⟨y, a, m, r, v7⟩ hk ⟨e1, e2, e3, e4, e5, e6, e7, e8⟩
      dsimp only at e1 e2 e3 e4 e5 e6 e7 e8
      have h9 : Int32.ofNat k < Int32.ofNat n := (j_lt (by omega) (by omega)).2 hk
      have h8 : Int32.ofNat k < 6 := (j_lt (b := 6) (by omega) (by omega)).2 (by omega)
      have x1 : ee_ix (Int32.ofNat k) 6 = true := by rw [ixn (by omega)]; exact decide_eq_true (by omega)
      have lbm := LB_lvv i2 a m
      have h0 : ∃ t, 0 < cu q n m t := by
        obtain ⟨i, z1, z2⟩ := (cn_pos n).1 (show 0 < cn (fun i => !m.testBit i) n by omega)
        refine ⟨q i, cu_pos.2 ⟨i, z1, ?_, rfl⟩⟩
        cases z : m.testBit i
        · rfl
        · rw [z] at z2; exact absurd z2 (by decide)
      have hex : ∃ i, i < n ∧ m.testBit i = false ∧ ndi a (q i) + lvv q n (q i) (m ||| 2 ^ i) = lvv q n a m := by
        obtain ⟨t, v', t1, t2, t3⟩ := LB_best lbm h0 (fun t ht => by
          obtain ⟨i, -, -, -, h⟩ := lb_hv i2 ht
          exact ⟨_, h⟩)
        obtain ⟨i, u1, u2, u3, u4⟩ := lb_hv i2 t1
        rw [LB_un t2 u4] at t3
        exact ⟨i, u1, u2, by rw [u3]; exact t3⟩
      obtain ⟨j, j1, j2, j3, j4, j5⟩ := c_low (P := P) hd3 e3 hn i2 qb e1 e2 hex
      have q1 : (decide ((0 : Int32) ≤ Int32.ofNat j) && decide (Int32.ofNat j ≤ 5)) = true := (inb (b := 5) (by omega) (by omega)).trans (decide_eq_true (by omega))
      have x2 : ee_ix (Int32.ofNat j) 6 = true := by rw [ixn (by omega)]; exact decide_eq_true (by omega)
      have v := e3.2 j j1
      have bo := bit_o m e2 j (by omega)
      have c2 := e3.1
      have off := cu_off (g := q) j1 j2
      refine ⟨(ee_wI y 233 k (Int32.ofNat (q j)), q j, m ||| 2 ^ j, fun x => if x = k then q j else r x, some (.int (Int32.ofNat j))), ?_, qb j j1, bit_l m e2 j (by omega), ⟨?_, fun i hi => ?_⟩, ?_, fun i hi => ?_, ?_, chg_I (by decide) e7, fun r' g1 g2 => ?_⟩
      · simp only [h9, h8, c2, j5, r_within hd1, q1, x1, x2, v, bo, tnc (show k < 2147483648 by omega), tnc (show j < 2147483648 by omega), r0, r1, r2, r3, r4, rvs, j_s, j_a, lx_152_2, lb_152_2, ee_turn, k_0, k_1, k_5, k_6, nz_1, nz_5, nz_6, v_and, v_bin, v_call, v_cmp, v_cons, v_get, v_idx, v_int, v_len, v_loc, v_nil, v_z, w_exp0, w_exp1, w_if, w_inc, w_put, w_retv, w_seq, w_set, w_skip, w_sto, List.getElem?_cons_zero, List.getElem?_cons_succ, List.set_cons_zero, List.set_cons_succ, ee_cmp0, ee_cmp1, ee_cmp2, ee_cmp3, ee_cmp4, ee_cmp5, ee_cmpL0, ee_cmpL1, ee_cmpL2, ee_cmpL3, ee_cmpL4, ee_cmpL5, ee_tru_eb, decide_eq_true_eq, ib_i, ie_b, ie_f, ie_t, ib_l, fin_i, fin_l, fin_v, fin_z, fin_a, fin_n, ee_b_0, ee_fld0, ee_fld1, ee_fld2, ee_fld3, bi_0, bi_1, bi_2, bi_3, bi_4, bi_5, bi_6, bi_7, bi_8, bi_9, bi_10, bl_20, bl_21, bl_22, bl_23, bl_24, bl_25, bl_26, bl_48, bl_49, un_0, un_1, un_2, un_3, if_true, if_false, ite_true, ite_false, Bool.false_eq_true, Bool.not_eq_false, decide_not, Bool.not_not, reduceCtorEq, st_i, st_l, st_r, st_n, ee_noL, ee_noL.eq_1, List.length_cons, List.length_nil, Nat.reduceAdd, Nat.reduceLT, Nat.zero_add, and_true, true_and, and_self, fin_ite, pu_0, pu_1, pu_3, sto_0, el_0, Bool.not_eq_true, decide_eq_false_iff_not, Bool.decide_eq_true, Bool.decide_eq_false, decide_true, decide_false, Bool.not_true, Bool.not_false, Bool.and_self, Bool.and_true, Bool.and_false, Bool.true_and, Bool.false_and, Bool.or_true, Bool.or_false, Bool.true_or, Bool.false_or, if_true, if_false, Bool.false_eq_true]
      · rw [wI_at, if_neg (by omega)]; exact c2
      · rw [wI_at, if_neg (by omega)]; exact e3.2 i hi
      · have := tot_off j1 j2
        dsimp only
        omega
      · dsimp only
        rw [wI_at]
        by_cases z : i = k
        · rw [if_pos ⟨rfl, z⟩, if_pos z]
        · rw [if_neg (fun h => z h.2), if_neg z]; exact e5 i (by omega)
      · dsimp only
        rw [wI_at, if_neg (by omega)]; exact e6
      · dsimp only at g1 g2
        have rk : r' k = q j := by
          have := g1 k (by omega)
          rw [if_pos rfl] at this
          exact this
        refine e8 r' (fun i hi => ?_) ?_
        · have := g1 i (by omega)
          rw [if_neg (by omega)] at this
          exact this
        · rw [show n - k = (n - (k + 1)) + 1 by omega]
          have lb2 := LB_lvv i2 (q j) (m ||| 2 ^ j)
          rw [off] at lb2 g2
          refine ⟨lvv q n a m, lvv q n (q j) (m ||| 2 ^ j), ?_, lbm, ?_, ?_, fun u u' hu hlt hL => ?_, ?_⟩
          · rw [rk]; exact cu_pos.2 ⟨j, j1, j2, rfl⟩
          · rw [rk]; exact lb2
          · rw [rk]; exact j3
          · rw [rk] at hlt
            obtain ⟨i, u1, u2, u3, u4⟩ := lb_hv i2 hu
            have ij : i < j := by
              by_cases z : i < j
              · exact z
              · have := so_le i2 (show j ≤ i by omega) u1
                omega
            rw [LB_un hL u4, ← u3]
            exact j4 i ij u2
          · rw [rk]; exact g2)
    (by
      rintro ⟨y, a, m, r, v7⟩ ⟨-, -, e3, -⟩
      dsimp only at e3
      have h9 : ¬ Int32.ofNat n < Int32.ofNat n := fun y => by have := (j_lt (by omega) (by omega)).1 y; omega
      have c2 := e3.1
      simp only [h9, c2, r0, lx_152_2, lb_152_2, ee_turn, k_0, k_1, k_5, k_6, nz_1, nz_5, nz_6, v_and, v_bin, v_call, v_cmp, v_cons, v_get, v_idx, v_int, v_len, v_loc, v_nil, v_z, w_exp0, w_exp1, w_if, w_inc, w_put, w_retv, w_seq, w_set, w_skip, w_sto, List.getElem?_cons_zero, List.getElem?_cons_succ, List.set_cons_zero, List.set_cons_succ, ee_cmp0, ee_cmp1, ee_cmp2, ee_cmp3, ee_cmp4, ee_cmp5, ee_cmpL0, ee_cmpL1, ee_cmpL2, ee_cmpL3, ee_cmpL4, ee_cmpL5, ee_tru_eb, decide_eq_true_eq, ib_i, ie_b, ie_f, ie_t, ib_l, fin_i, fin_l, fin_v, fin_z, fin_a, fin_n, ee_b_0, ee_fld0, ee_fld1, ee_fld2, ee_fld3, bi_0, bi_1, bi_2, bi_3, bi_4, bi_5, bi_6, bi_7, bi_8, bi_9, bi_10, bl_20, bl_21, bl_22, bl_23, bl_24, bl_25, bl_26, bl_48, bl_49, un_0, un_1, un_2, un_3, if_true, if_false, ite_true, ite_false, Bool.false_eq_true, Bool.not_eq_false, decide_not, Bool.not_not, reduceCtorEq, st_i, st_l, st_r, st_n, ee_noL, ee_noL.eq_1, List.length_cons, List.length_nil, Nat.reduceAdd, Nat.reduceLT, Nat.zero_add, and_true, true_and, and_self, fin_ite, pu_0, pu_1, pu_3, sto_0, el_0, Bool.not_eq_true, decide_eq_false_iff_not, Bool.decide_eq_true, Bool.decide_eq_false, decide_true, decide_false, Bool.not_true, Bool.not_false, Bool.and_self, Bool.and_true, Bool.and_false, Bool.true_and, Bool.false_and, Bool.or_true, Bool.or_false, Bool.true_or, Bool.false_or, if_true, if_false, Bool.false_eq_true])
    n 0 (ee_wI x 231 3 (Int32.ofNat (lvv q n a0 0)), a0, 0, f, none) (by omega)
    ⟨ha, Nat.zero_lt_succ _, ⟨by rw [wI_at, if_neg (by omega)]; exact i1.1, fun i hi => by rw [wI_at, if_neg (by omega)]; exact i1.2 i hi⟩, cn_all n (fun i _ => by rw [Nat.zero_testBit]; rfl), fun j hj => by omega, by rw [wI_at, if_pos ⟨rfl, rfl⟩], chg_I (by decide) i4, fun r' _ g => g⟩
  dsimp only at hl2 e1 e2 e3 e4 e5 e6 e7 e8
  rw [k_0] at hl2
  have fin : GR n a0 (cu q n 0) r 0 := e8 r (fun _ _ => rfl) (by
    rw [Nat.sub_self]
    intro t
    by_cases z : 0 < cu q n m t
    · obtain ⟨i, u1, u2, -⟩ := cu_pos.1 z
      have := (cn_pos (p := fun i => !m.testBit i) n).2 ⟨i, u1, by rw [u2]; rfl⟩
      omega
    · omega)
  rw [hcu] at fin
  refine ⟨y, r, lvv q n a0 0, ?_, e6, e5, fin, hv, e7⟩
  rw [rn_152 r0]
  simp only [w_while, hl, lf, hl2, r0, be_152, k_0, k_1, k_5, k_6, nz_1, nz_5, nz_6, v_and, v_bin, v_call, v_cmp, v_cons, v_get, v_idx, v_int, v_len, v_loc, v_nil, v_z, w_exp0, w_exp1, w_if, w_inc, w_put, w_retv, w_seq, w_set, w_skip, w_sto, List.getElem?_cons_zero, List.getElem?_cons_succ, List.set_cons_zero, List.set_cons_succ, ee_cmp0, ee_cmp1, ee_cmp2, ee_cmp3, ee_cmp4, ee_cmp5, ee_cmpL0, ee_cmpL1, ee_cmpL2, ee_cmpL3, ee_cmpL4, ee_cmpL5, ee_tru_eb, decide_eq_true_eq, ib_i, ie_b, ie_f, ie_t, ib_l, fin_i, fin_l, fin_v, fin_z, fin_a, fin_n, ee_b_0, ee_fld0, ee_fld1, ee_fld2, ee_fld3, bi_0, bi_1, bi_2, bi_3, bi_4, bi_5, bi_6, bi_7, bi_8, bi_9, bi_10, bl_20, bl_21, bl_22, bl_23, bl_24, bl_25, bl_26, bl_48, bl_49, un_0, un_1, un_2, un_3, if_true, if_false, ite_true, ite_false, Bool.false_eq_true, Bool.not_eq_false, decide_not, Bool.not_not, reduceCtorEq, st_i, st_l, st_r, st_n, ee_noL, ee_noL.eq_1, List.length_cons, List.length_nil, Nat.reduceAdd, Nat.reduceLT, Nat.zero_add, and_true, true_and, and_self, fin_ite, pu_0, pu_1, pu_3, sto_0, el_0, Bool.not_eq_true, decide_eq_false_iff_not, Bool.decide_eq_true, Bool.decide_eq_false, decide_true, decide_false, Bool.not_true, Bool.not_false, Bool.and_self, Bool.and_true, Bool.and_false, Bool.true_and, Bool.false_and, Bool.or_true, Bool.or_false, Bool.true_or, Bool.false_or, if_true, if_false, Bool.false_eq_true]
theorem b_order (hd : 5 ≤ d) (hS : Sim w) (i : Int32) : Both P d 151 322 [.int i] w := by
  obtain ⟨Z, h1, h2, h3⟩ := hS
  obtain ⟨d, rfl⟩ : ∃ k, d = k + 1 := ⟨d - 1, by omega⟩
  have hd1 : 1 ≤ d := by omega
  have hd3 : 3 ≤ d := by omega
  have hd4 : 4 ≤ d := by omega
  obtain ⟨p0, p1, p2, p3, p4, p5, p6, p7, p8, -⟩ := al_1
  obtain ⟨n, f, hq⟩ := RQ_of h3
  obtain ⟨a0, ha, hf⟩ := frm_of h3
  have hq0 := hq
  obtain ⟨q1, q2, q3⟩ := hq
  have e7 : w.1 1 7 = Int32.ofNat n := by rw [← q1]; exact h1.1.2.2.2.1.2.2.2.2.1
  have r6 : ∀ i, i < n → w.1 98 i = Int32.ofNat (f i) := fun i hi => (h1.1.2.2.2.1.2.2.2.2.2.1 i (by omega)).trans (q3 i hi).1
  have e0 : w.1 2 0 = Z.1.1.1 2 := h1.1.1.1.2.2.1
  have ef : Z.1.1.1 2 / 16 = Int32.ofNat a0 := hf
  have s0 := hd2_ok.1
  have e1 : Int32.ofNat n - 1 = nxv n := nxv_1 (by omega)
  have ent := nxv_t (m := n) (by omega)
  by_cases hi : i = -1 ∨ ∃ k, k < n ∧ i = Int32.ofNat k
  · obtain ⟨w1, r, v, c1, c2, c3, c4, c5, c6⟩ := c_find (P := P) (w := w) (d := d) hd4 q2 r6 (fun i hi => (q3 i hi).2) ha
    have hro : ol r n 0 = oc f n := GR_ol n 0 a0 _ (by omega) c4
    have hrp : ∀ t, oc r n t = oc f n t := fun t => by rw [← ol_0, hro]
    have hrw := GR_wl n 0 a0 _ v c4 c5
    have same : ∀ le b, OF n a0 (oc f n) le b → le = v ∧ ∀ j, j < n → r j = b j := by
      rintro le b ⟨b1, b2, b3⟩
      have x1 := b3 r hrp
      rw [hrw] at x1
      have hbo : ol b n 0 = oc f n := by rw [ol_0]; exact funext b1
      have x2 := LB_le (g := b) (n := n) n 0 a0 v (by omega) (by rw [hbo]; exact c5)
      rw [b2] at x2
      have x3 : le = v := by omega
      refine ⟨x3, ?_⟩
      rcases GR_lex n 0 a0 _ v (by omega) c4 c5 hbo (by rw [b2]; exact x3) with g | ⟨p, -, g2, g3, g4⟩
      · exact fun j hj => g j (Nat.zero_le _) hj
      · exact absurd ⟨p, g2, fun j hj => g3 j (Nat.zero_le _) hj, g4⟩ (x1.2 x3.symm)
    obtain ⟨res, hres⟩ : ∃ res : Int32, res = if i = -1 then Int32.ofNat v else Int32.ofNat (r i.toInt.toNat) := ⟨_, rfl⟩
    refine both_of (Z' := Z) (r := .int res) h2 h3 h3 ?_ (fun w2 hM => ?_)
    · refine ⟨w1, ?_, CZ_rest h1 c6 (by decide) (by decide) (by decide) (fun c k1 k2 => prt_f (by omega)) (CA_chg h1.1 c6 (fun c k1 k2 => prt_f (by omega))) (CA_chg h1.2.1 c6 (fun c k1 k2 => prt_f (by omega))) (Nat.le_refl _), chg_mono c6 (fun c h => prt_f (by have := plo_f.1 h; omega))⟩
      rw [rn_151 cz_0, hres]
      obtain ⟨r0, r1, r2, r3, r4⟩ := ro_0
      rcases hi with rfl | ⟨k, hk, rfl⟩
      · simp only [e7, e0, ef, nz_16, c1, c2, cz_0, cz_r0, cz_r6, p0, p1, p4, s0, r0, rvs, bd_151, k_0, k_1, k_16, k_4294967294, k_4294967295, nz_1, nz_16, v_and, v_bin, v_call, v_cmp, v_cons, v_get, v_int, v_loc, v_nil, v_not, v_tern, v_z, w_exp0, w_exp1, w_if, w_ret, w_seq, List.getElem?_cons_zero, List.getElem?_cons_succ, List.set_cons_zero, List.set_cons_succ, ee_cmp0, ee_cmp1, ee_cmp2, ee_cmp3, ee_cmp4, ee_cmp5, ee_cmpL0, ee_cmpL1, ee_cmpL2, ee_cmpL3, ee_cmpL4, ee_cmpL5, ee_tru_eb, decide_eq_true_eq, ib_i, ie_b, ie_f, ie_t, ib_l, fin_i, fin_l, fin_v, fin_z, fin_a, fin_n, ee_b_0, ee_fld0, ee_fld1, ee_fld2, ee_fld3, bi_0, bi_1, bi_2, bi_3, bi_4, bi_5, bi_6, bi_7, bi_8, bi_9, bi_10, bl_20, bl_21, bl_22, bl_23, bl_24, bl_25, bl_26, bl_48, bl_49, un_0, un_1, un_2, un_3, if_true, if_false, ite_true, ite_false, Bool.false_eq_true, Bool.not_eq_false, decide_not, Bool.not_not, reduceCtorEq, st_i, st_l, st_r, st_n, ee_noL, ee_noL.eq_1, List.length_cons, List.length_nil, Nat.reduceAdd, Nat.reduceLT, Nat.zero_add, and_true, true_and, and_self, fin_ite, pu_0, pu_1, pu_3, sto_0, el_0, Bool.not_eq_true, decide_eq_false_iff_not, Bool.decide_eq_true, Bool.decide_eq_false, decide_true, decide_false, Bool.not_true, Bool.not_false, Bool.and_self, Bool.and_true, Bool.and_false, Bool.true_and, Bool.false_and, Bool.or_true, Bool.or_false, Bool.true_or, Bool.false_or, if_true, if_false, Bool.false_eq_true]
      · have nk : ¬ Int32.ofNat k = -1 := ofN_ne (by omega)
        have wi : (decide ((0 : Int32) ≤ Int32.ofNat k) && decide (Int32.ofNat k ≤ nxv n)) = true := by
          rw [in_iff, nI_t (by omega), ent, show (0 : Int32).toInt = 0 from rfl]
          omega
        have wi5 : (decide ((0 : Int32) ≤ Int32.ofNat k) && decide (Int32.ofNat k ≤ 5)) = true := (inb (b := 5) (by omega) (by omega)).trans (decide_eq_true (by omega))
        have x1 : ee_ix (Int32.ofNat k) 6 = true := by rw [ixn (by omega)]; exact decide_eq_true (by omega)
        have v3 := c3 k hk
        have ra : ee_run ee_B P d 156 [.ref 231, .int (Int32.ofNat k)] w1 = some ([.int (Int32.ofNat (r k))], w1) := by
          obtain ⟨d', rfl⟩ : ∃ k, d = k + 1 := ⟨d - 1, by omega⟩
          rw [rn_156 r0]
          simp only [r_within (show 1 ≤ d' by omega), wi5, x1, v3, tnc (show k < 2147483648 by omega), r0, r2, r4, rvs, bd_156, k_0, k_4294967295, k_5, nz_5, v_call, v_cons, v_get, v_idx, v_int, v_loc, v_nil, v_tern, v_z, w_ret, List.getElem?_cons_zero, List.getElem?_cons_succ, List.set_cons_zero, List.set_cons_succ, ee_cmp0, ee_cmp1, ee_cmp2, ee_cmp3, ee_cmp4, ee_cmp5, ee_cmpL0, ee_cmpL1, ee_cmpL2, ee_cmpL3, ee_cmpL4, ee_cmpL5, ee_tru_eb, decide_eq_true_eq, ib_i, ie_b, ie_f, ie_t, ib_l, fin_i, fin_l, fin_v, fin_z, fin_a, fin_n, ee_b_0, ee_fld0, ee_fld1, ee_fld2, ee_fld3, bi_0, bi_1, bi_2, bi_3, bi_4, bi_5, bi_6, bi_7, bi_8, bi_9, bi_10, bl_20, bl_21, bl_22, bl_23, bl_24, bl_25, bl_26, bl_48, bl_49, un_0, un_1, un_2, un_3, if_true, if_false, ite_true, ite_false, Bool.false_eq_true, Bool.not_eq_false, decide_not, Bool.not_not, reduceCtorEq, st_i, st_l, st_r, st_n, ee_noL, ee_noL.eq_1, List.length_cons, List.length_nil, Nat.reduceAdd, Nat.reduceLT, Nat.zero_add, and_true, true_and, and_self, fin_ite, pu_0, pu_1, pu_3, sto_0, el_0, Bool.not_eq_true, decide_eq_false_iff_not, Bool.decide_eq_true, Bool.decide_eq_false, decide_true, decide_false, Bool.not_true, Bool.not_false, Bool.and_self, Bool.and_true, Bool.and_false, Bool.true_and, Bool.false_and, Bool.or_true, Bool.or_false, Bool.true_or, Bool.false_or, if_true, if_false, Bool.false_eq_true]
        have et : (Int32.ofNat k).toInt.toNat = k := by rw [nI_t (by omega)]; omega
        rw [if_neg nk, et]
        simp only [nk, e7, e1, r_within hd1, wi, e0, ef, nz_16, c1, ra, cz_0, cz_r0, cz_r6, p0, p1, p4, s0, r0, rvs, bd_151, k_0, k_1, k_16, k_4294967294, k_4294967295, nz_1, nz_16, v_and, v_bin, v_call, v_cmp, v_cons, v_get, v_int, v_loc, v_nil, v_not, v_tern, v_z, w_exp0, w_exp1, w_if, w_ret, w_seq, List.getElem?_cons_zero, List.getElem?_cons_succ, List.set_cons_zero, List.set_cons_succ, ee_cmp0, ee_cmp1, ee_cmp2, ee_cmp3, ee_cmp4, ee_cmp5, ee_cmpL0, ee_cmpL1, ee_cmpL2, ee_cmpL3, ee_cmpL4, ee_cmpL5, ee_tru_eb, decide_eq_true_eq, ib_i, ie_b, ie_f, ie_t, ib_l, fin_i, fin_l, fin_v, fin_z, fin_a, fin_n, ee_b_0, ee_fld0, ee_fld1, ee_fld2, ee_fld3, bi_0, bi_1, bi_2, bi_3, bi_4, bi_5, bi_6, bi_7, bi_8, bi_9, bi_10, bl_20, bl_21, bl_22, bl_23, bl_24, bl_25, bl_26, bl_48, bl_49, un_0, un_1, un_2, un_3, if_true, if_false, ite_true, ite_false, Bool.false_eq_true, Bool.not_eq_false, decide_not, Bool.not_not, reduceCtorEq, st_i, st_l, st_r, st_n, ee_noL, ee_noL.eq_1, List.length_cons, List.length_nil, Nat.reduceAdd, Nat.reduceLT, Nat.zero_add, and_true, true_and, and_self, fin_ite, pu_0, pu_1, pu_3, sto_0, el_0, Bool.not_eq_true, decide_eq_false_iff_not, Bool.decide_eq_true, Bool.decide_eq_false, decide_true, decide_false, Bool.not_true, Bool.not_false, Bool.and_self, Bool.and_true, Bool.and_false, Bool.true_and, Bool.false_and, Bool.or_true, Bool.or_false, Bool.true_or, Bool.false_or, if_true, if_false, Bool.false_eq_true]
    · obtain ⟨w0, w3, le, b, v4, m1, m2, m3, m4, m5⟩ := m_best (P := P) (w := w2) (d := d) hd3 hM hq0 ha hf i
      obtain ⟨x1, x2⟩ := same le b m3
      have hn3 : w2.1 237 3 = Int32.ofNat n := by rw [← q1]; exact hM.1.1.2.2.2.1
      refine ⟨w3, ?_, MZ_scr hM h3 m5 (fun c k k1 k2 => by unfold p248; omega), chk_mono m5 (fun c k h => by unfold p248 at h; unfold phi; omega)⟩
      rw [rn_322 mz_0, hres]
      rcases hi with rfl | ⟨k, hk, rfl⟩
      · have wi : (decide ((-1 : Int32) ≤ -1) && decide ((-1 : Int32) ≤ nxv n)) = true := by
          rw [in_iff, ent, show (-1 : Int32).toInt = -1 from rfl]
          omega
        rw [if_pos rfl, ← x1]
        simp only [hn3, e1, r_isIn hd1, wi, m1, w_while, m2, be_322, k_0, k_1, k_1000000, k_3, k_4294967294, k_4294967295, nz_1, nz_1000000, nz_3, v_bin, v_call, v_cmp, v_cons, v_get, v_idx, v_int, v_loc, v_nil, v_not, v_tern, v_z, w_exp0, w_exp1, w_if, w_inc, w_ret, w_seq, w_set, w_skip, w_sto, List.getElem?_cons_zero, List.getElem?_cons_succ, List.set_cons_zero, List.set_cons_succ, ee_cmp0, ee_cmp1, ee_cmp2, ee_cmp3, ee_cmp4, ee_cmp5, ee_cmpL0, ee_cmpL1, ee_cmpL2, ee_cmpL3, ee_cmpL4, ee_cmpL5, ee_tru_eb, decide_eq_true_eq, ib_i, ie_b, ie_f, ie_t, ib_l, fin_i, fin_l, fin_v, fin_z, fin_a, fin_n, ee_b_0, ee_fld0, ee_fld1, ee_fld2, ee_fld3, bi_0, bi_1, bi_2, bi_3, bi_4, bi_5, bi_6, bi_7, bi_8, bi_9, bi_10, bl_20, bl_21, bl_22, bl_23, bl_24, bl_25, bl_26, bl_48, bl_49, un_0, un_1, un_2, un_3, if_true, if_false, ite_true, ite_false, Bool.false_eq_true, Bool.not_eq_false, decide_not, Bool.not_not, reduceCtorEq, st_i, st_l, st_r, st_n, ee_noL, ee_noL.eq_1, List.length_cons, List.length_nil, Nat.reduceAdd, Nat.reduceLT, Nat.zero_add, and_true, true_and, and_self, fin_ite, pu_0, pu_1, pu_3, sto_0, el_0, Bool.not_eq_true, decide_eq_false_iff_not, Bool.decide_eq_true, Bool.decide_eq_false, decide_true, decide_false, Bool.not_true, Bool.not_false, Bool.and_self, Bool.and_true, Bool.and_false, Bool.true_and, Bool.false_and, Bool.or_true, Bool.or_false, Bool.true_or, Bool.false_or, if_true, if_false, Bool.false_eq_true, ix_0, ix_1, ix_1000000, ix_3, tc_0, tc_1, tc_1000000, tc_3, mz_0, mz_1, mz_a, rvs, j_s, j_a, wI_at, Nat.reduceEqDiff, zero_ne_one_n, one_ne_zero_n]
      · have nk : ¬ Int32.ofNat k = -1 := ofN_ne (by omega)
        have wi : (decide ((-1 : Int32) ≤ Int32.ofNat k) && decide (Int32.ofNat k ≤ nxv n)) = true := by
          rw [in_iff, nI_t (by omega), ent, show (-1 : Int32).toInt = -1 from rfl]
          omega
        have x6 : ee_ix (Int32.ofNat k) 6 = true := by rw [ixn (by omega)]; exact decide_eq_true (by omega)
        have v3 := m4 k hk
        have et : (Int32.ofNat k).toInt.toNat = k := by rw [nI_t (by omega)]; omega
        rw [if_neg nk, et, x2 k hk]
        simp only [nk, hn3, e1, r_isIn hd1, wi, m1, w_while, m2, x6, v3, tnc (show k < 2147483648 by omega), mz_rb, mz_rbs, be_322, k_0, k_1, k_1000000, k_3, k_4294967294, k_4294967295, nz_1, nz_1000000, nz_3, v_bin, v_call, v_cmp, v_cons, v_get, v_idx, v_int, v_loc, v_nil, v_not, v_tern, v_z, w_exp0, w_exp1, w_if, w_inc, w_ret, w_seq, w_set, w_skip, w_sto, List.getElem?_cons_zero, List.getElem?_cons_succ, List.set_cons_zero, List.set_cons_succ, ee_cmp0, ee_cmp1, ee_cmp2, ee_cmp3, ee_cmp4, ee_cmp5, ee_cmpL0, ee_cmpL1, ee_cmpL2, ee_cmpL3, ee_cmpL4, ee_cmpL5, ee_tru_eb, decide_eq_true_eq, ib_i, ie_b, ie_f, ie_t, ib_l, fin_i, fin_l, fin_v, fin_z, fin_a, fin_n, ee_b_0, ee_fld0, ee_fld1, ee_fld2, ee_fld3, bi_0, bi_1, bi_2, bi_3, bi_4, bi_5, bi_6, bi_7, bi_8, bi_9, bi_10, bl_20, bl_21, bl_22, bl_23, bl_24, bl_25, bl_26, bl_48, bl_49, un_0, un_1, un_2, un_3, if_true, if_false, ite_true, ite_false, Bool.false_eq_true, Bool.not_eq_false, decide_not, Bool.not_not, reduceCtorEq, st_i, st_l, st_r, st_n, ee_noL, ee_noL.eq_1, List.length_cons, List.length_nil, Nat.reduceAdd, Nat.reduceLT, Nat.zero_add, and_true, true_and, and_self, fin_ite, pu_0, pu_1, pu_3, sto_0, el_0, Bool.not_eq_true, decide_eq_false_iff_not, Bool.decide_eq_true, Bool.decide_eq_false, decide_true, decide_false, Bool.not_true, Bool.not_false, Bool.and_self, Bool.and_true, Bool.and_false, Bool.true_and, Bool.false_and, Bool.or_true, Bool.or_false, Bool.true_or, Bool.false_or, if_true, if_false, Bool.false_eq_true, ix_0, ix_1, ix_1000000, ix_3, tc_0, tc_1, tc_1000000, tc_3, mz_0, mz_1, mz_a, rvs, j_s, j_a, wI_at, Nat.reduceEqDiff, zero_ne_one_n, one_ne_zero_n]
  · refine both_q h1 h2 h3 (r := .int (-2)) ?_ ?_
    · have nk : ¬ i = -1 := fun z => hi (Or.inl z)
      have wi : (decide ((0 : Int32) ≤ i) && decide (i ≤ nxv n)) = false := bf (fun z => by
        rw [in_iff, ent, show (0 : Int32).toInt = 0 from rfl] at z
        exact hi (Or.inr ⟨i.toInt.toNat, by omega, ofN z.1⟩))
      rw [rn_151 cz_0]
      simp only [nk, e7, e1, r_within hd1, wi, cz_0, cz_r0, p0, rvs, bd_151, k_0, k_1, k_16, k_4294967294, k_4294967295, nz_1, nz_16, v_and, v_bin, v_call, v_cmp, v_cons, v_get, v_int, v_loc, v_nil, v_not, v_tern, v_z, w_exp0, w_exp1, w_if, w_ret, w_seq, List.getElem?_cons_zero, List.getElem?_cons_succ, List.set_cons_zero, List.set_cons_succ, ee_cmp0, ee_cmp1, ee_cmp2, ee_cmp3, ee_cmp4, ee_cmp5, ee_cmpL0, ee_cmpL1, ee_cmpL2, ee_cmpL3, ee_cmpL4, ee_cmpL5, ee_tru_eb, decide_eq_true_eq, ib_i, ie_b, ie_f, ie_t, ib_l, fin_i, fin_l, fin_v, fin_z, fin_a, fin_n, ee_b_0, ee_fld0, ee_fld1, ee_fld2, ee_fld3, bi_0, bi_1, bi_2, bi_3, bi_4, bi_5, bi_6, bi_7, bi_8, bi_9, bi_10, bl_20, bl_21, bl_22, bl_23, bl_24, bl_25, bl_26, bl_48, bl_49, un_0, un_1, un_2, un_3, if_true, if_false, ite_true, ite_false, Bool.false_eq_true, Bool.not_eq_false, decide_not, Bool.not_not, reduceCtorEq, st_i, st_l, st_r, st_n, ee_noL, ee_noL.eq_1, List.length_cons, List.length_nil, Nat.reduceAdd, Nat.reduceLT, Nat.zero_add, and_true, true_and, and_self, fin_ite, pu_0, pu_1, pu_3, sto_0, el_0, Bool.not_eq_true, decide_eq_false_iff_not, Bool.decide_eq_true, Bool.decide_eq_false, decide_true, decide_false, Bool.not_true, Bool.not_false, Bool.and_self, Bool.and_true, Bool.and_false, Bool.true_and, Bool.false_and, Bool.or_true, Bool.or_false, Bool.true_or, Bool.false_or, if_true, if_false, Bool.false_eq_true]
    · have hn3 : w.1 237 3 = Int32.ofNat n := by rw [← q1]; exact h2.1.1.2.2.2.1
      have wi : (decide ((-1 : Int32) ≤ i) && decide (i ≤ nxv n)) = false := bf (fun z => by
        rw [in_iff, ent, show (-1 : Int32).toInt = -1 from rfl] at z
        by_cases y : i.toInt = -1
        · exact hi (Or.inl (by rw [i32_eq, y]; rfl))
        · exact hi (Or.inr ⟨i.toInt.toNat, by omega, ofN (by omega)⟩))
      rw [rn_322 mz_0]
      simp only [hn3, e1, r_isIn hd1, wi, be_322, k_0, k_1, k_1000000, k_3, k_4294967294, k_4294967295, nz_1, nz_1000000, nz_3, v_bin, v_call, v_cmp, v_cons, v_get, v_idx, v_int, v_loc, v_nil, v_not, v_tern, v_z, w_exp0, w_exp1, w_if, w_inc, w_ret, w_seq, w_set, w_skip, w_sto, List.getElem?_cons_zero, List.getElem?_cons_succ, List.set_cons_zero, List.set_cons_succ, ee_cmp0, ee_cmp1, ee_cmp2, ee_cmp3, ee_cmp4, ee_cmp5, ee_cmpL0, ee_cmpL1, ee_cmpL2, ee_cmpL3, ee_cmpL4, ee_cmpL5, ee_tru_eb, decide_eq_true_eq, ib_i, ie_b, ie_f, ie_t, ib_l, fin_i, fin_l, fin_v, fin_z, fin_a, fin_n, ee_b_0, ee_fld0, ee_fld1, ee_fld2, ee_fld3, bi_0, bi_1, bi_2, bi_3, bi_4, bi_5, bi_6, bi_7, bi_8, bi_9, bi_10, bl_20, bl_21, bl_22, bl_23, bl_24, bl_25, bl_26, bl_48, bl_49, un_0, un_1, un_2, un_3, if_true, if_false, ite_true, ite_false, Bool.false_eq_true, Bool.not_eq_false, decide_not, Bool.not_not, reduceCtorEq, st_i, st_l, st_r, st_n, ee_noL, ee_noL.eq_1, List.length_cons, List.length_nil, Nat.reduceAdd, Nat.reduceLT, Nat.zero_add, and_true, true_and, and_self, fin_ite, pu_0, pu_1, pu_3, sto_0, el_0, Bool.not_eq_true, decide_eq_false_iff_not, Bool.decide_eq_true, Bool.decide_eq_false, decide_true, decide_false, Bool.not_true, Bool.not_false, Bool.and_self, Bool.and_true, Bool.and_false, Bool.true_and, Bool.false_and, Bool.or_true, Bool.or_false, Bool.true_or, Bool.false_or, if_true, if_false, Bool.false_eq_true, ix_0, ix_1, ix_1000000, ix_3, tc_0, tc_1, tc_1000000, tc_3, mz_0, mz_1, mz_a, rvs, j_s, j_a, wI_at, Nat.reduceEqDiff, zero_ne_one_n, one_ne_zero_n]
end ORD
