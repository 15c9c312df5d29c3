/-! the reference's row of requests; nearest on both sides -/
section NRM
variable {P : Nat → Nat → List Value → ee_W → Option (List Value × ee_W)} {d : Nat} {w : ee_W} {Z : ZX} {g : Nat → Nat} {a n m : Nat}
theorem mz_rw : es_rf 236 27 = some 247 := by decide +kernel
theorem mz_rws : es_sh 247 = (0, 6) := by decide +kernel
def p247 (c _k : Nat) : Prop := c = 247
theorem p247_no (k : Nat) : ¬ p247 237 k := by unfold p247; omega
def RW (w : ee_W) (g : Nat → Nat) (n : Nat) : Prop := ∀ k, k < n → w.1 247 k = Int32.ofNat (g k)
def sww (w : ee_W) (i k : Nat) : ee_W := ee_wI (ee_wI w 247 i (w.1 247 k)) 247 k (w.1 247 i)
theorem RW_sw {i k : Nat} (h : RW w g n) (hi : i < n) (hk : k < n) : RW (sww w i k) (sw g i k) n := by
  intro x hx
  unfold sww sw
  rw [wI_at, wI_at, h i hi, h k hk]
  by_cases y : x = k
  · rw [if_pos ⟨rfl, y⟩, if_pos y]
  · rw [if_neg (fun z => y z.2), if_neg y]
    by_cases z : x = i
    · rw [if_pos ⟨rfl, z⟩, if_pos z]
    · rw [if_neg (fun q => z q.2), if_neg z]; exact h x hx
theorem sww_chk {w0 : ee_W} {i k : Nat} (h : chk p247 w0 w) : chk p247 w0 (sww w i k) := chk_I rfl (chk_I rfl h)
theorem m_swap (hd : 1 ≤ d) {i k : Nat} (hi : i < 6) (hk : k < 6) : ee_run ee_B P d 324 [.ref 236, .int (Int32.ofNat i), .int (Int32.ofNat k)] w = some ([], sww w i k) := by
  obtain ⟨d, rfl⟩ : ∃ k, d = k + 1 := ⟨d - 1, by omega⟩
  have x1 : ee_ix (Int32.ofNat i) 6 = true := by rw [ixn (by omega)]; exact decide_eq_true hi
  have x2 : ee_ix (Int32.ofNat k) 6 = true := by rw [ixn (by omega)]; exact decide_eq_true hk
  unfold sww
  rw [rn_324 mz_0]
  simp only [x1, x2, tnc (show i < 2147483648 by omega), tnc (show k < 2147483648 by omega), mz_rw, mz_rws, bd_324, v_get, v_idx, v_loc, w_retv, w_seq, w_set, w_sto, List.getElem?_cons_zero, List.getElem?_cons_succ, List.set_cons_zero, List.set_cons_succ, ee_cmp0, ee_cmp1, ee_cmp2, ee_cmp3, ee_cmp4, ee_cmp5, ee_cmpL0, ee_cmpL1, ee_cmpL2, ee_cmpL3, ee_cmpL4, ee_cmpL5, ee_tru_eb, decide_eq_true_eq, ib_i, ie_b, ie_f, ie_t, ib_l, fin_i, fin_l, fin_v, fin_z, fin_a, fin_n, ee_b_0, ee_fld0, ee_fld1, ee_fld2, ee_fld3, bi_0, bi_1, bi_2, bi_3, bi_4, bi_5, bi_6, bi_7, bi_8, bi_9, bi_10, bl_20, bl_21, bl_22, bl_23, bl_24, bl_25, bl_26, bl_48, bl_49, un_0, un_1, un_2, un_3, if_true, if_false, ite_true, ite_false, Bool.false_eq_true, Bool.not_eq_false, decide_not, Bool.not_not, reduceCtorEq, st_i, st_l, st_r, st_n, ee_noL, ee_noL.eq_1, List.length_cons, List.length_nil, Nat.reduceAdd, Nat.reduceLT, Nat.zero_add, and_true, true_and, and_self, fin_ite, pu_0, pu_1, pu_3, sto_0, el_0, Bool.not_eq_true, decide_eq_false_iff_not, Bool.decide_eq_true, Bool.decide_eq_false, decide_true, decide_false, Bool.not_true, Bool.not_false, Bool.and_self, Bool.and_true, Bool.and_false, Bool.true_and, Bool.false_and, Bool.or_true, Bool.or_false, Bool.true_or, Bool.false_or, if_true, if_false, Bool.false_eq_true, mz_0, mz_1, mz_a, rvs, j_s, j_a, wI_at, Nat.reduceEqDiff, zero_ne_one_n, one_ne_zero_n]
theorem m_layRow (hd : 2 ≤ d) (h237 : w.1 237 3 = Int32.ofNat n) (hr : ∀ i, i < n → w.1 237 (32 + i) = Int32.ofNat (g i)) (hg : ∀ i, i < n → g i < 64) (hn : n ≤ 6) :
    ∃ w' g', ee_run ee_B P d 323 [.ref 236] w = some ([], w') ∧ RW w' g' n ∧ (∀ t, oc g' n t = oc g n t) ∧ (∀ x y, x < y → y < n → g' x ≤ g' y) ∧ chk p247 w w' := by
  obtain ⟨d, rfl⟩ : ∃ k, d = k + 1 := ⟨d - 1, by omega⟩
  have hd1 : 1 ≤ d := by omega
  have nn : ¬ Int32.ofNat n < Int32.ofNat n := fun y => by have := (j_lt (by omega) (by omega)).1 y; omega
  obtain ⟨wa, ha, hia⟩ := for_a (x := ee_ev es_sh es_rf (ee_run ee_B P d) lx_323_1) (b := ee_evS es_sh es_rf (ee_run ee_B P d) lb_323_1)
    (fun k (x : ee_W) => (([some (.ref 236), some (.int (Int32.ofNat k)), none], x) : ee_E × ee_W)) n
    (fun k x => (∀ j, j < k → x.1 247 j = Int32.ofNat (g j)) ∧ chk p247 w x)
    (by
      rintro k x hk ⟨i1, i2⟩
      have h9 : Int32.ofNat k < Int32.ofNat n := (j_lt (by omega) (by omega)).2 hk
      have e3 : x.1 237 3 = Int32.ofNat n := (i2.1 _ _ (p247_no _)).trans h237
      have e4 : x.1 237 (32 + k) = Int32.ofNat (g k) := (i2.1 _ _ (p247_no _)).trans (hr k hk)
      have e32 : (32 : Int32) + Int32.ofNat k = Int32.ofNat (32 + k) := j_a 32 k
      have x1 : ee_ix (Int32.ofNat k) 6 = true := by rw [ixn (by omega)]; exact decide_eq_true (by omega)
      have x2 : ee_ix (Int32.ofNat (32 + k)) 1369 = true := by rw [ixn (by omega)]; exact decide_eq_true (by omega)
      refine ⟨ee_wI x 247 k (Int32.ofNat (g k)), ?_, fun j hj => ?_, chk_I rfl i2⟩
      · simp only [h9, e3, e4, e32, x1, x2, tnc (show k < 2147483648 by omega), tnc (show 32 + k < 2147483648 by omega), mz_rw, mz_rws, lx_323_1, lb_323_1, ee_turn, k_0, k_1, k_3, k_32, nz_1, nz_3, nz_32, v_bin, v_call, v_cmp, v_cons, v_get, v_idx, v_int, v_loc, v_nil, w_exp0, w_exp1, w_if, w_inc, w_retv, w_seq, w_set, w_skip, w_sto, List.getElem?_cons_zero, List.getElem?_cons_succ, List.set_cons_zero, List.set_cons_succ, ee_cmp0, ee_cmp1, ee_cmp2, ee_cmp3, ee_cmp4, ee_cmp5, ee_cmpL0, ee_cmpL1, ee_cmpL2, ee_cmpL3, ee_cmpL4, ee_cmpL5, ee_tru_eb, decide_eq_true_eq, ib_i, ie_b, ie_f, ie_t, ib_l, fin_i, fin_l, fin_v, fin_z, fin_a, fin_n, ee_b_0, ee_fld0, ee_fld1, ee_fld2, ee_fld3, bi_0, bi_1, bi_2, bi_3, bi_4, bi_5, bi_6, bi_7, bi_8, bi_9, bi_10, bl_20, bl_21, bl_22, bl_23, bl_24, bl_25, bl_26, bl_48, bl_49, un_0, un_1, un_2, un_3, if_true, if_false, ite_true, ite_false, Bool.false_eq_true, Bool.not_eq_false, decide_not, Bool.not_not, reduceCtorEq, st_i, st_l, st_r, st_n, ee_noL, ee_noL.eq_1, List.length_cons, List.length_nil, Nat.reduceAdd, Nat.reduceLT, Nat.zero_add, and_true, true_and, and_self, fin_ite, pu_0, pu_1, pu_3, sto_0, el_0, Bool.not_eq_true, decide_eq_false_iff_not, Bool.decide_eq_true, Bool.decide_eq_false, decide_true, decide_false, Bool.not_true, Bool.not_false, Bool.and_self, Bool.and_true, Bool.and_false, Bool.true_and, Bool.false_and, Bool.or_true, Bool.or_false, Bool.true_or, Bool.false_or, if_true, if_false, Bool.false_eq_true, tc_0, ix_0, tc_1, ix_1, tc_3, ix_3, tc_32, ix_32, mz_0, mz_1, mz_a, rvs, j_s, j_a, wI_at, Nat.reduceEqDiff, zero_ne_one_n, one_ne_zero_n]
      · rw [wI_at]
        by_cases y : j = k
        · rw [if_pos ⟨rfl, y⟩, y]
        · rw [if_neg (fun z => y z.2)]; exact i1 j (by omega))
    (by
      rintro x ⟨-, i2⟩
      have e3 : x.1 237 3 = Int32.ofNat n := (i2.1 _ _ (p247_no _)).trans h237
      simp only [nn, e3, lx_323_1, lb_323_1, ee_turn, k_0, k_1, k_3, k_32, nz_1, nz_3, nz_32, v_bin, v_call, v_cmp, v_cons, v_get, v_idx, v_int, v_loc, v_nil, w_exp0, w_exp1, w_if, w_inc, w_retv, w_seq, w_set, w_skip, w_sto, List.getElem?_cons_zero, List.getElem?_cons_succ, List.set_cons_zero, List.set_cons_succ, ee_cmp0, ee_cmp1, ee_cmp2, ee_cmp3, ee_cmp4, ee_cmp5, ee_cmpL0, ee_cmpL1, ee_cmpL2, ee_cmpL3, ee_cmpL4, ee_cmpL5, ee_tru_eb, decide_eq_true_eq, ib_i, ie_b, ie_f, ie_t, ib_l, fin_i, fin_l, fin_v, fin_z, fin_a, fin_n, ee_b_0, ee_fld0, ee_fld1, ee_fld2, ee_fld3, bi_0, bi_1, bi_2, bi_3, bi_4, bi_5, bi_6, bi_7, bi_8, bi_9, bi_10, bl_20, bl_21, bl_22, bl_23, bl_24, bl_25, bl_26, bl_48, bl_49, un_0, un_1, un_2, un_3, if_true, if_false, ite_true, ite_false, Bool.false_eq_true, Bool.not_eq_false, decide_not, Bool.not_not, reduceCtorEq, st_i, st_l, st_r, st_n, ee_noL, ee_noL.eq_1, List.length_cons, List.length_nil, Nat.reduceAdd, Nat.reduceLT, Nat.zero_add, and_true, true_and, and_self, fin_ite, pu_0, pu_1, pu_3, sto_0, el_0, Bool.not_eq_true, decide_eq_false_iff_not, Bool.decide_eq_true, Bool.decide_eq_false, decide_true, decide_false, Bool.not_true, Bool.not_false, Bool.and_self, Bool.and_true, Bool.and_false, Bool.true_and, Bool.false_and, Bool.or_true, Bool.or_false, Bool.true_or, Bool.false_or, if_true, if_false, Bool.false_eq_true, tc_0, ix_0, tc_1, ix_1, tc_3, ix_3, tc_32, ix_32, mz_0, mz_1, mz_a, rvs, j_s, j_a, wI_at, Nat.reduceEqDiff, zero_ne_one_n, one_ne_zero_n])
    n 0 w (by omega) ⟨fun j hj => by omega, chk_refl _ _⟩
  obtain ⟨⟨wb, gb, vb⟩, hb, b1, b2, b3, b4⟩ := for_a (x := ee_ev es_sh es_rf (ee_run ee_B P d) lx_323_3) (b := ee_evS es_sh es_rf (ee_run ee_B P d) lb_323_3)
    (fun k (x : ee_W × (Nat → Nat) × Option Value) => (([some (.ref 236), some (.int (Int32.ofNat k)), x.2.2], x.1) : ee_E × ee_W)) n
    (fun k x => RW x.1 x.2.1 n ∧ (∀ t, oc x.2.1 n t = oc g n t) ∧ (∀ p q, p < q → p < k → q < n → x.2.1 p ≤ x.2.1 q) ∧ chk p247 w x.1)
    (by
      rintro k ⟨x, gx, vx⟩ hk ⟨i1, i2, i3, i4⟩
      dsimp only at i1 i2 i3 i4
      have h9 : Int32.ofNat k < Int32.ofNat n := (j_lt (by omega) (by omega)).2 hk
      have e3 : x.1 237 3 = Int32.ofNat n := (i4.1 _ _ (p247_no _)).trans h237
      obtain ⟨⟨wc, gc⟩, hc, -, c1, c2, c3, c4, c5⟩ := for_a (x := ee_ev es_sh es_rf (ee_run ee_B P d) lx_323_2) (b := ee_evS es_sh es_rf (ee_run ee_B P d) lb_323_2)
        (fun i (x : ee_W × (Nat → Nat)) => (([some (.ref 236), some (.int (Int32.ofNat k)), some (.int (Int32.ofNat i))], x.1) : ee_E × ee_W)) n
        (fun i x => k < i ∧ RW x.1 x.2 n ∧ (∀ t, oc x.2 n t = oc g n t) ∧ (∀ p q, p < q → p < k → q < n → x.2 p ≤ x.2 q) ∧ (∀ q, k < q → q < i → x.2 k ≤ x.2 q) ∧ chk p247 w x.1)
        (by
          rintro i ⟨y, gy⟩ hi ⟨hki, j1, j2, j3, j4, j5⟩
          dsimp only at j1 j2 j3 j4 j5
          have hik : ¬ i = k := by omega
          have h9 : Int32.ofNat i < Int32.ofNat n := (j_lt (by omega) (by omega)).2 hi
          have e3 : y.1 237 3 = Int32.ofNat n := (j5.1 _ _ (p247_no _)).trans h237
          have x1 : ee_ix (Int32.ofNat i) 6 = true := by rw [ixn (by omega)]; exact decide_eq_true (by omega)
          have x2 : ee_ix (Int32.ofNat k) 6 = true := by rw [ixn (by omega)]; exact decide_eq_true (by omega)
          have v1 := j1 i hi
          have v2 := j1 k hk
          have b1 : gy i < 64 := by
            obtain ⟨p, hp, e⟩ := oc_in j2 hi
            rw [← e]; exact hg p hp
          have b2 : gy k < 64 := by
            obtain ⟨p, hp, e⟩ := oc_in j2 hk
            rw [← e]; exact hg p hp
          have lt : Int32.ofNat (gy i) < Int32.ofNat (gy k) ↔ gy i < gy k := j_lt (by omega) (by omega)
          by_cases z : gy i < gy k
          · have hs := m_swap (P := P) (w := y) hd1 (show i < 6 by omega) (show k < 6 by omega)
            have sk : sw gy i k k = gy i := by unfold sw; rw [if_pos rfl]
            have si : sw gy i k i = gy k := by unfold sw; rw [if_neg hik, if_pos rfl]
            have so : ∀ x, ¬ x = k → ¬ x = i → sw gy i k x = gy x := fun x h1 h2 => by unfold sw; rw [if_neg h1, if_neg h2]
            refine ⟨(sww y i k, sw gy i k), ?_, by omega, RW_sw j1 hi hk, fun t => (oc_sw hi hk t).trans (j2 t), fun p q h1 h2 h3 => ?_, fun q h1 h2 => ?_, sww_chk j5⟩
            · have z' := lt.2 z
              simp only [h9, e3, x1, x2, v1, v2, z', hs, tnc (show i < 2147483648 by omega), tnc (show k < 2147483648 by omega), mz_rw, mz_rws, lx_323_2, lb_323_2, ee_turn, k_0, k_1, k_3, k_32, nz_1, nz_3, nz_32, v_bin, v_call, v_cmp, v_cons, v_get, v_idx, v_int, v_loc, v_nil, w_exp0, w_exp1, w_if, w_inc, w_retv, w_seq, w_set, w_skip, w_sto, List.getElem?_cons_zero, List.getElem?_cons_succ, List.set_cons_zero, List.set_cons_succ, ee_cmp0, ee_cmp1, ee_cmp2, ee_cmp3, ee_cmp4, ee_cmp5, ee_cmpL0, ee_cmpL1, ee_cmpL2, ee_cmpL3, ee_cmpL4, ee_cmpL5, ee_tru_eb, decide_eq_true_eq, ib_i, ie_b, ie_f, ie_t, ib_l, fin_i, fin_l, fin_v, fin_z, fin_a, fin_n, ee_b_0, ee_fld0, ee_fld1, ee_fld2, ee_fld3, bi_0, bi_1, bi_2, bi_3, bi_4, bi_5, bi_6, bi_7, bi_8, bi_9, bi_10, bl_20, bl_21, bl_22, bl_23, bl_24, bl_25, bl_26, bl_48, bl_49, un_0, un_1, un_2, un_3, if_true, if_false, ite_true, ite_false, Bool.false_eq_true, Bool.not_eq_false, decide_not, Bool.not_not, reduceCtorEq, st_i, st_l, st_r, st_n, ee_noL, ee_noL.eq_1, List.length_cons, List.length_nil, Nat.reduceAdd, Nat.reduceLT, Nat.zero_add, and_true, true_and, and_self, fin_ite, pu_0, pu_1, pu_3, sto_0, el_0, Bool.not_eq_true, decide_eq_false_iff_not, Bool.decide_eq_true, Bool.decide_eq_false, decide_true, decide_false, Bool.not_true, Bool.not_false, Bool.and_self, Bool.and_true, Bool.and_false, Bool.true_and, Bool.false_and, Bool.or_true, Bool.or_false, Bool.true_or, Bool.false_or, if_true, if_false, Bool.false_eq_true, tc_0, ix_0, tc_1, ix_1, tc_3, ix_3, tc_32, ix_32, mz_0, mz_1, mz_a, rvs, j_s, j_a, wI_at, Nat.reduceEqDiff, zero_ne_one_n, one_ne_zero_n]
            · dsimp only
              have pk : ¬ p = k := by omega
              by_cases pi : p = i
              · omega
              · rw [so p pk pi]
                by_cases qk : q = k
                · rw [qk, sk]; exact j3 p i (by omega) h2 hi
                · by_cases qi : q = i
                  · rw [qi, si]; exact j3 p k h2 h2 hk
                  · rw [so q qk qi]; exact j3 p q h1 h2 h3
            · dsimp only
              rw [sk]
              by_cases qi : q = i
              · rw [qi, si]; omega
              · rw [so q (by omega) qi]
                have := j4 q h1 (by omega)
                omega
          · have z' : ¬ Int32.ofNat (gy i) < Int32.ofNat (gy k) := fun q => z (lt.1 q)
            refine ⟨(y, gy), ?_, by omega, j1, j2, j3, fun q h1 h2 => ?_, j5⟩
            · simp only [h9, e3, x1, x2, v1, v2, z', tnc (show i < 2147483648 by omega), tnc (show k < 2147483648 by omega), mz_rw, mz_rws, lx_323_2, lb_323_2, ee_turn, k_0, k_1, k_3, k_32, nz_1, nz_3, nz_32, v_bin, v_call, v_cmp, v_cons, v_get, v_idx, v_int, v_loc, v_nil, w_exp0, w_exp1, w_if, w_inc, w_retv, w_seq, w_set, w_skip, w_sto, List.getElem?_cons_zero, List.getElem?_cons_succ, List.set_cons_zero, List.set_cons_succ, ee_cmp0, ee_cmp1, ee_cmp2, ee_cmp3, ee_cmp4, ee_cmp5, ee_cmpL0, ee_cmpL1, ee_cmpL2, ee_cmpL3, ee_cmpL4, ee_cmpL5, ee_tru_eb, decide_eq_true_eq, ib_i, ie_b, ie_f, ie_t, ib_l, fin_i, fin_l, fin_v, fin_z, fin_a, fin_n, ee_b_0, ee_fld0, ee_fld1, ee_fld2, ee_fld3, bi_0, bi_1, bi_2, bi_3, bi_4, bi_5, bi_6, bi_7, bi_8, bi_9, bi_10, bl_20, bl_21, bl_22, bl_23, bl_24, bl_25, bl_26, bl_48, bl_49, un_0, un_1, un_2, un_3, if_true, if_false, ite_true, ite_false, Bool.false_eq_true, Bool.not_eq_false, decide_not, Bool.not_not, reduceCtorEq, st_i, st_l, st_r, st_n, ee_noL, ee_noL.eq_1, List.length_cons, List.length_nil, Nat.reduceAdd, Nat.reduceLT, Nat.zero_add, and_true, true_and, and_self, fin_ite, pu_0, pu_1, pu_3, sto_0, el_0, Bool.not_eq_true, decide_eq_false_iff_not, Bool.decide_eq_true, Bool.decide_eq_false, decide_true, decide_false, Bool.not_true, Bool.not_false, Bool.and_self, Bool.and_true, Bool.and_false, Bool.true_and, Bool.false_and, Bool.or_true, Bool.or_false, Bool.true_or, Bool.false_or, if_true, if_false, Bool.false_eq_true, tc_0, ix_0, tc_1, ix_1, tc_3, ix_3, tc_32, ix_32, mz_0, mz_1, mz_a, rvs, j_s, j_a, wI_at, Nat.reduceEqDiff, zero_ne_one_n, one_ne_zero_n]
            · dsimp only
              by_cases qi : q = i
              · rw [qi]; omega
              · exact j4 q h1 (by omega))
        (by
          rintro ⟨y, gy⟩ ⟨-, -, -, -, -, j5⟩
          dsimp only at j5
          have e3 : y.1 237 3 = Int32.ofNat n := (j5.1 _ _ (p247_no _)).trans h237
          simp only [nn, e3, lx_323_2, lb_323_2, ee_turn, k_0, k_1, k_3, k_32, nz_1, nz_3, nz_32, v_bin, v_call, v_cmp, v_cons, v_get, v_idx, v_int, v_loc, v_nil, w_exp0, w_exp1, w_if, w_inc, w_retv, w_seq, w_set, w_skip, w_sto, List.getElem?_cons_zero, List.getElem?_cons_succ, List.set_cons_zero, List.set_cons_succ, ee_cmp0, ee_cmp1, ee_cmp2, ee_cmp3, ee_cmp4, ee_cmp5, ee_cmpL0, ee_cmpL1, ee_cmpL2, ee_cmpL3, ee_cmpL4, ee_cmpL5, ee_tru_eb, decide_eq_true_eq, ib_i, ie_b, ie_f, ie_t, ib_l, fin_i, fin_l, fin_v, fin_z, fin_a, fin_n, ee_b_0, ee_fld0, ee_fld1, ee_fld2, ee_fld3, bi_0, bi_1, bi_2, bi_3, bi_4, bi_5, bi_6, bi_7, bi_8, bi_9, bi_10, bl_20, bl_21, bl_22, bl_23, bl_24, bl_25, bl_26, bl_48, bl_49, un_0, un_1, un_2, un_3, if_true, if_false, ite_true, ite_false, Bool.false_eq_true, Bool.not_eq_false, decide_not, Bool.not_not, reduceCtorEq, st_i, st_l, st_r, st_n, ee_noL, ee_noL.eq_1, List.length_cons, List.length_nil, Nat.reduceAdd, Nat.reduceLT, Nat.zero_add, and_true, true_and, and_self, fin_ite, pu_0, pu_1, pu_3, sto_0, el_0, Bool.not_eq_true, decide_eq_false_iff_not, Bool.decide_eq_true, Bool.decide_eq_false, decide_true, decide_false, Bool.not_true, Bool.not_false, Bool.and_self, Bool.and_true, Bool.and_false, Bool.true_and, Bool.false_and, Bool.or_true, Bool.or_false, Bool.true_or, Bool.false_or, if_true, if_false, Bool.false_eq_true, tc_0, ix_0, tc_1, ix_1, tc_3, ix_3, tc_32, ix_32, mz_0, mz_1, mz_a, rvs, j_s, j_a, wI_at, Nat.reduceEqDiff, zero_ne_one_n, one_ne_zero_n])
        (n - (k + 1)) (k + 1) (x, gx) (by omega) ⟨by omega, i1, i2, i3, fun q _ _ => by omega, i4⟩
      dsimp only at hc c1 c2 c3 c4 c5
      refine ⟨(wc, gc, some (.int (Int32.ofNat n))), ?_, c1, c2, fun p q h1 h2 h3 => ?_, c5⟩
      · simp only [h9, e3, w_while, hc, lx_323_3, lb_323_3, ee_turn, k_0, k_1, k_3, k_32, nz_1, nz_3, nz_32, v_bin, v_call, v_cmp, v_cons, v_get, v_idx, v_int, v_loc, v_nil, w_exp0, w_exp1, w_if, w_inc, w_retv, w_seq, w_set, w_skip, w_sto, List.getElem?_cons_zero, List.getElem?_cons_succ, List.set_cons_zero, List.set_cons_succ, ee_cmp0, ee_cmp1, ee_cmp2, ee_cmp3, ee_cmp4, ee_cmp5, ee_cmpL0, ee_cmpL1, ee_cmpL2, ee_cmpL3, ee_cmpL4, ee_cmpL5, ee_tru_eb, decide_eq_true_eq, ib_i, ie_b, ie_f, ie_t, ib_l, fin_i, fin_l, fin_v, fin_z, fin_a, fin_n, ee_b_0, ee_fld0, ee_fld1, ee_fld2, ee_fld3, bi_0, bi_1, bi_2, bi_3, bi_4, bi_5, bi_6, bi_7, bi_8, bi_9, bi_10, bl_20, bl_21, bl_22, bl_23, bl_24, bl_25, bl_26, bl_48, bl_49, un_0, un_1, un_2, un_3, if_true, if_false, ite_true, ite_false, Bool.false_eq_true, Bool.not_eq_false, decide_not, Bool.not_not, reduceCtorEq, st_i, st_l, st_r, st_n, ee_noL, ee_noL.eq_1, List.length_cons, List.length_nil, Nat.reduceAdd, Nat.reduceLT, Nat.zero_add, and_true, true_and, and_self, fin_ite, pu_0, pu_1, pu_3, sto_0, el_0, Bool.not_eq_true, decide_eq_false_iff_not, Bool.decide_eq_true, Bool.decide_eq_false, decide_true, decide_false, Bool.not_true, Bool.not_false, Bool.and_self, Bool.and_true, Bool.and_false, Bool.true_and, Bool.false_and, Bool.or_true, Bool.or_false, Bool.true_or, Bool.false_or, if_true, if_false, Bool.false_eq_true, tc_0, ix_0, tc_1, ix_1, tc_3, ix_3, tc_32, ix_32, mz_0, mz_1, mz_a, rvs, j_s, j_a, wI_at, Nat.reduceEqDiff, zero_ne_one_n, one_ne_zero_n]
      · by_cases y : p = k
        · rw [y]; exact c4 q (by omega) h3
        · exact c3 p q h1 (by omega) h3)
    (by
      rintro ⟨x, gx, vx⟩ ⟨-, -, -, i4⟩
      dsimp only at i4
      have e3 : x.1 237 3 = Int32.ofNat n := (i4.1 _ _ (p247_no _)).trans h237
      simp only [nn, e3, lx_323_3, lb_323_3, ee_turn, k_0, k_1, k_3, k_32, nz_1, nz_3, nz_32, v_bin, v_call, v_cmp, v_cons, v_get, v_idx, v_int, v_loc, v_nil, w_exp0, w_exp1, w_if, w_inc, w_retv, w_seq, w_set, w_skip, w_sto, List.getElem?_cons_zero, List.getElem?_cons_succ, List.set_cons_zero, List.set_cons_succ, ee_cmp0, ee_cmp1, ee_cmp2, ee_cmp3, ee_cmp4, ee_cmp5, ee_cmpL0, ee_cmpL1, ee_cmpL2, ee_cmpL3, ee_cmpL4, ee_cmpL5, ee_tru_eb, decide_eq_true_eq, ib_i, ie_b, ie_f, ie_t, ib_l, fin_i, fin_l, fin_v, fin_z, fin_a, fin_n, ee_b_0, ee_fld0, ee_fld1, ee_fld2, ee_fld3, bi_0, bi_1, bi_2, bi_3, bi_4, bi_5, bi_6, bi_7, bi_8, bi_9, bi_10, bl_20, bl_21, bl_22, bl_23, bl_24, bl_25, bl_26, bl_48, bl_49, un_0, un_1, un_2, un_3, if_true, if_false, ite_true, ite_false, Bool.false_eq_true, Bool.not_eq_false, decide_not, Bool.not_not, reduceCtorEq, st_i, st_l, st_r, st_n, ee_noL, ee_noL.eq_1, List.length_cons, List.length_nil, Nat.reduceAdd, Nat.reduceLT, Nat.zero_add, and_true, true_and, and_self, fin_ite, pu_0, pu_1, pu_3, sto_0, el_0, Bool.not_eq_true, decide_eq_false_iff_not, Bool.decide_eq_true, Bool.decide_eq_false, decide_true, decide_false, Bool.not_true, Bool.not_false, Bool.and_self, Bool.and_true, Bool.and_false, Bool.true_and, Bool.false_and, Bool.or_true, Bool.or_false, Bool.true_or, Bool.false_or, if_true, if_false, Bool.false_eq_true, tc_0, ix_0, tc_1, ix_1, tc_3, ix_3, tc_32, ix_32, mz_0, mz_1, mz_a, rvs, j_s, j_a, wI_at, Nat.reduceEqDiff, zero_ne_one_n, one_ne_zero_n])
    n 0 (wa, g, none) (by omega) ⟨hia.1, fun _ => rfl, fun p q _ h _ => by omega, hia.2⟩
  dsimp only at hb b1 b2 b3 b4
  rw [k_0] at ha hb
  refine ⟨wb, gb, ?_, b1, b2, fun x y h1 h2 => b3 x y h1 (by omega) h2, b4⟩
  rw [rn_323 mz_0]
  simp only [w_while, ha, hb, be_323, k_0, k_1, k_3, k_32, nz_1, nz_3, nz_32, v_bin, v_call, v_cmp, v_cons, v_get, v_idx, v_int, v_loc, v_nil, w_exp0, w_exp1, w_if, w_inc, w_retv, w_seq, w_set, w_skip, w_sto, List.getElem?_cons_zero, List.getElem?_cons_succ, List.set_cons_zero, List.set_cons_succ, ee_cmp0, ee_cmp1, ee_cmp2, ee_cmp3, ee_cmp4, ee_cmp5, ee_cmpL0, ee_cmpL1, ee_cmpL2, ee_cmpL3, ee_cmpL4, ee_cmpL5, ee_tru_eb, decide_eq_true_eq, ib_i, ie_b, ie_f, ie_t, ib_l, fin_i, fin_l, fin_v, fin_z, fin_a, fin_n, ee_b_0, ee_fld0, ee_fld1, ee_fld2, ee_fld3, bi_0, bi_1, bi_2, bi_3, bi_4, bi_5, bi_6, bi_7, bi_8, bi_9, bi_10, bl_20, bl_21, bl_22, bl_23, bl_24, bl_25, bl_26, bl_48, bl_49, un_0, un_1, un_2, un_3, if_true, if_false, ite_true, ite_false, Bool.false_eq_true, Bool.not_eq_false, decide_not, Bool.not_not, reduceCtorEq, st_i, st_l, st_r, st_n, ee_noL, ee_noL.eq_1, List.length_cons, List.length_nil, Nat.reduceAdd, Nat.reduceLT, Nat.zero_add, and_true, true_and, and_self, fin_ite, pu_0, pu_1, pu_3, sto_0, el_0, Bool.not_eq_true, decide_eq_false_iff_not, Bool.decide_eq_true, Bool.decide_eq_false, decide_true, decide_false, Bool.not_true, Bool.not_false, Bool.and_self, Bool.and_true, Bool.and_false, Bool.true_and, Bool.false_and, Bool.or_true, Bool.or_false, Bool.true_or, Bool.false_or, if_true, if_false, Bool.false_eq_true, ix_0, ix_1, ix_3, ix_32, tc_0, tc_1, tc_3, tc_32, mz_0, mz_1, mz_a, rvs, j_s, j_a, wI_at, Nat.reduceEqDiff, zero_ne_one_n, one_ne_zero_n]
end NRM
section NRN
variable {P : Nat → Nat → List Value → ee_W → Option (List Value × ee_W)} {d : Nat} {w : ee_W} {Z : ZX} {g : Nat → Nat} {a n m : Nat}
theorem df_c : ∀ p, p < 64 → ∀ q, q < 64 → ((Int32.ofNat p - Int32.ofNat q < 0) ↔ p < q) ∧ ((Int32.ofNat p - Int32.ofNat q = 0) ↔ p = q) := by decide +kernel
def ol (g : Nat → Nat) (n k : Nat) : Nat → Nat := fun t => cn (fun i => decide (k ≤ i) && decide (g i = t)) n
theorem ol_off {k j : Nat} (hk : k < n) (hj : k ≤ j) (hjn : j < n) : ol (sw g k j) n (k + 1) = off1 (ol g n k) (g j) := by
  funext t
  unfold off1 ol
  by_cases y : j = k
  · subst y
    rw [cn_at (p := fun i => decide (j ≤ i) && decide (g i = t)) n hk]
    have e : cn (fun i => decide (j + 1 ≤ i) && decide (sw g j j i = t)) n = cn (fun i => !decide (i = j) && (decide (j ≤ i) && decide (g i = t))) n := by
      refine cn_congr n (fun i _ => ?_)
      unfold sw
      by_cases z : i = j
      · subst z; rw [decide_eq_false (show ¬ i + 1 ≤ i by omega)]; simp
      · have : (j + 1 ≤ i) ↔ j ≤ i := by omega
        simp [z, this]
    rw [e]
    by_cases q : t = g j
    · rw [if_pos q, if_pos (by rw [decide_eq_true (Nat.le_refl j), decide_eq_true q.symm]; rfl)]; omega
    · rw [if_neg q, if_neg (by rw [decide_eq_false (show ¬ g j = t from fun z => q z.symm)]; simp)]; omega
  · have ykj : ¬ k = j := fun z => y z.symm
    rw [cn_at (p := fun i => decide (k ≤ i) && decide (g i = t)) n hk, cn_at (p := fun i => !decide (i = k) && (decide (k ≤ i) && decide (g i = t))) n hjn,
      cn_at (p := fun i => decide (k + 1 ≤ i) && decide (sw g k j i = t)) n hk, cn_at (p := fun i => !decide (i = k) && (decide (k + 1 ≤ i) && decide (sw g k j i = t))) n hjn]
    have e : cn (fun i => !decide (i = j) && (!decide (i = k) && (decide (k + 1 ≤ i) && decide (sw g k j i = t)))) n = cn (fun i => !decide (i = j) && (!decide (i = k) && (decide (k ≤ i) && decide (g i = t)))) n := by
      refine cn_congr n (fun i _ => ?_)
      unfold sw
      by_cases z1 : i = j
      · simp [z1]
      · by_cases z2 : i = k
        · simp [z2]
        · have : (k + 1 ≤ i) ↔ k ≤ i := by omega
          simp [z1, z2, this]
    have e1 : sw g k j j = g k := by unfold sw; rw [if_pos rfl]
    rw [e, e1, decide_eq_false y, decide_eq_false (show ¬ k + 1 ≤ k by omega), decide_eq_true (show k + 1 ≤ j by omega), decide_eq_true (show k ≤ j from hj), decide_eq_true (Nat.le_refl k)]
    simp only [Bool.not_false, Bool.true_and, Bool.false_and, decide_eq_true_eq]
    by_cases q : t = g j
    · rw [if_pos q, if_pos (show g j = t from q.symm), if_neg (show ¬ (false = true) by decide)]; omega
    · rw [if_neg q, if_neg (show ¬ g j = t from fun z => q z.symm), if_neg (show ¬ (false = true) by decide)]; omega
theorem m_nearest (hd : 4 ≤ d) (hM : MZ w Z) (hq : RQ Z n g) {a0 : Nat} (ha : a0 < 64) (hf : frm Z = Int32.ofNat a0) : ∃ s w', NW n a0 (oc g n) s ∧ ee_run ee_B P d 329 [.ref 236] w = some ([.int (Int32.ofNat s)], w') ∧ chk p247 w w' := by
  obtain ⟨d, rfl⟩ : ∃ k, d = k + 1 := ⟨d - 1, by omega⟩
  have hd1 : 1 ≤ d := by omega
  have hd2 : 2 ≤ d := by omega
  obtain ⟨q1, q2, q3⟩ := hq
  have m7 : w.1 237 7 = Z.1.1.1 2 := hM.1.2.1.1 2 (by omega) (by omega)
  have m3 : w.1 237 3 = Int32.ofNat n := by rw [← q1]; exact hM.1.1.2.2.2.1
  have mr : ∀ i, i < n → w.1 237 (32 + i) = Int32.ofNat (g i) := fun i hi => (hM.1.2.2.2.2.2.1 i (by omega)).trans (q3 i hi).1
  have ef : Z.1.1.1 2 / 16 = Int32.ofNat a0 := hf
  obtain ⟨w1, g1, l1, l2, l3, l4, l5⟩ := m_layRow (P := P) hd2 m3 mr (fun i hi => (q3 i hi).2) q2
  have nn : ¬ Int32.ofNat n < Int32.ofNat n := fun y => by have := (j_lt (by omega) (by omega)).1 y; omega
  have e7 : w1.1 237 7 = Z.1.1.1 2 := (l5.1 _ _ (p247_no _)).trans m7
  have tn : ee_run ee_B P d 326 [.ref 236] w1 = some ([.int (Int32.ofNat a0)], w1) := by
    obtain ⟨d', rfl⟩ : ∃ k, d = k + 1 := ⟨d - 1, by omega⟩
    rw [rn_326 mz_0]
    simp only [e7, ef, nz_16, bd_326, k_16, k_7, nz_16, nz_7, v_bin, v_get, v_idx, v_int, v_loc, w_ret, List.getElem?_cons_zero, List.getElem?_cons_succ, List.set_cons_zero, List.set_cons_succ, ee_cmp0, ee_cmp1, ee_cmp2, ee_cmp3, ee_cmp4, ee_cmp5, ee_cmpL0, ee_cmpL1, ee_cmpL2, ee_cmpL3, ee_cmpL4, ee_cmpL5, ee_tru_eb, decide_eq_true_eq, ib_i, ie_b, ie_f, ie_t, ib_l, fin_i, fin_l, fin_v, fin_z, fin_a, fin_n, ee_b_0, ee_fld0, ee_fld1, ee_fld2, ee_fld3, bi_0, bi_1, bi_2, bi_3, bi_4, bi_5, bi_6, bi_7, bi_8, bi_9, bi_10, bl_20, bl_21, bl_22, bl_23, bl_24, bl_25, bl_26, bl_48, bl_49, un_0, un_1, un_2, un_3, if_true, if_false, ite_true, ite_false, Bool.false_eq_true, Bool.not_eq_false, decide_not, Bool.not_not, reduceCtorEq, st_i, st_l, st_r, st_n, ee_noL, ee_noL.eq_1, List.length_cons, List.length_nil, Nat.reduceAdd, Nat.reduceLT, Nat.zero_add, and_true, true_and, and_self, fin_ite, pu_0, pu_1, pu_3, sto_0, el_0, Bool.not_eq_true, decide_eq_false_iff_not, Bool.decide_eq_true, Bool.decide_eq_false, decide_true, decide_false, Bool.not_true, Bool.not_false, Bool.and_self, Bool.and_true, Bool.and_false, Bool.true_and, Bool.false_and, Bool.or_true, Bool.or_false, Bool.true_or, Bool.false_or, if_true, if_false, Bool.false_eq_true, ix_16, ix_7, tc_16, tc_7, mz_0, mz_1, mz_a, rvs, j_s, j_a, wI_at, Nat.reduceEqDiff, zero_ne_one_n, one_ne_zero_n]
  have gb : ∀ i, i < n → g1 i < 64 := fun i hi => by
    obtain ⟨p, hp, e⟩ := oc_in l3 hi
    rw [← e]; exact (q3 p hp).2
  obtain ⟨⟨a, acc, g2, w2, u4, u5, u6⟩, hl, i1, i2, i3, i4, i5⟩ := for_a (x := ee_ev es_sh es_rf (ee_run ee_B P d) lx_329_2) (b := ee_evS es_sh es_rf (ee_run ee_B P d) lb_329_2)
    (fun k (b : Nat × Nat × (Nat → Nat) × ee_W × Option Value × Option Value × Option Value) => (([some (.ref 236), some (.int (Int32.ofNat b.1)), some (.int (Int32.ofNat b.2.1)), some (.int (Int32.ofNat k)), b.2.2.2.2.1, b.2.2.2.2.2.1, b.2.2.2.2.2.2], b.2.2.2.1) : ee_E × ee_W)) n
    (fun k b => b.1 < 64 ∧ RW b.2.2.2.1 b.2.2.1 n ∧ (∀ i, i < n → b.2.2.1 i < 64) ∧ chk p247 w b.2.2.2.1 ∧ ∀ s, NW (n - k) b.1 (ol b.2.2.1 n k) s → NW n a0 (oc g n) (b.2.1 + s))
    (by
      rintro k ⟨a, acc, gx, x, v4, v5, v6⟩ hk ⟨i1, i2, i3, i4, i5⟩
      dsimp only at i1 i2 i3 i4 i5
      have h9 : Int32.ofNat k < Int32.ofNat n := (j_lt (by omega) (by omega)).2 hk
      have e3 : x.1 237 3 = Int32.ofNat n := (i4.1 _ _ (p247_no _)).trans m3
      obtain ⟨⟨j, u⟩, hc, -, c1, c2, c3⟩ := for_a (x := ee_ev es_sh es_rf (ee_run ee_B P d) lx_329_1) (b := ee_evS es_sh es_rf (ee_run ee_B P d) lb_329_1)
        (fun i (b : Nat × Option Value) => (([some (.ref 236), some (.int (Int32.ofNat a)), some (.int (Int32.ofNat acc)), some (.int (Int32.ofNat k)), some (.int (Int32.ofNat b.1)), some (.int (Int32.ofNat i)), b.2], x) : ee_E × ee_W)) n
        (fun i b => k ≤ i ∧ k ≤ b.1 ∧ b.1 < n ∧ ∀ y, k ≤ y → y < i → nle a (gx b.1) (gx y))
        (by
          rintro i ⟨j, u⟩ hi ⟨j0, j1, j2, j3⟩
          dsimp only at j0 j1 j2 j3
          have h9 : Int32.ofNat i < Int32.ofNat n := (j_lt (by omega) (by omega)).2 hi
          have x1 : ee_ix (Int32.ofNat i) 6 = true := by rw [ixn (by omega)]; exact decide_eq_true (by omega)
          have x2 : ee_ix (Int32.ofNat j) 6 = true := by rw [ixn (by omega)]; exact decide_eq_true (by omega)
          have v1 := i2 i hi
          have v2 := i2 j j2
          have b1 := i3 i hi
          have b2 := i3 j j2
          have e1 := ndi_m a i1 (gx i) b1
          have e2 := ndi_m a i1 (gx j) b2
          obtain ⟨f1, f2⟩ := df_c _ (ndi_b i1 b1) _ (ndi_b i1 b2)
          have f3 : Int32.ofNat (gx i) < Int32.ofNat (gx j) ↔ gx i < gx j := j_lt (by omega) (by omega)
          cases z : nlt a (gx i) (gx j)
          · refine ⟨(j, some (.int (Int32.ofNat (ndi a (gx i)) - Int32.ofNat (ndi a (gx j))))), ?_, by omega, j1, j2, fun y h1 h2 => ?_⟩
            · have zz : ¬ (ndi a (gx i) < ndi a (gx j) ∨ (ndi a (gx i) = ndi a (gx j) ∧ gx i < gx j)) := fun q => by rw [nlt_t.2 q] at z; cases z
              have z1 : ¬ ndi a (gx i) < ndi a (gx j) := fun q => zz (Or.inl q)
              by_cases z2 : ndi a (gx i) = ndi a (gx j)
              · have z3 : ¬ gx i < gx j := fun q => zz (Or.inr ⟨z2, q⟩)
                have zt : (ndi a (gx i) = ndi a (gx j)) = True := eq_true z2
                simp only [h9, e3, x1, x2, v1, v2, r_apartBy hd1, e1, e2, f1, z1, f2, zt, f3, z3, tnc (show i < 2147483648 by omega), tnc (show j < 2147483648 by omega), mz_rw, mz_rws, lx_329_1, lb_329_1, ee_turn, k_0, k_3, nz_3, v_and, v_bin, v_call, v_cmp, v_cons, v_get, v_idx, v_int, v_loc, v_nil, v_or, v_z, w_exp0, w_exp1, w_if, w_inc, w_ret, w_seq, w_set, w_skip, List.getElem?_cons_zero, List.getElem?_cons_succ, List.set_cons_zero, List.set_cons_succ, ee_cmp0, ee_cmp1, ee_cmp2, ee_cmp3, ee_cmp4, ee_cmp5, ee_cmpL0, ee_cmpL1, ee_cmpL2, ee_cmpL3, ee_cmpL4, ee_cmpL5, ee_tru_eb, decide_eq_true_eq, ib_i, ie_b, ie_f, ie_t, ib_l, fin_i, fin_l, fin_v, fin_z, fin_a, fin_n, ee_b_0, ee_fld0, ee_fld1, ee_fld2, ee_fld3, bi_0, bi_1, bi_2, bi_3, bi_4, bi_5, bi_6, bi_7, bi_8, bi_9, bi_10, bl_20, bl_21, bl_22, bl_23, bl_24, bl_25, bl_26, bl_48, bl_49, un_0, un_1, un_2, un_3, if_true, if_false, ite_true, ite_false, Bool.false_eq_true, Bool.not_eq_false, decide_not, Bool.not_not, reduceCtorEq, st_i, st_l, st_r, st_n, ee_noL, ee_noL.eq_1, List.length_cons, List.length_nil, Nat.reduceAdd, Nat.reduceLT, Nat.zero_add, and_true, true_and, and_self, fin_ite, pu_0, pu_1, pu_3, sto_0, el_0, Bool.not_eq_true, decide_eq_false_iff_not, Bool.decide_eq_true, Bool.decide_eq_false, decide_true, decide_false, Bool.not_true, Bool.not_false, Bool.and_self, Bool.and_true, Bool.and_false, Bool.true_and, Bool.false_and, Bool.or_true, Bool.or_false, Bool.true_or, Bool.false_or, if_true, if_false, Bool.false_eq_true, tc_0, ix_0, tc_3, ix_3, mz_0, mz_1, mz_a, rvs, j_s, j_a, wI_at, Nat.reduceEqDiff, zero_ne_one_n, one_ne_zero_n]
              · simp only [h9, e3, x1, x2, v1, v2, r_apartBy hd1, e1, e2, f1, z1, f2, z2, tnc (show i < 2147483648 by omega), tnc (show j < 2147483648 by omega), mz_rw, mz_rws, lx_329_1, lb_329_1, ee_turn, k_0, k_3, nz_3, v_and, v_bin, v_call, v_cmp, v_cons, v_get, v_idx, v_int, v_loc, v_nil, v_or, v_z, w_exp0, w_exp1, w_if, w_inc, w_ret, w_seq, w_set, w_skip, List.getElem?_cons_zero, List.getElem?_cons_succ, List.set_cons_zero, List.set_cons_succ, ee_cmp0, ee_cmp1, ee_cmp2, ee_cmp3, ee_cmp4, ee_cmp5, ee_cmpL0, ee_cmpL1, ee_cmpL2, ee_cmpL3, ee_cmpL4, ee_cmpL5, ee_tru_eb, decide_eq_true_eq, ib_i, ie_b, ie_f, ie_t, ib_l, fin_i, fin_l, fin_v, fin_z, fin_a, fin_n, ee_b_0, ee_fld0, ee_fld1, ee_fld2, ee_fld3, bi_0, bi_1, bi_2, bi_3, bi_4, bi_5, bi_6, bi_7, bi_8, bi_9, bi_10, bl_20, bl_21, bl_22, bl_23, bl_24, bl_25, bl_26, bl_48, bl_49, un_0, un_1, un_2, un_3, if_true, if_false, ite_true, ite_false, Bool.false_eq_true, Bool.not_eq_false, decide_not, Bool.not_not, reduceCtorEq, st_i, st_l, st_r, st_n, ee_noL, ee_noL.eq_1, List.length_cons, List.length_nil, Nat.reduceAdd, Nat.reduceLT, Nat.zero_add, and_true, true_and, and_self, fin_ite, pu_0, pu_1, pu_3, sto_0, el_0, Bool.not_eq_true, decide_eq_false_iff_not, Bool.decide_eq_true, Bool.decide_eq_false, decide_true, decide_false, Bool.not_true, Bool.not_false, Bool.and_self, Bool.and_true, Bool.and_false, Bool.true_and, Bool.false_and, Bool.or_true, Bool.or_false, Bool.true_or, Bool.false_or, if_true, if_false, Bool.false_eq_true, tc_0, ix_0, tc_3, ix_3, mz_0, mz_1, mz_a, rvs, j_s, j_a, wI_at, Nat.reduceEqDiff, zero_ne_one_n, one_ne_zero_n]
            · by_cases yi : y = i
              · rw [yi]; exact nlt_f z
              · exact j3 y h1 (by omega)
          · refine ⟨(i, some (.int (Int32.ofNat (ndi a (gx i)) - Int32.ofNat (ndi a (gx j))))), ?_, by omega, j0, hi, fun y h1 h2 => ?_⟩
            · have zz := nlt_t.1 z
              by_cases z1 : ndi a (gx i) < ndi a (gx j)
              · simp only [h9, e3, x1, x2, v1, v2, r_apartBy hd1, e1, e2, f1, z1, tnc (show i < 2147483648 by omega), tnc (show j < 2147483648 by omega), mz_rw, mz_rws, lx_329_1, lb_329_1, ee_turn, k_0, k_3, nz_3, v_and, v_bin, v_call, v_cmp, v_cons, v_get, v_idx, v_int, v_loc, v_nil, v_or, v_z, w_exp0, w_exp1, w_if, w_inc, w_ret, w_seq, w_set, w_skip, List.getElem?_cons_zero, List.getElem?_cons_succ, List.set_cons_zero, List.set_cons_succ, ee_cmp0, ee_cmp1, ee_cmp2, ee_cmp3, ee_cmp4, ee_cmp5, ee_cmpL0, ee_cmpL1, ee_cmpL2, ee_cmpL3, ee_cmpL4, ee_cmpL5, ee_tru_eb, decide_eq_true_eq, ib_i, ie_b, ie_f, ie_t, ib_l, fin_i, fin_l, fin_v, fin_z, fin_a, fin_n, ee_b_0, ee_fld0, ee_fld1, ee_fld2, ee_fld3, bi_0, bi_1, bi_2, bi_3, bi_4, bi_5, bi_6, bi_7, bi_8, bi_9, bi_10, bl_20, bl_21, bl_22, bl_23, bl_24, bl_25, bl_26, bl_48, bl_49, un_0, un_1, un_2, un_3, if_true, if_false, ite_true, ite_false, Bool.false_eq_true, Bool.not_eq_false, decide_not, Bool.not_not, reduceCtorEq, st_i, st_l, st_r, st_n, ee_noL, ee_noL.eq_1, List.length_cons, List.length_nil, Nat.reduceAdd, Nat.reduceLT, Nat.zero_add, and_true, true_and, and_self, fin_ite, pu_0, pu_1, pu_3, sto_0, el_0, Bool.not_eq_true, decide_eq_false_iff_not, Bool.decide_eq_true, Bool.decide_eq_false, decide_true, decide_false, Bool.not_true, Bool.not_false, Bool.and_self, Bool.and_true, Bool.and_false, Bool.true_and, Bool.false_and, Bool.or_true, Bool.or_false, Bool.true_or, Bool.false_or, if_true, if_false, Bool.false_eq_true, tc_0, ix_0, tc_3, ix_3, mz_0, mz_1, mz_a, rvs, j_s, j_a, wI_at, Nat.reduceEqDiff, zero_ne_one_n, one_ne_zero_n]
              · obtain ⟨z2, z3⟩ : ndi a (gx i) = ndi a (gx j) ∧ gx i < gx j := by omega
                have zt : (ndi a (gx i) = ndi a (gx j)) = True := eq_true z2
                simp only [h9, e3, x1, x2, v1, v2, r_apartBy hd1, e1, e2, f1, z1, f2, zt, f3, z3, tnc (show i < 2147483648 by omega), tnc (show j < 2147483648 by omega), mz_rw, mz_rws, lx_329_1, lb_329_1, ee_turn, k_0, k_3, nz_3, v_and, v_bin, v_call, v_cmp, v_cons, v_get, v_idx, v_int, v_loc, v_nil, v_or, v_z, w_exp0, w_exp1, w_if, w_inc, w_ret, w_seq, w_set, w_skip, List.getElem?_cons_zero, List.getElem?_cons_succ, List.set_cons_zero, List.set_cons_succ, ee_cmp0, ee_cmp1, ee_cmp2, ee_cmp3, ee_cmp4, ee_cmp5, ee_cmpL0, ee_cmpL1, ee_cmpL2, ee_cmpL3, ee_cmpL4, ee_cmpL5, ee_tru_eb, decide_eq_true_eq, ib_i, ie_b, ie_f, ie_t, ib_l, fin_i, fin_l, fin_v, fin_z, fin_a, fin_n, ee_b_0, ee_fld0, ee_fld1, ee_fld2, ee_fld3, bi_0, bi_1, bi_2, bi_3, bi_4, bi_5, bi_6, bi_7, bi_8, bi_9, bi_10, bl_20, bl_21, bl_22, bl_23, bl_24, bl_25, bl_26, bl_48, bl_49, un_0, un_1, un_2, un_3, if_true, if_false, ite_true, ite_false, Bool.false_eq_true, Bool.not_eq_false, decide_not, Bool.not_not, reduceCtorEq, st_i, st_l, st_r, st_n, ee_noL, ee_noL.eq_1, List.length_cons, List.length_nil, Nat.reduceAdd, Nat.reduceLT, Nat.zero_add, and_true, true_and, and_self, fin_ite, pu_0, pu_1, pu_3, sto_0, el_0, Bool.not_eq_true, decide_eq_false_iff_not, Bool.decide_eq_true, Bool.decide_eq_false, decide_true, decide_false, Bool.not_true, Bool.not_false, Bool.and_self, Bool.and_true, Bool.and_false, Bool.true_and, Bool.false_and, Bool.or_true, Bool.or_false, Bool.true_or, Bool.false_or, if_true, if_false, Bool.false_eq_true, tc_0, ix_0, tc_3, ix_3, mz_0, mz_1, mz_a, rvs, j_s, j_a, wI_at, Nat.reduceEqDiff, zero_ne_one_n, one_ne_zero_n]
            · by_cases yi : y = i
              · rw [yi]; exact nle_rf _ _
              · refine nle_tr ?_ (j3 y h1 (by omega))
                have := nlt_t.1 z
                unfold nle
                dsimp only
                omega)
        (by
          rintro ⟨j, u⟩ -
          simp only [nn, e3, lx_329_1, lb_329_1, ee_turn, k_0, k_3, nz_3, v_and, v_bin, v_call, v_cmp, v_cons, v_get, v_idx, v_int, v_loc, v_nil, v_or, v_z, w_exp0, w_exp1, w_if, w_inc, w_ret, w_seq, w_set, w_skip, List.getElem?_cons_zero, List.getElem?_cons_succ, List.set_cons_zero, List.set_cons_succ, ee_cmp0, ee_cmp1, ee_cmp2, ee_cmp3, ee_cmp4, ee_cmp5, ee_cmpL0, ee_cmpL1, ee_cmpL2, ee_cmpL3, ee_cmpL4, ee_cmpL5, ee_tru_eb, decide_eq_true_eq, ib_i, ie_b, ie_f, ie_t, ib_l, fin_i, fin_l, fin_v, fin_z, fin_a, fin_n, ee_b_0, ee_fld0, ee_fld1, ee_fld2, ee_fld3, bi_0, bi_1, bi_2, bi_3, bi_4, bi_5, bi_6, bi_7, bi_8, bi_9, bi_10, bl_20, bl_21, bl_22, bl_23, bl_24, bl_25, bl_26, bl_48, bl_49, un_0, un_1, un_2, un_3, if_true, if_false, ite_true, ite_false, Bool.false_eq_true, Bool.not_eq_false, decide_not, Bool.not_not, reduceCtorEq, st_i, st_l, st_r, st_n, ee_noL, ee_noL.eq_1, List.length_cons, List.length_nil, Nat.reduceAdd, Nat.reduceLT, Nat.zero_add, and_true, true_and, and_self, fin_ite, pu_0, pu_1, pu_3, sto_0, el_0, Bool.not_eq_true, decide_eq_false_iff_not, Bool.decide_eq_true, Bool.decide_eq_false, decide_true, decide_false, Bool.not_true, Bool.not_false, Bool.and_self, Bool.and_true, Bool.and_false, Bool.true_and, Bool.false_and, Bool.or_true, Bool.or_false, Bool.true_or, Bool.false_or, if_true, if_false, Bool.false_eq_true, tc_0, ix_0, tc_3, ix_3, mz_0, mz_1, mz_a, rvs, j_s, j_a, wI_at, Nat.reduceEqDiff, zero_ne_one_n, one_ne_zero_n])
        (n - k) k (k, v6) (by omega) ⟨Nat.le_refl _, Nat.le_refl _, hk, fun y h1 h2 => by omega⟩
      dsimp only at hc c1 c2 c3
      have hki := hk
      have x2 : ee_ix (Int32.ofNat j) 6 = true := by rw [ixn (by omega)]; exact decide_eq_true (by omega)
      have v2 := i2 j c2
      have b2 := i3 j c2
      have e2 := ndi_m a i1 (gx j) b2
      have hs := m_swap (P := P) (w := x) hd1 (show k < 6 by omega) (show j < 6 by omega)
      refine ⟨(gx j, acc + ndi a (gx j), sw gx k j, sww x k j, some (.int (Int32.ofNat j)), some (.int (Int32.ofNat n)), u), ?_, b2, RW_sw i2 hk c2, fun i hi => ?_, sww_chk i4, fun s hs => ?_⟩
      · simp only [h9, e3, w_while, hc, x2, v2, r_apartBy hd1, e2, hs, tnc (show j < 2147483648 by omega), mz_rw, mz_rws, lx_329_2, lb_329_2, ee_turn, k_0, k_3, nz_3, v_and, v_bin, v_call, v_cmp, v_cons, v_get, v_idx, v_int, v_loc, v_nil, v_or, v_z, w_exp0, w_exp1, w_if, w_inc, w_ret, w_seq, w_set, w_skip, List.getElem?_cons_zero, List.getElem?_cons_succ, List.set_cons_zero, List.set_cons_succ, ee_cmp0, ee_cmp1, ee_cmp2, ee_cmp3, ee_cmp4, ee_cmp5, ee_cmpL0, ee_cmpL1, ee_cmpL2, ee_cmpL3, ee_cmpL4, ee_cmpL5, ee_tru_eb, decide_eq_true_eq, ib_i, ie_b, ie_f, ie_t, ib_l, fin_i, fin_l, fin_v, fin_z, fin_a, fin_n, ee_b_0, ee_fld0, ee_fld1, ee_fld2, ee_fld3, bi_0, bi_1, bi_2, bi_3, bi_4, bi_5, bi_6, bi_7, bi_8, bi_9, bi_10, bl_20, bl_21, bl_22, bl_23, bl_24, bl_25, bl_26, bl_48, bl_49, un_0, un_1, un_2, un_3, if_true, if_false, ite_true, ite_false, Bool.false_eq_true, Bool.not_eq_false, decide_not, Bool.not_not, reduceCtorEq, st_i, st_l, st_r, st_n, ee_noL, ee_noL.eq_1, List.length_cons, List.length_nil, Nat.reduceAdd, Nat.reduceLT, Nat.zero_add, and_true, true_and, and_self, fin_ite, pu_0, pu_1, pu_3, sto_0, el_0, Bool.not_eq_true, decide_eq_false_iff_not, Bool.decide_eq_true, Bool.decide_eq_false, decide_true, decide_false, Bool.not_true, Bool.not_false, Bool.and_self, Bool.and_true, Bool.and_false, Bool.true_and, Bool.false_and, Bool.or_true, Bool.or_false, Bool.true_or, Bool.false_or, if_true, if_false, Bool.false_eq_true, tc_0, ix_0, tc_3, ix_3, mz_0, mz_1, mz_a, rvs, j_s, j_a, wI_at, Nat.reduceEqDiff, zero_ne_one_n, one_ne_zero_n]
      · dsimp only
        unfold sw
        split
        · exact i3 k hk
        · split
          · exact b2
          · exact i3 i hi
      · dsimp only at hs ⊢
        rw [ol_off hk c1 c2] at hs
        have z := i5 (ndi a (gx j) + s) (by
          rw [show n - k = (n - (k + 1)) + 1 by omega]
          refine ⟨gx j, s, (cn_pos n).2 ⟨j, c2, by rw [decide_eq_true c1, decide_eq_true rfl]; rfl⟩, fun u hu => ?_, rfl, hs⟩
          obtain ⟨i, z1, z2⟩ := (cn_pos n).1 hu
          rw [Bool.and_eq_true] at z2
          rw [← of_decide_eq_true z2.2]
          exact c3 i (of_decide_eq_true z2.1) z1)
        rw [← Nat.add_assoc] at z
        exact z)
    (by
      rintro ⟨a, acc, gx, x, v4, v5, v6⟩ ⟨-, -, -, i4, -⟩
      dsimp only at i4
      have e3 : x.1 237 3 = Int32.ofNat n := (i4.1 _ _ (p247_no _)).trans m3
      simp only [nn, e3, lx_329_2, lb_329_2, ee_turn, k_0, k_3, nz_3, v_and, v_bin, v_call, v_cmp, v_cons, v_get, v_idx, v_int, v_loc, v_nil, v_or, v_z, w_exp0, w_exp1, w_if, w_inc, w_ret, w_seq, w_set, w_skip, List.getElem?_cons_zero, List.getElem?_cons_succ, List.set_cons_zero, List.set_cons_succ, ee_cmp0, ee_cmp1, ee_cmp2, ee_cmp3, ee_cmp4, ee_cmp5, ee_cmpL0, ee_cmpL1, ee_cmpL2, ee_cmpL3, ee_cmpL4, ee_cmpL5, ee_tru_eb, decide_eq_true_eq, ib_i, ie_b, ie_f, ie_t, ib_l, fin_i, fin_l, fin_v, fin_z, fin_a, fin_n, ee_b_0, ee_fld0, ee_fld1, ee_fld2, ee_fld3, bi_0, bi_1, bi_2, bi_3, bi_4, bi_5, bi_6, bi_7, bi_8, bi_9, bi_10, bl_20, bl_21, bl_22, bl_23, bl_24, bl_25, bl_26, bl_48, bl_49, un_0, un_1, un_2, un_3, if_true, if_false, ite_true, ite_false, Bool.false_eq_true, Bool.not_eq_false, decide_not, Bool.not_not, reduceCtorEq, st_i, st_l, st_r, st_n, ee_noL, ee_noL.eq_1, List.length_cons, List.length_nil, Nat.reduceAdd, Nat.reduceLT, Nat.zero_add, and_true, true_and, and_self, fin_ite, pu_0, pu_1, pu_3, sto_0, el_0, Bool.not_eq_true, decide_eq_false_iff_not, Bool.decide_eq_true, Bool.decide_eq_false, decide_true, decide_false, Bool.not_true, Bool.not_false, Bool.and_self, Bool.and_true, Bool.and_false, Bool.true_and, Bool.false_and, Bool.or_true, Bool.or_false, Bool.true_or, Bool.false_or, if_true, if_false, Bool.false_eq_true, tc_0, ix_0, tc_3, ix_3, mz_0, mz_1, mz_a, rvs, j_s, j_a, wI_at, Nat.reduceEqDiff, zero_ne_one_n, one_ne_zero_n])
    n 0 (a0, 0, g1, w1, none, none, none) (by omega) ⟨ha, l2, gb, l5, fun s hs => by
      dsimp only at hs ⊢
      have e : ol g1 n 0 = oc g n := by
        funext t
        rw [← l3 t]
        unfold ol oc
        exact cn_congr n (fun i _ => by rw [decide_eq_true (Nat.zero_le i)]; rfl)
      rw [e] at hs
      rw [Nat.zero_add]
      exact hs⟩
  dsimp only at hl i1 i2 i3 i4 i5
  rw [k_0] at hl
  refine ⟨acc, w2, i5 0 (by rw [Nat.sub_self]; rfl), ?_, i4⟩
  rw [rn_329 mz_0]
  simp only [l1, tn, w_while, hl, be_329, k_0, k_3, nz_3, v_and, v_bin, v_call, v_cmp, v_cons, v_get, v_idx, v_int, v_loc, v_nil, v_or, v_z, w_exp0, w_exp1, w_if, w_inc, w_ret, w_seq, w_set, w_skip, List.getElem?_cons_zero, List.getElem?_cons_succ, List.set_cons_zero, List.set_cons_succ, ee_cmp0, ee_cmp1, ee_cmp2, ee_cmp3, ee_cmp4, ee_cmp5, ee_cmpL0, ee_cmpL1, ee_cmpL2, ee_cmpL3, ee_cmpL4, ee_cmpL5, ee_tru_eb, decide_eq_true_eq, ib_i, ie_b, ie_f, ie_t, ib_l, fin_i, fin_l, fin_v, fin_z, fin_a, fin_n, ee_b_0, ee_fld0, ee_fld1, ee_fld2, ee_fld3, bi_0, bi_1, bi_2, bi_3, bi_4, bi_5, bi_6, bi_7, bi_8, bi_9, bi_10, bl_20, bl_21, bl_22, bl_23, bl_24, bl_25, bl_26, bl_48, bl_49, un_0, un_1, un_2, un_3, if_true, if_false, ite_true, ite_false, Bool.false_eq_true, Bool.not_eq_false, decide_not, Bool.not_not, reduceCtorEq, st_i, st_l, st_r, st_n, ee_noL, ee_noL.eq_1, List.length_cons, List.length_nil, Nat.reduceAdd, Nat.reduceLT, Nat.zero_add, and_true, true_and, and_self, fin_ite, pu_0, pu_1, pu_3, sto_0, el_0, Bool.not_eq_true, decide_eq_false_iff_not, Bool.decide_eq_true, Bool.decide_eq_false, decide_true, decide_false, Bool.not_true, Bool.not_false, Bool.and_self, Bool.and_true, Bool.and_false, Bool.true_and, Bool.false_and, Bool.or_true, Bool.or_false, Bool.true_or, Bool.false_or, if_true, if_false, Bool.false_eq_true, ix_0, ix_3, tc_0, tc_3, mz_0, mz_1, mz_a, rvs, j_s, j_a, wI_at, Nat.reduceEqDiff, zero_ne_one_n, one_ne_zero_n]
theorem b_nearest (hd : 4 ≤ d) (hS : Sim w) : Both P d 158 329 [] w := by
  obtain ⟨Z, h1, h2, h3⟩ := hS
  obtain ⟨n, g, hq⟩ := RQ_of h3
  obtain ⟨a0, ha, hf⟩ := frm_of h3
  obtain ⟨s, s1, s2⟩ := c_nearest (P := P) hd h1 hq ha hf
  have e : cu g n 0 = oc g n := by
    funext t
    unfold cu oc
    exact cn_congr n (fun i _ => by rw [Nat.zero_testBit]; rfl)
  rw [e] at s1
  refine both_of (Z' := Z) h2 h3 h3 ⟨w, s2, h1, chg_refl _ _⟩ (fun w1 hM => ?_)
  obtain ⟨s', w2, t1, t2, t3⟩ := m_nearest (P := P) hd hM hq ha hf
  rw [NW_un _ _ _ _ _ t1 s1] at t2
  exact ⟨w2, t2, MZ_scr hM h3 t3 (fun c k q1 q2 => by unfold p247; omega), chk_mono t3 (fun c k h => by unfold p247 at h; unfold phi; omega)⟩
end NRN
