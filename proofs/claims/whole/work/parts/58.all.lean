/-! all that an image has, the class's -/
section AL
variable {P : Nat → Nat → List Value → ee_W → Option (List Value × ee_W)} {d : Nat} {w : ee_W} {s t g a b : Nat} {X : HX} {S : SX}
theorem c_copySteps (hd : 3 ≤ d) (hs : st_ok s) (ht : st_ok t) (hne : t + 92 ≤ s ∨ s + 92 ≤ t) (hS : CS w t S) : ∃ w', ee_run ee_B P d 181 [.ref s, .ref t] w = some ([], w') ∧ CS w' s S ∧ chg (srg s) w w' := by
  obtain ⟨d, rfl⟩ : ∃ k, d = k + 1 := ⟨d - 1, by omega⟩
  have hd1 : 1 ≤ d := by omega
  have hd2 : 2 ≤ d := by omega
  have hs0 := hs
  have ht0 := ht
  have hS0 := hS
  obtain ⟨s0, s1, s2, s3⟩ := hs
  obtain ⟨t0, t1, t2, t3⟩ := ht
  obtain ⟨c1, c2, f, c3, c4, c5⟩ := hS
  rw [rn_181 s0]
  have em : (if Int32.ofNat S.1 ≤ 30 then Int32.ofNat S.1 else 30) = Int32.ofNat S.1 := by
    by_cases q : Int32.ofNat S.1 ≤ 30
    · rw [if_pos q]
    · exact absurd ((j_le (b := 30) (by omega) (by omega)).2 c1) q
  have hw1 : chg (srg s) w (ee_wI (ee_wI w s 2 (Int32.ofNat S.1)) s 1 0) := chg_I (srg_0 s) (chg_I (srg_0 s) (chg_refl _ _))
  have st : ∀ c, t ≤ c → c < t + 92 → srg s c = false := by intro c h1 h2; unfold srg; rw [rg_f]; omega
  obtain ⟨r, hr, hq⟩ := wh_n (f := ee_turn (ee_ev es_sh es_rf (ee_run ee_B P d) lx_181_1) (ee_evS es_sh es_rf (ee_run ee_B P d) lb_181_1))
    (I := fun n x => ∃ i u v, n = S.1 - i ∧ i ≤ S.1 ∧ x.1 = [some (.ref s), some (.ref t), some (.int (Int32.ofNat i)), u, v] ∧ chg (srg s) w x.2 ∧ x.2.1 s 2 = Int32.ofNat S.1 ∧ x.2.1 s 1 = 0 ∧ ∀ j, j < i → CH x.2 (s + 2 + 3 * j) (S.2 j))
    (Q := fun r => ∃ env' w', r = .inl (env', w') ∧ chg (srg s) w w' ∧ w'.1 s 2 = Int32.ofNat S.1 ∧ w'.1 s 1 = 0 ∧ ∀ j, j < S.1 → CH w' (s + 2 + 3 * j) (S.2 j))
    (by
      rintro n ⟨env, x⟩ ⟨i, u, v, rfl, hi, he, hc, h2, h1, hj⟩
      dsimp only at he hc h2 h1 hj
      subst he
      have h9 : (Int32.ofNat i < Int32.ofNat S.1) ↔ i < S.1 := j_lt (by omega) (by omega)
      by_cases q : i < S.1
      · left
        have hSx : CS x t S := CS_chg hS0 hc st
        obtain ⟨-, -, f2, d3, d4, d5⟩ := hSx
        have r1 := c_rowAt (P := P) (w := x) hd2 hs0 (show 0 < 30 by omega) (show i ≤ 30 by omega) h1
        have r2 := c_rowAt (P := P) (w := x) hd2 ht0 d3 (show i ≤ 30 by omega) d4
        have e0 : (0 + i) % 30 = i := by omega
        rw [e0] at r1
        have fl : (f2 + i) % 30 < 30 := Nat.mod_lt _ (by omega)
        obtain ⟨w', n1, n2, n3⟩ := c_copyFrom (P := P) hd1 (s3 i (by omega)).2 (t3 _ fl).2 (by omega) (d5 i q).1 (d5 i q).2
        refine ⟨([some (.ref s), some (.ref t), some (.int (Int32.ofNat (i + 1))), some (.ref (s + 2 + 3 * i)), some (.ref (t + 2 + 3 * ((f2 + i) % 30)))], w'), S.1 - (i + 1), by simp only [h2, h9, q, r1, r2, n1, s0, j_a, lx_181_1, lb_181_1, ee_turn, k_0, k_30, nz_30, v_and, v_call, v_cmp, v_cons, v_get, v_int, v_isnull, v_loc, v_nil, v_not, w_exp0, w_exp1, w_if, w_inc, w_put, w_retv, w_seq, w_set, w_skip, List.getElem?_cons_zero, List.getElem?_cons_succ, List.set_cons_zero, List.set_cons_succ, ee_cmp0, ee_cmp1, ee_cmp2, ee_cmp3, ee_cmp4, ee_cmp5, ee_cmpL0, ee_cmpL1, ee_cmpL2, ee_cmpL3, ee_cmpL4, ee_cmpL5, ee_tru_eb, decide_eq_true_eq, ib_i, ie_b, ie_f, ie_t, ib_l, fin_i, fin_l, fin_v, fin_z, fin_a, fin_n, ee_b_0, ee_fld0, ee_fld1, ee_fld2, ee_fld3, bi_0, bi_1, bi_2, bi_3, bi_4, bi_5, bi_6, bi_7, bi_8, bi_9, bi_10, bl_20, bl_21, bl_22, bl_23, bl_24, bl_25, bl_26, bl_48, bl_49, un_0, un_1, un_2, un_3, if_true, if_false, ite_true, ite_false, Bool.false_eq_true, Bool.not_eq_false, decide_not, Bool.not_not, reduceCtorEq, st_i, st_l, st_r, st_n, ee_noL, ee_noL.eq_1, List.length_cons, List.length_nil, Nat.reduceAdd, Nat.reduceLT, Nat.zero_add, and_true, true_and, and_self, fin_ite, pu_0, pu_1, pu_3, sto_0, el_0, Bool.not_eq_true, decide_eq_false_iff_not, Bool.decide_eq_true, Bool.decide_eq_false, decide_true, decide_false, Bool.not_true, Bool.not_false, Bool.and_self, Bool.and_true, Bool.and_false, Bool.true_and, Bool.false_and, Bool.or_true, Bool.or_false, Bool.true_or, Bool.false_or, if_true, if_false, Bool.false_eq_true], by omega, i + 1, _, _, rfl, by omega, rfl, chg_trans hc (chg_mono n3 (srg_h s i (by omega))), ?_, ?_, ?_⟩
        · dsimp only
          rw [n3.1 _ _ (hrg_ne (by omega))]; exact h2
        · dsimp only
          rw [n3.1 _ _ (hrg_ne (by omega))]; exact h1
        · intro j hj2
          by_cases z : j = i
          · rw [z]; exact n2
          · exact CH_chg (hj j (by omega)) n3 (hrg_ne (by omega)) (hrg_ne (by omega)) (hrg_ne (by omega))
      · right
        refine ⟨.inl ([some (.ref s), some (.ref t), some (.int (Int32.ofNat i)), u, v], x), by simp only [h2, h9, q, s0, lx_181_1, lb_181_1, ee_turn, k_0, k_30, nz_30, v_and, v_call, v_cmp, v_cons, v_get, v_int, v_isnull, v_loc, v_nil, v_not, w_exp0, w_exp1, w_if, w_inc, w_put, w_retv, w_seq, w_set, w_skip, List.getElem?_cons_zero, List.getElem?_cons_succ, List.set_cons_zero, List.set_cons_succ, ee_cmp0, ee_cmp1, ee_cmp2, ee_cmp3, ee_cmp4, ee_cmp5, ee_cmpL0, ee_cmpL1, ee_cmpL2, ee_cmpL3, ee_cmpL4, ee_cmpL5, ee_tru_eb, decide_eq_true_eq, ib_i, ie_b, ie_f, ie_t, ib_l, fin_i, fin_l, fin_v, fin_z, fin_a, fin_n, ee_b_0, ee_fld0, ee_fld1, ee_fld2, ee_fld3, bi_0, bi_1, bi_2, bi_3, bi_4, bi_5, bi_6, bi_7, bi_8, bi_9, bi_10, bl_20, bl_21, bl_22, bl_23, bl_24, bl_25, bl_26, bl_48, bl_49, un_0, un_1, un_2, un_3, if_true, if_false, ite_true, ite_false, Bool.false_eq_true, Bool.not_eq_false, decide_not, Bool.not_not, reduceCtorEq, st_i, st_l, st_r, st_n, ee_noL, ee_noL.eq_1, List.length_cons, List.length_nil, Nat.reduceAdd, Nat.reduceLT, Nat.zero_add, and_true, true_and, and_self, fin_ite, pu_0, pu_1, pu_3, sto_0, el_0, Bool.not_eq_true, decide_eq_false_iff_not, Bool.decide_eq_true, Bool.decide_eq_false, decide_true, decide_false, Bool.not_true, Bool.not_false, Bool.and_self, Bool.and_true, Bool.and_false, Bool.true_and, Bool.false_and, Bool.or_true, Bool.or_false, Bool.true_or, Bool.false_or, if_true, if_false, Bool.false_eq_true], _, _, rfl, hc, h2, h1, fun j hj2 => hj j (by omega)⟩)
    (S.1 - 0) ([some (.ref s), some (.ref t), some (.int (Int32.ofNat 0)), none, none], ee_wI (ee_wI w s 2 (Int32.ofNat S.1)) s 1 0)
    ⟨0, _, _, rfl, by omega, rfl, hw1, by simp only [zz_ce, zz_ec, zz_cf, zz_fc, zz_ef, zz_fe, wI_at, wI_2, wJ_at, wJ_1, wJ_2, and_true, true_and, and_false, false_and, if_true, if_false, Nat.reduceEqDiff, Nat.reduceAdd, zero_ne_one_n, one_ne_zero_n], by simp only [zz_ce, zz_ec, zz_cf, zz_fc, zz_ef, zz_fe, wI_at, wI_2, wJ_at, wJ_1, wJ_2, and_true, true_and, and_false, false_and, if_true, if_false, Nat.reduceEqDiff, Nat.reduceAdd, zero_ne_one_n, one_ne_zero_n], fun j hj => by omega⟩
  obtain ⟨env', w', rfl, q1, q2, q3, q4⟩ := hq
  rw [k_0] at hr
  refine ⟨w', ?_, ?_, q1⟩
  · simp only [s0, t0, c2, r_min hd1, em, w_while, hr, be_181, k_0, k_30, nz_30, v_and, v_call, v_cmp, v_cons, v_get, v_int, v_isnull, v_loc, v_nil, v_not, w_exp0, w_exp1, w_if, w_inc, w_put, w_retv, w_seq, w_set, w_skip, List.getElem?_cons_zero, List.getElem?_cons_succ, List.set_cons_zero, List.set_cons_succ, ee_cmp0, ee_cmp1, ee_cmp2, ee_cmp3, ee_cmp4, ee_cmp5, ee_cmpL0, ee_cmpL1, ee_cmpL2, ee_cmpL3, ee_cmpL4, ee_cmpL5, ee_tru_eb, decide_eq_true_eq, ib_i, ie_b, ie_f, ie_t, ib_l, fin_i, fin_l, fin_v, fin_z, fin_a, fin_n, ee_b_0, ee_fld0, ee_fld1, ee_fld2, ee_fld3, bi_0, bi_1, bi_2, bi_3, bi_4, bi_5, bi_6, bi_7, bi_8, bi_9, bi_10, bl_20, bl_21, bl_22, bl_23, bl_24, bl_25, bl_26, bl_48, bl_49, un_0, un_1, un_2, un_3, if_true, if_false, ite_true, ite_false, Bool.false_eq_true, Bool.not_eq_false, decide_not, Bool.not_not, reduceCtorEq, st_i, st_l, st_r, st_n, ee_noL, ee_noL.eq_1, List.length_cons, List.length_nil, Nat.reduceAdd, Nat.reduceLT, Nat.zero_add, and_true, true_and, and_self, fin_ite, pu_0, pu_1, pu_3, sto_0, el_0, Bool.not_eq_true, decide_eq_false_iff_not, Bool.decide_eq_true, Bool.decide_eq_false, decide_true, decide_false, Bool.not_true, Bool.not_false, Bool.and_self, Bool.and_true, Bool.and_false, Bool.true_and, Bool.false_and, Bool.or_true, Bool.or_false, Bool.true_or, Bool.false_or, if_true, if_false, Bool.false_eq_true]
  · refine ⟨c1, q2, 0, by omega, q3, fun i hi => ?_⟩
    have e0 : (0 + i) % 30 = i := by omega
    rw [e0]
    exact ⟨q4 i hi, (c5 i hi).2⟩
/-- head, steps, wobble, (lost, how many texts, the ruling one), requests, said -/
abbrev AX : Type := HX × SX × (Nat → Int32) × (Nat → Int32) × (Nat × (Nat → Int32)) × (Nat × (Nat → Int32 × Int32))
def al_ok (a : Nat) : Prop := es_sh a = (11, 0) ∧ es_rf a 0 = some (a + 1) ∧ es_rf a 1 = some (a + 4) ∧ es_rf a 2 = some (a + 96) ∧ es_rf a 6 = some (a + 97) ∧ es_rf a 8 = some (a + 98) ∧ es_rf a 9 = some (a + 99) ∧ es_sh (a + 96) = (0, 8) ∧ es_sh (a + 97) = (0, 6) ∧ es_sh (a + 98) = (0, 8) ∧ es_sh (a + 99) = (0, 8) ∧ hd_ok (a + 1) ∧ st_ok (a + 4)
def CA0 (w : ee_W) (a : Nat) (Y : AX) : Prop := (∀ k, k < 8 → w.1 (a + 96) k = Y.2.2.1 k) ∧ w.1 a 3 = Y.2.2.2.1 0 ∧ w.1 a 4 = Y.2.2.2.1 1 ∧ w.1 a 5 = Y.2.2.2.1 2 ∧ w.1 a 7 = Int32.ofNat Y.2.2.2.2.1.1 ∧ (∀ i, i < Y.2.2.2.2.1.1 → w.1 (a + 97) i = Y.2.2.2.2.1.2 i) ∧ w.1 a 10 = Int32.ofNat Y.2.2.2.2.2.1 ∧ (∀ i, i < Y.2.2.2.2.2.1 → w.1 (a + 98) i = (Y.2.2.2.2.2.2 i).1 ∧ w.1 (a + 99) i = (Y.2.2.2.2.2.2 i).2)
def CA (w : ee_W) (a : Nat) (Y : AX) : Prop := CH w (a + 1) Y.1 ∧ Y.1.2.1 ≤ 25 ∧ CS w (a + 4) Y.2.1 ∧ CA0 w a Y ∧ Y.2.2.2.2.1.1 ≤ 6 ∧ Y.2.2.2.2.2.1 ≤ 8
def arg (a : Nat) : Nat → Bool := rg a (a + 100)
theorem arg_in {a k : Nat} (h : k < 100) : arg a (a + k) = true := by unfold arg rg; simp; omega
theorem arg_0 (a : Nat) : arg a a = true := arg_in (k := 0) (by omega)
variable {Y : AX}
theorem CA0_chg {p : Nat → Bool} {w' : ee_W} (hY : CA0 w a Y) (hc : chg p w w') (h0 : p a = false) (hp : ∀ c, a + 96 ≤ c → c < a + 100 → p c = false) : CA0 w' a Y := by
  obtain ⟨b1, b2, b3, b4, b5, b6, b7, b8⟩ := hY
  refine ⟨fun k hk => ?_, ?_, ?_, ?_, ?_, fun i hi => ?_, ?_, fun i hi => ?_⟩
  · rw [hc.1 _ _ (hp _ (by omega) (by omega))]; exact b1 k hk
  · rw [hc.1 _ _ h0]; exact b2
  · rw [hc.1 _ _ h0]; exact b3
  · rw [hc.1 _ _ h0]; exact b4
  · rw [hc.1 _ _ h0]; exact b5
  · rw [hc.1 _ _ (hp _ (by omega) (by omega))]; exact b6 i hi
  · rw [hc.1 _ _ h0]; exact b7
  · rw [hc.1 _ _ (hp _ (by omega) (by omega)), hc.1 _ _ (hp _ (by omega) (by omega))]; exact b8 i hi
theorem CA_chg {p : Nat → Bool} {w' : ee_W} (hY : CA w a Y) (hc : chg p w w') (hp : ∀ c, a ≤ c → c < a + 100 → p c = false) : CA w' a Y := by
  obtain ⟨h1, h2, h3, h4, h5, h6⟩ := hY
  exact ⟨CH_chg h1 hc (hp _ (by omega) (by omega)) (hp _ (by omega) (by omega)) (hp _ (by omega) (by omega)), h2, CS_chg h3 hc (fun c q1 q2 => hp c (by omega) (by omega)), CA0_chg h4 hc (hp _ (by omega) (by omega)) (fun c q1 q2 => hp c (by omega) (by omega)), h5, h6⟩
theorem c_copyAll (hd : 4 ≤ d) (ha : al_ok a) (hb : al_ok b) (hne : b + 100 ≤ a ∨ a + 100 ≤ b) (hY : CA w b Y) : ∃ w', ee_run ee_B P d 180 [.ref a, .ref b] w = some ([], w') ∧ CA w' a Y ∧ chg (arg a) w w' := by
  obtain ⟨d, rfl⟩ : ∃ k, d = k + 1 := ⟨d - 1, by omega⟩
  have hd1 : 1 ≤ d := by omega
  have hd3 : 3 ≤ d := by omega
  obtain ⟨p0, p1, p2, p3, p4, p5, p6, p7, p8, p9, p10, p11, p12⟩ := ha
  obtain ⟨q0, q1, q2, q3, q4, q5, q6, q7, q8, q9, q10, q11, q12⟩ := hb
  obtain ⟨h1, h2, h3, h4, h5, h6⟩ := hY
  rw [rn_180 p0]
  obtain ⟨w1, n1, n2, n3⟩ := c_copyFrom (P := P) hd1 p11 q11 (by omega) h1 h2
  have h3' := CS_chg h3 n3 (fun c _ _ => hrg_ne (by omega))
  obtain ⟨w2, m1, m2, m3⟩ := c_copySteps (P := P) hd3 p12 q12 (by omega) h3'
  have c1 : chg (arg a) w w1 := chg_mono n3 (fun c hc => hrg_ne (by unfold arg at hc; rw [rg_f] at hc; omega))
  have c2 : chg (arg a) w w2 := chg_trans c1 (chg_mono m3 (fun c hc => by unfold arg at hc; unfold srg; rw [rg_f] at hc ⊢; omega))
  have h4' : CA0 w2 b Y := CA0_chg h4 c2 (by unfold arg; rw [rg_f]; omega) (fun c _ _ => by unfold arg; rw [rg_f]; omega)
  have m4 : CH w2 (a + 1) Y.1 := CH_chg n2 m3 (by unfold srg; rw [rg_f]; omega) (by unfold srg; rw [rg_f]; omega) (by unfold srg; rw [rg_f]; omega)
  obtain ⟨b1, b2, b3, b4, b5, b6, b7, b8⟩ := h4'
  have k1 : cpk es_sh (b + 96) 0 (a + 96) 0 8 = true := by unfold cpk; rw [p7, q7]; decide
  have k2 : cpk es_sh (b + 97) 0 (a + 97) 0 6 = true := by unfold cpk; rw [p8, q8]; decide
  have k3 : cpk es_sh (b + 98) 0 (a + 98) 0 8 = true := by unfold cpk; rw [p9, q9]; decide
  have k4 : cpk es_sh (b + 99) 0 (a + 99) 0 8 = true := by unfold cpk; rw [p10, q10]; decide
  have z0 : (0 : Int32).toNatClampNeg = 0 := by decide
  have z8 : (8 : Int32).toNatClampNeg = 8 := by decide
  have z6 : (6 : Int32).toNatClampNeg = 6 := by decide
  have g : ∀ i j, i < 100 → j < 100 → (b + i = a + j) = False := fun i j hi hj => eq_false (by omega)
  have g' : ∀ i j, i < 100 → j < 100 → ¬ (b + i = a + j) := fun i j hi hj => by omega
  have gb : ∀ j, j < 100 → (b = a + j) = False := fun j hj => eq_false (by omega)
  have ga : (b = a) = False := eq_false (by omega)
  have gc : ∀ i, i < 100 → (b + i = a) = False := fun i hi => eq_false (by omega)
  have ne : ∀ i, 0 < i → (a = a + i) = False := fun i hi => eq_false (by omega)
  have ne' : ∀ i, 0 < i → (a + i = a) = False := fun i hi => eq_false (by omega)
  have e1 := ne 96 (by omega)
  have e2 := ne 97 (by omega)
  have e3 := ne 98 (by omega)
  have e4 := ne 99 (by omega)
  have f1 := ne' 96 (by omega)
  have f2 := ne' 97 (by omega)
  have f3 := ne' 98 (by omega)
  have f4 := ne' 99 (by omega)
  have x1 := gb 96 (by omega)
  have x2 := gb 97 (by omega)
  have x3 := gb 98 (by omega)
  have x4 := gb 99 (by omega)
  apply Exists.intro
  refine ⟨?_, ⟨?_, h2, ?_, ?_, h5, h6⟩, ?_⟩
  · simp only [p0, p1, p2, p3, p4, p5, p6, q0, q1, q2, q3, q4, q5, q6, rvs, n1, m1, k1, k2, k3, k4, cpw_at, ga, e1, e2, e3, e4, x1, x2, x3, x4, b2, b3, b4, b5, b7, zz_ce, zz_ec, zz_cf, zz_fc, zz_ef, zz_fe, wI_at, wI_2, wJ_at, wJ_1, wJ_2, and_true, true_and, and_false, false_and, if_true, if_false, Nat.reduceEqDiff, Nat.reduceAdd, zero_ne_one_n, one_ne_zero_n, bd_180, k_0, k_6, k_8, nz_6, nz_8, v_call, v_cons, v_copy2, v_get, v_int, v_loc, v_nil, w_exp0, w_exp1, w_put, w_retv, w_seq, List.getElem?_cons_zero, List.getElem?_cons_succ, List.set_cons_zero, List.set_cons_succ, ee_cmp0, ee_cmp1, ee_cmp2, ee_cmp3, ee_cmp4, ee_cmp5, ee_cmpL0, ee_cmpL1, ee_cmpL2, ee_cmpL3, ee_cmpL4, ee_cmpL5, ee_tru_eb, decide_eq_true_eq, ib_i, ie_b, ie_f, ie_t, ib_l, fin_i, fin_l, fin_v, fin_z, fin_a, fin_n, ee_b_0, ee_fld0, ee_fld1, ee_fld2, ee_fld3, bi_0, bi_1, bi_2, bi_3, bi_4, bi_5, bi_6, bi_7, bi_8, bi_9, bi_10, bl_20, bl_21, bl_22, bl_23, bl_24, bl_25, bl_26, bl_48, bl_49, un_0, un_1, un_2, un_3, if_true, if_false, ite_true, ite_false, Bool.false_eq_true, Bool.not_eq_false, decide_not, Bool.not_not, reduceCtorEq, st_i, st_l, st_r, st_n, ee_noL, ee_noL.eq_1, List.length_cons, List.length_nil, Nat.reduceAdd, Nat.reduceLT, Nat.zero_add, and_true, true_and, and_self, fin_ite, pu_0, pu_1, pu_3, sto_0, el_0, Bool.not_eq_true, decide_eq_false_iff_not, Bool.decide_eq_true, Bool.decide_eq_false, decide_true, decide_false, Bool.not_true, Bool.not_false, Bool.and_self, Bool.and_true, Bool.and_false, Bool.true_and, Bool.false_and, Bool.or_true, Bool.or_false, Bool.true_or, Bool.false_or, if_true, if_false, Bool.false_eq_true]
    rfl
  · refine CH_chg m4 (p := fun c => decide (c = a) || decide (a + 96 ≤ c)) ?_ (by simp <;> omega) (by simp <;> omega) (by simp <;> omega)
    exact chg_I (by simp) (chg_cp (by simp) (chg_cp (by simp) (chg_I (by simp) (chg_cp (by simp) (chg_I (by simp) (chg_I (by simp) (chg_I (by simp) (chg_cp (by simp) (chg_refl _ _)))))))))
  · refine CS_chg m2 (p := fun c => decide (c = a) || decide (a + 96 ≤ c)) ?_ (fun c _ _ => by simp <;> omega)
    exact chg_I (by simp) (chg_cp (by simp) (chg_cp (by simp) (chg_I (by simp) (chg_cp (by simp) (chg_I (by simp) (chg_I (by simp) (chg_I (by simp) (chg_cp (by simp) (chg_refl _ _)))))))))
  · refine ⟨fun k hk => ?_, ?_, ?_, ?_, ?_, fun i hi => ?_, ?_, fun i hi => ?_⟩
    · simp only [cpw_at, f1, z0, z8, Nat.sub_zero, Nat.zero_add, Nat.zero_le, hk, zz_ce, zz_ec, zz_cf, zz_fc, zz_ef, zz_fe, wI_at, wI_2, wJ_at, wJ_1, wJ_2, and_true, true_and, and_false, false_and, if_true, if_false, Nat.reduceEqDiff, Nat.reduceAdd, zero_ne_one_n, one_ne_zero_n, show (a + 96 = a + 97) = False from eq_false (by omega), show (a + 96 = a + 98) = False from eq_false (by omega), show (a + 96 = a + 99) = False from eq_false (by omega)]
      exact b1 k hk
    · simp only [cpw_at, e1, e2, e3, e4, zz_ce, zz_ec, zz_cf, zz_fc, zz_ef, zz_fe, wI_at, wI_2, wJ_at, wJ_1, wJ_2, and_true, true_and, and_false, false_and, if_true, if_false, Nat.reduceEqDiff, Nat.reduceAdd, zero_ne_one_n, one_ne_zero_n]
    · simp only [cpw_at, e1, e2, e3, e4, zz_ce, zz_ec, zz_cf, zz_fc, zz_ef, zz_fe, wI_at, wI_2, wJ_at, wJ_1, wJ_2, and_true, true_and, and_false, false_and, if_true, if_false, Nat.reduceEqDiff, Nat.reduceAdd, zero_ne_one_n, one_ne_zero_n]
    · simp only [cpw_at, e1, e2, e3, e4, zz_ce, zz_ec, zz_cf, zz_fc, zz_ef, zz_fe, wI_at, wI_2, wJ_at, wJ_1, wJ_2, and_true, true_and, and_false, false_and, if_true, if_false, Nat.reduceEqDiff, Nat.reduceAdd, zero_ne_one_n, one_ne_zero_n]
    · simp only [cpw_at, e1, e2, e3, e4, zz_ce, zz_ec, zz_cf, zz_fc, zz_ef, zz_fe, wI_at, wI_2, wJ_at, wJ_1, wJ_2, and_true, true_and, and_false, false_and, if_true, if_false, Nat.reduceEqDiff, Nat.reduceAdd, zero_ne_one_n, one_ne_zero_n]
    · have hi6 : i < 6 := by omega
      simp only [cpw_at, f2, z0, z6, Nat.sub_zero, Nat.zero_add, Nat.zero_le, hi6, gc, g, zz_ce, zz_ec, zz_cf, zz_fc, zz_ef, zz_fe, wI_at, wI_2, wJ_at, wJ_1, wJ_2, and_true, true_and, and_false, false_and, if_true, if_false, Nat.reduceEqDiff, Nat.reduceAdd, zero_ne_one_n, one_ne_zero_n, show (a + 97 = a + 96) = False from eq_false (by omega), show (a + 97 = a + 98) = False from eq_false (by omega), show (a + 97 = a + 99) = False from eq_false (by omega), gc 97 (by omega), g 97 96 (by omega) (by omega)]
      exact b6 i hi
    · simp only [cpw_at, e1, e2, e3, e4, zz_ce, zz_ec, zz_cf, zz_fc, zz_ef, zz_fe, wI_at, wI_2, wJ_at, wJ_1, wJ_2, and_true, true_and, and_false, false_and, if_true, if_false, Nat.reduceEqDiff, Nat.reduceAdd, zero_ne_one_n, one_ne_zero_n]
    · have hi8 : i < 8 := by omega
      simp only [cpw_at, f3, f4, z0, z8, z6, Nat.sub_zero, Nat.zero_add, Nat.zero_le, hi8, zz_ce, zz_ec, zz_cf, zz_fc, zz_ef, zz_fe, wI_at, wI_2, wJ_at, wJ_1, wJ_2, and_true, true_and, and_false, false_and, if_true, if_false, Nat.reduceEqDiff, Nat.reduceAdd, zero_ne_one_n, one_ne_zero_n, show (a + 98 = a + 96) = False from eq_false (by omega), show (a + 98 = a + 97) = False from eq_false (by omega), show (a + 98 = a + 99) = False from eq_false (by omega), show (a + 99 = a + 96) = False from eq_false (by omega), show (a + 99 = a + 97) = False from eq_false (by omega), show (a + 99 = a + 98) = False from eq_false (by omega), gc 98 (by omega), g 98 96 (by omega) (by omega), g 98 97 (by omega) (by omega), gc 99 (by omega), g 99 96 (by omega) (by omega), g 99 97 (by omega) (by omega), g 99 98 (by omega) (by omega)]
      exact b8 i hi
  · refine chg_trans c2 ?_
    exact chg_I (arg_0 a) (chg_cp (arg_in (by omega)) (chg_cp (arg_in (by omega)) (chg_I (arg_0 a) (chg_cp (arg_in (by omega)) (chg_I (arg_0 a) (chg_I (arg_0 a) (chg_I (arg_0 a) (chg_cp (arg_in (by omega)) (chg_refl _ _)))))))))
end AL
