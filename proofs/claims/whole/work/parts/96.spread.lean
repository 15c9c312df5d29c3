/-! spread on both sides -/
section BS3
variable {P : Nat → Nat → List Value → ee_W → Option (List Value × ee_W)} {d : Nat} {w : ee_W} {Z : ZX}
def vsp (Z : ZX) (u : Int32) (k : Nat) : Int32 := if u = 0 then Z.1.2.2.1 k else lf Z k
def spr (Z : ZX) (u : Int32) : Nat → Option (Int32 × Int32)
  | 0 => none
  | k + 1 => if lsb Z k = true then spr Z u k else match spr Z u k with
    | none => some (vsp Z u k, vsp Z u k)
    | some p => some (xmin p.1 (vsp Z u k), mxI p.2 (vsp Z u k))
theorem vsp_b (hW : WZ Z) (u : Int32) {k : Nat} (hk : k < 8) : bI (vsp Z u k) (-200) 200 := by
  have a := hW.1.2.2.1 k hk
  have b := hW.1.1.1.2.2.2.2.2.2.2.2.2 k hk
  unfold vsp lf
  unfold bI at *
  split
  · omega
  · rw [i32_sub] <;> omega
theorem spr_b (hW : WZ Z) (u : Int32) : ∀ k, k ≤ 8 → ∀ p, spr Z u k = some p → bI p.1 (-200) 200 ∧ bI p.2 (-200) 200 ∧ p.1.toInt ≤ p.2.toInt := by
  intro k
  induction k with
  | zero => intro _ p h; cases h
  | succ k ih =>
    intro hk p h
    have v := vsp_b hW u (show k < 8 by omega)
    have e : spr Z u (k + 1) = if lsb Z k = true then spr Z u k else match spr Z u k with
      | none => some (vsp Z u k, vsp Z u k)
      | some p => some (xmin p.1 (vsp Z u k), mxI p.2 (vsp Z u k)) := rfl
    rw [e] at h
    cases a : lsb Z k
    · rw [a, if_neg (by decide)] at h
      cases c : spr Z u k with
      | none =>
        rw [c] at h
        dsimp only at h
        injection h with h
        subst h
        exact ⟨v, v, Int.le_refl _⟩
      | some q =>
        rw [c] at h
        dsimp only at h
        injection h with h
        subst h
        obtain ⟨i1, i2, i3⟩ := ih (by omega) q c
        unfold bI at *
        unfold xmin mxI
        dsimp only
        refine ⟨?_, ?_, ?_⟩
        · split <;> omega
        · split <;> omega
        · split
          · split
            · omega
            · rename_i r1 r2; rw [i32_le] at r1 r2; omega
          · split
            · rename_i r1 r2; rw [i32_le] at r1 r2; omega
            · omega
    · rw [a, if_pos rfl] at h
      exact ih (by omega) p h
def spA (o : Option (Int32 × Int32)) : Int32 := match o with
  | none => 0
  | some _ => 1
def spL (o : Option (Int32 × Int32)) (x : Int32) : Int32 := match o with
  | none => x
  | some p => p.1
def spH (o : Option (Int32 × Int32)) (x : Int32) : Int32 := match o with
  | none => x
  | some p => p.2
theorem b_spread (hd : 5 ≤ d) (hS : Sim w) (u : Int32) : Both P d 164 332 [.int u] w := by
  obtain ⟨Z, h1, h2, h3⟩ := hS
  obtain ⟨d, rfl⟩ : ∃ k, d = k + 1 := ⟨d - 1, by omega⟩
  have hd1 : 1 ≤ d := by omega
  have hd2 : 2 ≤ d := by omega
  have hd3 : 3 ≤ d := by omega
  refine both_q h1 h2 h3 (r := .int (spH (spr Z u 8) 0 - spL (spr Z u 8) 0)) ?_ ?_
  · obtain ⟨r, hr, hq⟩ := wh_n (f := ee_turn (ee_ev es_sh es_rf (ee_run ee_B P d) lx_164_1) (ee_evS es_sh es_rf (ee_run ee_B P d) lb_164_1))
      (I := fun m y => ∃ k v, m = 8 - k ∧ k ≤ 8 ∧ y = ([some (.ref 0), some (.int u), some (.int (spA (spr Z u k))), some (.int (spL (spr Z u k) 0)), some (.int (spH (spr Z u k) 0)), some (.int (Int32.ofNat k)), v], w))
      (Q := fun r => ∃ q v, r = .inl ([some (.ref 0), some (.int u), some (.int (spA (spr Z u 8))), some (.int (spL (spr Z u 8) 0)), some (.int (spH (spr Z u 8) 0)), some (.int q), v], w))
      (by
        rintro m y ⟨k, v, rfl, hk, rfl⟩
        have e : spr Z u (k + 1) = if lsb Z k = true then spr Z u k else match spr Z u k with
          | none => some (vsp Z u k, vsp Z u k)
          | some p => some (xmin p.1 (vsp Z u k), mxI p.2 (vsp Z u k)) := rfl
        have h9 : (Int32.ofNat k < 8) ↔ k < 8 := j_lt (b := 8) (by omega) (by omega)
        by_cases g : k < 8
        · left
          have l := c_lostZ (P := P) hd1 h1 k
          cases a : lsb Z k
          · rw [a] at l
            rw [a, if_neg (by decide)] at e
            have lv := c_leftOf (P := P) hd3 h1 g
            have w1 := c_wobbleOf (P := P) (w := w) hd2 (wob := Z.1.2.2.1) h1.1.2.2.2.1.1 (Int32.ofNat k)
            have w2 : xwob Z.1.2.2.1 (Int32.ofNat k) = Z.1.2.2.1 k := by unfold xwob; rw [if_pos (in07_n g), tnc (by omega)]
            rw [w2] at w1
            refine ⟨([some (.ref 0), some (.int u), some (.int (spA (spr Z u (k + 1)))), some (.int (spL (spr Z u (k + 1)) 0)), some (.int (spH (spr Z u (k + 1)) 0)), some (.int (Int32.ofNat (k + 1))), some (.int (vsp Z u k))], w), 8 - (k + 1), ?_, by omega, k + 1, _, rfl, by omega, rfl⟩
            rw [e]
            have n1 : ¬ (1 : Int32) = 0 := by decide
            cases c : spr Z u k with
            | none => by_cases z : u = 0 <;> simp only [h9, g, l, lv, w1, z, vsp, spA, spL, spH, j_s, j_a, lx_164_1, lb_164_1, ee_turn, k_0, k_1, k_8, nz_1, nz_8, v_bin, v_call, v_cmp, v_cons, v_int, v_loc, v_nil, v_not, v_tern, v_z, w_if, w_inc, w_ret, w_seq, w_set, w_skip, List.getElem?_cons_zero, List.getElem?_cons_succ, List.set_cons_zero, List.set_cons_succ, ee_cmp0, ee_cmp1, ee_cmp2, ee_cmp3, ee_cmp4, ee_cmp5, ee_cmpL0, ee_cmpL1, ee_cmpL2, ee_cmpL3, ee_cmpL4, ee_cmpL5, ee_tru_eb, decide_eq_true_eq, ib_i, ie_b, ie_f, ie_t, ib_l, fin_i, fin_l, fin_v, fin_z, fin_a, fin_n, ee_b_0, ee_fld0, ee_fld1, ee_fld2, ee_fld3, bi_0, bi_1, bi_2, bi_3, bi_4, bi_5, bi_6, bi_7, bi_8, bi_9, bi_10, bl_20, bl_21, bl_22, bl_23, bl_24, bl_25, bl_26, bl_48, bl_49, un_0, un_1, un_2, un_3, if_true, if_false, ite_true, ite_false, Bool.false_eq_true, Bool.not_eq_false, decide_not, Bool.not_not, reduceCtorEq, st_i, st_l, st_r, st_n, ee_noL, ee_noL.eq_1, List.length_cons, List.length_nil, Nat.reduceAdd, Nat.reduceLT, Nat.zero_add, and_true, true_and, and_self, fin_ite, pu_0, pu_1, pu_3, sto_0, el_0, Bool.not_eq_true, decide_eq_false_iff_not, Bool.decide_eq_true, Bool.decide_eq_false, decide_true, decide_false, Bool.not_true, Bool.not_false, Bool.and_self, Bool.and_true, Bool.and_false, Bool.true_and, Bool.false_and, Bool.or_true, Bool.or_false, Bool.true_or, Bool.false_or, if_true, if_false, Bool.false_eq_true]
            | some p => by_cases z : u = 0 <;> simp only [h9, g, l, lv, w1, z, n1, vsp, spA, spL, spH, r_min hd1, r_max hd1, xmin, mxI, j_s, j_a, lx_164_1, lb_164_1, ee_turn, k_0, k_1, k_8, nz_1, nz_8, v_bin, v_call, v_cmp, v_cons, v_int, v_loc, v_nil, v_not, v_tern, v_z, w_if, w_inc, w_ret, w_seq, w_set, w_skip, List.getElem?_cons_zero, List.getElem?_cons_succ, List.set_cons_zero, List.set_cons_succ, ee_cmp0, ee_cmp1, ee_cmp2, ee_cmp3, ee_cmp4, ee_cmp5, ee_cmpL0, ee_cmpL1, ee_cmpL2, ee_cmpL3, ee_cmpL4, ee_cmpL5, ee_tru_eb, decide_eq_true_eq, ib_i, ie_b, ie_f, ie_t, ib_l, fin_i, fin_l, fin_v, fin_z, fin_a, fin_n, ee_b_0, ee_fld0, ee_fld1, ee_fld2, ee_fld3, bi_0, bi_1, bi_2, bi_3, bi_4, bi_5, bi_6, bi_7, bi_8, bi_9, bi_10, bl_20, bl_21, bl_22, bl_23, bl_24, bl_25, bl_26, bl_48, bl_49, un_0, un_1, un_2, un_3, if_true, if_false, ite_true, ite_false, Bool.false_eq_true, Bool.not_eq_false, decide_not, Bool.not_not, reduceCtorEq, st_i, st_l, st_r, st_n, ee_noL, ee_noL.eq_1, List.length_cons, List.length_nil, Nat.reduceAdd, Nat.reduceLT, Nat.zero_add, and_true, true_and, and_self, fin_ite, pu_0, pu_1, pu_3, sto_0, el_0, Bool.not_eq_true, decide_eq_false_iff_not, Bool.decide_eq_true, Bool.decide_eq_false, decide_true, decide_false, Bool.not_true, Bool.not_false, Bool.and_self, Bool.and_true, Bool.and_false, Bool.true_and, Bool.false_and, Bool.or_true, Bool.or_false, Bool.true_or, Bool.false_or, if_true, if_false, Bool.false_eq_true]
          · rw [a] at l
            rw [a, if_pos rfl] at e
            refine ⟨([some (.ref 0), some (.int u), some (.int (spA (spr Z u (k + 1)))), some (.int (spL (spr Z u (k + 1)) 0)), some (.int (spH (spr Z u (k + 1)) 0)), some (.int (Int32.ofNat (k + 1))), v], w), 8 - (k + 1), ?_, by omega, k + 1, _, rfl, by omega, rfl⟩
            rw [e]
            simp only [h9, g, l, j_s, j_a, lx_164_1, lb_164_1, ee_turn, k_0, k_1, k_8, nz_1, nz_8, v_bin, v_call, v_cmp, v_cons, v_int, v_loc, v_nil, v_not, v_tern, v_z, w_if, w_inc, w_ret, w_seq, w_set, w_skip, List.getElem?_cons_zero, List.getElem?_cons_succ, List.set_cons_zero, List.set_cons_succ, ee_cmp0, ee_cmp1, ee_cmp2, ee_cmp3, ee_cmp4, ee_cmp5, ee_cmpL0, ee_cmpL1, ee_cmpL2, ee_cmpL3, ee_cmpL4, ee_cmpL5, ee_tru_eb, decide_eq_true_eq, ib_i, ie_b, ie_f, ie_t, ib_l, fin_i, fin_l, fin_v, fin_z, fin_a, fin_n, ee_b_0, ee_fld0, ee_fld1, ee_fld2, ee_fld3, bi_0, bi_1, bi_2, bi_3, bi_4, bi_5, bi_6, bi_7, bi_8, bi_9, bi_10, bl_20, bl_21, bl_22, bl_23, bl_24, bl_25, bl_26, bl_48, bl_49, un_0, un_1, un_2, un_3, if_true, if_false, ite_true, ite_false, Bool.false_eq_true, Bool.not_eq_false, decide_not, Bool.not_not, reduceCtorEq, st_i, st_l, st_r, st_n, ee_noL, ee_noL.eq_1, List.length_cons, List.length_nil, Nat.reduceAdd, Nat.reduceLT, Nat.zero_add, and_true, true_and, and_self, fin_ite, pu_0, pu_1, pu_3, sto_0, el_0, Bool.not_eq_true, decide_eq_false_iff_not, Bool.decide_eq_true, Bool.decide_eq_false, decide_true, decide_false, Bool.not_true, Bool.not_false, Bool.and_self, Bool.and_true, Bool.and_false, Bool.true_and, Bool.false_and, Bool.or_true, Bool.or_false, Bool.true_or, Bool.false_or, if_true, if_false, Bool.false_eq_true]
        · right
          have hkn : k = 8 := by omega
          subst hkn
          have h9' : ¬ (8 : Int32) < 8 := by decide
          refine ⟨.inl ([some (.ref 0), some (.int u), some (.int (spA (spr Z u 8))), some (.int (spL (spr Z u 8) 0)), some (.int (spH (spr Z u 8) 0)), some (.int (Int32.ofNat 8)), v], w), ?_, _, _, rfl⟩
          simp only [h9', lx_164_1, lb_164_1, ee_turn, k_0, k_1, k_8, nz_1, nz_8, v_bin, v_call, v_cmp, v_cons, v_int, v_loc, v_nil, v_not, v_tern, v_z, w_if, w_inc, w_ret, w_seq, w_set, w_skip, List.getElem?_cons_zero, List.getElem?_cons_succ, List.set_cons_zero, List.set_cons_succ, ee_cmp0, ee_cmp1, ee_cmp2, ee_cmp3, ee_cmp4, ee_cmp5, ee_cmpL0, ee_cmpL1, ee_cmpL2, ee_cmpL3, ee_cmpL4, ee_cmpL5, ee_tru_eb, decide_eq_true_eq, ib_i, ie_b, ie_f, ie_t, ib_l, fin_i, fin_l, fin_v, fin_z, fin_a, fin_n, ee_b_0, ee_fld0, ee_fld1, ee_fld2, ee_fld3, bi_0, bi_1, bi_2, bi_3, bi_4, bi_5, bi_6, bi_7, bi_8, bi_9, bi_10, bl_20, bl_21, bl_22, bl_23, bl_24, bl_25, bl_26, bl_48, bl_49, un_0, un_1, un_2, un_3, if_true, if_false, ite_true, ite_false, Bool.false_eq_true, Bool.not_eq_false, decide_not, Bool.not_not, reduceCtorEq, st_i, st_l, st_r, st_n, ee_noL, ee_noL.eq_1, List.length_cons, List.length_nil, Nat.reduceAdd, Nat.reduceLT, Nat.zero_add, and_true, true_and, and_self, fin_ite, pu_0, pu_1, pu_3, sto_0, el_0, Bool.not_eq_true, decide_eq_false_iff_not, Bool.decide_eq_true, Bool.decide_eq_false, decide_true, decide_false, Bool.not_true, Bool.not_false, Bool.and_self, Bool.and_true, Bool.and_false, Bool.true_and, Bool.false_and, Bool.or_true, Bool.or_false, Bool.true_or, Bool.false_or, if_true, if_false, Bool.false_eq_true])
      (8 - 0) ([some (.ref 0), some (.int u), some (.int (spA (spr Z u 0))), some (.int (spL (spr Z u 0) 0)), some (.int (spH (spr Z u 0) 0)), some (.int (Int32.ofNat 0)), none], w) ⟨0, _, rfl, Nat.zero_le _, rfl⟩
    rw [k_0, show spA (spr Z u 0) = 0 from rfl, show spL (spr Z u 0) 0 = 0 from rfl, show spH (spr Z u 0) 0 = 0 from rfl] at hr
    obtain ⟨q, v, rfl⟩ := hq
    rw [rn_164 cz_0]
    simp only [w_while, hr, be_164, k_0, k_1, k_8, nz_1, nz_8, v_bin, v_call, v_cmp, v_cons, v_int, v_loc, v_nil, v_not, v_tern, v_z, w_if, w_inc, w_ret, w_seq, w_set, w_skip, List.getElem?_cons_zero, List.getElem?_cons_succ, List.set_cons_zero, List.set_cons_succ, ee_cmp0, ee_cmp1, ee_cmp2, ee_cmp3, ee_cmp4, ee_cmp5, ee_cmpL0, ee_cmpL1, ee_cmpL2, ee_cmpL3, ee_cmpL4, ee_cmpL5, ee_tru_eb, decide_eq_true_eq, ib_i, ie_b, ie_f, ie_t, ib_l, fin_i, fin_l, fin_v, fin_z, fin_a, fin_n, ee_b_0, ee_fld0, ee_fld1, ee_fld2, ee_fld3, bi_0, bi_1, bi_2, bi_3, bi_4, bi_5, bi_6, bi_7, bi_8, bi_9, bi_10, bl_20, bl_21, bl_22, bl_23, bl_24, bl_25, bl_26, bl_48, bl_49, un_0, un_1, un_2, un_3, if_true, if_false, ite_true, ite_false, Bool.false_eq_true, Bool.not_eq_false, decide_not, Bool.not_not, reduceCtorEq, st_i, st_l, st_r, st_n, ee_noL, ee_noL.eq_1, List.length_cons, List.length_nil, Nat.reduceAdd, Nat.reduceLT, Nat.zero_add, and_true, true_and, and_self, fin_ite, pu_0, pu_1, pu_3, sto_0, el_0, Bool.not_eq_true, decide_eq_false_iff_not, Bool.decide_eq_true, Bool.decide_eq_false, decide_true, decide_false, Bool.not_true, Bool.not_false, Bool.and_self, Bool.and_true, Bool.and_false, Bool.true_and, Bool.false_and, Bool.or_true, Bool.or_false, Bool.true_or, Bool.false_or, if_true, if_false, Bool.false_eq_true]
  · obtain ⟨r, hr, hq⟩ := wh_n (f := ee_turn (ee_ev es_sh es_rf (ee_run ee_B P d) lx_332_1) (ee_evS es_sh es_rf (ee_run ee_B P d) lb_332_1))
      (I := fun m y => ∃ k v, m = 8 - k ∧ k ≤ 8 ∧ y = ([some (.ref 236), some (.int u), some (.int (spH (spr Z u k) (-10000))), some (.int (spL (spr Z u k) 1000000)), some (.int (Int32.ofNat k)), v], w))
      (Q := fun r => ∃ q v, r = .inl ([some (.ref 236), some (.int u), some (.int (spH (spr Z u 8) (-10000))), some (.int (spL (spr Z u 8) 1000000)), some (.int q), v], w))
      (by
        rintro m y ⟨k, v, rfl, hk, rfl⟩
        have e : spr Z u (k + 1) = if lsb Z k = true then spr Z u k else match spr Z u k with
          | none => some (vsp Z u k, vsp Z u k)
          | some p => some (xmin p.1 (vsp Z u k), mxI p.2 (vsp Z u k)) := rfl
        have h9 : (Int32.ofNat k < 8) ↔ k < 8 := j_lt (b := 8) (by omega) (by omega)
        by_cases g : k < 8
        · left
          have l := m_lostZ (P := P) hd2 h2 k
          cases a : lsb Z k
          · rw [a] at l
            rw [a, if_neg (by decide)] at e
            have lv := m_leftOf (P := P) hd1 h2 g
            have mw := h2.1.2.2.2.1 _ g
            have a23 : (23 : Int32) + Int32.ofNat k = Int32.ofNat (23 + k) := j_a 23 k
            have x23 : ee_ix (Int32.ofNat (23 + k)) 1369 = true := by rw [ixn (by omega)]; exact decide_eq_true (by omega)
            have t23 := tnc (show 23 + k < 2147483648 by omega)
            have vb := vsp_b h3 u g
            unfold bI at vb
            refine ⟨([some (.ref 236), some (.int u), some (.int (spH (spr Z u (k + 1)) (-10000))), some (.int (spL (spr Z u (k + 1)) 1000000)), some (.int (Int32.ofNat (k + 1))), some (.int (vsp Z u k))], w), 8 - (k + 1), ?_, by omega, k + 1, _, rfl, by omega, rfl⟩
            rw [e]
            have ev0 : u = 0 → vsp Z u k = Z.1.2.2.1 k := fun z => by unfold vsp; rw [if_pos z]
            have ev1 : ¬ u = 0 → vsp Z u k = lf Z k := fun z => by unfold vsp; rw [if_neg z]
            have q1 : mxI (-10000) (vsp Z u k) = vsp Z u k := by
              unfold mxI
              rw [if_neg (by rw [i32_le, show (-10000 : Int32).toInt = -10000 from rfl]; omega)]
            have q2 : xmin 1000000 (vsp Z u k) = vsp Z u k := by
              unfold xmin
              rw [if_neg (by rw [i32_le, show (1000000 : Int32).toInt = 1000000 from rfl]; omega)]
            by_cases z : u = 0
            · rw [← ev0 z] at mw
              cases c : spr Z u k with
              | none => simp only [h9, g, l, mw, a23, x23, t23, z, mx_m, mn_m, spL, spH, lx_332_1, lb_332_1, ee_turn, k_0, k_1000000, k_23, k_4294957296, k_8, nz_1000000, nz_23, nz_8, v_bin, v_call, v_cmp, v_cons, v_get, v_idx, v_int, v_loc, v_nil, v_tern, v_z, w_if, w_inc, w_ret, w_seq, w_set, w_skip, List.getElem?_cons_zero, List.getElem?_cons_succ, List.set_cons_zero, List.set_cons_succ, ee_cmp0, ee_cmp1, ee_cmp2, ee_cmp3, ee_cmp4, ee_cmp5, ee_cmpL0, ee_cmpL1, ee_cmpL2, ee_cmpL3, ee_cmpL4, ee_cmpL5, ee_tru_eb, decide_eq_true_eq, ib_i, ie_b, ie_f, ie_t, ib_l, fin_i, fin_l, fin_v, fin_z, fin_a, fin_n, ee_b_0, ee_fld0, ee_fld1, ee_fld2, ee_fld3, bi_0, bi_1, bi_2, bi_3, bi_4, bi_5, bi_6, bi_7, bi_8, bi_9, bi_10, bl_20, bl_21, bl_22, bl_23, bl_24, bl_25, bl_26, bl_48, bl_49, un_0, un_1, un_2, un_3, if_true, if_false, ite_true, ite_false, Bool.false_eq_true, Bool.not_eq_false, decide_not, Bool.not_not, reduceCtorEq, st_i, st_l, st_r, st_n, ee_noL, ee_noL.eq_1, List.length_cons, List.length_nil, Nat.reduceAdd, Nat.reduceLT, Nat.zero_add, and_true, true_and, and_self, fin_ite, pu_0, pu_1, pu_3, sto_0, el_0, Bool.not_eq_true, decide_eq_false_iff_not, Bool.decide_eq_true, Bool.decide_eq_false, decide_true, decide_false, Bool.not_true, Bool.not_false, Bool.and_self, Bool.and_true, Bool.and_false, Bool.true_and, Bool.false_and, Bool.or_true, Bool.or_false, Bool.true_or, Bool.false_or, if_true, if_false, Bool.false_eq_true, tc_0, ix_0, tc_1000000, ix_1000000, tc_23, ix_23, tc_8, ix_8, mz_0, mz_1, mz_a, rvs, j_s, j_a, wI_at, Nat.reduceEqDiff, zero_ne_one_n, one_ne_zero_n]; rw [z] at q1 q2; simp only [q1, q2]
              | some p => simp only [h9, g, l, mw, a23, x23, t23, z, mx_m, mn_m, spL, spH, lx_332_1, lb_332_1, ee_turn, k_0, k_1000000, k_23, k_4294957296, k_8, nz_1000000, nz_23, nz_8, v_bin, v_call, v_cmp, v_cons, v_get, v_idx, v_int, v_loc, v_nil, v_tern, v_z, w_if, w_inc, w_ret, w_seq, w_set, w_skip, List.getElem?_cons_zero, List.getElem?_cons_succ, List.set_cons_zero, List.set_cons_succ, ee_cmp0, ee_cmp1, ee_cmp2, ee_cmp3, ee_cmp4, ee_cmp5, ee_cmpL0, ee_cmpL1, ee_cmpL2, ee_cmpL3, ee_cmpL4, ee_cmpL5, ee_tru_eb, decide_eq_true_eq, ib_i, ie_b, ie_f, ie_t, ib_l, fin_i, fin_l, fin_v, fin_z, fin_a, fin_n, ee_b_0, ee_fld0, ee_fld1, ee_fld2, ee_fld3, bi_0, bi_1, bi_2, bi_3, bi_4, bi_5, bi_6, bi_7, bi_8, bi_9, bi_10, bl_20, bl_21, bl_22, bl_23, bl_24, bl_25, bl_26, bl_48, bl_49, un_0, un_1, un_2, un_3, if_true, if_false, ite_true, ite_false, Bool.false_eq_true, Bool.not_eq_false, decide_not, Bool.not_not, reduceCtorEq, st_i, st_l, st_r, st_n, ee_noL, ee_noL.eq_1, List.length_cons, List.length_nil, Nat.reduceAdd, Nat.reduceLT, Nat.zero_add, and_true, true_and, and_self, fin_ite, pu_0, pu_1, pu_3, sto_0, el_0, Bool.not_eq_true, decide_eq_false_iff_not, Bool.decide_eq_true, Bool.decide_eq_false, decide_true, decide_false, Bool.not_true, Bool.not_false, Bool.and_self, Bool.and_true, Bool.and_false, Bool.true_and, Bool.false_and, Bool.or_true, Bool.or_false, Bool.true_or, Bool.false_or, if_true, if_false, Bool.false_eq_true, tc_0, ix_0, tc_1000000, ix_1000000, tc_23, ix_23, tc_8, ix_8, mz_0, mz_1, mz_a, rvs, j_s, j_a, wI_at, Nat.reduceEqDiff, zero_ne_one_n, one_ne_zero_n]
            · rw [← ev1 z] at lv
              cases c : spr Z u k with
              | none => simp only [h9, g, l, lv, z, mx_m, mn_m, spL, spH, q1, q2, lx_332_1, lb_332_1, ee_turn, k_0, k_1000000, k_23, k_4294957296, k_8, nz_1000000, nz_23, nz_8, v_bin, v_call, v_cmp, v_cons, v_get, v_idx, v_int, v_loc, v_nil, v_tern, v_z, w_if, w_inc, w_ret, w_seq, w_set, w_skip, List.getElem?_cons_zero, List.getElem?_cons_succ, List.set_cons_zero, List.set_cons_succ, ee_cmp0, ee_cmp1, ee_cmp2, ee_cmp3, ee_cmp4, ee_cmp5, ee_cmpL0, ee_cmpL1, ee_cmpL2, ee_cmpL3, ee_cmpL4, ee_cmpL5, ee_tru_eb, decide_eq_true_eq, ib_i, ie_b, ie_f, ie_t, ib_l, fin_i, fin_l, fin_v, fin_z, fin_a, fin_n, ee_b_0, ee_fld0, ee_fld1, ee_fld2, ee_fld3, bi_0, bi_1, bi_2, bi_3, bi_4, bi_5, bi_6, bi_7, bi_8, bi_9, bi_10, bl_20, bl_21, bl_22, bl_23, bl_24, bl_25, bl_26, bl_48, bl_49, un_0, un_1, un_2, un_3, if_true, if_false, ite_true, ite_false, Bool.false_eq_true, Bool.not_eq_false, decide_not, Bool.not_not, reduceCtorEq, st_i, st_l, st_r, st_n, ee_noL, ee_noL.eq_1, List.length_cons, List.length_nil, Nat.reduceAdd, Nat.reduceLT, Nat.zero_add, and_true, true_and, and_self, fin_ite, pu_0, pu_1, pu_3, sto_0, el_0, Bool.not_eq_true, decide_eq_false_iff_not, Bool.decide_eq_true, Bool.decide_eq_false, decide_true, decide_false, Bool.not_true, Bool.not_false, Bool.and_self, Bool.and_true, Bool.and_false, Bool.true_and, Bool.false_and, Bool.or_true, Bool.or_false, Bool.true_or, Bool.false_or, if_true, if_false, Bool.false_eq_true, tc_0, ix_0, tc_1000000, ix_1000000, tc_23, ix_23, tc_8, ix_8, mz_0, mz_1, mz_a, rvs, j_s, j_a, wI_at, Nat.reduceEqDiff, zero_ne_one_n, one_ne_zero_n]
              | some p => simp only [h9, g, l, lv, z, mx_m, mn_m, spL, spH, lx_332_1, lb_332_1, ee_turn, k_0, k_1000000, k_23, k_4294957296, k_8, nz_1000000, nz_23, nz_8, v_bin, v_call, v_cmp, v_cons, v_get, v_idx, v_int, v_loc, v_nil, v_tern, v_z, w_if, w_inc, w_ret, w_seq, w_set, w_skip, List.getElem?_cons_zero, List.getElem?_cons_succ, List.set_cons_zero, List.set_cons_succ, ee_cmp0, ee_cmp1, ee_cmp2, ee_cmp3, ee_cmp4, ee_cmp5, ee_cmpL0, ee_cmpL1, ee_cmpL2, ee_cmpL3, ee_cmpL4, ee_cmpL5, ee_tru_eb, decide_eq_true_eq, ib_i, ie_b, ie_f, ie_t, ib_l, fin_i, fin_l, fin_v, fin_z, fin_a, fin_n, ee_b_0, ee_fld0, ee_fld1, ee_fld2, ee_fld3, bi_0, bi_1, bi_2, bi_3, bi_4, bi_5, bi_6, bi_7, bi_8, bi_9, bi_10, bl_20, bl_21, bl_22, bl_23, bl_24, bl_25, bl_26, bl_48, bl_49, un_0, un_1, un_2, un_3, if_true, if_false, ite_true, ite_false, Bool.false_eq_true, Bool.not_eq_false, decide_not, Bool.not_not, reduceCtorEq, st_i, st_l, st_r, st_n, ee_noL, ee_noL.eq_1, List.length_cons, List.length_nil, Nat.reduceAdd, Nat.reduceLT, Nat.zero_add, and_true, true_and, and_self, fin_ite, pu_0, pu_1, pu_3, sto_0, el_0, Bool.not_eq_true, decide_eq_false_iff_not, Bool.decide_eq_true, Bool.decide_eq_false, decide_true, decide_false, Bool.not_true, Bool.not_false, Bool.and_self, Bool.and_true, Bool.and_false, Bool.true_and, Bool.false_and, Bool.or_true, Bool.or_false, Bool.true_or, Bool.false_or, if_true, if_false, Bool.false_eq_true, tc_0, ix_0, tc_1000000, ix_1000000, tc_23, ix_23, tc_8, ix_8, mz_0, mz_1, mz_a, rvs, j_s, j_a, wI_at, Nat.reduceEqDiff, zero_ne_one_n, one_ne_zero_n]
          · rw [a] at l
            rw [a, if_pos rfl] at e
            refine ⟨([some (.ref 236), some (.int u), some (.int (spH (spr Z u (k + 1)) (-10000))), some (.int (spL (spr Z u (k + 1)) 1000000)), some (.int (Int32.ofNat (k + 1))), v], w), 8 - (k + 1), ?_, by omega, k + 1, _, rfl, by omega, rfl⟩
            rw [e]
            simp only [h9, g, l, lx_332_1, lb_332_1, ee_turn, k_0, k_1000000, k_23, k_4294957296, k_8, nz_1000000, nz_23, nz_8, v_bin, v_call, v_cmp, v_cons, v_get, v_idx, v_int, v_loc, v_nil, v_tern, v_z, w_if, w_inc, w_ret, w_seq, w_set, w_skip, List.getElem?_cons_zero, List.getElem?_cons_succ, List.set_cons_zero, List.set_cons_succ, ee_cmp0, ee_cmp1, ee_cmp2, ee_cmp3, ee_cmp4, ee_cmp5, ee_cmpL0, ee_cmpL1, ee_cmpL2, ee_cmpL3, ee_cmpL4, ee_cmpL5, ee_tru_eb, decide_eq_true_eq, ib_i, ie_b, ie_f, ie_t, ib_l, fin_i, fin_l, fin_v, fin_z, fin_a, fin_n, ee_b_0, ee_fld0, ee_fld1, ee_fld2, ee_fld3, bi_0, bi_1, bi_2, bi_3, bi_4, bi_5, bi_6, bi_7, bi_8, bi_9, bi_10, bl_20, bl_21, bl_22, bl_23, bl_24, bl_25, bl_26, bl_48, bl_49, un_0, un_1, un_2, un_3, if_true, if_false, ite_true, ite_false, Bool.false_eq_true, Bool.not_eq_false, decide_not, Bool.not_not, reduceCtorEq, st_i, st_l, st_r, st_n, ee_noL, ee_noL.eq_1, List.length_cons, List.length_nil, Nat.reduceAdd, Nat.reduceLT, Nat.zero_add, and_true, true_and, and_self, fin_ite, pu_0, pu_1, pu_3, sto_0, el_0, Bool.not_eq_true, decide_eq_false_iff_not, Bool.decide_eq_true, Bool.decide_eq_false, decide_true, decide_false, Bool.not_true, Bool.not_false, Bool.and_self, Bool.and_true, Bool.and_false, Bool.true_and, Bool.false_and, Bool.or_true, Bool.or_false, Bool.true_or, Bool.false_or, if_true, if_false, Bool.false_eq_true, tc_0, ix_0, tc_1000000, ix_1000000, tc_23, ix_23, tc_8, ix_8, mz_0, mz_1, mz_a, rvs, j_s, j_a, wI_at, Nat.reduceEqDiff, zero_ne_one_n, one_ne_zero_n]
        · right
          have hkn : k = 8 := by omega
          subst hkn
          have h9' : ¬ (8 : Int32) < 8 := by decide
          refine ⟨.inl ([some (.ref 236), some (.int u), some (.int (spH (spr Z u 8) (-10000))), some (.int (spL (spr Z u 8) 1000000)), some (.int (Int32.ofNat 8)), v], w), ?_, _, _, rfl⟩
          simp only [h9', lx_332_1, lb_332_1, ee_turn, k_0, k_1000000, k_23, k_4294957296, k_8, nz_1000000, nz_23, nz_8, v_bin, v_call, v_cmp, v_cons, v_get, v_idx, v_int, v_loc, v_nil, v_tern, v_z, w_if, w_inc, w_ret, w_seq, w_set, w_skip, List.getElem?_cons_zero, List.getElem?_cons_succ, List.set_cons_zero, List.set_cons_succ, ee_cmp0, ee_cmp1, ee_cmp2, ee_cmp3, ee_cmp4, ee_cmp5, ee_cmpL0, ee_cmpL1, ee_cmpL2, ee_cmpL3, ee_cmpL4, ee_cmpL5, ee_tru_eb, decide_eq_true_eq, ib_i, ie_b, ie_f, ie_t, ib_l, fin_i, fin_l, fin_v, fin_z, fin_a, fin_n, ee_b_0, ee_fld0, ee_fld1, ee_fld2, ee_fld3, bi_0, bi_1, bi_2, bi_3, bi_4, bi_5, bi_6, bi_7, bi_8, bi_9, bi_10, bl_20, bl_21, bl_22, bl_23, bl_24, bl_25, bl_26, bl_48, bl_49, un_0, un_1, un_2, un_3, if_true, if_false, ite_true, ite_false, Bool.false_eq_true, Bool.not_eq_false, decide_not, Bool.not_not, reduceCtorEq, st_i, st_l, st_r, st_n, ee_noL, ee_noL.eq_1, List.length_cons, List.length_nil, Nat.reduceAdd, Nat.reduceLT, Nat.zero_add, and_true, true_and, and_self, fin_ite, pu_0, pu_1, pu_3, sto_0, el_0, Bool.not_eq_true, decide_eq_false_iff_not, Bool.decide_eq_true, Bool.decide_eq_false, decide_true, decide_false, Bool.not_true, Bool.not_false, Bool.and_self, Bool.and_true, Bool.and_false, Bool.true_and, Bool.false_and, Bool.or_true, Bool.or_false, Bool.true_or, Bool.false_or, if_true, if_false, Bool.false_eq_true, tc_0, ix_0, tc_1000000, ix_1000000, tc_23, ix_23, tc_8, ix_8, mz_0, mz_1, mz_a, rvs, j_s, j_a, wI_at, Nat.reduceEqDiff, zero_ne_one_n, one_ne_zero_n])
      (8 - 0) ([some (.ref 236), some (.int u), some (.int (spH (spr Z u 0) (-10000))), some (.int (spL (spr Z u 0) 1000000)), some (.int (Int32.ofNat 0)), none], w) ⟨0, _, rfl, Nat.zero_le _, rfl⟩
    rw [k_0, show spH (spr Z u 0) (-10000) = -10000 from rfl, show spL (spr Z u 0) 1000000 = 1000000 from rfl] at hr
    obtain ⟨q, v, rfl⟩ := hq
    rw [rn_332 mz_0]
    cases c : spr Z u 8 with
    | none =>
      rw [c] at hr
      have g1 : (-10000 : Int32) < 1000000 := by decide
      simp only [w_while, hr, spL, spH, g1, be_332, k_0, k_1000000, k_23, k_4294957296, k_8, nz_1000000, nz_23, nz_8, v_bin, v_call, v_cmp, v_cons, v_get, v_idx, v_int, v_loc, v_nil, v_tern, v_z, w_if, w_inc, w_ret, w_seq, w_set, w_skip, List.getElem?_cons_zero, List.getElem?_cons_succ, List.set_cons_zero, List.set_cons_succ, ee_cmp0, ee_cmp1, ee_cmp2, ee_cmp3, ee_cmp4, ee_cmp5, ee_cmpL0, ee_cmpL1, ee_cmpL2, ee_cmpL3, ee_cmpL4, ee_cmpL5, ee_tru_eb, decide_eq_true_eq, ib_i, ie_b, ie_f, ie_t, ib_l, fin_i, fin_l, fin_v, fin_z, fin_a, fin_n, ee_b_0, ee_fld0, ee_fld1, ee_fld2, ee_fld3, bi_0, bi_1, bi_2, bi_3, bi_4, bi_5, bi_6, bi_7, bi_8, bi_9, bi_10, bl_20, bl_21, bl_22, bl_23, bl_24, bl_25, bl_26, bl_48, bl_49, un_0, un_1, un_2, un_3, if_true, if_false, ite_true, ite_false, Bool.false_eq_true, Bool.not_eq_false, decide_not, Bool.not_not, reduceCtorEq, st_i, st_l, st_r, st_n, ee_noL, ee_noL.eq_1, List.length_cons, List.length_nil, Nat.reduceAdd, Nat.reduceLT, Nat.zero_add, and_true, true_and, and_self, fin_ite, pu_0, pu_1, pu_3, sto_0, el_0, Bool.not_eq_true, decide_eq_false_iff_not, Bool.decide_eq_true, Bool.decide_eq_false, decide_true, decide_false, Bool.not_true, Bool.not_false, Bool.and_self, Bool.and_true, Bool.and_false, Bool.true_and, Bool.false_and, Bool.or_true, Bool.or_false, Bool.true_or, Bool.false_or, if_true, if_false, Bool.false_eq_true, ix_0, ix_1000000, ix_23, ix_8, tc_0, tc_1000000, tc_23, tc_8, mz_0, mz_1, mz_a, rvs, j_s, j_a, wI_at, Nat.reduceEqDiff, zero_ne_one_n, one_ne_zero_n]
      rfl
    | some p =>
      rw [c] at hr
      obtain ⟨b1, b2, b3⟩ := spr_b h3 u 8 (Nat.le_refl _) p c
      have g1 : ¬ p.2 < p.1 := by rw [i32_lt]; omega
      simp only [w_while, hr, spL, spH, g1, be_332, k_0, k_1000000, k_23, k_4294957296, k_8, nz_1000000, nz_23, nz_8, v_bin, v_call, v_cmp, v_cons, v_get, v_idx, v_int, v_loc, v_nil, v_tern, v_z, w_if, w_inc, w_ret, w_seq, w_set, w_skip, List.getElem?_cons_zero, List.getElem?_cons_succ, List.set_cons_zero, List.set_cons_succ, ee_cmp0, ee_cmp1, ee_cmp2, ee_cmp3, ee_cmp4, ee_cmp5, ee_cmpL0, ee_cmpL1, ee_cmpL2, ee_cmpL3, ee_cmpL4, ee_cmpL5, ee_tru_eb, decide_eq_true_eq, ib_i, ie_b, ie_f, ie_t, ib_l, fin_i, fin_l, fin_v, fin_z, fin_a, fin_n, ee_b_0, ee_fld0, ee_fld1, ee_fld2, ee_fld3, bi_0, bi_1, bi_2, bi_3, bi_4, bi_5, bi_6, bi_7, bi_8, bi_9, bi_10, bl_20, bl_21, bl_22, bl_23, bl_24, bl_25, bl_26, bl_48, bl_49, un_0, un_1, un_2, un_3, if_true, if_false, ite_true, ite_false, Bool.false_eq_true, Bool.not_eq_false, decide_not, Bool.not_not, reduceCtorEq, st_i, st_l, st_r, st_n, ee_noL, ee_noL.eq_1, List.length_cons, List.length_nil, Nat.reduceAdd, Nat.reduceLT, Nat.zero_add, and_true, true_and, and_self, fin_ite, pu_0, pu_1, pu_3, sto_0, el_0, Bool.not_eq_true, decide_eq_false_iff_not, Bool.decide_eq_true, Bool.decide_eq_false, decide_true, decide_false, Bool.not_true, Bool.not_false, Bool.and_self, Bool.and_true, Bool.and_false, Bool.true_and, Bool.false_and, Bool.or_true, Bool.or_false, Bool.true_or, Bool.false_or, if_true, if_false, Bool.false_eq_true, ix_0, ix_1000000, ix_23, ix_8, tc_0, tc_1000000, tc_23, tc_8, mz_0, mz_1, mz_a, rvs, j_s, j_a, wI_at, Nat.reduceEqDiff, zero_ne_one_n, one_ne_zero_n]
end BS3
