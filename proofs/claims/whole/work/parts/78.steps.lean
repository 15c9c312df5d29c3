/-! images, steps by hand -/
section BS
variable {P : Nat → Nat → List Value → ee_W → Option (List Value × ee_W)} {d : Nat} {w : ee_W} {X : HX} {Y : AX} {S : SX}
theorem CZ_rest {p : Nat → Bool} {w' : ee_W} {Z : ZX} {A B : AX} (hZ : CZ w Z) (hc : chg p w w') (h0 : p 0 = false) (h1 : p 225 = false) (h2 : p 235 = false) (hp : ∀ c, 202 ≤ c → c < 222 → p c = false) (hA : CA w' 1 A) (hB : CA w' 101 B) (hn : nT A ≤ nT Z.1) : CZ w' (A, B, Z.2.2) := by
  obtain ⟨-, -, h3, ⟨h4, h5⟩, h6⟩ := hZ
  refine ⟨hA, hB, fun i hi h4 => CT_chg (h3 i (by have hi : i < nT A := hi; omega) h4) hc (fun c q1 q2 => hp c (by omega) (by omega)), ⟨(hc.1 _ _ h0).trans h4, fun i hi => (hc.1 _ _ h2).trans (h5 i hi)⟩, ?_⟩
  dsimp only
  rw [hc.1 0 10 h0, hc.1 225 6 h1, hc.1 225 7 h1]
  exact h6
theorem MZ_rest {p : Nat → Nat → Prop} {w' : ee_W} {Z : ZX} {A B : AX} (hZ : MZ w Z) (hc : chk p w w') (hp : ∀ k, ¬ p 236 k ∧ ¬ p 239 k ∧ ¬ p 240 k) (hA : MA w' 237 A) (hB : MA w' 238 B) (hn : nT A ≤ nT Z.1) : MZ w' (A, B, Z.2.2) := by
  obtain ⟨-, -, h3, ⟨h4, h5⟩, ⟨h6, h7⟩, h8⟩ := hZ
  exact ⟨hA, hB, fun i hi h4 => MT_eq (h3 i (by have hi : i < nT A := hi; omega) h4) (fun k => hc.1 _ _ (hp k).2.1), ⟨(hc.1 _ _ (hp _).1).trans h4, fun i hi => (hc.1 _ _ (hp _).2.2).trans (h5 i hi)⟩, ⟨(hc.1 _ _ (hp _).1).trans h6, (hc.1 _ _ (hp _).1).trans h7⟩, (hc.1 _ _ (hp _).1).trans h8⟩
theorem mz_i : es_rf 236 1 = some 238 := by decide +kernel
theorem mz_is : es_sh 238 = (0, 1369) := by decide +kernel
theorem b_image (hd : 5 ≤ d) (hS : Sim w) : Both P d 179 341 [] w := by
  obtain ⟨Z, h1, h2, h3⟩ := hS
  obtain ⟨d, rfl⟩ : ∃ k, d = k + 1 := ⟨d - 1, by omega⟩
  have hd1 : 1 ≤ d := by omega
  have hd4 : 4 ≤ d := by omega
  have hW : WZ (Z.1, Z.1, Z.2.2) := ⟨h3.1, h3.1, Nat.le_refl _, h3.2.2.2⟩
  refine both_of (Z' := (Z.1, Z.1, Z.2.2)) (r := .int (Z.1.1.1 0)) h2 h3 hW ?_ ?_
  · obtain ⟨w', n1, n2, n3⟩ := c_copyAll (P := P) hd4 al_101 al_1 (by omega) h1.1
    have hp : ∀ c, c < 101 ∨ 201 ≤ c → arg 101 c = false := fun c h => by unfold arg; rw [rg_f]; omega
    have a1 := CA_chg h1.1 n3 (fun c q1 q2 => hp c (by omega))
    refine ⟨w', ?_, CZ_rest h1 n3 (hp _ (by omega)) (hp _ (by omega)) (hp _ (by omega)) (fun c q1 q2 => hp c (by omega)) a1 n2 (Nat.le_refl _), chg_mono n3 (fun c h => hp c (by have := plo_f.1 h; omega))⟩
    rw [rn_179 cz_0]
    simp only [n1, cz_0, cz_r0, cz_r1, rvs, al_1.1, al_1.2.1, al_1.2.2.2.2.2.2.2.2.2.2.2.1.1, a1.1.1.1, bd_179, v_call, v_cons, v_get, v_loc, v_nil, w_exp0, w_exp1, w_ret, w_seq, List.getElem?_cons_zero, List.getElem?_cons_succ, List.set_cons_zero, List.set_cons_succ, ee_cmp0, ee_cmp1, ee_cmp2, ee_cmp3, ee_cmp4, ee_cmp5, ee_cmpL0, ee_cmpL1, ee_cmpL2, ee_cmpL3, ee_cmpL4, ee_cmpL5, ee_tru_eb, decide_eq_true_eq, ib_i, ie_b, ie_f, ie_t, ib_l, fin_i, fin_l, fin_v, fin_z, fin_a, fin_n, ee_b_0, ee_fld0, ee_fld1, ee_fld2, ee_fld3, bi_0, bi_1, bi_2, bi_3, bi_4, bi_5, bi_6, bi_7, bi_8, bi_9, bi_10, bl_20, bl_21, bl_22, bl_23, bl_24, bl_25, bl_26, bl_48, bl_49, un_0, un_1, un_2, un_3, if_true, if_false, ite_true, ite_false, Bool.false_eq_true, Bool.not_eq_false, decide_not, Bool.not_not, reduceCtorEq, st_i, st_l, st_r, st_n, ee_noL, ee_noL.eq_1, List.length_cons, List.length_nil, Nat.reduceAdd, Nat.reduceLT, Nat.zero_add, and_true, true_and, and_self, fin_ite, pu_0, pu_1, pu_3, sto_0, el_0, Bool.not_eq_true, decide_eq_false_iff_not, Bool.decide_eq_true, Bool.decide_eq_false, decide_true, decide_false, Bool.not_true, Bool.not_false, Bool.and_self, Bool.and_true, Bool.and_false, Bool.true_and, Bool.false_and, Bool.or_true, Bool.or_false, Bool.true_or, Bool.false_or, if_true, if_false, Bool.false_eq_true]
  · intro w1 hM
    obtain ⟨w', n1, n2, n3⟩ := m_copy (P := P) (w := w1) hd1 mz_a mz_is (by decide)
    have e5 : w'.1 237 5 = Z.1.1.1 0 := (n3.1 _ _ (by decide)).trans (hM.1.2.1.1 0 (by omega) (by omega))
    refine ⟨w', ?_, MZ_rest hM n3 (fun k => by decide) (MA_eq hM.1 h3.1 (fun k _ => n3.1 _ _ (show ¬ (237 : Nat) = 238 by decide))) (MA_eq hM.1 h3.1 n2) (Nat.le_refl _), chk_mono n3 (fun c k h => by unfold phi; omega)⟩
    rw [rn_341 mz_0]
    simp only [n1, e5, mz_i, mz_is, bd_341, k_5, nz_5, v_call, v_cons, v_get, v_idx, v_int, v_loc, v_nil, w_exp0, w_exp1, w_ret, w_seq, List.getElem?_cons_zero, List.getElem?_cons_succ, List.set_cons_zero, List.set_cons_succ, ee_cmp0, ee_cmp1, ee_cmp2, ee_cmp3, ee_cmp4, ee_cmp5, ee_cmpL0, ee_cmpL1, ee_cmpL2, ee_cmpL3, ee_cmpL4, ee_cmpL5, ee_tru_eb, decide_eq_true_eq, ib_i, ie_b, ie_f, ie_t, ib_l, fin_i, fin_l, fin_v, fin_z, fin_a, fin_n, ee_b_0, ee_fld0, ee_fld1, ee_fld2, ee_fld3, bi_0, bi_1, bi_2, bi_3, bi_4, bi_5, bi_6, bi_7, bi_8, bi_9, bi_10, bl_20, bl_21, bl_22, bl_23, bl_24, bl_25, bl_26, bl_48, bl_49, un_0, un_1, un_2, un_3, if_true, if_false, ite_true, ite_false, Bool.false_eq_true, Bool.not_eq_false, decide_not, Bool.not_not, reduceCtorEq, st_i, st_l, st_r, st_n, ee_noL, ee_noL.eq_1, List.length_cons, List.length_nil, Nat.reduceAdd, Nat.reduceLT, Nat.zero_add, and_true, true_and, and_self, fin_ite, pu_0, pu_1, pu_3, sto_0, el_0, Bool.not_eq_true, decide_eq_false_iff_not, Bool.decide_eq_true, Bool.decide_eq_false, decide_true, decide_false, Bool.not_true, Bool.not_false, Bool.and_self, Bool.and_true, Bool.and_false, Bool.true_and, Bool.false_and, Bool.or_true, Bool.or_false, Bool.true_or, Bool.false_or, if_true, if_false, Bool.false_eq_true, ix_5, tc_5, mz_0, mz_1, mz_a, rvs, j_s, j_a, wI_at, Nat.reduceEqDiff, zero_ne_one_n, one_ne_zero_n]
theorem b_back (hd : 5 ≤ d) (hS : Sim w) : Both P d 182 342 [] w := by
  obtain ⟨Z, h1, h2, h3⟩ := hS
  obtain ⟨d, rfl⟩ : ∃ k, d = k + 1 := ⟨d - 1, by omega⟩
  have hd1 : 1 ≤ d := by omega
  have hd4 : 4 ≤ d := by omega
  have hW : WZ (Z.2.1, Z.2.1, Z.2.2) := ⟨h3.2.1, h3.2.1, Nat.le_refl _, h3.2.2.2⟩
  refine both_of (Z' := (Z.2.1, Z.2.1, Z.2.2)) (r := .int (Z.2.1.1.1 0)) h2 h3 hW ?_ ?_
  · obtain ⟨w', n1, n2, n3⟩ := c_copyAll (P := P) hd4 al_1 al_101 (by omega) h1.2.1
    have hp : ∀ c, c < 1 ∨ 101 ≤ c → arg 1 c = false := fun c h => by unfold arg; rw [rg_f]; omega
    have a1 := CA_chg h1.2.1 n3 (fun c q1 q2 => hp c (by omega))
    refine ⟨w', ?_, CZ_rest h1 n3 (hp _ (by omega)) (hp _ (by omega)) (hp _ (by omega)) (fun c q1 q2 => hp c (by omega)) n2 a1 h3.2.2.1, chg_mono n3 (fun c h => hp c (by have := plo_f.1 h; omega))⟩
    rw [rn_182 cz_0]
    simp only [n1, cz_0, cz_r0, cz_r1, rvs, al_1.1, al_1.2.1, al_1.2.2.2.2.2.2.2.2.2.2.2.1.1, n2.1.1.1, bd_182, v_call, v_cons, v_get, v_loc, v_nil, w_exp0, w_exp1, w_ret, w_seq, List.getElem?_cons_zero, List.getElem?_cons_succ, List.set_cons_zero, List.set_cons_succ, ee_cmp0, ee_cmp1, ee_cmp2, ee_cmp3, ee_cmp4, ee_cmp5, ee_cmpL0, ee_cmpL1, ee_cmpL2, ee_cmpL3, ee_cmpL4, ee_cmpL5, ee_tru_eb, decide_eq_true_eq, ib_i, ie_b, ie_f, ie_t, ib_l, fin_i, fin_l, fin_v, fin_z, fin_a, fin_n, ee_b_0, ee_fld0, ee_fld1, ee_fld2, ee_fld3, bi_0, bi_1, bi_2, bi_3, bi_4, bi_5, bi_6, bi_7, bi_8, bi_9, bi_10, bl_20, bl_21, bl_22, bl_23, bl_24, bl_25, bl_26, bl_48, bl_49, un_0, un_1, un_2, un_3, if_true, if_false, ite_true, ite_false, Bool.false_eq_true, Bool.not_eq_false, decide_not, Bool.not_not, reduceCtorEq, st_i, st_l, st_r, st_n, ee_noL, ee_noL.eq_1, List.length_cons, List.length_nil, Nat.reduceAdd, Nat.reduceLT, Nat.zero_add, and_true, true_and, and_self, fin_ite, pu_0, pu_1, pu_3, sto_0, el_0, Bool.not_eq_true, decide_eq_false_iff_not, Bool.decide_eq_true, Bool.decide_eq_false, decide_true, decide_false, Bool.not_true, Bool.not_false, Bool.and_self, Bool.and_true, Bool.and_false, Bool.true_and, Bool.false_and, Bool.or_true, Bool.or_false, Bool.true_or, Bool.false_or, if_true, if_false, Bool.false_eq_true]
  · intro w1 hM
    obtain ⟨w', n1, n2, n3⟩ := m_copy (P := P) (w := w1) hd1 mz_is mz_a (by decide)
    have hA := MA_eq hM.2.1 h3.2.1 n2
    have e5 : w'.1 237 5 = Z.2.1.1.1 0 := hA.2.1.1 0 (by omega) (by omega)
    refine ⟨w', ?_, MZ_rest hM n3 (fun k => by decide) hA (MA_eq hM.2.1 h3.2.1 (fun k _ => n3.1 _ _ (show ¬ (238 : Nat) = 237 by decide))) h3.2.2.1, chk_mono n3 (fun c k h => by unfold phi; omega)⟩
    rw [rn_342 mz_0]
    simp only [n1, e5, mz_i, mz_is, bd_342, k_5, nz_5, v_call, v_cons, v_get, v_idx, v_int, v_loc, v_nil, w_exp0, w_exp1, w_ret, w_seq, List.getElem?_cons_zero, List.getElem?_cons_succ, List.set_cons_zero, List.set_cons_succ, ee_cmp0, ee_cmp1, ee_cmp2, ee_cmp3, ee_cmp4, ee_cmp5, ee_cmpL0, ee_cmpL1, ee_cmpL2, ee_cmpL3, ee_cmpL4, ee_cmpL5, ee_tru_eb, decide_eq_true_eq, ib_i, ie_b, ie_f, ie_t, ib_l, fin_i, fin_l, fin_v, fin_z, fin_a, fin_n, ee_b_0, ee_fld0, ee_fld1, ee_fld2, ee_fld3, bi_0, bi_1, bi_2, bi_3, bi_4, bi_5, bi_6, bi_7, bi_8, bi_9, bi_10, bl_20, bl_21, bl_22, bl_23, bl_24, bl_25, bl_26, bl_48, bl_49, un_0, un_1, un_2, un_3, if_true, if_false, ite_true, ite_false, Bool.false_eq_true, Bool.not_eq_false, decide_not, Bool.not_not, reduceCtorEq, st_i, st_l, st_r, st_n, ee_noL, ee_noL.eq_1, List.length_cons, List.length_nil, Nat.reduceAdd, Nat.reduceLT, Nat.zero_add, and_true, true_and, and_self, fin_ite, pu_0, pu_1, pu_3, sto_0, el_0, Bool.not_eq_true, decide_eq_false_iff_not, Bool.decide_eq_true, Bool.decide_eq_false, decide_true, decide_false, Bool.not_true, Bool.not_false, Bool.and_self, Bool.and_true, Bool.and_false, Bool.true_and, Bool.false_and, Bool.or_true, Bool.or_false, Bool.true_or, Bool.false_or, if_true, if_false, Bool.false_eq_true, ix_5, tc_5, mz_0, mz_1, mz_a, rvs, j_s, j_a, wI_at, Nat.reduceEqDiff, zero_ne_one_n, one_ne_zero_n]
theorem WH_note {f : Nat → Int32} {L : Nat × (Nat → Int32 × Int32 × Int32)} (hf : wfS f) (h9 : (f 0).toInt ≤ 9999) (hn : L.1 ≤ 25) (hL : ∀ i, i < L.1 → bI (L.2 i).1 0 9999 ∧ bI (L.2 i).2.1 0 4 ∧ bI (L.2 i).2.2 (-40) 1023) {a b : Int32} (ha : bI a 0 4) (hb : bI b (-40) 1023) : WH (xnote (f, L) a b) := by
  refine ⟨by rw [xnote_1]; exact hf, xnote_le2 f L hn a b, by rw [xnote_1]; exact h9, ?_⟩
  have h0 : bI (f 0) 0 9999 := ⟨hf.1.1, h9⟩
  unfold xnote
  by_cases q : (f, L).2.1 = 25
  · rw [if_pos q]
    intro i hi
    have hi : i < 25 := hi
    have q' : L.1 = 25 := q
    dsimp only
    by_cases y : i = 24
    · rw [if_pos y]; exact ⟨h0, ha, hb⟩
    · rw [if_neg y]; exact hL _ (by omega)
  · rw [if_neg q]
    intro i hi
    have hi : i < L.1 + 1 := hi
    dsimp only
    by_cases y : i = L.1
    · rw [if_pos y]; exact ⟨h0, ha, hb⟩
    · rw [if_neg y]; exact hL _ (by omega)
theorem WA_step (hW : WA Y) {X' : HX} (hX : WH X') : WA (X', xkeep Y.2.1 Y.1, Y.2.2) := by
  obtain ⟨v1, ⟨v2, v3⟩, v4⟩ := hW
  refine ⟨hX, ?_, v4⟩
  unfold xkeep
  by_cases q : Y.2.1.1 = 30
  · rw [if_pos q]
    refine ⟨Nat.le_refl _, fun i hi => ?_⟩
    have hi : i < 30 := hi
    dsimp only
    by_cases y : i = 29
    · rw [if_pos y]; exact v1
    · rw [if_neg y]; exact v3 _ (by omega)
  · rw [if_neg q]
    refine ⟨by show Y.2.1.1 + 1 ≤ 30; omega, fun i hi => ?_⟩
    have hi : i < Y.2.1.1 + 1 := hi
    dsimp only
    by_cases y : i = Y.2.1.1
    · rw [if_pos y]; exact v1
    · rw [if_neg y]; exact v3 _ (by omega)
theorem CA_hs {p : Nat → Bool} {w' : ee_W} {X' : HX} {S' : SX} (hY : CA w 1 Y) (hc : chg p w w') (h1 : p 1 = false) (hp : ∀ c, 97 ≤ c → c < 101 → p c = false) (hX : CH w' 2 X') (hn : X'.2.1 ≤ 25) (hS : CS w' 5 S') : CA w' 1 (X', S', Y.2.2) := by
  obtain ⟨-, -, -, h4, h5, h6⟩ := hY
  exact ⟨hX, hn, hS, CA0_chg (a := 1) h4 hc h1 (fun c q1 q2 => hp c (by omega) (by omega)), h5, h6⟩
theorem MHz_of (hY : MA w 237 Y) (hz : w.1 236 23 = 1) (hn : Y.1.2.1 ≤ 25) : MHz true w Y.1 := ⟨hz, hY.2.1.1, fun _ => ⟨hY.2.1.2, hn⟩⟩
theorem MA_head {p : Nat → Nat → Prop} {w' : ee_W} {X' : HX} (hY : MA w 237 Y) (hW : WA Y) (hc : chk p w w') (hp : ∀ k, k < 5 ∨ (23 ≤ k ∧ k < 1344) → ¬ p 237 k) (hX : MHz true w' X') : MA w' 237 (X', Y.2) := by
  obtain ⟨⟨a0, a1, a2, a3, a4⟩, h1, h3, h4, h5, h6, h7⟩ := hY
  obtain ⟨v1, ⟨v2, v3⟩, -, -, ⟨v4, -⟩, ⟨v5, -⟩⟩ := hW
  have he : ∀ k, k < 5 ∨ (23 ≤ k ∧ k < 1344) → w'.1 237 k = w.1 237 k := fun k hk => hc.1 _ _ (hp k hk)
  refine ⟨⟨(he _ (by omega)).trans a0, (he _ (by omega)).trans a1, (he _ (by omega)).trans a2, (he _ (by omega)).trans a3, (he _ (by omega)).trans a4⟩, ⟨hX.2.1, (hX.2.2 rfl).1⟩, ?_, fun k hk => (he _ (by omega)).trans (h4 k hk), (he _ (by omega)).trans h5, fun i hi => ?_, fun i hi => ?_⟩
  · intro i hi
    have hi : i < Y.2.1.1 := hi
    exact MH_eq (h3 i hi) (v3 i hi).2.1 (fun k hk => he _ (by omega)) (fun k hk => he _ (by omega))
  · have hi : i < Y.2.2.2.2.1.1 := hi
    exact (he _ (by omega)).trans (h6 i hi)
  · have hi : i < Y.2.2.2.2.2.1 := hi
    rw [he _ (by omega), he _ (by omega)]
    exact h7 i hi
end BS
