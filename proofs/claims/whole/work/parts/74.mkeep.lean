/-! the reference keeps and gives back -/
section MK
variable {P : Nat → Nat → List Value → ee_W → Option (List Value × ee_W)} {d : Nat} {w : ee_W} {X : HX}
def reg (B p n c j : Nat) : Prop := c = B ∧ p ≤ j ∧ j < p + n
theorem cp_loop {x : ee_S} {b : ee_Z} (emb : Nat → ee_E) (n A B p q : Nat) (hne : A ≠ B ∨ p ≤ q ∨ q + n ≤ p)
    (hturn : ∀ k w', k < n → chk (reg B p n) w w' → ee_turn x b (emb k, w') = some (.inl (emb (k + 1), ee_wI w' B (p + k) (w'.1 A (q + k)))))
    (hend : ∀ w', chk (reg B p n) w w' → ee_turn x b (emb n, w') = some (.inr (.inl (emb n, w')))) :
    ∃ w', ee_wh (ee_turn x b) (emb 0, w) = some (.inl (emb n, w')) ∧ (∀ k, k < n → w'.1 B (p + k) = w.1 A (q + k)) ∧ chk (reg B p n) w w' := by
  have key : ∀ m k wk, m = n - k → k ≤ n → (∀ j, j < k → wk.1 B (p + j) = w.1 A (q + j)) → chk (reg B p k) w wk →
      ∃ w', ee_wh (ee_turn x b) (emb k, wk) = some (.inl (emb n, w')) ∧ (∀ k, k < n → w'.1 B (p + k) = w.1 A (q + k)) ∧ chk (reg B p n) w w' := by
    intro m
    induction m with
    | zero =>
      intro k wk hm hk h1 h2
      have : k = n := by omega
      subst this
      refine ⟨wk, ?_, h1, h2⟩
      rw [ee_wh_eq, hend wk h2]
    | succ m ih =>
      intro k wk hm hk h1 h2
      have hc : chk (reg B p n) w wk := chk_mono h2 (fun c j h => ⟨h.1, h.2.1, by have := h.2.2; omega⟩)
      rw [ee_wh_eq, hturn k wk (by omega) hc]
      refine ih (k + 1) _ (by omega) (by omega) ?_ ?_
      · intro j hj
        rw [wI_at]
        by_cases z : j = k
        · rw [if_pos ⟨rfl, by omega⟩, z]
          exact h2.1 _ _ (by unfold reg; omega)
        · rw [if_neg (by omega)]
          exact h1 j (by omega)
      · exact chk_I ⟨rfl, by omega, by omega⟩ (chk_mono h2 (fun c j h => ⟨h.1, h.2.1, by have := h.2.2; omega⟩))
  exact key n 0 w (by omega) (Nat.zero_le _) (fun j hj => by omega) (chk_refl _ _)
def MH (w : ee_W) (A b bb : Nat) (X : HX) : Prop := MS w A b X.1 ∧ MB w A b bb X.2
theorem MH_eq {w' : ee_W} {A A' b b' bb bb' : Nat} (hX : MH w A b bb X) (hn : X.2.1 ≤ 25) (h1 : ∀ k, k < 18 → w'.1 A' (b' + k) = w.1 A (b + k)) (h2 : ∀ k, k < 25 → w'.1 A' (bb' + k) = w.1 A (bb + k)) : MH w' A' b' bb' X :=
  ⟨fun k k1 k2 => (h1 k k1).trans (hX.1 k k1 k2), (h1 9 (by omega)).trans hX.2.1, fun i hi => (h2 i (by omega)).trans (hX.2.2 i hi)⟩
def MA (w : ee_W) (A : Nat) (Y : AX) : Prop := (w.1 A 0 = Y.2.2.2.1 1 ∧ w.1 A 1 = Y.2.2.2.1 2 ∧ w.1 A 2 = Int32.ofNat Y.2.1.1 ∧ w.1 A 3 = Int32.ofNat Y.2.2.2.2.1.1 ∧ w.1 A 4 = Int32.ofNat Y.2.2.2.2.2.1) ∧ MH w A 5 1344 Y.1 ∧
  (∀ i, i < Y.2.1.1 → MH w A (54 + 43 * i) (54 + 43 * i + 18) (Y.2.1.2 i)) ∧ (∀ k, k < 8 → w.1 A (23 + k) = Y.2.2.1 k) ∧ w.1 A 31 = Y.2.2.2.1 0 ∧
  (∀ i, i < Y.2.2.2.2.1.1 → w.1 A (32 + i) = Y.2.2.2.2.1.2 i) ∧ (∀ i, i < Y.2.2.2.2.2.1 → w.1 A (38 + 2 * i) = (Y.2.2.2.2.2.2 i).1 ∧ w.1 A (38 + 2 * i + 1) = (Y.2.2.2.2.2.2 i).2)
/-- bounds of all that an image has -/
def WH (X : HX) : Prop := wfS X.1 ∧ X.2.1 ≤ 25 ∧ (X.1 0).toInt ≤ 9999 ∧ ∀ i, i < X.2.1 → bI (X.2.2 i).1 0 9999 ∧ bI (X.2.2 i).2.1 0 4 ∧ bI (X.2.2 i).2.2 (-40) 1023
def WA (Y : AX) : Prop := WH Y.1 ∧ (Y.2.1.1 ≤ 30 ∧ ∀ i, i < Y.2.1.1 → WH (Y.2.1.2 i)) ∧ (∀ k, k < 8 → bI (Y.2.2.1 k) (-7) 7) ∧ (∃ n : Nat, n ≤ 4 ∧ Y.2.2.2.1 1 = Int32.ofNat n ∧ (Y.2.2.2.1 2 = -1 ∨ ∃ i, i < n ∧ Y.2.2.2.1 2 = Int32.ofNat i)) ∧
  (Y.2.2.2.2.1.1 ≤ 6 ∧ ∀ i, i < Y.2.2.2.2.1.1 → bI (Y.2.2.2.2.1.2 i) 0 63) ∧ (Y.2.2.2.2.2.1 ≤ 8 ∧ ∀ i, i < Y.2.2.2.2.2.1 → bI (Y.2.2.2.2.2.2 i).1 (-999) 999 ∧ bI (Y.2.2.2.2.2.2 i).2 (-9) 9)
theorem MA_eq {w' : ee_W} {A A' : Nat} {Y : AX} (hY : MA w A Y) (hW : WA Y) (he : ∀ k, k < 1369 → w'.1 A' k = w.1 A k) : MA w' A' Y := by
  obtain ⟨⟨a0, a1, a2, a3, a4⟩, h1, h2, h3, h4, h5, h6⟩ := hY
  obtain ⟨v1, ⟨v2, v3⟩, -, -, ⟨v4, -⟩, ⟨v5, -⟩⟩ := hW
  refine ⟨⟨(he _ (by omega)).trans a0, (he _ (by omega)).trans a1, (he _ (by omega)).trans a2, (he _ (by omega)).trans a3, (he _ (by omega)).trans a4⟩, MH_eq h1 v1.2.1 (fun k hk => he _ (by omega)) (fun k hk => he _ (by omega)), fun i hi => MH_eq (h2 i hi) (v3 i hi).2.1 (fun k hk => he _ (by omega)) (fun k hk => he _ (by omega)), fun k hk => (he _ (by omega)).trans (h3 k hk), (he _ (by omega)).trans h4, fun i hi => (he _ (by omega)).trans (h5 i hi), fun i hi => ?_⟩
  rw [he _ (by omega), he _ (by omega)]
  exact h6 i hi
theorem m_copy (hd : 1 ≤ d) {A B : Nat} (hA : es_sh A = (0, 1369)) (hB : es_sh B = (0, 1369)) (hne : A ≠ B) : ∃ w', ee_run ee_B P d 185 [.ref A, .ref B] w = some ([], w') ∧ (∀ k, k < 1369 → w'.1 B k = w.1 A k) ∧ chk (fun c _ => c = B) w w' := by
  obtain ⟨d, rfl⟩ : ∃ k, d = k + 1 := ⟨d - 1, by omega⟩
  obtain ⟨w', n1, n2, n3⟩ := cp_loop (w := w) (x := ee_ev es_sh es_rf (ee_run ee_B P d) lx_185_1) (b := ee_evS es_sh es_rf (ee_run ee_B P d) lb_185_1)
    (fun k => [some (.ref A), some (.ref B), some (.int (Int32.ofNat k))]) 1369 A B 0 0 (Or.inl hne)
    (by
      intro k w' hk _
      have h9 : Int32.ofNat k < 1369 := (j_lt (b := 1369) (by omega) (by omega)).2 hk
      have x1 : ee_ix (Int32.ofNat k) 1369 = true := by rw [ixn (by omega)]; exact decide_eq_true hk
      simp only [h9, x1, hA, hB, tnc (show k < 2147483648 by omega), Nat.zero_add, lx_185_1, lb_185_1, ee_turn, k_0, k_1369, nz_1369, v_cmp, v_idx, v_int, v_loc, w_inc, w_retv, w_seq, w_set, w_sto, List.getElem?_cons_zero, List.getElem?_cons_succ, List.set_cons_zero, List.set_cons_succ, ee_cmp0, ee_cmp1, ee_cmp2, ee_cmp3, ee_cmp4, ee_cmp5, ee_cmpL0, ee_cmpL1, ee_cmpL2, ee_cmpL3, ee_cmpL4, ee_cmpL5, ee_tru_eb, decide_eq_true_eq, ib_i, ie_b, ie_f, ie_t, ib_l, fin_i, fin_l, fin_v, fin_z, fin_a, fin_n, ee_b_0, ee_fld0, ee_fld1, ee_fld2, ee_fld3, bi_0, bi_1, bi_2, bi_3, bi_4, bi_5, bi_6, bi_7, bi_8, bi_9, bi_10, bl_20, bl_21, bl_22, bl_23, bl_24, bl_25, bl_26, bl_48, bl_49, un_0, un_1, un_2, un_3, if_true, if_false, ite_true, ite_false, Bool.false_eq_true, Bool.not_eq_false, decide_not, Bool.not_not, reduceCtorEq, st_i, st_l, st_r, st_n, ee_noL, ee_noL.eq_1, List.length_cons, List.length_nil, Nat.reduceAdd, Nat.reduceLT, Nat.zero_add, and_true, true_and, and_self, fin_ite, pu_0, pu_1, pu_3, sto_0, el_0, Bool.not_eq_true, decide_eq_false_iff_not, Bool.decide_eq_true, Bool.decide_eq_false, decide_true, decide_false, Bool.not_true, Bool.not_false, Bool.and_self, Bool.and_true, Bool.and_false, Bool.true_and, Bool.false_and, Bool.or_true, Bool.or_false, Bool.true_or, Bool.false_or, if_true, if_false, Bool.false_eq_true, tc_0, ix_0, tc_1369, ix_1369, mz_0, mz_1, mz_a, rvs, j_s, j_a, wI_at, Nat.reduceEqDiff, zero_ne_one_n, one_ne_zero_n])
    (by
      intro w' _
      have h9 : ¬ (1369 : Int32) < 1369 := by decide
      simp only [h9, lx_185_1, lb_185_1, ee_turn, k_0, k_1369, nz_1369, v_cmp, v_idx, v_int, v_loc, w_inc, w_retv, w_seq, w_set, w_sto, List.getElem?_cons_zero, List.getElem?_cons_succ, List.set_cons_zero, List.set_cons_succ, ee_cmp0, ee_cmp1, ee_cmp2, ee_cmp3, ee_cmp4, ee_cmp5, ee_cmpL0, ee_cmpL1, ee_cmpL2, ee_cmpL3, ee_cmpL4, ee_cmpL5, ee_tru_eb, decide_eq_true_eq, ib_i, ie_b, ie_f, ie_t, ib_l, fin_i, fin_l, fin_v, fin_z, fin_a, fin_n, ee_b_0, ee_fld0, ee_fld1, ee_fld2, ee_fld3, bi_0, bi_1, bi_2, bi_3, bi_4, bi_5, bi_6, bi_7, bi_8, bi_9, bi_10, bl_20, bl_21, bl_22, bl_23, bl_24, bl_25, bl_26, bl_48, bl_49, un_0, un_1, un_2, un_3, if_true, if_false, ite_true, ite_false, Bool.false_eq_true, Bool.not_eq_false, decide_not, Bool.not_not, reduceCtorEq, st_i, st_l, st_r, st_n, ee_noL, ee_noL.eq_1, List.length_cons, List.length_nil, Nat.reduceAdd, Nat.reduceLT, Nat.zero_add, and_true, true_and, and_self, fin_ite, pu_0, pu_1, pu_3, sto_0, el_0, Bool.not_eq_true, decide_eq_false_iff_not, Bool.decide_eq_true, Bool.decide_eq_false, decide_true, decide_false, Bool.not_true, Bool.not_false, Bool.and_self, Bool.and_true, Bool.and_false, Bool.true_and, Bool.false_and, Bool.or_true, Bool.or_false, Bool.true_or, Bool.false_or, if_true, if_false, Bool.false_eq_true])
  rw [k_0] at n1
  refine ⟨w', ?_, fun k hk => by have := n2 k hk; rw [Nat.zero_add] at this; exact this, chk_mono n3 (fun c j h => h.1)⟩
  rw [rn_185]
  simp only [w_while, n1, be_185, k_0, k_1369, nz_1369, v_cmp, v_idx, v_int, v_loc, w_inc, w_retv, w_seq, w_set, w_sto, List.getElem?_cons_zero, List.getElem?_cons_succ, List.set_cons_zero, List.set_cons_succ, ee_cmp0, ee_cmp1, ee_cmp2, ee_cmp3, ee_cmp4, ee_cmp5, ee_cmpL0, ee_cmpL1, ee_cmpL2, ee_cmpL3, ee_cmpL4, ee_cmpL5, ee_tru_eb, decide_eq_true_eq, ib_i, ie_b, ie_f, ie_t, ib_l, fin_i, fin_l, fin_v, fin_z, fin_a, fin_n, ee_b_0, ee_fld0, ee_fld1, ee_fld2, ee_fld3, bi_0, bi_1, bi_2, bi_3, bi_4, bi_5, bi_6, bi_7, bi_8, bi_9, bi_10, bl_20, bl_21, bl_22, bl_23, bl_24, bl_25, bl_26, bl_48, bl_49, un_0, un_1, un_2, un_3, if_true, if_false, ite_true, ite_false, Bool.false_eq_true, Bool.not_eq_false, decide_not, Bool.not_not, reduceCtorEq, st_i, st_l, st_r, st_n, ee_noL, ee_noL.eq_1, List.length_cons, List.length_nil, Nat.reduceAdd, Nat.reduceLT, Nat.zero_add, and_true, true_and, and_self, fin_ite, pu_0, pu_1, pu_3, sto_0, el_0, Bool.not_eq_true, decide_eq_false_iff_not, Bool.decide_eq_true, Bool.decide_eq_false, decide_true, decide_false, Bool.not_true, Bool.not_false, Bool.and_self, Bool.and_true, Bool.and_false, Bool.true_and, Bool.false_and, Bool.or_true, Bool.or_false, Bool.true_or, Bool.false_or, if_true, if_false, Bool.false_eq_true]
end MK
