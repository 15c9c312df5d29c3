/-! a sample, the reference's -/
section NM
variable {P : Nat → Nat → List Value → ee_W → Option (List Value × ee_W)} {d : Nat} {w : ee_W} {X : HX} {z : Bool} {R : Option TX} {wob : Nat → Int32} {lost : Int32}
theorem bI_hold {x b c : Int32} (h : b.toInt ≤ c.toInt) {lo hi : Int} (h1 : lo ≤ b.toInt) (h2 : c.toInt ≤ hi) : bI (hold32 x b c) lo hi := by
  have := hold_b (x := x) h
  unfold bI at this ⊢
  omega
theorem xoff_b (hX : wfS X.1) {k : Nat} (hk : k < 8) : bI (xoff wob X k) (-1000000) 1000000 := by
  obtain ⟨h0, h1, h2, h3, h4, h5, h6, h7, h8, h9⟩ := hX
  have a := bI_hold (x := X.1 2 + wob k + (X.1 1 - X.1 1 / 3 * 3) - 1) (b := 0) (c := 1023) (by decide) (lo := 0) (hi := 1023) (by decide) (by decide)
  have l := h9 k hk
  unfold xoff
  generalize hold32 (X.1 2 + wob k + (X.1 1 - X.1 1 / 3 * 3) - 1) 0 1023 = r at *
  unfold bI at a l h4 ⊢
  have m : (X.1 4 * 16).toInt = (X.1 4).toInt * 16 := by rw [i32_mul] <;> rw [show (16 : Int32).toInt = 16 from rfl] <;> omega
  have m2 : (X.1 4 * 16 + 8).toInt = (X.1 4).toInt * 16 + 8 := by rw [i32_add] <;> rw [show (8 : Int32).toInt = 8 from rfl] <;> omega
  have m3 : (r - (X.1 4 * 16 + 8)).toInt = r.toInt - (X.1 4 * 16 + 8).toInt := by rw [i32_sub] <;> omega
  have m4 : (r - (X.1 4 * 16 + 8) - X.1 (10 + k)).toInt = (r - (X.1 4 * 16 + 8)).toInt - (X.1 (10 + k)).toInt := by rw [i32_sub] <;> omega
  omega
theorem off_eq (r t l : Int32) : r - 16 * t - 8 - l = r - (t * 16 + 8) - l := by grind
theorem wf_draw (hX : wfS X.1) : wfS (xdraw X).1 := by
  obtain ⟨h0, h1, h2, h3, h4, h5, h6, h7, h8, h9⟩ := hX
  refine ⟨h0, nx_ok h1, h2, h3, h4, h5, h6, h7, h8, fun k hk => ?_⟩
  show bI (up X.1 1 (nx (X.1 1)) (10 + k)) _ _
  rw [up_at, if_neg (by omega)]
  exact h9 k hk
theorem wf_err (hX : wfS X.1) (off : Int32) : wfS (xerr X off).1 := wf_xe (X := xdraw X) (wf_draw hX) (bI_hold (by decide) (by decide) (by decide))
theorem wf_learn (hX : wfS X.1) (k : Nat) (hk : k < 8) {x : Int32} (hx : bI x (-99) 99) : wfS (up X.1 (10 + k) x) := by
  obtain ⟨h0, h1, h2, h3, h4, h5, h6, h7, h8, h9⟩ := hX
  have e : ∀ j, j < 10 → up X.1 (10 + k) x j = X.1 j := fun j hj => by rw [up_at, if_neg (by omega)]
  unfold wfS
  rw [e 0 (by omega), e 1 (by omega), e 2 (by omega), e 3 (by omega), e 4 (by omega), e 5 (by omega), e 6 (by omega), e 7 (by omega), e 8 (by omega)]
  refine ⟨h0, h1, h2, h3, h4, h5, h6, h7, h8, fun j hj => ?_⟩
  rw [up_at]
  split
  · exact hx
  · exact h9 j hj
theorem wf_read (hX : wfS X.1) (k : Nat) (hk : k < 8) : wfS (xread wob R X k).1 := wf_learn (wf_err hX _) k hk (bI_hold (by decide) (by decide) (by decide))
theorem MHz_chk {p : Nat → Nat → Prop} {w' : ee_W} (hM : MHz z w X) (hc : chk p w w') (h0 : ¬ p 236 23) (h1 : ∀ k, ¬ p 237 k) : MHz z w' X := by
  obtain ⟨a1, a2, a3⟩ := hM
  refine ⟨(hc.1 _ _ h0).trans a1, fun k k1 k2 => (hc.1 _ _ (h1 _)).trans (a2 k k1 k2), fun q => ⟨⟨(hc.1 _ _ (h1 _)).trans (a3 q).1.1, fun i hi => (hc.1 _ _ (h1 _)).trans ((a3 q).1.2 i hi)⟩, (a3 q).2⟩⟩
def psm (z : Bool) (c k : Nat) : Prop := ph z c k ∨ plw c k
theorem ph_psm : ∀ c k, ph z c k → psm z c k := fun _ _ h => Or.inl h
theorem plw_psm : ∀ c k, plw c k → psm z c k := fun _ _ h => Or.inr h
theorem ph_237 {c k : Nat} (h : ph z c k) : c = 237 := by
  rcases h with h | h
  · exact h.1
  · exact h.2.1
theorem psm_c {c k : Nat} (h : psm z c k) : c = 237 ∨ c = 242 ∨ c = 244 := by
  rcases h with h | h
  · exact Or.inl (ph_237 h)
  · exact Or.inr h
theorem psm_k {k : Nat} (h : psm z 237 k) : (5 ≤ k ∧ k < 23) ∨ (1344 ≤ k ∧ k < 1369) := by
  rcases h with h | h
  · rcases h with h | h
    · omega
    · obtain ⟨-, -, h⟩ := h
      omega
  · unfold plw at h; omega
theorem m_readNow (hd : 9 ≤ d) (hM : MHz z w X) (hX : wfS X.1) (hR : RMi w (w.1 237 1) R) {k : Nat} (hk : k < 8) (hw : w.1 237 (23 + k) = wob k) : ∃ w', ee_run ee_B P d 249 [.ref 236, .int (Int32.ofNat k)] w = some ([], w') ∧ MHz z w' (xread wob R X k) ∧ chk (psm z) w w' := by
  obtain ⟨d, rfl⟩ : ∃ k, d = k + 1 := ⟨d - 1, by omega⟩
  have hd1 : 1 ≤ d := by omega
  have hd2 : 2 ≤ d := by omega
  have hd8 : 8 ≤ d := by omega
  have h7 : w.1 237 7 = X.1 2 := hM.2.1 2 (by omega) (by omega)
  have e23 : (23 : Int32) + Int32.ofNat k = Int32.ofNat (23 + k) := j_a 23 k
  have e15 : (15 : Int32) + Int32.ofNat k = Int32.ofNat (15 + k) := j_a 15 k
  have x23 : ee_ix (Int32.ofNat (23 + k)) 1369 = true := by rw [ixn (by omega)]; exact decide_eq_true (by omega)
  have x15 : ee_ix (Int32.ofNat (15 + k)) 1369 = true := by rw [ixn (by omega)]; exact decide_eq_true (by omega)
  have t23 := tnc (show 23 + k < 2147483648 by omega)
  have t15 := tnc (show 15 + k < 2147483648 by omega)
  obtain ⟨w1, n1, n2, n3⟩ := m_drawnBy (P := P) hd2 hM hX.2.1
  have h9 : w1.1 237 9 = X.1 4 := n2.2.1 4 (by omega) (by omega)
  have h15 : w1.1 237 (15 + k) = X.1 (10 + k) := by
    have := n2.2.1 (10 + k) (by omega) (by omega)
    rw [show 5 + (10 + k) = 15 + k by omega] at this
    rw [this]
    show up X.1 1 _ (10 + k) = _
    rw [up_at, if_neg (by omega)]
  have n5 := MHz_put n2 5 (by omega) (by omega) (hold32 (xoff wob X k) (-999) 999)
  have e5 : (up (xdraw X).1 5 (hold32 (xoff wob X k) (-999) 999), (xdraw X).2) = xerr X (xoff wob X k) := rfl
  rw [e5] at n5
  have c2 : chk (psm z) w (ee_wI w1 237 (5 + 5) (hold32 (xoff wob X k) (-999) 999)) := chk_I (Or.inl (Or.inl ⟨rfl, by omega⟩)) (chk_mono n3 ph_psm)
  have hR2 : RMi (ee_wI w1 237 (5 + 5) (hold32 (xoff wob X k) (-999) 999)) ((ee_wI w1 237 (5 + 5) (hold32 (xoff wob X k) (-999) 999)).1 237 1) R := by
    rw [c2.1 237 1 (fun h => by have := psm_k h; omega)]
    exact RMi_eq hR (fun j => c2.1 _ _ (fun h => by have := psm_c h; omega))
  obtain ⟨w3, m1, m2⟩ := m_learns (P := P) hd8 n5.2.1 (wf_err hX _) (xoff_b (wob := wob) hX hk) hR2
  have n6 := MHz_chk n5 m2 (by unfold plw; omega) (fun j => by unfold plw; omega)
  have h15' : (ee_wI w1 237 10 (hold32 (xoff wob X k) (-999) 999)).1 237 (15 + k) = X.1 (10 + k) := by
    rw [wI_at, if_neg (by omega)]; exact h15
  have n7 := MHz_put n6 (10 + k) (by omega) (by omega) (hold32 (X.1 (10 + k) + xoff wob X k * gv (xerr X (xoff wob X k)) (xoff wob X k) (lawG R) / 16) (-99) 99)
  rw [show 5 + (10 + k) = 15 + k by omega] at n7
  rw [show 5 + 5 = 10 from rfl] at m1 m2 c2
  have eo : hold32 (X.1 2 + wob k + (X.1 1 - X.1 1 / 3 * 3) - 1) 0 1023 - 16 * X.1 4 - 8 - X.1 (10 + k) = xoff wob X k := by rw [off_eq]; rfl
  refine ⟨ee_wI w3 237 (15 + k) (hold32 (X.1 (10 + k) + xoff wob X k * gv (xerr X (xoff wob X k)) (xoff wob X k) (lawG R) / 16) (-99) 99), ?_, n7, chk_I (Or.inl (Or.inl ⟨rfl, by omega⟩)) (chk_trans c2 (chk_mono m2 plw_psm))⟩
  rw [rn_249 mz_0]
  simp only [h7, e23, e15, x23, x15, t23, t15, hw, n1, m_held hd1 _ 0 1023 (by decide), m_held hd1 _ (-999) 999 (by decide), m_held hd1 _ (-99) 99 (by decide), h9, h15, eo, h15', m1, nz_16, show (15 + k = 10) = False from eq_false (by omega), and_false, bd_249, k_0, k_1, k_10, k_1023, k_15, k_16, k_23, k_3, k_4294966297, k_4294967197, k_7, k_8, k_9, k_99, k_999, nz_1, nz_10, nz_1023, nz_15, nz_16, nz_23, nz_3, nz_7, nz_8, nz_9, nz_99, nz_999, v_bin, v_call, v_cons, v_get, v_idx, v_int, v_loc, v_nil, v_un, w_retv, w_seq, w_set, w_sto, List.getElem?_cons_zero, List.getElem?_cons_succ, List.set_cons_zero, List.set_cons_succ, ee_cmp0, ee_cmp1, ee_cmp2, ee_cmp3, ee_cmp4, ee_cmp5, ee_cmpL0, ee_cmpL1, ee_cmpL2, ee_cmpL3, ee_cmpL4, ee_cmpL5, ee_tru_eb, decide_eq_true_eq, ib_i, ie_b, ie_f, ie_t, ib_l, fin_i, fin_l, fin_v, fin_z, fin_a, fin_n, ee_b_0, ee_fld0, ee_fld1, ee_fld2, ee_fld3, bi_0, bi_1, bi_2, bi_3, bi_4, bi_5, bi_6, bi_7, bi_8, bi_9, bi_10, bl_20, bl_21, bl_22, bl_23, bl_24, bl_25, bl_26, bl_48, bl_49, un_0, un_1, un_2, un_3, if_true, if_false, ite_true, ite_false, Bool.false_eq_true, Bool.not_eq_false, decide_not, Bool.not_not, reduceCtorEq, st_i, st_l, st_r, st_n, ee_noL, ee_noL.eq_1, List.length_cons, List.length_nil, Nat.reduceAdd, Nat.reduceLT, Nat.zero_add, and_true, true_and, and_self, fin_ite, pu_0, pu_1, pu_3, sto_0, el_0, Bool.not_eq_true, decide_eq_false_iff_not, Bool.decide_eq_true, Bool.decide_eq_false, decide_true, decide_false, Bool.not_true, Bool.not_false, Bool.and_self, Bool.and_true, Bool.and_false, Bool.true_and, Bool.false_and, Bool.or_true, Bool.or_false, Bool.true_or, Bool.false_or, if_true, if_false, Bool.false_eq_true, ix_0, ix_1, ix_10, ix_1023, ix_15, ix_16, ix_23, ix_3, ix_7, ix_8, ix_9, ix_99, ix_999, tc_0, tc_1, tc_10, tc_1023, tc_15, tc_16, tc_23, tc_3, tc_7, tc_8, tc_9, tc_99, tc_999, mz_0, mz_1, mz_a, rvs, j_s, j_a, wI_at, Nat.reduceEqDiff, zero_ne_one_n, one_ne_zero_n]
theorem m_moveNow (hd : 9 ≤ d) (hM : MHz z w X) (hX : wfS X.1) (hR : RMi w (w.1 237 1) R) : ∃ w', ee_run ee_B P d 264 [.ref 236] w = some ([], w') ∧ MHz z w' (xm_2 X (pv X (lawP R))) ∧ chk (psm z) w w' := by
  obtain ⟨d, rfl⟩ : ∃ k, d = k + 1 := ⟨d - 1, by omega⟩
  have hd1 : 1 ≤ d := by omega
  have hd8 : 8 ≤ d := by omega
  have h8 : w.1 237 8 = X.1 3 := hM.2.1 3 (by omega) (by omega)
  have h10 : w.1 237 10 = X.1 5 := hM.2.1 5 (by omega) (by omega)
  obtain ⟨w1, n1, n2⟩ := m_pulls (P := P) (w := w) hd8 hM.2.1 hX hX.2.2.2.2.2.1 hR
  rw [xe_self] at n1
  have m1 := MHz_chk hM n2 (by unfold plw; omega) (fun j => by unfold plw; omega)
  have g7 : w1.1 237 7 = X.1 2 := m1.2.1 2 (by omega) (by omega)
  have g13 : w1.1 237 13 = X.1 8 := m1.2.1 8 (by omega) (by omega)
  generalize hp : pv X (lawP R) = p at *
  have ev : hold32 (X.1 3 + p) (-64) 64 = xm_v X p := rfl
  have en : X.1 2 + xm_v X p = xm_n X p := rfl
  have m2 := MHz_put (MHz_put m1 3 (by omega) (by omega) (xm_v X p)) 2 (by omega) (by omega) (hold32 (xm_n X p) 0 1023)
  have c2 : chk (psm z) w (ee_wI (ee_wI w1 237 8 (xm_v X p)) 237 7 (hold32 (xm_n X p) 0 1023)) := chk_I (Or.inl (Or.inl ⟨rfl, by omega⟩)) (chk_I (Or.inl (Or.inl ⟨rfl, by omega⟩)) (chk_mono n2 plw_psm))
  rw [rn_264 mz_0]
  by_cases q : hold32 (xm_n X p) 0 1023 = xm_n X p
  · refine ⟨_, ?_, ?_, c2⟩
    · simp -implicitDefEqProofs only [h8, h10, n1, g7, ev, en, q, m_held hd1 _ (-64) 64 (by decide), m_held hd1 _ 0 1023 (by decide), bd_264, k_0, k_1, k_10, k_1023, k_13, k_4, k_4294967232, k_64, k_7, k_8, k_9999, nz_1, nz_10, nz_1023, nz_13, nz_4, nz_64, nz_7, nz_8, nz_9999, v_bin, v_call, v_cmp, v_cons, v_get, v_idx, v_int, v_loc, v_nil, v_un, w_exp0, w_exp1, w_if, w_retv, w_seq, w_set, w_sto, List.getElem?_cons_zero, List.getElem?_cons_succ, List.set_cons_zero, List.set_cons_succ, ee_cmp0, ee_cmp1, ee_cmp2, ee_cmp3, ee_cmp4, ee_cmp5, ee_cmpL0, ee_cmpL1, ee_cmpL2, ee_cmpL3, ee_cmpL4, ee_cmpL5, ee_tru_eb, decide_eq_true_eq, ib_i, ie_b, ie_f, ie_t, ib_l, fin_i, fin_l, fin_v, fin_z, fin_a, fin_n, ee_b_0, ee_fld0, ee_fld1, ee_fld2, ee_fld3, bi_0, bi_1, bi_2, bi_3, bi_4, bi_5, bi_6, bi_7, bi_8, bi_9, bi_10, bl_20, bl_21, bl_22, bl_23, bl_24, bl_25, bl_26, bl_48, bl_49, un_0, un_1, un_2, un_3, if_true, if_false, ite_true, ite_false, Bool.false_eq_true, Bool.not_eq_false, decide_not, Bool.not_not, reduceCtorEq, st_i, st_l, st_r, st_n, ee_noL, ee_noL.eq_1, List.length_cons, List.length_nil, Nat.reduceAdd, Nat.reduceLT, Nat.zero_add, and_true, true_and, and_self, fin_ite, pu_0, pu_1, pu_3, sto_0, el_0, Bool.not_eq_true, decide_eq_false_iff_not, Bool.decide_eq_true, Bool.decide_eq_false, decide_true, decide_false, Bool.not_true, Bool.not_false, Bool.and_self, Bool.and_true, Bool.and_false, Bool.true_and, Bool.false_and, Bool.or_true, Bool.or_false, Bool.true_or, Bool.false_or, if_true, if_false, Bool.false_eq_true, ix_0, ix_1, ix_10, ix_1023, ix_13, ix_4, ix_64, ix_7, ix_8, ix_9999, tc_0, tc_1, tc_10, tc_1023, tc_13, tc_4, tc_64, tc_7, tc_8, tc_9999, mz_0, mz_1, mz_a, rvs, j_s, j_a, wI_at, Nat.reduceEqDiff, zero_ne_one_n, one_ne_zero_n]
    · have : xm_2 X p = xm_1 X p := by unfold xm_2; rw [if_neg (fun h => h q.symm)]
      rw [this]
      exact m2
  · have m3 := MHz_put (MHz_put m2 3 (by omega) (by omega) 0) 8 (by omega) (by omega) (xmin (X.1 8 + 1) 9999)
    obtain ⟨w', u1, u2, u3⟩ := m_note (P := P) hd1 m3 4 (hold32 (xm_n X p) 0 1023)
    have mh := min_held hX.2.2.2.2.2.2.2.2.1.1 hX.2.2.2.2.2.2.2.2.1.2 (show 0 ≤ (9999 : Int32).toInt by decide)
    have mh2 : hold32 (X.1 8 + 1) 0 9999 = xmin (X.1 8 + 1) 9999 := mh
    refine ⟨w', ?_, ?_, chk_trans c2 (chk_trans (chk_I (Or.inl (Or.inl ⟨rfl, by omega⟩)) (chk_I (Or.inl (Or.inl ⟨rfl, by omega⟩)) (chk_refl _ _))) (chk_mono u3 (fun c k h => Or.inl (pb_ph c k h))))⟩
    · simp -implicitDefEqProofs only [h8, h10, n1, g7, g13, ev, en, q, mh2, u1, m_held hd1 _ (-64) 64 (by decide), m_held hd1 _ 0 1023 (by decide), m_held hd1 _ 0 9999 (by decide), bd_264, k_0, k_1, k_10, k_1023, k_13, k_4, k_4294967232, k_64, k_7, k_8, k_9999, nz_1, nz_10, nz_1023, nz_13, nz_4, nz_64, nz_7, nz_8, nz_9999, v_bin, v_call, v_cmp, v_cons, v_get, v_idx, v_int, v_loc, v_nil, v_un, w_exp0, w_exp1, w_if, w_retv, w_seq, w_set, w_sto, List.getElem?_cons_zero, List.getElem?_cons_succ, List.set_cons_zero, List.set_cons_succ, ee_cmp0, ee_cmp1, ee_cmp2, ee_cmp3, ee_cmp4, ee_cmp5, ee_cmpL0, ee_cmpL1, ee_cmpL2, ee_cmpL3, ee_cmpL4, ee_cmpL5, ee_tru_eb, decide_eq_true_eq, ib_i, ie_b, ie_f, ie_t, ib_l, fin_i, fin_l, fin_v, fin_z, fin_a, fin_n, ee_b_0, ee_fld0, ee_fld1, ee_fld2, ee_fld3, bi_0, bi_1, bi_2, bi_3, bi_4, bi_5, bi_6, bi_7, bi_8, bi_9, bi_10, bl_20, bl_21, bl_22, bl_23, bl_24, bl_25, bl_26, bl_48, bl_49, un_0, un_1, un_2, un_3, if_true, if_false, ite_true, ite_false, Bool.false_eq_true, Bool.not_eq_false, decide_not, Bool.not_not, reduceCtorEq, st_i, st_l, st_r, st_n, ee_noL, ee_noL.eq_1, List.length_cons, List.length_nil, Nat.reduceAdd, Nat.reduceLT, Nat.zero_add, and_true, true_and, and_self, fin_ite, pu_0, pu_1, pu_3, sto_0, el_0, Bool.not_eq_true, decide_eq_false_iff_not, Bool.decide_eq_true, Bool.decide_eq_false, decide_true, decide_false, Bool.not_true, Bool.not_false, Bool.and_self, Bool.and_true, Bool.and_false, Bool.true_and, Bool.false_and, Bool.or_true, Bool.or_false, Bool.true_or, Bool.false_or, if_true, if_false, Bool.false_eq_true, ix_0, ix_1, ix_10, ix_1023, ix_13, ix_4, ix_64, ix_7, ix_8, ix_9999, tc_0, tc_1, tc_10, tc_1023, tc_13, tc_4, tc_64, tc_7, tc_8, tc_9999, mz_0, mz_1, mz_a, rvs, j_s, j_a, wI_at, Nat.reduceEqDiff, zero_ne_one_n, one_ne_zero_n]
    · have : xm_2 X p = xnote (up (up (xm_1 X p).1 3 0) 8 (xmin (X.1 8 + 1) 9999), X.2) 4 (hold32 (xm_n X p) 0 1023) := by unfold xm_2; rw [if_pos (fun h => q h.symm)]
      rw [this]
      exact u2
end NM
