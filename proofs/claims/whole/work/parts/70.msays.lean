/-! the reference: what a law says -/
section NS
variable {P : Nat → Nat → List Value → ee_W → Option (List Value × ee_W)} {d : Nat} {w : ee_W} {X : HX} {z : Bool}
def wfS (f : Nat → Int32) : Prop := bI (f 0) 0 20000 ∧ okX (f 1) ∧ bI (f 2) 0 1023 ∧ bI (f 3) (-64) 64 ∧ bI (f 4) 0 63 ∧ bI (f 5) (-999) 999 ∧ bI (f 6) 0 99 ∧ bI (f 7) 0 9999 ∧ bI (f 8) 0 9999 ∧ ∀ k, k < 8 → bI (f (10 + k)) (-99) 99
theorem bI_w {x : Int32} {a b c e : Int} (h : bI x a b) (h1 : c ≤ a) (h2 : b ≤ e) : bI x c e := by
  unfold bI at h ⊢
  omega
theorem rem8_b {x : Int32} (h : bI x 0 20000) : bI (rem8 x) 0 7 := by
  obtain ⟨k, h1, h2, h3⟩ := rem8_of h.1
  rw [h2]
  unfold bI
  rw [nI_t (by omega)]
  omega
theorem nmX_b (hX : wfS X.1) {off : Int32} (ho : bI off (-1000000) 1000000) : ∀ o, bI (nmX X off o) (-1000000) 1000000 := by
  obtain ⟨h0, h1, h2, h3, h4, h5, h6, h7, h8, h9⟩ := hX
  intro o
  unfold nmX
  split
  · exact bI_w h0 (by omega) (by omega)
  · split
    · exact bI_w (rem8_b h0) (by omega) (by omega)
    · split
      · exact bI_w h3 (by omega) (by omega)
      · split
        · exact bI_w h5 (by omega) (by omega)
        · split
          · exact bI_w h4 (by omega) (by omega)
          · split
            · exact bI_w h6 (by omega) (by omega)
            · exact ho
theorem xl_b (hX : wfS X.1) : ∀ x, bI (xlearnt X x) (-1000000) 1000000 := by
  intro x
  unfold xlearnt
  split
  · rename_i q
    exact bI_w (hX.2.2.2.2.2.2.2.2.2 _ (in07_of q).1) (by omega) (by omega)
  · unfold bI
    rw [show (0 : Int32).toInt = 0 from rfl]
    omega
def mcode (w : ee_W) (t : Nat) : Nat → Int32 × Int32 := fun i => (w.1 239 (681 * t + 73 + 2 * i), w.1 239 (681 * t + 73 + 2 * i + 1))
theorem m_summed (hd : 5 ≤ d) {t k f E kk : Nat} {off : Int32} {nm : Nat → Int32} (ht : t < 4) (hk : k < 24) (hE : E ≤ 300) (h1 : w.1 239 (681 * t + 1 + 3 * k + 1) = Int32.ofNat f) (h2 : w.1 239 (681 * t + 1 + 3 * k + 2) = Int32.ofNat E)
    (hnm : ∀ o, 18 ≤ o → o ≤ 24 → o ≠ kk → w.1 242 (o - 18) = nm o) (hnb : ∀ o, bI (nm o) (-1000000) 1000000) (hl : ∀ k, k < 8 → w.1 237 (15 + k) = X.1 (10 + k)) (hX : wfS X.1)
    {e : ee_T} (hty : ty e = 1) (hnl : nl kk e) (hs : mseg (mcode w t) e f E) : ∃ w', ee_run ee_B P d 255 [.ref 236, .int (Int32.ofNat t), .int (Int32.ofNat k)] w = some ([.long (av nm (xlearnt X) e).toInt64], w') ∧ chk pmt w w' := by
  obtain ⟨d, rfl⟩ : ∃ k, d = k + 1 := ⟨d - 1, by omega⟩
  have hd4 : 4 ≤ d := by omega
  have hfE := mseg_lt _ _ _ (Nat.le_refl _) _ _ hs
  obtain ⟨w1, n1, t1, m8, m9, r1, r2, r3, r4, r5, r6⟩ := nrun (P := P) (w0 := w) (X := X) (tx := Int32.ofNat t) (cl := Int32.ofNat k) (xx := 681 * t + 1 + 3 * k) (cd := 681 * t + 73) (E := E) (kk := kk) (nm := nm) hd4 (by omega) (by omega) hE h2 hnm hnb hl (xl_b hX) _ e (Nat.le_refl _) f E 0 0 w none none (by omega) hnl hs (Nat.le_refl _) (by omega) (by omega) (chk_refl _ _)
  obtain ⟨rfl, rfl, r7⟩ := r3 hty
  have q1 : ¬ (Int32.ofNat E < Int32.ofNat E) := fun z => by have := (j_lt (by omega) (by omega)).1 z; omega
  have a1 : (681 : Int32) * Int32.ofNat t = Int32.ofNat (681 * t) := j_m 681 t
  have a2 : (3 : Int32) * Int32.ofNat k = Int32.ofNat (3 * k) := j_m 3 k
  have a3 : Int32.ofNat (681 * t) + 73 = Int32.ofNat (681 * t + 73) := j_a _ 73
  have a4 : Int32.ofNat (681 * t + 1 + 3 * k) + 2 = Int32.ofNat (681 * t + 1 + 3 * k + 2) := j_a _ 2
  have x1 : ee_ix (Int32.ofNat (681 * t + 1 + 3 * k + 1)) 2724 = true := by rw [ixn (by omega)]; exact decide_eq_true (by omega)
  have x2 : ee_ix (Int32.ofNat (681 * t + 1 + 3 * k + 2)) 2724 = true := by rw [ixn (by omega)]; exact decide_eq_true (by omega)
  have y1 := tnc (show 681 * t + 1 + 3 * k + 1 < 2147483648 by omega)
  have y2 := tnc (show 681 * t + 1 + 3 * k + 2 < 2147483648 by omega)
  have h2' : w1.1 239 (681 * t + 1 + 3 * k + 2) = Int32.ofNat E := (r2.1 _ _ (by unfold pmt; omega)).trans h2
  have q2 : GW P d (EM (Int32.ofNat t) (Int32.ofNat k) (681 * t + 1 + 3 * k) (681 * t + 73) (0 + 1) 0 E m8 m9, w1) = some (.inr (.inl (EM (Int32.ofNat t) (Int32.ofNat k) (681 * t + 1 + 3 * k) (681 * t + 73) (0 + 1) 0 E m8 m9, w1))) := by
    unfold GW EM
    simp -implicitDefEqProofs only [a4, x2, y2, h2', q1, mz_t, mz_ts, lx_255_1, ee_turn, k_0, k_1, k_10, k_2, k_20, k_3, k_4294967294, k_4294967295, k_5, k_681, k_73, nz_1, nz_10, nz_2, nz_20, nz_3, nz_5, nz_681, nz_73, v_bin, v_call, v_cmp, v_cons, v_get, v_idx, v_int, v_loc, v_mat, v_nil, v_not, v_tern, v_un, v_z, w_if, w_ret, w_seq, w_set, w_skip, w_sto, List.getElem?_cons_zero, List.getElem?_cons_succ, List.set_cons_zero, List.set_cons_succ, ee_cmp0, ee_cmp1, ee_cmp2, ee_cmp3, ee_cmp4, ee_cmp5, ee_cmpL0, ee_cmpL1, ee_cmpL2, ee_cmpL3, ee_cmpL4, ee_cmpL5, ee_tru_eb, decide_eq_true_eq, ib_i, ie_b, ie_f, ie_t, ib_l, fin_i, fin_l, fin_v, fin_z, fin_a, fin_n, ee_b_0, ee_fld0, ee_fld1, ee_fld2, ee_fld3, bi_0, bi_1, bi_2, bi_3, bi_4, bi_5, bi_6, bi_7, bi_8, bi_9, bi_10, bl_20, bl_21, bl_22, bl_23, bl_24, bl_25, bl_26, bl_48, bl_49, un_0, un_1, un_2, un_3, if_true, if_false, ite_true, ite_false, Bool.false_eq_true, Bool.not_eq_false, decide_not, Bool.not_not, reduceCtorEq, st_i, st_l, st_r, st_n, ee_noL, ee_noL.eq_1, List.length_cons, List.length_nil, Nat.reduceAdd, Nat.reduceLT, Nat.zero_add, and_true, true_and, and_self, fin_ite, pu_0, pu_1, pu_3, sto_0, el_0, Bool.not_eq_true, decide_eq_false_iff_not, Bool.decide_eq_true, Bool.decide_eq_false, decide_true, decide_false, Bool.not_true, Bool.not_false, Bool.and_self, Bool.and_true, Bool.and_false, Bool.true_and, Bool.false_and, Bool.or_true, Bool.or_false, Bool.true_or, Bool.false_or, if_true, if_false, Bool.false_eq_true, tc_0, ix_0, tc_1, ix_1, tc_10, ix_10, tc_2, ix_2, tc_20, ix_20, tc_3, ix_3, tc_5, ix_5, tc_681, ix_681, tc_73, ix_73, mz_0, mz_1, mz_a, rvs, j_s, j_a, wI_at, Nat.reduceEqDiff, zero_ne_one_n, one_ne_zero_n]
  rw [ee_wh_eq (GW P d) (EM (Int32.ofNat t) (Int32.ofNat k) (681 * t + 1 + 3 * k) (681 * t + 73) (0 + 1) 0 E m8 m9, w1), q2] at r1
  unfold GW EM at r1
  rw [k_0] at r1
  have x0 : ee_ix 0 330 = true := by decide
  rw [rn_255 mz_0]
  refine ⟨w1, ?_, r2⟩
  simp -implicitDefEqProofs only [w_while, a1, a2, a3, a4, x0, x1, x2, y1, y2, h1, mz_t, mz_ts, mz_v, mz_vs, el_2, r1, r7, be_255, k_0, k_1, k_10, k_2, k_20, k_3, k_4294967294, k_4294967295, k_5, k_681, k_73, nz_1, nz_10, nz_2, nz_20, nz_3, nz_5, nz_681, nz_73, v_bin, v_call, v_cmp, v_cons, v_get, v_idx, v_int, v_loc, v_mat, v_nil, v_not, v_tern, v_un, v_z, w_if, w_inc, w_ret, w_seq, w_set, w_skip, w_sto, List.getElem?_cons_zero, List.getElem?_cons_succ, List.set_cons_zero, List.set_cons_succ, ee_cmp0, ee_cmp1, ee_cmp2, ee_cmp3, ee_cmp4, ee_cmp5, ee_cmpL0, ee_cmpL1, ee_cmpL2, ee_cmpL3, ee_cmpL4, ee_cmpL5, ee_tru_eb, decide_eq_true_eq, ib_i, ie_b, ie_f, ie_t, ib_l, fin_i, fin_l, fin_v, fin_z, fin_a, fin_n, ee_b_0, ee_fld0, ee_fld1, ee_fld2, ee_fld3, bi_0, bi_1, bi_2, bi_3, bi_4, bi_5, bi_6, bi_7, bi_8, bi_9, bi_10, bl_20, bl_21, bl_22, bl_23, bl_24, bl_25, bl_26, bl_48, bl_49, un_0, un_1, un_2, un_3, if_true, if_false, ite_true, ite_false, Bool.false_eq_true, Bool.not_eq_false, decide_not, Bool.not_not, reduceCtorEq, st_i, st_l, st_r, st_n, ee_noL, ee_noL.eq_1, List.length_cons, List.length_nil, Nat.reduceAdd, Nat.reduceLT, Nat.zero_add, and_true, true_and, and_self, fin_ite, pu_0, pu_1, pu_3, sto_0, el_0, Bool.not_eq_true, decide_eq_false_iff_not, Bool.decide_eq_true, Bool.decide_eq_false, decide_true, decide_false, Bool.not_true, Bool.not_false, Bool.and_self, Bool.and_true, Bool.and_false, Bool.true_and, Bool.false_and, Bool.or_true, Bool.or_false, Bool.true_or, Bool.false_or, if_true, if_false, Bool.false_eq_true, ix_0, ix_1, ix_10, ix_2, ix_20, ix_3, ix_5, ix_681, ix_73, tc_0, tc_1, tc_10, tc_2, tc_20, tc_3, tc_5, tc_681, tc_73, mz_0, mz_1, mz_a, rvs, j_s, j_a, wI_at, Nat.reduceEqDiff, zero_ne_one_n, one_ne_zero_n]
/-- a law of a TEXT of the reference -/
def MLw (w : ee_W) (t sort kk n : Nat) (o : Option ee_T) : Prop := match o with
  | none => ∀ k, k < n → w.1 239 (681 * t + 1 + 3 * k) ≠ Int32.ofNat sort
  | some e => ty e = 1 ∧ nl kk e ∧ ∃ k f E, k < n ∧ w.1 239 (681 * t + 1 + 3 * k) = Int32.ofNat sort ∧ (∀ j, j < k → w.1 239 (681 * t + 1 + 3 * j) ≠ Int32.ofNat sort) ∧ w.1 239 (681 * t + 1 + 3 * k + 1) = Int32.ofNat f ∧ w.1 239 (681 * t + 1 + 3 * k + 2) = Int32.ofNat E ∧ E ≤ 300 ∧ mseg (mcode w t) e f E
def lawv (nm : Nat → Int32) (L : Int32 → Int32) (wo lo hi : Int32) (o : Option ee_T) : Int32 := match o with
  | none => wo
  | some e => hold32 (av nm L e) lo hi
theorem m_saysNo (hd : 1 ≤ d) (sort wo lo hi : Int32) : ee_run ee_B P d 254 [.ref 236, .int (-1), .int sort, .int wo, .int lo, .int hi] w = some ([.int wo], w) := by
  obtain ⟨d, rfl⟩ : ∃ k, d = k + 1 := ⟨d - 1, by omega⟩
  have c1 : ¬ (0 : Int32) ≤ -1 := by decide
  rw [rn_254 mz_0]
  have hl : ee_wh (ee_turn (ee_ev es_sh es_rf (ee_run ee_B P d) lx_254_1) (ee_evS es_sh es_rf (ee_run ee_B P d) lb_254_1)) ([some (.ref 236), some (.int (-1)), some (.int sort), some (.int wo), some (.int lo), some (.int hi), some (.int 0)], w) = some (.inl ([some (.ref 236), some (.int (-1)), some (.int sort), some (.int wo), some (.int lo), some (.int hi), some (.int 0)], w)) := by
    rw [ee_wh_eq]
    simp only [c1, lx_254_1, lb_254_1, ee_turn, k_0, k_1, k_3, k_681, nz_1, nz_3, nz_681, v_and, v_bin, v_call, v_cmp, v_cons, v_get, v_idx, v_int, v_loc, v_nil, v_z, w_if, w_inc, w_ret, w_seq, w_set, w_skip, List.getElem?_cons_zero, List.getElem?_cons_succ, List.set_cons_zero, List.set_cons_succ, ee_cmp0, ee_cmp1, ee_cmp2, ee_cmp3, ee_cmp4, ee_cmp5, ee_cmpL0, ee_cmpL1, ee_cmpL2, ee_cmpL3, ee_cmpL4, ee_cmpL5, ee_tru_eb, decide_eq_true_eq, ib_i, ie_b, ie_f, ie_t, ib_l, fin_i, fin_l, fin_v, fin_z, fin_a, fin_n, ee_b_0, ee_fld0, ee_fld1, ee_fld2, ee_fld3, bi_0, bi_1, bi_2, bi_3, bi_4, bi_5, bi_6, bi_7, bi_8, bi_9, bi_10, bl_20, bl_21, bl_22, bl_23, bl_24, bl_25, bl_26, bl_48, bl_49, un_0, un_1, un_2, un_3, if_true, if_false, ite_true, ite_false, Bool.false_eq_true, Bool.not_eq_false, decide_not, Bool.not_not, reduceCtorEq, st_i, st_l, st_r, st_n, ee_noL, ee_noL.eq_1, List.length_cons, List.length_nil, Nat.reduceAdd, Nat.reduceLT, Nat.zero_add, and_true, true_and, and_self, fin_ite, pu_0, pu_1, pu_3, sto_0, el_0, Bool.not_eq_true, decide_eq_false_iff_not, Bool.decide_eq_true, Bool.decide_eq_false, decide_true, decide_false, Bool.not_true, Bool.not_false, Bool.and_self, Bool.and_true, Bool.and_false, Bool.true_and, Bool.false_and, Bool.or_true, Bool.or_false, Bool.true_or, Bool.false_or, if_true, if_false, Bool.false_eq_true, tc_0, ix_0, tc_1, ix_1, tc_3, ix_3, tc_681, ix_681, mz_0, mz_1, mz_a, rvs, j_s, j_a, wI_at, Nat.reduceEqDiff, zero_ne_one_n, one_ne_zero_n]
  simp only [w_while, hl, be_254, k_0, k_1, k_3, k_681, nz_1, nz_3, nz_681, v_and, v_bin, v_call, v_cmp, v_cons, v_get, v_idx, v_int, v_loc, v_nil, v_z, w_if, w_inc, w_ret, w_seq, w_set, w_skip, List.getElem?_cons_zero, List.getElem?_cons_succ, List.set_cons_zero, List.set_cons_succ, ee_cmp0, ee_cmp1, ee_cmp2, ee_cmp3, ee_cmp4, ee_cmp5, ee_cmpL0, ee_cmpL1, ee_cmpL2, ee_cmpL3, ee_cmpL4, ee_cmpL5, ee_tru_eb, decide_eq_true_eq, ib_i, ie_b, ie_f, ie_t, ib_l, fin_i, fin_l, fin_v, fin_z, fin_a, fin_n, ee_b_0, ee_fld0, ee_fld1, ee_fld2, ee_fld3, bi_0, bi_1, bi_2, bi_3, bi_4, bi_5, bi_6, bi_7, bi_8, bi_9, bi_10, bl_20, bl_21, bl_22, bl_23, bl_24, bl_25, bl_26, bl_48, bl_49, un_0, un_1, un_2, un_3, if_true, if_false, ite_true, ite_false, Bool.false_eq_true, Bool.not_eq_false, decide_not, Bool.not_not, reduceCtorEq, st_i, st_l, st_r, st_n, ee_noL, ee_noL.eq_1, List.length_cons, List.length_nil, Nat.reduceAdd, Nat.reduceLT, Nat.zero_add, and_true, true_and, and_self, fin_ite, pu_0, pu_1, pu_3, sto_0, el_0, Bool.not_eq_true, decide_eq_false_iff_not, Bool.decide_eq_true, Bool.decide_eq_false, decide_true, decide_false, Bool.not_true, Bool.not_false, Bool.and_self, Bool.and_true, Bool.and_false, Bool.true_and, Bool.false_and, Bool.or_true, Bool.or_false, Bool.true_or, Bool.false_or, if_true, if_false, Bool.false_eq_true, ix_0, ix_1, ix_3, ix_681, tc_0, tc_1, tc_3, tc_681, mz_0, mz_1, mz_a, rvs, j_s, j_a, wI_at, Nat.reduceEqDiff, zero_ne_one_n, one_ne_zero_n]
theorem m_says (hd : 6 ≤ d) {t sort kk n : Nat} {nm : Nat → Int32} {wo lo hi : Int32} (ht : t < 4) (hso : sort < 2) (hn : n ≤ 24) (h0 : w.1 239 (681 * t) = Int32.ofNat n) (hlh : lo.toInt ≤ hi.toInt)
    (hnm : ∀ o, 18 ≤ o → o ≤ 24 → o ≠ kk → w.1 242 (o - 18) = nm o) (hnb : ∀ o, bI (nm o) (-1000000) 1000000) (hl : ∀ k, k < 8 → w.1 237 (15 + k) = X.1 (10 + k)) (hX : wfS X.1) {o : Option ee_T} (ho : MLw w t sort kk n o) :
    ∃ w', ee_run ee_B P d 254 [.ref 236, .int (Int32.ofNat t), .int (Int32.ofNat sort), .int wo, .int lo, .int hi] w = some ([.int (lawv nm (xlearnt X) wo lo hi o)], w') ∧ chk pmt w w' := by
  obtain ⟨d, rfl⟩ : ∃ k, d = k + 1 := ⟨d - 1, by omega⟩
  have hd1 : 1 ≤ d := by omega
  have hd5 : 5 ≤ d := by omega
  have a1 : (681 : Int32) * Int32.ofNat t = Int32.ofNat (681 * t) := j_m 681 t
  have x0 : ee_ix (Int32.ofNat (681 * t)) 2724 = true := by rw [ixn (by omega)]; exact decide_eq_true (by omega)
  have y0 := tnc (show 681 * t < 2147483648 by omega)
  have c0 : (0 : Int32) ≤ Int32.ofNat t := by rw [i32_le, nI_t (by omega)]; show (0 : Int) ≤ _; omega
  have step : ∀ k, k ≤ n → ((Int32.ofNat k < Int32.ofNat n) ↔ k < n) ∧ ((3 : Int32) * Int32.ofNat k = Int32.ofNat (3 * k)) := fun k hk => ⟨j_lt (by omega) (by omega), j_m 3 k⟩
  have ixs : ∀ k, k < n → ee_ix (Int32.ofNat (681 * t + 1 + 3 * k)) 2724 = true ∧ (Int32.ofNat (681 * t + 1 + 3 * k)).toNatClampNeg = 681 * t + 1 + 3 * k := fun k hk => ⟨by rw [ixn (by omega)]; exact decide_eq_true (by omega), tnc (by omega)⟩
  rw [rn_254 mz_0]
  cases o with
  | none =>
    have ho : ∀ k, k < n → w.1 239 (681 * t + 1 + 3 * k) ≠ Int32.ofNat sort := ho
    have hloop : ∀ m k, m = n - k → k ≤ n → ∃ k', ee_wh (ee_turn (ee_ev es_sh es_rf (ee_run ee_B P d) lx_254_1) (ee_evS es_sh es_rf (ee_run ee_B P d) lb_254_1)) ([some (.ref 236), some (.int (Int32.ofNat t)), some (.int (Int32.ofNat sort)), some (.int wo), some (.int lo), some (.int hi), some (.int (Int32.ofNat k))], w) = some (.inl ([some (.ref 236), some (.int (Int32.ofNat t)), some (.int (Int32.ofNat sort)), some (.int wo), some (.int lo), some (.int hi), some (.int k')], w)) := by
      intro m
      induction m with
      | zero =>
        intro k hm hk
        obtain ⟨s1, s2⟩ := step k hk
        have nk : ¬ k < n := by omega
        refine ⟨Int32.ofNat k, ?_⟩
        rw [ee_wh_eq]
        simp only [a1, x0, y0, c0, h0, s1, nk, mz_t, mz_ts, lx_254_1, lb_254_1, ee_turn, k_0, k_1, k_3, k_681, nz_1, nz_3, nz_681, v_and, v_bin, v_call, v_cmp, v_cons, v_get, v_idx, v_int, v_loc, v_nil, v_z, w_if, w_inc, w_ret, w_seq, w_set, w_skip, List.getElem?_cons_zero, List.getElem?_cons_succ, List.set_cons_zero, List.set_cons_succ, ee_cmp0, ee_cmp1, ee_cmp2, ee_cmp3, ee_cmp4, ee_cmp5, ee_cmpL0, ee_cmpL1, ee_cmpL2, ee_cmpL3, ee_cmpL4, ee_cmpL5, ee_tru_eb, decide_eq_true_eq, ib_i, ie_b, ie_f, ie_t, ib_l, fin_i, fin_l, fin_v, fin_z, fin_a, fin_n, ee_b_0, ee_fld0, ee_fld1, ee_fld2, ee_fld3, bi_0, bi_1, bi_2, bi_3, bi_4, bi_5, bi_6, bi_7, bi_8, bi_9, bi_10, bl_20, bl_21, bl_22, bl_23, bl_24, bl_25, bl_26, bl_48, bl_49, un_0, un_1, un_2, un_3, if_true, if_false, ite_true, ite_false, Bool.false_eq_true, Bool.not_eq_false, decide_not, Bool.not_not, reduceCtorEq, st_i, st_l, st_r, st_n, ee_noL, ee_noL.eq_1, List.length_cons, List.length_nil, Nat.reduceAdd, Nat.reduceLT, Nat.zero_add, and_true, true_and, and_self, fin_ite, pu_0, pu_1, pu_3, sto_0, el_0, Bool.not_eq_true, decide_eq_false_iff_not, Bool.decide_eq_true, Bool.decide_eq_false, decide_true, decide_false, Bool.not_true, Bool.not_false, Bool.and_self, Bool.and_true, Bool.and_false, Bool.true_and, Bool.false_and, Bool.or_true, Bool.or_false, Bool.true_or, Bool.false_or, if_true, if_false, Bool.false_eq_true, tc_0, ix_0, tc_1, ix_1, tc_3, ix_3, tc_681, ix_681, mz_0, mz_1, mz_a, rvs, j_s, j_a, wI_at, Nat.reduceEqDiff, zero_ne_one_n, one_ne_zero_n]
      | succ m ih =>
        intro k hm hk
        obtain ⟨s1, s2⟩ := step k hk
        have nk : k < n := by omega
        obtain ⟨i1, i2⟩ := ixs k nk
        obtain ⟨k', hk'⟩ := ih (k + 1) (by omega) (by omega)
        have ne := ho k nk
        refine ⟨k', ?_⟩
        rw [ee_wh_eq]
        simp only [a1, x0, y0, c0, h0, s1, s2, nk, i1, i2, ne, mz_t, mz_ts, lx_254_1, lb_254_1, ee_turn, k_0, k_1, k_3, k_681, nz_1, nz_3, nz_681, v_and, v_bin, v_call, v_cmp, v_cons, v_get, v_idx, v_int, v_loc, v_nil, v_z, w_if, w_inc, w_ret, w_seq, w_set, w_skip, List.getElem?_cons_zero, List.getElem?_cons_succ, List.set_cons_zero, List.set_cons_succ, ee_cmp0, ee_cmp1, ee_cmp2, ee_cmp3, ee_cmp4, ee_cmp5, ee_cmpL0, ee_cmpL1, ee_cmpL2, ee_cmpL3, ee_cmpL4, ee_cmpL5, ee_tru_eb, decide_eq_true_eq, ib_i, ie_b, ie_f, ie_t, ib_l, fin_i, fin_l, fin_v, fin_z, fin_a, fin_n, ee_b_0, ee_fld0, ee_fld1, ee_fld2, ee_fld3, bi_0, bi_1, bi_2, bi_3, bi_4, bi_5, bi_6, bi_7, bi_8, bi_9, bi_10, bl_20, bl_21, bl_22, bl_23, bl_24, bl_25, bl_26, bl_48, bl_49, un_0, un_1, un_2, un_3, if_true, if_false, ite_true, ite_false, Bool.false_eq_true, Bool.not_eq_false, decide_not, Bool.not_not, reduceCtorEq, st_i, st_l, st_r, st_n, ee_noL, ee_noL.eq_1, List.length_cons, List.length_nil, Nat.reduceAdd, Nat.reduceLT, Nat.zero_add, and_true, true_and, and_self, fin_ite, pu_0, pu_1, pu_3, sto_0, el_0, Bool.not_eq_true, decide_eq_false_iff_not, Bool.decide_eq_true, Bool.decide_eq_false, decide_true, decide_false, Bool.not_true, Bool.not_false, Bool.and_self, Bool.and_true, Bool.and_false, Bool.true_and, Bool.false_and, Bool.or_true, Bool.or_false, Bool.true_or, Bool.false_or, if_true, if_false, Bool.false_eq_true, tc_0, ix_0, tc_1, ix_1, tc_3, ix_3, tc_681, ix_681, mz_0, mz_1, mz_a, rvs, j_s, j_a, wI_at, Nat.reduceEqDiff, zero_ne_one_n, one_ne_zero_n]
        exact hk'
    obtain ⟨k', hk'⟩ := hloop n 0 rfl (Nat.zero_le _)
    rw [k_0] at hk'
    refine ⟨w, ?_, chk_refl _ _⟩
    simp only [w_while, hk', lawv, be_254, k_0, k_1, k_3, k_681, nz_1, nz_3, nz_681, v_and, v_bin, v_call, v_cmp, v_cons, v_get, v_idx, v_int, v_loc, v_nil, v_z, w_if, w_inc, w_ret, w_seq, w_set, w_skip, List.getElem?_cons_zero, List.getElem?_cons_succ, List.set_cons_zero, List.set_cons_succ, ee_cmp0, ee_cmp1, ee_cmp2, ee_cmp3, ee_cmp4, ee_cmp5, ee_cmpL0, ee_cmpL1, ee_cmpL2, ee_cmpL3, ee_cmpL4, ee_cmpL5, ee_tru_eb, decide_eq_true_eq, ib_i, ie_b, ie_f, ie_t, ib_l, fin_i, fin_l, fin_v, fin_z, fin_a, fin_n, ee_b_0, ee_fld0, ee_fld1, ee_fld2, ee_fld3, bi_0, bi_1, bi_2, bi_3, bi_4, bi_5, bi_6, bi_7, bi_8, bi_9, bi_10, bl_20, bl_21, bl_22, bl_23, bl_24, bl_25, bl_26, bl_48, bl_49, un_0, un_1, un_2, un_3, if_true, if_false, ite_true, ite_false, Bool.false_eq_true, Bool.not_eq_false, decide_not, Bool.not_not, reduceCtorEq, st_i, st_l, st_r, st_n, ee_noL, ee_noL.eq_1, List.length_cons, List.length_nil, Nat.reduceAdd, Nat.reduceLT, Nat.zero_add, and_true, true_and, and_self, fin_ite, pu_0, pu_1, pu_3, sto_0, el_0, Bool.not_eq_true, decide_eq_false_iff_not, Bool.decide_eq_true, Bool.decide_eq_false, decide_true, decide_false, Bool.not_true, Bool.not_false, Bool.and_self, Bool.and_true, Bool.and_false, Bool.true_and, Bool.false_and, Bool.or_true, Bool.or_false, Bool.true_or, Bool.false_or, if_true, if_false, Bool.false_eq_true, ix_0, ix_1, ix_3, ix_681, tc_0, tc_1, tc_3, tc_681, mz_0, mz_1, mz_a, rvs, j_s, j_a, wI_at, Nat.reduceEqDiff, zero_ne_one_n, one_ne_zero_n]
  | some e =>
    obtain ⟨hty, hnl, k0, f, E, hk0, g1, g2, g3, g4, g5, g6⟩ := ho
    obtain ⟨w', n1, n2⟩ := m_summed (P := P) (X := X) (nm := nm) (kk := kk) (off := 0) hd5 ht (show k0 < 24 by omega) g5 g3 g4 hnm hnb hl hX hty hnl g6
    have hh := m_held (P := P) (w := w') hd1 (av nm (xlearnt X) e) lo hi hlh
    have hloop : ∀ m k, m = k0 - k → k ≤ k0 → ee_wh (ee_turn (ee_ev es_sh es_rf (ee_run ee_B P d) lx_254_1) (ee_evS es_sh es_rf (ee_run ee_B P d) lb_254_1)) ([some (.ref 236), some (.int (Int32.ofNat t)), some (.int (Int32.ofNat sort)), some (.int wo), some (.int lo), some (.int hi), some (.int (Int32.ofNat k))], w) = some (.inr ([.int (hold32 (av nm (xlearnt X) e) lo hi)], w')) := by
      intro m
      induction m with
      | zero =>
        intro k hm hk
        have : k = k0 := by omega
        subst this
        obtain ⟨s1, s2⟩ := step k (by omega)
        obtain ⟨i1, i2⟩ := ixs k hk0
        rw [ee_wh_eq]
        simp only [a1, x0, y0, c0, h0, s1, s2, hk0, i1, i2, g1, n1, hh, mz_t, mz_ts, lx_254_1, lb_254_1, ee_turn, k_0, k_1, k_3, k_681, nz_1, nz_3, nz_681, v_and, v_bin, v_call, v_cmp, v_cons, v_get, v_idx, v_int, v_loc, v_nil, v_z, w_if, w_inc, w_ret, w_seq, w_set, w_skip, List.getElem?_cons_zero, List.getElem?_cons_succ, List.set_cons_zero, List.set_cons_succ, ee_cmp0, ee_cmp1, ee_cmp2, ee_cmp3, ee_cmp4, ee_cmp5, ee_cmpL0, ee_cmpL1, ee_cmpL2, ee_cmpL3, ee_cmpL4, ee_cmpL5, ee_tru_eb, decide_eq_true_eq, ib_i, ie_b, ie_f, ie_t, ib_l, fin_i, fin_l, fin_v, fin_z, fin_a, fin_n, ee_b_0, ee_fld0, ee_fld1, ee_fld2, ee_fld3, bi_0, bi_1, bi_2, bi_3, bi_4, bi_5, bi_6, bi_7, bi_8, bi_9, bi_10, bl_20, bl_21, bl_22, bl_23, bl_24, bl_25, bl_26, bl_48, bl_49, un_0, un_1, un_2, un_3, if_true, if_false, ite_true, ite_false, Bool.false_eq_true, Bool.not_eq_false, decide_not, Bool.not_not, reduceCtorEq, st_i, st_l, st_r, st_n, ee_noL, ee_noL.eq_1, List.length_cons, List.length_nil, Nat.reduceAdd, Nat.reduceLT, Nat.zero_add, and_true, true_and, and_self, fin_ite, pu_0, pu_1, pu_3, sto_0, el_0, Bool.not_eq_true, decide_eq_false_iff_not, Bool.decide_eq_true, Bool.decide_eq_false, decide_true, decide_false, Bool.not_true, Bool.not_false, Bool.and_self, Bool.and_true, Bool.and_false, Bool.true_and, Bool.false_and, Bool.or_true, Bool.or_false, Bool.true_or, Bool.false_or, if_true, if_false, Bool.false_eq_true, tc_0, ix_0, tc_1, ix_1, tc_3, ix_3, tc_681, ix_681, mz_0, mz_1, mz_a, rvs, j_s, j_a, wI_at, Nat.reduceEqDiff, zero_ne_one_n, one_ne_zero_n]
      | succ m ih =>
        intro k hm hk
        obtain ⟨s1, s2⟩ := step k (by omega)
        have nk : k < n := by omega
        obtain ⟨i1, i2⟩ := ixs k nk
        have ne := g2 k (by omega)
        rw [ee_wh_eq]
        simp only [a1, x0, y0, c0, h0, s1, s2, nk, i1, i2, ne, mz_t, mz_ts, lx_254_1, lb_254_1, ee_turn, k_0, k_1, k_3, k_681, nz_1, nz_3, nz_681, v_and, v_bin, v_call, v_cmp, v_cons, v_get, v_idx, v_int, v_loc, v_nil, v_z, w_if, w_inc, w_ret, w_seq, w_set, w_skip, List.getElem?_cons_zero, List.getElem?_cons_succ, List.set_cons_zero, List.set_cons_succ, ee_cmp0, ee_cmp1, ee_cmp2, ee_cmp3, ee_cmp4, ee_cmp5, ee_cmpL0, ee_cmpL1, ee_cmpL2, ee_cmpL3, ee_cmpL4, ee_cmpL5, ee_tru_eb, decide_eq_true_eq, ib_i, ie_b, ie_f, ie_t, ib_l, fin_i, fin_l, fin_v, fin_z, fin_a, fin_n, ee_b_0, ee_fld0, ee_fld1, ee_fld2, ee_fld3, bi_0, bi_1, bi_2, bi_3, bi_4, bi_5, bi_6, bi_7, bi_8, bi_9, bi_10, bl_20, bl_21, bl_22, bl_23, bl_24, bl_25, bl_26, bl_48, bl_49, un_0, un_1, un_2, un_3, if_true, if_false, ite_true, ite_false, Bool.false_eq_true, Bool.not_eq_false, decide_not, Bool.not_not, reduceCtorEq, st_i, st_l, st_r, st_n, ee_noL, ee_noL.eq_1, List.length_cons, List.length_nil, Nat.reduceAdd, Nat.reduceLT, Nat.zero_add, and_true, true_and, and_self, fin_ite, pu_0, pu_1, pu_3, sto_0, el_0, Bool.not_eq_true, decide_eq_false_iff_not, Bool.decide_eq_true, Bool.decide_eq_false, decide_true, decide_false, Bool.not_true, Bool.not_false, Bool.and_self, Bool.and_true, Bool.and_false, Bool.true_and, Bool.false_and, Bool.or_true, Bool.or_false, Bool.true_or, Bool.false_or, if_true, if_false, Bool.false_eq_true, tc_0, ix_0, tc_1, ix_1, tc_3, ix_3, tc_681, ix_681, mz_0, mz_1, mz_a, rvs, j_s, j_a, wI_at, Nat.reduceEqDiff, zero_ne_one_n, one_ne_zero_n]
        exact ih (k + 1) (by omega) (by omega)
    have hk' := hloop k0 0 rfl (Nat.zero_le _)
    rw [k_0] at hk'
    refine ⟨w', ?_, n2⟩
    simp only [w_while, hk', lawv, be_254, k_0, k_1, k_3, k_681, nz_1, nz_3, nz_681, v_and, v_bin, v_call, v_cmp, v_cons, v_get, v_idx, v_int, v_loc, v_nil, v_z, w_if, w_inc, w_ret, w_seq, w_set, w_skip, List.getElem?_cons_zero, List.getElem?_cons_succ, List.set_cons_zero, List.set_cons_succ, ee_cmp0, ee_cmp1, ee_cmp2, ee_cmp3, ee_cmp4, ee_cmp5, ee_cmpL0, ee_cmpL1, ee_cmpL2, ee_cmpL3, ee_cmpL4, ee_cmpL5, ee_tru_eb, decide_eq_true_eq, ib_i, ie_b, ie_f, ie_t, ib_l, fin_i, fin_l, fin_v, fin_z, fin_a, fin_n, ee_b_0, ee_fld0, ee_fld1, ee_fld2, ee_fld3, bi_0, bi_1, bi_2, bi_3, bi_4, bi_5, bi_6, bi_7, bi_8, bi_9, bi_10, bl_20, bl_21, bl_22, bl_23, bl_24, bl_25, bl_26, bl_48, bl_49, un_0, un_1, un_2, un_3, if_true, if_false, ite_true, ite_false, Bool.false_eq_true, Bool.not_eq_false, decide_not, Bool.not_not, reduceCtorEq, st_i, st_l, st_r, st_n, ee_noL, ee_noL.eq_1, List.length_cons, List.length_nil, Nat.reduceAdd, Nat.reduceLT, Nat.zero_add, and_true, true_and, and_self, fin_ite, pu_0, pu_1, pu_3, sto_0, el_0, Bool.not_eq_true, decide_eq_false_iff_not, Bool.decide_eq_true, Bool.decide_eq_false, decide_true, decide_false, Bool.not_true, Bool.not_false, Bool.and_self, Bool.and_true, Bool.and_false, Bool.true_and, Bool.false_and, Bool.or_true, Bool.or_false, Bool.true_or, Bool.false_or, if_true, if_false, Bool.false_eq_true, ix_0, ix_1, ix_3, ix_681, tc_0, tc_1, tc_3, tc_681, mz_0, mz_1, mz_a, rvs, j_s, j_a, wI_at, Nat.reduceEqDiff, zero_ne_one_n, one_ne_zero_n]
end NS
