/-! the reference's clauses -/
section MCL
variable {P : Nat → Nat → List Value → ee_W → Option (List Value × ee_W)} {d : Nat} {w : ee_W} {f : Nat → Int32} {n c t i W law F : Nat} {T : TX}
def MLl (w : ee_W) (t sort kk n W : Nat) (o : Option ee_T) : Prop := match o with
  | none => ∀ k, k < n → w.1 239 (681 * t + 1 + 3 * k) ≠ Int32.ofNat sort
  | some e => ty e = 1 ∧ nl kk e ∧ ∃ k f E, k < n ∧ w.1 239 (681 * t + 1 + 3 * k) = Int32.ofNat sort ∧ (∀ j, j < k → w.1 239 (681 * t + 1 + 3 * j) ≠ Int32.ofNat sort) ∧ w.1 239 (681 * t + 1 + 3 * k + 1) = Int32.ofNat f ∧ w.1 239 (681 * t + 1 + 3 * k + 2) = Int32.ofNat E ∧ E ≤ W ∧ mseg (mcode w t) e f E
def onc (T : TX) : Nat := (if T.2.1.isSome = true then 1 else 0) + (if T.2.2.isSome = true then 2 else 0)
def MRW (w : ee_W) (t : Nat) (T : TX) : Prop := ∀ i, i < T.1.1 → ∃ q : Nat, q ≤ 7 ∧ (T.1.2 i).1 = Int32.ofNat q ∧ w.1 239 (681 * t + 1 + 3 * i) = Int32.ofNat q ∧ ((q = 2 ∨ q = 3 ∨ q = 4 ∨ q = 5 ∨ q = 7) → w.1 239 (681 * t + 1 + 3 * i + 1) = (T.1.2 i).2.1) ∧ (q = 2 → w.1 239 (681 * t + 1 + 3 * i + 2) = (T.1.2 i).2.2)
def MQW (w : ee_W) (t W : Nat) (T : TX) : Prop := T.1.1 ≤ 24 ∧ w.1 239 (681 * t) = Int32.ofNat T.1.1 ∧ MRW w t T ∧ MLl w t 0 24 T.1.1 W T.2.1 ∧ MLl w t 1 23 T.1.1 W T.2.2
theorem MLl_MLw {sort kk m : Nat} {o : Option ee_T} (h : MLl w t sort kk m W o) (hW : W ≤ 300) : MLw w t sort kk m o := by
  cases o with
  | none => exact h
  | some e =>
    obtain ⟨a1, a2, k, f, E, a3, a4, a5, a6, a7, a8, a9⟩ := h
    exact ⟨a1, a2, k, f, E, a3, a4, a5, a6, a7, by omega, a9⟩
theorem MQ_MT (h : MQW w t W T) (hW : W ≤ 300) : MT w t T := ⟨h.1, h.2.1, h.2.2.1, MLl_MLw h.2.2.2.1 hW, MLl_MLw h.2.2.2.2 hW⟩
/-- rows of clauses, codes that stay -/
def ROW (w w' : ee_W) (t m W : Nat) : Prop := (∀ k, 681 * t + 1 ≤ k → k < 681 * t + 1 + 3 * m → w'.1 239 k = w.1 239 k) ∧ ∀ k, k < W → mcode w' t k = mcode w t k
theorem ROW_refl (w : ee_W) (t m W : Nat) : ROW w w t m W := ⟨fun _ _ _ => rfl, fun _ _ => rfl⟩
theorem ROW_trans {w1 w2 : ee_W} {m : Nat} (h : ROW w w1 t m W) (h2 : ROW w1 w2 t m W) : ROW w w2 t m W := ⟨fun k a b => (h2.1 k a b).trans (h.1 k a b), fun k a => (h2.2 k a).trans (h.2 k a)⟩
theorem MLl_eq {w' : ee_W} {sort kk m W' : Nat} {o : Option ee_T} (h : MLl w t sort kk m W o) (hr : ROW w w' t m W) (hW : W ≤ W') : MLl w' t sort kk m W' o := by
  cases o with
  | none => intro k hk; rw [hr.1 _ (by omega) (by omega)]; exact h k hk
  | some e =>
    obtain ⟨a1, a2, k, f, E, a3, a4, a5, a6, a7, a8, a9⟩ := h
    exact ⟨a1, a2, k, f, E, a3, (hr.1 _ (by omega) (by omega)).trans a4, fun j hj => by rw [hr.1 _ (by omega) (by omega)]; exact a5 j hj, (hr.1 _ (by omega) (by omega)).trans a6, (hr.1 _ (by omega) (by omega)).trans a7, by omega, mseg_cg a9 (fun q _ q2 => hr.2 q (by omega))⟩
theorem MLl_more {w' : ee_W} {sort kk m W' : Nat} {o : Option ee_T} (h : MLl w t sort kk m W o) (hr : ROW w w' t m W) (hW : W ≤ W') (hn : w'.1 239 (681 * t + 1 + 3 * m) ≠ Int32.ofNat sort) : MLl w' t sort kk (m + 1) W' o := by
  have g := MLl_eq h hr hW
  cases o with
  | none =>
    intro k hk
    by_cases y : k = m
    · rw [y]; exact hn
    · exact g k (by omega)
  | some e =>
    obtain ⟨a1, a2, k, f, E, a3, a4⟩ := g
    exact ⟨a1, a2, k, f, E, by omega, a4⟩
theorem MRW_more {w' : ee_W} (h : MRW w t T) (hr : ROW w w' t T.1.1 W) {q : Nat} (hq : q ≤ 7) (a b : Int32) (h0 : w'.1 239 (681 * t + 1 + 3 * T.1.1) = Int32.ofNat q) (h1 : (q = 2 ∨ q = 3 ∨ q = 4 ∨ q = 5 ∨ q = 7) → w'.1 239 (681 * t + 1 + 3 * T.1.1 + 1) = a) (h2 : q = 2 → w'.1 239 (681 * t + 1 + 3 * T.1.1 + 2) = b) : MRW w' t (addc T q a b) := by
  intro i hi
  have hi : i < T.1.1 + 1 := hi
  have e : (addc T q a b).1.2 i = if i = T.1.1 then (Int32.ofNat q, a, b) else T.1.2 i := rfl
  rw [e]
  by_cases y : i = T.1.1
  · rw [if_pos y, y]
    exact ⟨q, hq, rfl, h0, h1, h2⟩
  · rw [if_neg y]
    obtain ⟨q', b1, b2, b3, b4, b5⟩ := h i (by omega)
    exact ⟨q', b1, b2, (hr.1 _ (by omega) (by omega)).trans b3, fun z => (hr.1 _ (by omega) (by omega)).trans (b4 z), fun z => (hr.1 _ (by omega) (by omega)).trans (b5 z)⟩
theorem MQ_scr {w' : ee_W} {W' q : Nat} (h : MQW w t W T) (hm : T.1.1 < 24) (hr : ROW w w' t T.1.1 W) (hW : W ≤ W') (hq : 2 ≤ q ∧ q ≤ 7) (a b : Int32) (hc : w'.1 239 (681 * t) = Int32.ofNat (T.1.1 + 1)) (h0 : w'.1 239 (681 * t + 1 + 3 * T.1.1) = Int32.ofNat q) (h1 : (q = 2 ∨ q = 3 ∨ q = 4 ∨ q = 5 ∨ q = 7) → w'.1 239 (681 * t + 1 + 3 * T.1.1 + 1) = a) (h2 : q = 2 → w'.1 239 (681 * t + 1 + 3 * T.1.1 + 2) = b) : MQW w' t W' (addc T q a b) := by
  obtain ⟨a1, a2, a3, a4, a5⟩ := h
  have n0 : ∀ s, s ≤ 1 → w'.1 239 (681 * t + 1 + 3 * T.1.1) ≠ Int32.ofNat s := fun s hs z => by
    rw [h0, kq (by omega) (by omega)] at z
    omega
  exact ⟨by show T.1.1 + 1 ≤ 24; omega, hc, MRW_more a3 hr hq.2 a b h0 h1 h2, MLl_more a4 hr hW (n0 0 (by omega)), MLl_more a5 hr hW (n0 1 (by omega))⟩
theorem MQ_law {w' : ee_W} {W' q A E : Nat} {e : ee_T} (h : MQW w t W T) (hm : T.1.1 < 24) (hr : ROW w w' t T.1.1 W) (hW : W ≤ W') (hq : q ≤ 1) (hT : (q = 0 → T.2.1 = none) ∧ (q = 1 → T.2.2 = none)) (hc : w'.1 239 (681 * t) = Int32.ofNat (T.1.1 + 1)) (h0 : w'.1 239 (681 * t + 1 + 3 * T.1.1) = Int32.ofNat q) (hA : w'.1 239 (681 * t + 1 + 3 * T.1.1 + 1) = Int32.ofNat A) (hE : w'.1 239 (681 * t + 1 + 3 * T.1.1 + 2) = Int32.ofNat E) (hEW : E ≤ W') (he : ty e = 1) (hn : nl (pkk q) e) (hs : mseg (mcode w' t) e A E) : MQW w' t W' (setl (addc T q 0 0) q e) := by
  obtain ⟨a1, a2, a3, a4, a5⟩ := h
  have a3' : MRW w' t (addc T q 0 0) := MRW_more a3 hr (by omega) 0 0 h0 (fun z => by omega) (fun z => by omega)
  by_cases y : q = 0
  · rw [setl_p y]
    subst y
    rw [hT.1 rfl] at a4
    refine ⟨by show T.1.1 + 1 ≤ 24; omega, hc, a3', ⟨he, hn, T.1.1, A, E, by show T.1.1 < T.1.1 + 1; omega, h0, fun j hj => ?_, hA, hE, hEW, hs⟩, MLl_more a5 hr hW (fun z => by rw [h0, kq (by omega) (by omega)] at z; omega)⟩
    rw [hr.1 _ (by omega) (by omega)]
    exact a4 j hj
  · rw [setl_n y]
    have y : q = 1 := by omega
    subst y
    rw [hT.2 rfl] at a5
    refine ⟨by show T.1.1 + 1 ≤ 24; omega, hc, a3', MLl_more a4 hr hW (fun z => by rw [h0, kq (by omega) (by omega)] at z; omega), ⟨he, hn, T.1.1, A, E, by show T.1.1 < T.1.1 + 1; omega, h0, fun j hj => ?_, hA, hE, hEW, hs⟩⟩
    rw [hr.1 _ (by omega) (by omega)]
    exact a5 j hj
/-- the reference stands at token i of a text -/
def MC (w : ee_W) (n : Nat) (f : Nat → Int32) (i t W : Nat) : Prop := MTAP w n f ∧ MTK w f n (rnq isBi f n (tpos f n i)) ∧ t < 4 ∧ w.1 236 12 = Int32.ofNat (681 * t) ∧ w.1 236 13 = Int32.ofNat W ∧ W ≤ i
def pcm (t c k : Nat) : Prop := (c = 236 ∧ ((7 ≤ k ∧ k ≤ 14) ∨ (16 ≤ k ∧ k ≤ 19))) ∨ (c = 239 ∧ 681 * t ≤ k ∧ k < 681 * t + 681) ∨ c = 241
theorem pcm_k {w' : ee_W} (h : chk ptk w w') : chk (pcm t) w w' := chk_mono h (fun c k h => by unfold ptk at h; unfold pcm; omega)
theorem pcm_s {w' : ee_W} (h : chk (pms t) w w') : chk (pcm t) w w' := chk_mono h (fun c k h => by unfold pms pem ptk at h; unfold pcm; omega)
theorem MTAP_pc {w' : ee_W} (h : MTAP w n f) (hc : chk (pcm t) w w') : MTAP w' n f := MTAP_chk h hc (by unfold pcm; omega) (fun k => by unfold pcm; omega)
/-- a world of other texts' words, other fields -/
def pno (c k : Nat) : Prop := c = 239 ∨ (c = 236 ∧ (k = 14 ∨ k = 19 ∨ k = 16 ∨ k = 17 ∨ k = 18))
theorem MC_no {w' : ee_W} (h : MC w n f i t W) (hc : chk pno w w') (hl : w'.2.1 = w.2.1) : MC w' n f i t W := by
  obtain ⟨h1, h2, h3, h4, h5, h6⟩ := h
  exact ⟨MTAP_chk h1 hc (by unfold pno; omega) (fun k => by unfold pno; omega), MTK_p h2 (fun k a b => hc.1 _ _ (by unfold pno; omega)) (by rw [hl]), h3, (hc.1 _ _ (by unfold pno; omega)).trans h4, (hc.1 _ _ (by unfold pno; omega)).trans h5, h6⟩
theorem m_nx (hd : 2 ≤ d) (hb : ∀ i, i < n → bI (f i) 0 255) (h : MC w n f i t W) : ∃ w', ee_run ee_B P d 195 [.ref 236] w = some ([], w') ∧ MC w' n f (i + 1) t W ∧ chk ptk w w' := by
  obtain ⟨h1, h2, h3, h4, h5, h6⟩ := h
  obtain ⟨w', g1, g2, g3⟩ := m_next (P := P) hd h1 hb h2.2.2.1 (tpos_b f n (i + 1))
  exact ⟨w', g1, ⟨MTAP_tk h1 g3, g2, h3, (g3.1 _ _ (by unfold ptk; omega)).trans h4, (g3.1 _ _ (by unfold ptk; omega)).trans h5, by omega⟩, g3⟩
theorem ROW_tk {w' : ee_W} {m : Nat} (hc : chk ptk w w') : ROW w w' t m W := ⟨fun k _ _ => hc.1 _ _ (by unfold ptk; omega), fun k _ => code_p hc k⟩
theorem m_fig (hd : 3 ≤ d) (hb : ∀ i, i < n → bI (f i) 0 255) (h : MC w n f i t W) {x lo hi : Nat} (hx : x < 2724) (hlo : lo ≤ 9999) (hhi : hi ≤ 9999) :
    (nmf (kkf f n) (vvf f n) lo hi i = 0 → ∃ w1 w', ee_run ee_B P d 211 [.ref 236, .int (Int32.ofNat x), .int (Int32.ofNat lo), .int (Int32.ofNat hi)] w = some ([.int 0], w') ∧ MC w' n f (i + 1) t W ∧ w1 = ee_wI w 239 x (Int32.ofNat (vvf f n i)) ∧ chk ptk w1 w') ∧
    (nmf (kkf f n) (vvf f n) lo hi i ≠ 0 → ee_run ee_B P d 211 [.ref 236, .int (Int32.ofNat x), .int (Int32.ofNat lo), .int (Int32.ofNat hi)] w = some ([.int (Int32.ofNat (nmf (kkf f n) (vvf f n) lo hi i))], w)) := by
  obtain ⟨d, rfl⟩ : ∃ k, d = k + 1 := ⟨d - 1, by omega⟩
  have hd1 : 1 ≤ d := by omega
  have hd2 : 2 ≤ d := by omega
  have q1 := mq_1 h.2.1
  have e : nmf (kkf f n) (vvf f n) lo hi i = if (tok f n (rnq isBi f n (tpos f n i))).1 = 38 then (if lo ≤ (tok f n (rnq isBi f n (tpos f n i))).2.1 ∧ (tok f n (rnq isBi f n (tpos f n i))).2.1 ≤ hi then 0 else 2) else 1 := rfl
  rw [e]
  by_cases y : (tok f n (rnq isBi f n (tpos f n i))).1 = 38
  · rw [if_pos y]
    have yt : ((tok f n (rnq isBi f n (tpos f n i))).1 = 38) = True := eq_true y
    obtain ⟨u, u1, u2, u3⟩ := mt_num h.2.1 y
    by_cases z : lo ≤ (tok f n (rnq isBi f n (tpos f n i))).2.1 ∧ (tok f n (rnq isBi f n (tpos f n i))).2.1 ≤ hi
    · rw [if_pos z]
      refine ⟨fun _ => ?_, fun k => absurd rfl k⟩
      have uv : u = vvf f n i := by show u = (tok f n (rnq isBi f n (tpos f n i))).2.1; omega
      have iq : (decide (Int32.ofNat lo ≤ Int32.ofNat u) && decide (Int32.ofNat u ≤ Int32.ofNat hi)) = true := by
        rw [decide_eq_true ((j_le (by omega) (by omega)).2 (by omega)), decide_eq_true ((j_le (by omega) (by omega)).2 (by omega))]; rfl
      obtain ⟨w1, hw1⟩ : ∃ w1, w1 = ee_wI w 239 x (Int32.ofNat (vvf f n i)) := ⟨_, rfl⟩
      have M1 : MC w1 n f i t W := MC_no h (by rw [hw1]; exact chk_I (Or.inl rfl) (chk_refl _ _)) (by rw [hw1]; rfl)
      obtain ⟨w', g1, g2, g3⟩ := m_nx (P := P) (d := d) hd2 hb M1
      refine ⟨w1, w', ?_, g2, hw1, g3⟩
      have x1 : ee_ix (Int32.ofNat x) 2724 = true := by rw [ixn (by omega)]; exact decide_eq_true hx
      rw [rn_211 mz_0]
      rw [← uv] at hw1
      simp only [q1, yt, u1, r_isIn hd1, iq, x1, tnc (show x < 2147483648 by omega), ← hw1, g1, mz_t, mz_ts, bd_211, k_0, k_1, k_2, nz_1, nz_2, v_call, v_cmp, v_cons, v_get, v_int, v_loc, v_nil, v_not, v_z, w_exp0, w_exp1, w_if, w_ret, w_seq, w_sto, List.getElem?_cons_zero, List.getElem?_cons_succ, List.set_cons_zero, List.set_cons_succ, ee_cmp0, ee_cmp1, ee_cmp2, ee_cmp3, ee_cmp4, ee_cmp5, ee_cmpL0, ee_cmpL1, ee_cmpL2, ee_cmpL3, ee_cmpL4, ee_cmpL5, ee_tru_eb, decide_eq_true_eq, ib_i, ie_b, ie_f, ie_t, ib_l, fin_i, fin_l, fin_v, fin_z, fin_a, fin_n, ee_b_0, ee_fld0, ee_fld1, ee_fld2, ee_fld3, bi_0, bi_1, bi_2, bi_3, bi_4, bi_5, bi_6, bi_7, bi_8, bi_9, bi_10, bl_20, bl_21, bl_22, bl_23, bl_24, bl_25, bl_26, bl_48, bl_49, un_0, un_1, un_2, un_3, if_true, if_false, ite_true, ite_false, Bool.false_eq_true, Bool.not_eq_false, decide_not, Bool.not_not, reduceCtorEq, st_i, st_l, st_r, st_n, ee_noL, ee_noL.eq_1, List.length_cons, List.length_nil, Nat.reduceAdd, Nat.reduceLT, Nat.zero_add, and_true, true_and, and_self, fin_ite, pu_0, pu_1, pu_3, sto_0, el_0, Bool.not_eq_true, decide_eq_false_iff_not, Bool.decide_eq_true, Bool.decide_eq_false, decide_true, decide_false, Bool.not_true, Bool.not_false, Bool.and_self, Bool.and_true, Bool.and_false, Bool.true_and, Bool.false_and, Bool.or_true, Bool.or_false, Bool.true_or, Bool.false_or, if_true, if_false, Bool.false_eq_true, ix_0, ix_1, ix_2, tc_0, tc_1, tc_2, mz_0, mz_1, mz_a, rvs, j_s, j_a, wI_at, Nat.reduceEqDiff, zero_ne_one_n, one_ne_zero_n]
      try rfl
    · rw [if_neg z]
      refine ⟨fun k => (by cases k), fun _ => ?_⟩
      have iq : (decide (Int32.ofNat lo ≤ Int32.ofNat u) && decide (Int32.ofNat u ≤ Int32.ofNat hi)) = false := by
        refine bf (fun q => z ?_)
        rw [Bool.and_eq_true, decide_eq_true_eq, decide_eq_true_eq, j_le (by omega) (by omega), j_le (by omega) (by omega)] at q
        omega
      rw [k_2, rn_211 mz_0]
      simp only [q1, yt, u1, r_isIn hd1, iq, bd_211, k_0, k_1, k_2, nz_1, nz_2, v_call, v_cmp, v_cons, v_get, v_int, v_loc, v_nil, v_not, v_z, w_exp0, w_exp1, w_if, w_ret, w_seq, w_sto, List.getElem?_cons_zero, List.getElem?_cons_succ, List.set_cons_zero, List.set_cons_succ, ee_cmp0, ee_cmp1, ee_cmp2, ee_cmp3, ee_cmp4, ee_cmp5, ee_cmpL0, ee_cmpL1, ee_cmpL2, ee_cmpL3, ee_cmpL4, ee_cmpL5, ee_tru_eb, decide_eq_true_eq, ib_i, ie_b, ie_f, ie_t, ib_l, fin_i, fin_l, fin_v, fin_z, fin_a, fin_n, ee_b_0, ee_fld0, ee_fld1, ee_fld2, ee_fld3, bi_0, bi_1, bi_2, bi_3, bi_4, bi_5, bi_6, bi_7, bi_8, bi_9, bi_10, bl_20, bl_21, bl_22, bl_23, bl_24, bl_25, bl_26, bl_48, bl_49, un_0, un_1, un_2, un_3, if_true, if_false, ite_true, ite_false, Bool.false_eq_true, Bool.not_eq_false, decide_not, Bool.not_not, reduceCtorEq, st_i, st_l, st_r, st_n, ee_noL, ee_noL.eq_1, List.length_cons, List.length_nil, Nat.reduceAdd, Nat.reduceLT, Nat.zero_add, and_true, true_and, and_self, fin_ite, pu_0, pu_1, pu_3, sto_0, el_0, Bool.not_eq_true, decide_eq_false_iff_not, Bool.decide_eq_true, Bool.decide_eq_false, decide_true, decide_false, Bool.not_true, Bool.not_false, Bool.and_self, Bool.and_true, Bool.and_false, Bool.true_and, Bool.false_and, Bool.or_true, Bool.or_false, Bool.true_or, Bool.false_or, if_true, if_false, Bool.false_eq_true, ix_0, ix_1, ix_2, tc_0, tc_1, tc_2, mz_0, mz_1, mz_a, rvs, j_s, j_a, wI_at, Nat.reduceEqDiff, zero_ne_one_n, one_ne_zero_n]
      try rfl
  · rw [if_neg y]
    refine ⟨fun k => (by cases k), fun _ => ?_⟩
    rw [k_1, rn_211 mz_0]
    simp only [q1, y, bd_211, k_0, k_1, k_2, nz_1, nz_2, v_call, v_cmp, v_cons, v_get, v_int, v_loc, v_nil, v_not, v_z, w_exp0, w_exp1, w_if, w_ret, w_seq, w_sto, List.getElem?_cons_zero, List.getElem?_cons_succ, List.set_cons_zero, List.set_cons_succ, ee_cmp0, ee_cmp1, ee_cmp2, ee_cmp3, ee_cmp4, ee_cmp5, ee_cmpL0, ee_cmpL1, ee_cmpL2, ee_cmpL3, ee_cmpL4, ee_cmpL5, ee_tru_eb, decide_eq_true_eq, ib_i, ie_b, ie_f, ie_t, ib_l, fin_i, fin_l, fin_v, fin_z, fin_a, fin_n, ee_b_0, ee_fld0, ee_fld1, ee_fld2, ee_fld3, bi_0, bi_1, bi_2, bi_3, bi_4, bi_5, bi_6, bi_7, bi_8, bi_9, bi_10, bl_20, bl_21, bl_22, bl_23, bl_24, bl_25, bl_26, bl_48, bl_49, un_0, un_1, un_2, un_3, if_true, if_false, ite_true, ite_false, Bool.false_eq_true, Bool.not_eq_false, decide_not, Bool.not_not, reduceCtorEq, st_i, st_l, st_r, st_n, ee_noL, ee_noL.eq_1, List.length_cons, List.length_nil, Nat.reduceAdd, Nat.reduceLT, Nat.zero_add, and_true, true_and, and_self, fin_ite, pu_0, pu_1, pu_3, sto_0, el_0, Bool.not_eq_true, decide_eq_false_iff_not, Bool.decide_eq_true, Bool.decide_eq_false, decide_true, decide_false, Bool.not_true, Bool.not_false, Bool.and_self, Bool.and_true, Bool.and_false, Bool.true_and, Bool.false_and, Bool.or_true, Bool.or_false, Bool.true_or, Bool.false_or, if_true, if_false, Bool.false_eq_true, ix_0, ix_1, ix_2, tc_0, tc_1, tc_2, mz_0, mz_1, mz_a, rvs, j_s, j_a, wI_at, Nat.reduceEqDiff, zero_ne_one_n, one_ne_zero_n]
    try rfl
/-- what reading a sum leaves -/
def SUM (w' : ee_W) (w : ee_W) (n : Nat) (f : Nat → Int32) (t W : Nat) (r : PR) : Prop := chk (pms t) w w' ∧ match r with
  | .inl z => ∃ W', MC w' n f z.2 t W' ∧ mseg (mcode w' t) z.1 W W' ∧ (∀ k, k < W → mcode w' t k = mcode w t k) ∧ W ≤ W'
  | .inr y => MTAP w' n f ∧ MTK w' f n (rnq isBi f n (tpos f n y.2))
def fno (r : PR) : Nat := match r with
  | .inl _ => 0
  | .inr y => y.1
theorem m_sumd (hd : 8 ≤ d) (hb : ∀ i, i < n → bI (f i) 0 255) (hE : TKE f n c) (h : MC w n f i t W) (hi : i ≤ c) (hlaw : law ≤ 1) (h14 : w.1 236 14 = Int32.ofNat law) {r : PR} {x : ee_T} (hr : pp (kkf f n) (vvf f n) law F 0 0 i x = some r) : ∃ w', ee_run ee_B P d 213 [.ref 236] w = some ([.int (Int32.ofNat (fno r))], w') ∧ SUM w' w n f t W r := by
  obtain ⟨d, rfl⟩ : ∃ k, d = k + 1 := ⟨d - 1, by omega⟩
  have c300 := hE.1
  obtain ⟨w1, hw1⟩ : ∃ w1, w1 = ee_wI (ee_wI (ee_wI w 236 16 0) 236 17 0) 236 18 0 := ⟨_, rfl⟩
  have cn : chk pno w w1 := by rw [hw1]; exact chk_I (Or.inr (by omega)) (chk_I (Or.inr (by omega)) (chk_I (Or.inr (by omega)) (chk_refl _ _)))
  have cp : chk (pms t) w w1 := by rw [hw1]; exact chk_I (Or.inl (Or.inl (by omega))) (chk_I (Or.inl (Or.inl (by omega))) (chk_I (Or.inl (Or.inl (by omega))) (chk_refl _ _)))
  obtain ⟨m1, m2, m3, m4, m5, m6⟩ := MC_no h cn (by rw [hw1]; rfl)
  have hP : MP w1 n f i t W [] 0 false := ⟨m1, m2, ⟨m3, by omega, m4, m5, trivial, by rw [hw1, wI_at, if_neg (by omega), wI_at, if_neg (by omega), wI_at, if_pos ⟨rfl, rfl⟩]; rfl, by rw [hw1, wI_at, if_neg (by omega), wI_at, if_pos ⟨rfl, rfl⟩]; rfl, by omega, Nat.zero_le _⟩, by rw [hw1, wI_at, if_pos ⟨rfl, rfl⟩]; rfl⟩
  have l1 : w1.1 236 14 = Int32.ofNat law := by rw [hw1, wI_at, if_neg (by omega), wI_at, if_neg (by omega), wI_at, if_neg (by omega)]; exact h14
  have k1 : ∀ k, mcode w1 t k = mcode w t k := fun k => by
    have o1 : ∀ k, w1.1 239 k = w.1 239 k := fun k => by rw [hw1, wI_at, if_neg (by omega), wI_at, if_neg (by omega), wI_at, if_neg (by omega)]
    unfold mcode
    rw [o1, o1]
  have G := (m_pp (P := P) (d := d) (by omega) hb hlaw hE F).1 0 (Or.inl rfl) 0 i x r w1 W [] hr (by omega) hi hP l1 (by show W + 0 ≤ i; omega) (Nat.zero_le _) (fun a b e => by cases e) (fun z => by omega) (fun _ _ => iah_0 (by show ¬ (0 : Nat) = 41; decide))
  have p18 : ∀ w : ee_W, ee_put w 236 18 3 (.int 0) = some (ee_wI w 236 18 0) := fun w => rfl
  have run : ∀ q w2, RCF P d w1 q w2 → ee_run ee_B P (d + 1) 213 [.ref 236] w = some ([.int (Int32.ofNat q)], w2) := by
    intro q w2 h
    have h := h none
    unfold sG at h
    rw [rn_213 mz_0]
    simp only [p18, ← hw1, w_forever, h, be_213, k_0, k_1, nz_1, v_call, v_cons, v_get, v_int, v_loc, v_nil, v_z, w_exp0, w_exp1, w_if, w_put, w_ret, w_seq, w_set, w_skip, List.getElem?_cons_zero, List.getElem?_cons_succ, List.set_cons_zero, List.set_cons_succ, ee_cmp0, ee_cmp1, ee_cmp2, ee_cmp3, ee_cmp4, ee_cmp5, ee_cmpL0, ee_cmpL1, ee_cmpL2, ee_cmpL3, ee_cmpL4, ee_cmpL5, ee_tru_eb, decide_eq_true_eq, ib_i, ie_b, ie_f, ie_t, ib_l, fin_i, fin_l, fin_v, fin_z, fin_a, fin_n, ee_b_0, ee_fld0, ee_fld1, ee_fld2, ee_fld3, bi_0, bi_1, bi_2, bi_3, bi_4, bi_5, bi_6, bi_7, bi_8, bi_9, bi_10, bl_20, bl_21, bl_22, bl_23, bl_24, bl_25, bl_26, bl_48, bl_49, un_0, un_1, un_2, un_3, if_true, if_false, ite_true, ite_false, Bool.false_eq_true, Bool.not_eq_false, decide_not, Bool.not_not, reduceCtorEq, st_i, st_l, st_r, st_n, ee_noL, ee_noL.eq_1, List.length_cons, List.length_nil, Nat.reduceAdd, Nat.reduceLT, Nat.zero_add, and_true, true_and, and_self, fin_ite, pu_0, pu_1, pu_3, sto_0, el_0, Bool.not_eq_true, decide_eq_false_iff_not, Bool.decide_eq_true, Bool.decide_eq_false, decide_true, decide_false, Bool.not_true, Bool.not_false, Bool.and_self, Bool.and_true, Bool.and_false, Bool.true_and, Bool.false_and, Bool.or_true, Bool.or_false, Bool.true_or, Bool.false_or, if_true, if_false, Bool.false_eq_true, ix_0, ix_1, tc_0, tc_1, mz_0, mz_1, mz_a, rvs, j_s, j_a, wI_at, Nat.reduceEqDiff, zero_ne_one_n, one_ne_zero_n]
  cases r with
  | inr y =>
    obtain ⟨w', a1, a2, a3, a4⟩ := G
    exact ⟨w', run _ _ a1, chk_trans cp a4, a2, a3⟩
  | inl z =>
    obtain ⟨w2, W2, ps, a1, a2, a3, a4, a5, a6, a7, a8, a9⟩ := G
    have a2 : MP w2 n f z.2 t W2 (ps ++ []) (0 + ops ps) true := a2
    have a9 : W2 + (ps.length + 0) ≤ z.2 := a9
    have a3 : ∀ o ∈ ps, 5 ≤ rnk o := a3
    have jc := pp_ok hE.2 F 0 0 i x z.1 z.2 (by omega) hr (by omega) hi (fun q => by cases q)
    have en := pp_end F 0 0 i x z.1 z.2 (by omega) hr (fun q => by cases q)
    have en : ¬ (31 ≤ kkf f n z.2 ∧ kkf f n z.2 ≤ 34) := by unfold pe at en; simp at en; omega
    have en : ¬ (31 ≤ (tkn f n z.2).1 ∧ (tkn f n z.2).1 ≤ 34) := en
    have oa : opk (ps ++ []) = 0 := (opk_app (ks := []) (fun o ho => Nat.le_trans (by omega) (a3 o ho))).trans rfl
    have bz : btw (tkn f n z.2).1 (ps ++ []) = 0 := by
      unfold btw
      rw [if_neg en, oa, if_neg (by omega)]
    have pz : pto (tkn f n z.2).1 (opk (ps ++ [])) (icm (ps ++ [])) = 0 := by
      rw [oa]; unfold pto; rw [if_neg (by omega), if_neg (by omega), if_neg (by omega), if_neg (by omega)]
    have g := m_hno (P := P) (d := d) (by omega) a2 bz pz
    have on := m_openNow (P := P) (d := d) (by omega) (EMT_h a2.2.2.1)
    rw [oa] at on
    have on : ee_run ee_B P d 216 [.ref 236] w2 = some ([.int (-1)], w2) := on
    have j300 : z.2 ≤ 300 := by have := jc.2.1; omega
    obtain ⟨w3, s1, s2, s3, s4, s5⟩ := MP_settle (P := P) (d := d) (by omega) (least := 1) (by omega) (by omega) a2 (fun o ho => Nat.le_trans (by omega) (a3 o ho)) (fun a b e => by cases e) (by omega) (by omega)
    rw [k_1] at s1
    have rf : RCF P d w1 0 w3 := RCF_of a1 (t_end a2.2.2.2 g on s1)
    have rr := run _ _ rf
    obtain ⟨b1, b2, b3, -⟩ := s2
    refine ⟨w3, rr, chk_trans cp (chk_trans a7 (pms_e s5)), W2 + ps.length, ⟨b1, b2, b3.1, b3.2.2.1, b3.2.2.2.1, by omega⟩, a5 _ (fun k _ k2 => s4 k k2) s3, fun k hk => by rw [s4 k (by omega), a6 k hk, k1 k], by omega⟩
end MCL
