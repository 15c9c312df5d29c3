/-! the class's route -/
section ORC
variable {P : Nat → Nat → List Value → ee_W → Option (List Value × ee_W)} {d : Nat} {w : ee_W} {Z : ZX} {q f : Nat → Nat} {a n m c : Nat}
theorem ro_0 : es_sh 231 = (15, 0) ∧ es_rf 231 0 = some 232 ∧ es_rf 231 1 = some 233 ∧ es_sh 232 = (0, 6) ∧ es_sh 233 = (0, 6) := by decide +kernel
def prt (x : Nat) : Bool := rg 231 234 x
theorem prt_f {x : Nat} (h : x < 231 ∨ 234 ≤ x) : prt x = false := rg_f.2 h
def AK (w : ee_W) (c : Nat) (q : Nat → Nat) : Prop := w.1 231 2 = Int32.ofNat c ∧ ∀ i, i < c → w.1 232 i = Int32.ofNat (q i)
def so (q : Nat → Nat) (n : Nat) : Prop := ∀ x y, x < y → y < n → q x ≤ q y
theorem so_le (h : so q n) {x y : Nat} (h1 : x ≤ y) (h2 : y < n) : q x ≤ q y := by
  by_cases e : x = y
  · rw [e]; exact Nat.le_refl _
  · exact h x y (by omega) h2
def ins (q : Nat → Nat) (p t : Nat) : Nat → Nat := fun x => if x < p then q x else if x = p then t else q (x - 1)
theorem ins_cn (Q : Nat → Bool) (p t : Nat) : ∀ c, p ≤ c → cn (fun x => Q (ins q p t x)) (c + 1) = cn (fun x => Q (q x)) c + (if Q t = true then 1 else 0) := by
  intro c
  induction c with
  | zero =>
    intro h
    have e : ins q p t 0 = t := by unfold ins; rw [if_neg (by omega), if_pos (by omega)]
    show 0 + (if Q (ins q p t 0) = true then 1 else 0) = 0 + _
    rw [e]
  | succ c ih =>
    intro h
    by_cases y : p = c + 1
    · rw [cn_s]
      have e : ins q p t (c + 1) = t := by unfold ins; rw [if_neg (by omega), if_pos (by omega)]
      rw [e]
      have e2 : cn (fun x => Q (ins q p t x)) (c + 1) = cn (fun x => Q (q x)) (c + 1) := cn_congr _ (fun x hx => by
        unfold ins
        rw [if_pos (by omega)])
      rw [e2]
    · rw [cn_s, ih (by omega), cn_s]
      have e : ins q p t (c + 1) = q c := by unfold ins; rw [if_neg (by omega), if_neg (by omega)]; rfl
      rw [e]
      omega
theorem c_insert (hd : 2 ≤ d) {t : Nat} (hA : AK w c q) (hc : c < 6) (hs : so q c) (hq : ∀ i, i < c → q i < 64) (ht : t < 64) :
    ∃ w' q', ee_run ee_B P d 153 [.ref 231, .int (Int32.ofNat t)] w = some ([], w') ∧ AK w' (c + 1) q' ∧ so q' (c + 1) ∧ (∀ u, oc q' (c + 1) u = oc q c u + (if t = u then 1 else 0)) ∧ chg prt w w' := by
  obtain ⟨d, rfl⟩ : ∃ k, d = k + 1 := ⟨d - 1, by omega⟩
  have hd1 : 1 ≤ d := by omega
  obtain ⟨r0, r1, r2, r3, r4⟩ := ro_0
  obtain ⟨a1, a2⟩ := hA
  obtain ⟨r, hr, p, x, rfl, p1, p2, p3, p4, p5, p6, p7⟩ := wh_n (f := ee_turn (ee_ev es_sh es_rf (ee_run ee_B P d) lx_153_1) (ee_evS es_sh es_rf (ee_run ee_B P d) lb_153_1))
    (I := fun m y => ∃ p x, m = p ∧ y = ([some (.ref 231), some (.int (Int32.ofNat t)), some (.int (Int32.ofNat p))], x) ∧ p ≤ c ∧ (∀ j, j < p → x.1 232 j = Int32.ofNat (q j)) ∧ (∀ j, p < j → j ≤ c → x.1 232 j = Int32.ofNat (q (j - 1))) ∧ (∀ j, p ≤ j → j < c → t < q j) ∧ x.1 231 2 = Int32.ofNat c ∧ chg prt w x)
    (Q := fun r => ∃ p x, r = .inl ([some (.ref 231), some (.int (Int32.ofNat t)), some (.int (Int32.ofNat p))], x) ∧ p ≤ c ∧ (∀ j, j < p → x.1 232 j = Int32.ofNat (q j)) ∧ (∀ j, p < j → j ≤ c → x.1 232 j = Int32.ofNat (q (j - 1))) ∧ (∀ j, p ≤ j → j < c → t < q j) ∧ x.1 231 2 = Int32.ofNat c ∧ chg prt w x ∧ (p = 0 ∨ q (p - 1) ≤ t))
    (by
      rintro m y ⟨p, x, rfl, rfl, i1, i2, i3, i4, i5, i6⟩
      have z0 : (0 : Int32) < Int32.ofNat m ↔ 0 < m := j_lt (a := 0) (by omega) (by omega)
      by_cases m0 : m = 0
      · right
        have h9 : ¬ (0 : Int32) < Int32.ofNat m := fun z => by have := z0.1 z; omega
        refine ⟨_, ?_, m, x, rfl, i1, i2, i3, i4, i5, i6, Or.inl m0⟩
        simp only [h9, lx_153_1, lb_153_1, ee_turn, k_0, k_1, k_5, k_6, nz_1, nz_5, nz_6, v_and, v_bin, v_call, v_cmp, v_cons, v_get, v_idx, v_int, v_loc, v_nil, v_z, w_if, w_incm1, w_incm2, w_incm8, w_incp1, w_opf, w_retv, w_seq, w_set, w_skip, w_sto, List.getElem?_cons_zero, List.getElem?_cons_succ, List.set_cons_zero, List.set_cons_succ, ee_cmp0, ee_cmp1, ee_cmp2, ee_cmp3, ee_cmp4, ee_cmp5, ee_cmpL0, ee_cmpL1, ee_cmpL2, ee_cmpL3, ee_cmpL4, ee_cmpL5, ee_tru_eb, decide_eq_true_eq, ib_i, ie_b, ie_f, ie_t, ib_l, fin_i, fin_l, fin_v, fin_z, fin_a, fin_n, ee_b_0, ee_fld0, ee_fld1, ee_fld2, ee_fld3, bi_0, bi_1, bi_2, bi_3, bi_4, bi_5, bi_6, bi_7, bi_8, bi_9, bi_10, bl_20, bl_21, bl_22, bl_23, bl_24, bl_25, bl_26, bl_48, bl_49, un_0, un_1, un_2, un_3, if_true, if_false, ite_true, ite_false, Bool.false_eq_true, Bool.not_eq_false, decide_not, Bool.not_not, reduceCtorEq, st_i, st_l, st_r, st_n, ee_noL, ee_noL.eq_1, List.length_cons, List.length_nil, Nat.reduceAdd, Nat.reduceLT, Nat.zero_add, and_true, true_and, and_self, fin_ite, pu_0, pu_1, pu_3, sto_0, el_0, Bool.not_eq_true, decide_eq_false_iff_not, Bool.decide_eq_true, Bool.decide_eq_false, decide_true, decide_false, Bool.not_true, Bool.not_false, Bool.and_self, Bool.and_true, Bool.and_false, Bool.true_and, Bool.false_and, Bool.or_true, Bool.or_false, Bool.true_or, Bool.false_or, if_true, if_false, Bool.false_eq_true]
      · have h9 : (0 : Int32) < Int32.ofNat m := z0.2 (by omega)
        have h8 : Int32.ofNat m < 6 := (j_lt (b := 6) (by omega) (by omega)).2 (by omega)
        have e1 : Int32.ofNat m - 1 = Int32.ofNat (m - 1) := j_sub1 (by omega) (by omega)
        have ep : Int32.ofNat m + -1 = Int32.ofNat (m - 1) := by
          rw [← Int32.sub_eq_add_neg]; exact e1
        have x1 : ee_ix (Int32.ofNat m) 6 = true := by rw [ixn (by omega)]; exact decide_eq_true (by omega)
        have x2 : ee_ix (Int32.ofNat (m - 1)) 6 = true := by rw [ixn (by omega)]; exact decide_eq_true (by omega)
        have v := i2 (m - 1) (by omega)
        have b := hq (m - 1) (by omega)
        have cc : Int32.ofNat t < Int32.ofNat (q (m - 1)) ↔ t < q (m - 1) := j_lt (by omega) (by omega)
        by_cases g : t < q (m - 1)
        · left
          refine ⟨([some (.ref 231), some (.int (Int32.ofNat t)), some (.int (Int32.ofNat (m - 1)))], ee_wI x 232 m (Int32.ofNat (q (m - 1)))), m - 1, ?_, by omega, m - 1, _, rfl, rfl, by omega, fun j hj => ?_, fun j h1 h2 => ?_, fun j h1 h2 => ?_, ?_, chg_I (by decide) i6⟩
          · simp only [h9, h8, e1, ep, x1, x2, v, cc, g, tnc (show m < 2147483648 by omega), tnc (show m - 1 < 2147483648 by omega), r0, r1, r3, rvs, lx_153_1, lb_153_1, ee_turn, k_0, k_1, k_5, k_6, nz_1, nz_5, nz_6, v_and, v_bin, v_call, v_cmp, v_cons, v_get, v_idx, v_int, v_loc, v_nil, v_z, w_if, w_incm1, w_incm2, w_incm8, w_incp1, w_opf, w_retv, w_seq, w_set, w_skip, w_sto, List.getElem?_cons_zero, List.getElem?_cons_succ, List.set_cons_zero, List.set_cons_succ, ee_cmp0, ee_cmp1, ee_cmp2, ee_cmp3, ee_cmp4, ee_cmp5, ee_cmpL0, ee_cmpL1, ee_cmpL2, ee_cmpL3, ee_cmpL4, ee_cmpL5, ee_tru_eb, decide_eq_true_eq, ib_i, ie_b, ie_f, ie_t, ib_l, fin_i, fin_l, fin_v, fin_z, fin_a, fin_n, ee_b_0, ee_fld0, ee_fld1, ee_fld2, ee_fld3, bi_0, bi_1, bi_2, bi_3, bi_4, bi_5, bi_6, bi_7, bi_8, bi_9, bi_10, bl_20, bl_21, bl_22, bl_23, bl_24, bl_25, bl_26, bl_48, bl_49, un_0, un_1, un_2, un_3, if_true, if_false, ite_true, ite_false, Bool.false_eq_true, Bool.not_eq_false, decide_not, Bool.not_not, reduceCtorEq, st_i, st_l, st_r, st_n, ee_noL, ee_noL.eq_1, List.length_cons, List.length_nil, Nat.reduceAdd, Nat.reduceLT, Nat.zero_add, and_true, true_and, and_self, fin_ite, pu_0, pu_1, pu_3, sto_0, el_0, Bool.not_eq_true, decide_eq_false_iff_not, Bool.decide_eq_true, Bool.decide_eq_false, decide_true, decide_false, Bool.not_true, Bool.not_false, Bool.and_self, Bool.and_true, Bool.and_false, Bool.true_and, Bool.false_and, Bool.or_true, Bool.or_false, Bool.true_or, Bool.false_or, if_true, if_false, Bool.false_eq_true]
          · rw [wI_at, if_neg (by omega)]; exact i2 j (by omega)
          · rw [wI_at]
            by_cases y : j = m
            · rw [if_pos ⟨rfl, y⟩, y]
            · rw [if_neg (fun z => y z.2)]; exact i3 j (by omega) h2
          · by_cases y : j = m - 1
            · rw [y]; exact g
            · exact i4 j (by omega) h2
          · rw [wI_at, if_neg (by omega)]; exact i5
        · right
          refine ⟨_, ?_, m, x, rfl, i1, i2, i3, i4, i5, i6, Or.inr (by omega)⟩
          simp only [h9, h8, e1, x2, v, cc, g, tnc (show m - 1 < 2147483648 by omega), r0, r1, r3, rvs, lx_153_1, lb_153_1, ee_turn, k_0, k_1, k_5, k_6, nz_1, nz_5, nz_6, v_and, v_bin, v_call, v_cmp, v_cons, v_get, v_idx, v_int, v_loc, v_nil, v_z, w_if, w_incm1, w_incm2, w_incm8, w_incp1, w_opf, w_retv, w_seq, w_set, w_skip, w_sto, List.getElem?_cons_zero, List.getElem?_cons_succ, List.set_cons_zero, List.set_cons_succ, ee_cmp0, ee_cmp1, ee_cmp2, ee_cmp3, ee_cmp4, ee_cmp5, ee_cmpL0, ee_cmpL1, ee_cmpL2, ee_cmpL3, ee_cmpL4, ee_cmpL5, ee_tru_eb, decide_eq_true_eq, ib_i, ie_b, ie_f, ie_t, ib_l, fin_i, fin_l, fin_v, fin_z, fin_a, fin_n, ee_b_0, ee_fld0, ee_fld1, ee_fld2, ee_fld3, bi_0, bi_1, bi_2, bi_3, bi_4, bi_5, bi_6, bi_7, bi_8, bi_9, bi_10, bl_20, bl_21, bl_22, bl_23, bl_24, bl_25, bl_26, bl_48, bl_49, un_0, un_1, un_2, un_3, if_true, if_false, ite_true, ite_false, Bool.false_eq_true, Bool.not_eq_false, decide_not, Bool.not_not, reduceCtorEq, st_i, st_l, st_r, st_n, ee_noL, ee_noL.eq_1, List.length_cons, List.length_nil, Nat.reduceAdd, Nat.reduceLT, Nat.zero_add, and_true, true_and, and_self, fin_ite, pu_0, pu_1, pu_3, sto_0, el_0, Bool.not_eq_true, decide_eq_false_iff_not, Bool.decide_eq_true, Bool.decide_eq_false, decide_true, decide_false, Bool.not_true, Bool.not_false, Bool.and_self, Bool.and_true, Bool.and_false, Bool.true_and, Bool.false_and, Bool.or_true, Bool.or_false, Bool.true_or, Bool.false_or, if_true, if_false, Bool.false_eq_true])
    c ([some (.ref 231), some (.int (Int32.ofNat t)), some (.int (Int32.ofNat c))], w) ⟨c, w, rfl, rfl, Nat.le_refl _, a2, fun j h1 h2 => by omega, fun j h1 h2 => by omega, a1, chg_refl _ _⟩
  have q1 : (decide ((0 : Int32) ≤ Int32.ofNat p) && decide (Int32.ofNat p ≤ 5)) = true := (inb (b := 5) (by omega) (by omega)).trans (decide_eq_true (by omega))
  have x1 : ee_ix (Int32.ofNat p) 6 = true := by rw [ixn (by omega)]; exact decide_eq_true (by omega)
  have w2 : (ee_wI x 232 p (Int32.ofNat t)).1 231 2 = Int32.ofNat c := by rw [wI_at, if_neg (by omega)]; exact p5
  refine ⟨ee_wI (ee_wI x 232 p (Int32.ofNat t)) 231 2 (Int32.ofNat (c + 1)), ins q p t, ?_, ⟨by rw [wI_at, if_pos ⟨rfl, rfl⟩], fun i hi => ?_⟩, fun u v h1 h2 => ?_, fun u => ?_, chg_I (by decide) (chg_I (by decide) p6)⟩
  · rw [rn_153 r0]
    simp only [a1, w_while, hr, r_within hd1, q1, x1, w2, tnc (show p < 2147483648 by omega), r0, r1, r3, rvs, w_opf, j_s, j_a, be_153, k_0, k_1, k_4294967295, k_5, k_6, nz_1, nz_5, nz_6, v_and, v_bin, v_call, v_cmp, v_cons, v_get, v_idx, v_int, v_loc, v_nil, v_z, w_if, w_inc, w_opf, w_retv, w_seq, w_set, w_skip, w_sto, List.getElem?_cons_zero, List.getElem?_cons_succ, List.set_cons_zero, List.set_cons_succ, ee_cmp0, ee_cmp1, ee_cmp2, ee_cmp3, ee_cmp4, ee_cmp5, ee_cmpL0, ee_cmpL1, ee_cmpL2, ee_cmpL3, ee_cmpL4, ee_cmpL5, ee_tru_eb, decide_eq_true_eq, ib_i, ie_b, ie_f, ie_t, ib_l, fin_i, fin_l, fin_v, fin_z, fin_a, fin_n, ee_b_0, ee_fld0, ee_fld1, ee_fld2, ee_fld3, bi_0, bi_1, bi_2, bi_3, bi_4, bi_5, bi_6, bi_7, bi_8, bi_9, bi_10, bl_20, bl_21, bl_22, bl_23, bl_24, bl_25, bl_26, bl_48, bl_49, un_0, un_1, un_2, un_3, if_true, if_false, ite_true, ite_false, Bool.false_eq_true, Bool.not_eq_false, decide_not, Bool.not_not, reduceCtorEq, st_i, st_l, st_r, st_n, ee_noL, ee_noL.eq_1, List.length_cons, List.length_nil, Nat.reduceAdd, Nat.reduceLT, Nat.zero_add, and_true, true_and, and_self, fin_ite, pu_0, pu_1, pu_3, sto_0, el_0, Bool.not_eq_true, decide_eq_false_iff_not, Bool.decide_eq_true, Bool.decide_eq_false, decide_true, decide_false, Bool.not_true, Bool.not_false, Bool.and_self, Bool.and_true, Bool.and_false, Bool.true_and, Bool.false_and, Bool.or_true, Bool.or_false, Bool.true_or, Bool.false_or, if_true, if_false, Bool.false_eq_true]
  · rw [wI_at, if_neg (by omega), wI_at]
    unfold ins
    by_cases y : i = p
    · rw [if_pos ⟨rfl, y⟩, if_neg (by omega), if_pos y]
    · rw [if_neg (fun z => y z.2)]
      by_cases z : i < p
      · rw [if_pos z]; exact p2 i z
      · rw [if_neg z, if_neg y]; exact p3 i (by omega) (by omega)
  · unfold ins
    by_cases y1 : u < p
    · rw [if_pos y1]
      have up : q u ≤ t := by
        rcases p7 with p7 | p7
        · omega
        · exact Nat.le_trans (so_le hs (show u ≤ p - 1 by omega) (by omega)) p7
      by_cases y2 : v < p
      · rw [if_pos y2]; exact hs u v h1 (by omega)
      · rw [if_neg y2]
        by_cases y3 : v = p
        · rw [if_pos y3]; exact up
        · rw [if_neg y3]; exact so_le hs (by omega) (by omega)
    · rw [if_neg y1, if_neg (show ¬ v < p by omega), if_neg (show ¬ v = p by omega)]
      by_cases y2 : u = p
      · rw [if_pos y2]
        have := p4 (v - 1) (by omega) (by omega)
        omega
      · rw [if_neg y2]; exact so_le hs (by omega) (by omega)
  · unfold oc
    rw [ins_cn (fun x => decide (x = u)) p t c p1]
    by_cases y : t = u
    · rw [if_pos (decide_eq_true y), if_pos y]
    · rw [if_neg (by rw [decide_eq_false y]; decide), if_neg y]
/-- the lowest and the highest of what is left -/
def lh (q : Nat → Nat) (m : Nat) : Nat → Option (Nat × Nat)
  | 0 => none
  | k + 1 => if m.testBit k = true then lh q m k else match lh q m k with
    | none => some (q k, q k)
    | some x => some (x.1, q k)
theorem lh_s (q : Nat → Nat) (m k : Nat) : lh q m (k + 1) = if m.testBit k = true then lh q m k else match lh q m k with
    | none => some (q k, q k)
    | some x => some (x.1, q k) := rfl
theorem lh_spec (hs : so q n) : ∀ k, k ≤ n → (lh q m k = none ∧ ∀ i, i < k → m.testBit i = true) ∨ ∃ x y, lh q m k = some (q x, q y) ∧ x < k ∧ y < k ∧ m.testBit x = false ∧ m.testBit y = false ∧ ∀ i, i < k → m.testBit i = false → q x ≤ q i ∧ q i ≤ q y := by
  intro k
  induction k with
  | zero => intro _; exact Or.inl ⟨rfl, fun i hi => by omega⟩
  | succ k ih =>
    intro hk
    rw [lh_s]
    cases z : m.testBit k
    · rw [if_neg (by decide)]
      rcases ih (by omega) with ⟨h1, h2⟩ | ⟨x, y, h1, h2, h3, h4, h5, h6⟩
      · rw [h1]
        refine Or.inr ⟨k, k, rfl, by omega, by omega, z, z, fun i hi hb => ?_⟩
        by_cases e : i = k
        · rw [e]; exact ⟨Nat.le_refl _, Nat.le_refl _⟩
        · rw [h2 i (by omega)] at hb; cases hb
      · rw [h1]
        refine Or.inr ⟨x, k, rfl, by omega, by omega, h4, z, fun i hi hb => ?_⟩
        by_cases e : i = k
        · rw [e]; exact ⟨so_le hs (by omega) (by omega), Nat.le_refl _⟩
        · exact ⟨(h6 i (by omega) hb).1, so_le hs (by omega) (by omega)⟩
    · rw [if_pos rfl]
      rcases ih (by omega) with ⟨h1, h2⟩ | ⟨x, y, h1, h2, h3, h4, h5, h6⟩
      · refine Or.inl ⟨h1, fun i hi => ?_⟩
        by_cases e : i = k
        · rw [e]; exact z
        · exact h2 i (by omega)
      · refine Or.inr ⟨x, y, h1, by omega, by omega, h4, h5, fun i hi hb => ?_⟩
        by_cases e : i = k
        · rw [e, z] at hb; cases hb
        · exact h6 i (by omega) hb
def lv0 (a : Nat) : Option (Nat × Nat) → Nat
  | none => 0
  | some x => x.2 - x.1 + min (ndi x.1 a) (ndi x.2 a)
def lvv (q : Nat → Nat) (n a m : Nat) : Nat := lv0 a (lh q m n)
theorem cu_pos {t : Nat} : 0 < cu q n m t ↔ ∃ i, i < n ∧ m.testBit i = false ∧ q i = t := by
  unfold cu
  rw [cn_pos]
  refine ⟨fun ⟨i, h1, h2⟩ => ?_, fun ⟨i, h1, h2, h3⟩ => ⟨i, h1, by rw [h2, decide_eq_true h3]; rfl⟩⟩
  rw [Bool.and_eq_true] at h2
  refine ⟨i, h1, ?_, of_decide_eq_true h2.2⟩
  cases z : m.testBit i
  · rfl
  · rw [z] at h2; exact absurd h2.1 (by decide)
theorem LB_lvv (hs : so q n) (a m : Nat) : LB (cu q n m) a (lvv q n a m) := by
  unfold lvv
  rcases lh_spec (m := m) hs n (Nat.le_refl _) with ⟨h1, h2⟩ | ⟨x, y, h1, h2, h3, h4, h5, h6⟩
  · rw [h1]
    refine Or.inl ⟨fun t => ?_, rfl⟩
    by_cases z : 0 < cu q n m t
    · obtain ⟨i, i1, i2, -⟩ := cu_pos.1 z
      rw [h2 i i1] at i2; cases i2
    · omega
  · rw [h1]
    refine Or.inr ⟨q x, q y, cu_pos.2 ⟨x, h2, h4, rfl⟩, cu_pos.2 ⟨y, h3, h5, rfl⟩, fun t ht => ?_, ?_⟩
    · obtain ⟨i, i1, i2, i3⟩ := cu_pos.1 ht
      rw [← i3]; exact h6 i i1 i2
    · show q y - q x + min (ndi (q x) a) (ndi (q y) a) = _
      rw [ndi_sy (q x) a, ndi_sy (q y) a]
def vl : Option (Nat × Nat) → Int32
  | none => -1
  | some x => Int32.ofNat x.1
def vh : Option (Nat × Nat) → Int32
  | none => -1
  | some x => Int32.ofNat x.2
theorem c_leastFrom (hd : 2 ≤ d) (hA : AK w n q) (hn : n ≤ 6) (hs : so q n) (hq : ∀ i, i < n → q i < 64) (ha : a < 64) (hm : m < 64) : ee_run ee_B P d 154 [.ref 231, .int (Int32.ofNat a), .int (Int32.ofNat m)] w = some ([.int (Int32.ofNat (lvv q n a m))], w) := by
  obtain ⟨d, rfl⟩ : ∃ k, d = k + 1 := ⟨d - 1, by omega⟩
  have hd1 : 1 ≤ d := by omega
  obtain ⟨r0, r1, r2, r3, r4⟩ := ro_0
  obtain ⟨a1, a2⟩ := hA
  have hl := for_q (w := w) (x := ee_ev es_sh es_rf (ee_run ee_B P d) lx_154_1) (b := ee_evS es_sh es_rf (ee_run ee_B P d) lb_154_1)
    (fun k => [some (.ref 231), some (.int (Int32.ofNat a)), some (.int (Int32.ofNat m)), some (.int (vl (lh q m k))), some (.int (vh (lh q m k))), some (.int (Int32.ofNat k))]) n
    (by
      intro k hk
      have h9 : Int32.ofNat k < Int32.ofNat n := (j_lt (by omega) (by omega)).2 hk
      have h8 : Int32.ofNat k < 6 := (j_lt (b := 6) (by omega) (by omega)).2 (by omega)
      have x1 : ee_ix (Int32.ofNat k) 6 = true := by rw [ixn (by omega)]; exact decide_eq_true (by omega)
      have v := a2 k hk
      have hb := bit_c m hm k (by omega)
      have e := lh_s q m k
      cases z : m.testBit k
      · have hb1 := hb.2 z
        rw [z, if_neg (by decide)] at e
        rcases lh_spec (m := m) hs k (by omega) with ⟨t1, -⟩ | ⟨x, y, t1, t2, -⟩
        · rw [t1] at e
          dsimp only at e
          simp only [h9, h8, a1, x1, v, hb1, t1, e, vl, vh, tnc (show k < 2147483648 by omega), j_s, j_a, r0, r1, r3, rvs, lx_154_1, lb_154_1, ee_turn, k_0, k_1, k_4294967295, k_6, nz_1, nz_6, v_and, v_bin, v_call, v_cmp, v_cons, v_get, v_idx, v_int, v_loc, v_nil, v_tern, v_z, w_if, w_inc, w_ret, w_seq, w_set, w_skip, List.getElem?_cons_zero, List.getElem?_cons_succ, List.set_cons_zero, List.set_cons_succ, ee_cmp0, ee_cmp1, ee_cmp2, ee_cmp3, ee_cmp4, ee_cmp5, ee_cmpL0, ee_cmpL1, ee_cmpL2, ee_cmpL3, ee_cmpL4, ee_cmpL5, ee_tru_eb, decide_eq_true_eq, ib_i, ie_b, ie_f, ie_t, ib_l, fin_i, fin_l, fin_v, fin_z, fin_a, fin_n, ee_b_0, ee_fld0, ee_fld1, ee_fld2, ee_fld3, bi_0, bi_1, bi_2, bi_3, bi_4, bi_5, bi_6, bi_7, bi_8, bi_9, bi_10, bl_20, bl_21, bl_22, bl_23, bl_24, bl_25, bl_26, bl_48, bl_49, un_0, un_1, un_2, un_3, if_true, if_false, ite_true, ite_false, Bool.false_eq_true, Bool.not_eq_false, decide_not, Bool.not_not, reduceCtorEq, st_i, st_l, st_r, st_n, ee_noL, ee_noL.eq_1, List.length_cons, List.length_nil, Nat.reduceAdd, Nat.reduceLT, Nat.zero_add, and_true, true_and, and_self, fin_ite, pu_0, pu_1, pu_3, sto_0, el_0, Bool.not_eq_true, decide_eq_false_iff_not, Bool.decide_eq_true, Bool.decide_eq_false, decide_true, decide_false, Bool.not_true, Bool.not_false, Bool.and_self, Bool.and_true, Bool.and_false, Bool.true_and, Bool.false_and, Bool.or_true, Bool.or_false, Bool.true_or, Bool.false_or, if_true, if_false, Bool.false_eq_true]
        · rw [t1] at e
          dsimp only at e
          have b := hq x (by omega)
          have nj : ¬ Int32.ofNat (q x) = -1 := ofN_ne (by omega)
          simp only [h9, h8, a1, x1, v, nj, hb1, t1, e, vl, vh, tnc (show k < 2147483648 by omega), j_s, j_a, r0, r1, r3, rvs, lx_154_1, lb_154_1, ee_turn, k_0, k_1, k_4294967295, k_6, nz_1, nz_6, v_and, v_bin, v_call, v_cmp, v_cons, v_get, v_idx, v_int, v_loc, v_nil, v_tern, v_z, w_if, w_inc, w_ret, w_seq, w_set, w_skip, List.getElem?_cons_zero, List.getElem?_cons_succ, List.set_cons_zero, List.set_cons_succ, ee_cmp0, ee_cmp1, ee_cmp2, ee_cmp3, ee_cmp4, ee_cmp5, ee_cmpL0, ee_cmpL1, ee_cmpL2, ee_cmpL3, ee_cmpL4, ee_cmpL5, ee_tru_eb, decide_eq_true_eq, ib_i, ie_b, ie_f, ie_t, ib_l, fin_i, fin_l, fin_v, fin_z, fin_a, fin_n, ee_b_0, ee_fld0, ee_fld1, ee_fld2, ee_fld3, bi_0, bi_1, bi_2, bi_3, bi_4, bi_5, bi_6, bi_7, bi_8, bi_9, bi_10, bl_20, bl_21, bl_22, bl_23, bl_24, bl_25, bl_26, bl_48, bl_49, un_0, un_1, un_2, un_3, if_true, if_false, ite_true, ite_false, Bool.false_eq_true, Bool.not_eq_false, decide_not, Bool.not_not, reduceCtorEq, st_i, st_l, st_r, st_n, ee_noL, ee_noL.eq_1, List.length_cons, List.length_nil, Nat.reduceAdd, Nat.reduceLT, Nat.zero_add, and_true, true_and, and_self, fin_ite, pu_0, pu_1, pu_3, sto_0, el_0, Bool.not_eq_true, decide_eq_false_iff_not, Bool.decide_eq_true, Bool.decide_eq_false, decide_true, decide_false, Bool.not_true, Bool.not_false, Bool.and_self, Bool.and_true, Bool.and_false, Bool.true_and, Bool.false_and, Bool.or_true, Bool.or_false, Bool.true_or, Bool.false_or, if_true, if_false, Bool.false_eq_true]
      · have hb1 : ¬ _ := fun q => by have := hb.1 q; rw [z] at this; cases this
        rw [z, if_pos rfl] at e
        simp only [h9, h8, a1, hb1, e, j_s, j_a, r0, rvs, lx_154_1, lb_154_1, ee_turn, k_0, k_1, k_4294967295, k_6, nz_1, nz_6, v_and, v_bin, v_call, v_cmp, v_cons, v_get, v_idx, v_int, v_loc, v_nil, v_tern, v_z, w_if, w_inc, w_ret, w_seq, w_set, w_skip, List.getElem?_cons_zero, List.getElem?_cons_succ, List.set_cons_zero, List.set_cons_succ, ee_cmp0, ee_cmp1, ee_cmp2, ee_cmp3, ee_cmp4, ee_cmp5, ee_cmpL0, ee_cmpL1, ee_cmpL2, ee_cmpL3, ee_cmpL4, ee_cmpL5, ee_tru_eb, decide_eq_true_eq, ib_i, ie_b, ie_f, ie_t, ib_l, fin_i, fin_l, fin_v, fin_z, fin_a, fin_n, ee_b_0, ee_fld0, ee_fld1, ee_fld2, ee_fld3, bi_0, bi_1, bi_2, bi_3, bi_4, bi_5, bi_6, bi_7, bi_8, bi_9, bi_10, bl_20, bl_21, bl_22, bl_23, bl_24, bl_25, bl_26, bl_48, bl_49, un_0, un_1, un_2, un_3, if_true, if_false, ite_true, ite_false, Bool.false_eq_true, Bool.not_eq_false, decide_not, Bool.not_not, reduceCtorEq, st_i, st_l, st_r, st_n, ee_noL, ee_noL.eq_1, List.length_cons, List.length_nil, Nat.reduceAdd, Nat.reduceLT, Nat.zero_add, and_true, true_and, and_self, fin_ite, pu_0, pu_1, pu_3, sto_0, el_0, Bool.not_eq_true, decide_eq_false_iff_not, Bool.decide_eq_true, Bool.decide_eq_false, decide_true, decide_false, Bool.not_true, Bool.not_false, Bool.and_self, Bool.and_true, Bool.and_false, Bool.true_and, Bool.false_and, Bool.or_true, Bool.or_false, Bool.true_or, Bool.false_or, if_true, if_false, Bool.false_eq_true])
    (by
      have h9 : ¬ Int32.ofNat n < Int32.ofNat n := fun y => by have := (j_lt (by omega) (by omega)).1 y; omega
      simp only [h9, a1, r0, lx_154_1, lb_154_1, ee_turn, k_0, k_1, k_4294967295, k_6, nz_1, nz_6, v_and, v_bin, v_call, v_cmp, v_cons, v_get, v_idx, v_int, v_loc, v_nil, v_tern, v_z, w_if, w_inc, w_ret, w_seq, w_set, w_skip, List.getElem?_cons_zero, List.getElem?_cons_succ, List.set_cons_zero, List.set_cons_succ, ee_cmp0, ee_cmp1, ee_cmp2, ee_cmp3, ee_cmp4, ee_cmp5, ee_cmpL0, ee_cmpL1, ee_cmpL2, ee_cmpL3, ee_cmpL4, ee_cmpL5, ee_tru_eb, decide_eq_true_eq, ib_i, ie_b, ie_f, ie_t, ib_l, fin_i, fin_l, fin_v, fin_z, fin_a, fin_n, ee_b_0, ee_fld0, ee_fld1, ee_fld2, ee_fld3, bi_0, bi_1, bi_2, bi_3, bi_4, bi_5, bi_6, bi_7, bi_8, bi_9, bi_10, bl_20, bl_21, bl_22, bl_23, bl_24, bl_25, bl_26, bl_48, bl_49, un_0, un_1, un_2, un_3, if_true, if_false, ite_true, ite_false, Bool.false_eq_true, Bool.not_eq_false, decide_not, Bool.not_not, reduceCtorEq, st_i, st_l, st_r, st_n, ee_noL, ee_noL.eq_1, List.length_cons, List.length_nil, Nat.reduceAdd, Nat.reduceLT, Nat.zero_add, and_true, true_and, and_self, fin_ite, pu_0, pu_1, pu_3, sto_0, el_0, Bool.not_eq_true, decide_eq_false_iff_not, Bool.decide_eq_true, Bool.decide_eq_false, decide_true, decide_false, Bool.not_true, Bool.not_false, Bool.and_self, Bool.and_true, Bool.and_false, Bool.true_and, Bool.false_and, Bool.or_true, Bool.or_false, Bool.true_or, Bool.false_or, if_true, if_false, Bool.false_eq_true])
  rw [k_0, show vl (lh q m 0) = -1 from rfl, show vh (lh q m 0) = -1 from rfl] at hl
  rw [rn_154 r0]
  unfold lvv
  rcases lh_spec (m := m) hs n (Nat.le_refl _) with ⟨t1, -⟩ | ⟨x, y, t1, t2, t3, t4, t5, t6⟩
  · rw [t1] at hl ⊢
    simp only [w_while, hl, vl, vh, lv0, be_154, k_0, k_1, k_4294967295, k_6, nz_1, nz_6, v_and, v_bin, v_call, v_cmp, v_cons, v_get, v_idx, v_int, v_loc, v_nil, v_tern, v_z, w_if, w_inc, w_ret, w_seq, w_set, w_skip, List.getElem?_cons_zero, List.getElem?_cons_succ, List.set_cons_zero, List.set_cons_succ, ee_cmp0, ee_cmp1, ee_cmp2, ee_cmp3, ee_cmp4, ee_cmp5, ee_cmpL0, ee_cmpL1, ee_cmpL2, ee_cmpL3, ee_cmpL4, ee_cmpL5, ee_tru_eb, decide_eq_true_eq, ib_i, ie_b, ie_f, ie_t, ib_l, fin_i, fin_l, fin_v, fin_z, fin_a, fin_n, ee_b_0, ee_fld0, ee_fld1, ee_fld2, ee_fld3, bi_0, bi_1, bi_2, bi_3, bi_4, bi_5, bi_6, bi_7, bi_8, bi_9, bi_10, bl_20, bl_21, bl_22, bl_23, bl_24, bl_25, bl_26, bl_48, bl_49, un_0, un_1, un_2, un_3, if_true, if_false, ite_true, ite_false, Bool.false_eq_true, Bool.not_eq_false, decide_not, Bool.not_not, reduceCtorEq, st_i, st_l, st_r, st_n, ee_noL, ee_noL.eq_1, List.length_cons, List.length_nil, Nat.reduceAdd, Nat.reduceLT, Nat.zero_add, and_true, true_and, and_self, fin_ite, pu_0, pu_1, pu_3, sto_0, el_0, Bool.not_eq_true, decide_eq_false_iff_not, Bool.decide_eq_true, Bool.decide_eq_false, decide_true, decide_false, Bool.not_true, Bool.not_false, Bool.and_self, Bool.and_true, Bool.and_false, Bool.true_and, Bool.false_and, Bool.or_true, Bool.or_false, Bool.true_or, Bool.false_or, if_true, if_false, Bool.false_eq_true]
  · rw [t1] at hl ⊢
    have b1 := hq x t2
    have b2 := hq y t3
    have nj : ¬ Int32.ofNat (q x) = -1 := ofN_ne (by omega)
    have e1 := j_dd (a := q y) (b := q x) (t6 x t2 t4).2 (by omega)
    have e2 := ndi_c (q x) b1 a ha
    have e3 := ndi_c (q y) b2 a ha
    have c1 := ndi_b b1 ha
    have c2 := ndi_b b2 ha
    have em : (if Int32.ofNat (ndi (q x) a) ≤ Int32.ofNat (ndi (q y) a) then Int32.ofNat (ndi (q x) a) else Int32.ofNat (ndi (q y) a)) = Int32.ofNat (min (ndi (q x) a) (ndi (q y) a)) := by
      by_cases z : ndi (q x) a ≤ ndi (q y) a
      · rw [if_pos ((j_le (by omega) (by omega)).2 z), Nat.min_eq_left z]
      · rw [if_neg (fun h => z ((j_le (by omega) (by omega)).1 h)), Nat.min_eq_right (by omega)]
    simp only [w_while, hl, vl, vh, lv0, nj, e1, r_abs hd1, e2, e3, r_min hd1, em, j_a, be_154, k_0, k_1, k_4294967295, k_6, nz_1, nz_6, v_and, v_bin, v_call, v_cmp, v_cons, v_get, v_idx, v_int, v_loc, v_nil, v_tern, v_z, w_if, w_inc, w_ret, w_seq, w_set, w_skip, List.getElem?_cons_zero, List.getElem?_cons_succ, List.set_cons_zero, List.set_cons_succ, ee_cmp0, ee_cmp1, ee_cmp2, ee_cmp3, ee_cmp4, ee_cmp5, ee_cmpL0, ee_cmpL1, ee_cmpL2, ee_cmpL3, ee_cmpL4, ee_cmpL5, ee_tru_eb, decide_eq_true_eq, ib_i, ie_b, ie_f, ie_t, ib_l, fin_i, fin_l, fin_v, fin_z, fin_a, fin_n, ee_b_0, ee_fld0, ee_fld1, ee_fld2, ee_fld3, bi_0, bi_1, bi_2, bi_3, bi_4, bi_5, bi_6, bi_7, bi_8, bi_9, bi_10, bl_20, bl_21, bl_22, bl_23, bl_24, bl_25, bl_26, bl_48, bl_49, un_0, un_1, un_2, un_3, if_true, if_false, ite_true, ite_false, Bool.false_eq_true, Bool.not_eq_false, decide_not, Bool.not_not, reduceCtorEq, st_i, st_l, st_r, st_n, ee_noL, ee_noL.eq_1, List.length_cons, List.length_nil, Nat.reduceAdd, Nat.reduceLT, Nat.zero_add, and_true, true_and, and_self, fin_ite, pu_0, pu_1, pu_3, sto_0, el_0, Bool.not_eq_true, decide_eq_false_iff_not, Bool.decide_eq_true, Bool.decide_eq_false, decide_true, decide_false, Bool.not_true, Bool.not_false, Bool.and_self, Bool.and_true, Bool.and_false, Bool.true_and, Bool.false_and, Bool.or_true, Bool.or_false, Bool.true_or, Bool.false_or, if_true, if_false, Bool.false_eq_true]
theorem c_low (hd : 3 ≤ d) (hA : AK w n q) (hn : n ≤ 6) (hs : so q n) (hq : ∀ i, i < n → q i < 64) (ha : a < 64) (hm : m < 64) (hex : ∃ i, i < n ∧ m.testBit i = false ∧ ndi a (q i) + lvv q n (q i) (m ||| 2 ^ i) = lvv q n a m) :
    ∃ j, j < n ∧ m.testBit j = false ∧ ndi a (q j) + lvv q n (q j) (m ||| 2 ^ j) = lvv q n a m ∧ (∀ i, i < j → m.testBit i = false → ndi a (q i) + lvv q n (q i) (m ||| 2 ^ i) ≠ lvv q n a m) ∧ ee_run ee_B P d 155 [.ref 231, .int (Int32.ofNat a), .int (Int32.ofNat m)] w = some ([.int (Int32.ofNat j)], w) := by
  obtain ⟨d, rfl⟩ : ∃ k, d = k + 1 := ⟨d - 1, by omega⟩
  have hd1 : 1 ≤ d := by omega
  have hd2 : 2 ≤ d := by omega
  obtain ⟨r0, r1, r2, r3, r4⟩ := ro_0
  have hA0 := hA
  obtain ⟨a1, a2⟩ := hA
  have lf0 := c_leastFrom (P := P) hd2 hA0 hn hs hq ha hm
  have lb : ∀ a m, a < 64 → lvv q n a m ≤ 128 := by
    intro a m ha
    unfold lvv
    rcases lh_spec (m := m) hs n (Nat.le_refl _) with ⟨t1, -⟩ | ⟨x, y, t1, t2, t3, -⟩
    · rw [t1]; exact Nat.zero_le _
    · rw [t1]
      show q y - q x + min (ndi (q x) a) (ndi (q y) a) ≤ 128
      have b1 := hq x t2
      have b2 := hq y t3
      have c1 := ndi_b b1 ha
      omega
  obtain ⟨r, hr, j, rfl, j1, j2, j3, j4⟩ := wh_n (f := ee_turn (ee_ev es_sh es_rf (ee_run ee_B P d) lx_155_1) (ee_evS es_sh es_rf (ee_run ee_B P d) lb_155_1))
    (I := fun u y => ∃ k v, u = n - k ∧ y = ([some (.ref 231), some (.int (Int32.ofNat a)), some (.int (Int32.ofNat m)), some (.int (Int32.ofNat (lvv q n a m))), some (.int (Int32.ofNat k)), v], w) ∧ ∀ i, i < k → m.testBit i = false → ndi a (q i) + lvv q n (q i) (m ||| 2 ^ i) ≠ lvv q n a m)
    (Q := fun r => ∃ j, r = .inr ([.int (Int32.ofNat j)], w) ∧ j < n ∧ m.testBit j = false ∧ ndi a (q j) + lvv q n (q j) (m ||| 2 ^ j) = lvv q n a m ∧ (∀ i, i < j → m.testBit i = false → ndi a (q i) + lvv q n (q i) (m ||| 2 ^ i) ≠ lvv q n a m))
    (by
      rintro u y ⟨k, v, rfl, rfl, i1⟩
      by_cases kn : k < n
      · have h9 : Int32.ofNat k < Int32.ofNat n := (j_lt (by omega) (by omega)).2 kn
        have h8 : Int32.ofNat k < 6 := (j_lt (b := 6) (by omega) (by omega)).2 (by omega)
        have x1 : ee_ix (Int32.ofNat k) 6 = true := by rw [ixn (by omega)]; exact decide_eq_true (by omega)
        have v1 := a2 k kn
        have bk := hq k kn
        have hb := bit_c m hm k (by omega)
        cases z : m.testBit k
        · have hb1 := hb.2 z
          have e1 := ndi_c a ha (q k) bk
          have e2 := bit_o m hm k (by omega)
          have lf := c_leastFrom (P := P) hd2 hA0 hn hs hq bk (bit_l m hm k (by omega))
          have l1 := lb a m ha
          have l2 := lb (q k) (m ||| 2 ^ k) bk
          have l3 := ndi_b ha bk
          have cc : Int32.ofNat (ndi a (q k) + lvv q n (q k) (m ||| 2 ^ k)) = Int32.ofNat (lvv q n a m) ↔ ndi a (q k) + lvv q n (q k) (m ||| 2 ^ k) = lvv q n a m := by
            rw [i32_eq, nI_t (by omega), nI_t (by omega)]; omega
          by_cases g : ndi a (q k) + lvv q n (q k) (m ||| 2 ^ k) = lvv q n a m
          · right
            have gt : (ndi a (q k) + lvv q n (q k) (m ||| 2 ^ k) = lvv q n a m) = True := eq_true g
            refine ⟨_, ?_, k, rfl, kn, z, g, i1⟩
            simp only [h9, h8, a1, x1, v1, hb1, e1, e2, lf, cc, gt, r_abs hd1, tnc (show k < 2147483648 by omega), j_a, r0, r1, r3, rvs, lx_155_1, lb_155_1, ee_turn, k_0, k_1, k_4294967295, k_6, nz_1, nz_6, v_and, v_bin, v_call, v_cmp, v_cons, v_get, v_idx, v_int, v_loc, v_mat, v_nil, v_z, w_if, w_inc, w_ret, w_seq, w_set, w_skip, List.getElem?_cons_zero, List.getElem?_cons_succ, List.set_cons_zero, List.set_cons_succ, ee_cmp0, ee_cmp1, ee_cmp2, ee_cmp3, ee_cmp4, ee_cmp5, ee_cmpL0, ee_cmpL1, ee_cmpL2, ee_cmpL3, ee_cmpL4, ee_cmpL5, ee_tru_eb, decide_eq_true_eq, ib_i, ie_b, ie_f, ie_t, ib_l, fin_i, fin_l, fin_v, fin_z, fin_a, fin_n, ee_b_0, ee_fld0, ee_fld1, ee_fld2, ee_fld3, bi_0, bi_1, bi_2, bi_3, bi_4, bi_5, bi_6, bi_7, bi_8, bi_9, bi_10, bl_20, bl_21, bl_22, bl_23, bl_24, bl_25, bl_26, bl_48, bl_49, un_0, un_1, un_2, un_3, if_true, if_false, ite_true, ite_false, Bool.false_eq_true, Bool.not_eq_false, decide_not, Bool.not_not, reduceCtorEq, st_i, st_l, st_r, st_n, ee_noL, ee_noL.eq_1, List.length_cons, List.length_nil, Nat.reduceAdd, Nat.reduceLT, Nat.zero_add, and_true, true_and, and_self, fin_ite, pu_0, pu_1, pu_3, sto_0, el_0, Bool.not_eq_true, decide_eq_false_iff_not, Bool.decide_eq_true, Bool.decide_eq_false, decide_true, decide_false, Bool.not_true, Bool.not_false, Bool.and_self, Bool.and_true, Bool.and_false, Bool.true_and, Bool.false_and, Bool.or_true, Bool.or_false, Bool.true_or, Bool.false_or, if_true, if_false, Bool.false_eq_true]
          · left
            refine ⟨([some (.ref 231), some (.int (Int32.ofNat a)), some (.int (Int32.ofNat m)), some (.int (Int32.ofNat (lvv q n a m))), some (.int (Int32.ofNat (k + 1))), some (.int (ee_b true))], w), n - (k + 1), ?_, by omega, k + 1, _, rfl, rfl, fun i hi hbi => ?_⟩
            · simp only [h9, h8, a1, x1, v1, hb1, e1, e2, lf, cc, g, r_abs hd1, tnc (show k < 2147483648 by omega), j_s, j_a, r0, r1, r3, rvs, lx_155_1, lb_155_1, ee_turn, k_0, k_1, k_4294967295, k_6, nz_1, nz_6, v_and, v_bin, v_call, v_cmp, v_cons, v_get, v_idx, v_int, v_loc, v_mat, v_nil, v_z, w_if, w_inc, w_ret, w_seq, w_set, w_skip, List.getElem?_cons_zero, List.getElem?_cons_succ, List.set_cons_zero, List.set_cons_succ, ee_cmp0, ee_cmp1, ee_cmp2, ee_cmp3, ee_cmp4, ee_cmp5, ee_cmpL0, ee_cmpL1, ee_cmpL2, ee_cmpL3, ee_cmpL4, ee_cmpL5, ee_tru_eb, decide_eq_true_eq, ib_i, ie_b, ie_f, ie_t, ib_l, fin_i, fin_l, fin_v, fin_z, fin_a, fin_n, ee_b_0, ee_fld0, ee_fld1, ee_fld2, ee_fld3, bi_0, bi_1, bi_2, bi_3, bi_4, bi_5, bi_6, bi_7, bi_8, bi_9, bi_10, bl_20, bl_21, bl_22, bl_23, bl_24, bl_25, bl_26, bl_48, bl_49, un_0, un_1, un_2, un_3, if_true, if_false, ite_true, ite_false, Bool.false_eq_true, Bool.not_eq_false, decide_not, Bool.not_not, reduceCtorEq, st_i, st_l, st_r, st_n, ee_noL, ee_noL.eq_1, List.length_cons, List.length_nil, Nat.reduceAdd, Nat.reduceLT, Nat.zero_add, and_true, true_and, and_self, fin_ite, pu_0, pu_1, pu_3, sto_0, el_0, Bool.not_eq_true, decide_eq_false_iff_not, Bool.decide_eq_true, Bool.decide_eq_false, decide_true, decide_false, Bool.not_true, Bool.not_false, Bool.and_self, Bool.and_true, Bool.and_false, Bool.true_and, Bool.false_and, Bool.or_true, Bool.or_false, Bool.true_or, Bool.false_or, if_true, if_false, Bool.false_eq_true]
            · by_cases y : i = k
              · rw [y]; exact g
              · exact i1 i (by omega) hbi
        · left
          have hb1 : ¬ _ := fun q => by have := hb.1 q; rw [z] at this; cases this
          refine ⟨([some (.ref 231), some (.int (Int32.ofNat a)), some (.int (Int32.ofNat m)), some (.int (Int32.ofNat (lvv q n a m))), some (.int (Int32.ofNat (k + 1))), some (.int (ee_b false))], w), n - (k + 1), ?_, by omega, k + 1, _, rfl, rfl, fun i hi hbi => ?_⟩
          · simp only [h9, h8, a1, hb1, j_s, j_a, r0, r1, rvs, lx_155_1, lb_155_1, ee_turn, k_0, k_1, k_4294967295, k_6, nz_1, nz_6, v_and, v_bin, v_call, v_cmp, v_cons, v_get, v_idx, v_int, v_loc, v_mat, v_nil, v_z, w_if, w_inc, w_ret, w_seq, w_set, w_skip, List.getElem?_cons_zero, List.getElem?_cons_succ, List.set_cons_zero, List.set_cons_succ, ee_cmp0, ee_cmp1, ee_cmp2, ee_cmp3, ee_cmp4, ee_cmp5, ee_cmpL0, ee_cmpL1, ee_cmpL2, ee_cmpL3, ee_cmpL4, ee_cmpL5, ee_tru_eb, decide_eq_true_eq, ib_i, ie_b, ie_f, ie_t, ib_l, fin_i, fin_l, fin_v, fin_z, fin_a, fin_n, ee_b_0, ee_fld0, ee_fld1, ee_fld2, ee_fld3, bi_0, bi_1, bi_2, bi_3, bi_4, bi_5, bi_6, bi_7, bi_8, bi_9, bi_10, bl_20, bl_21, bl_22, bl_23, bl_24, bl_25, bl_26, bl_48, bl_49, un_0, un_1, un_2, un_3, if_true, if_false, ite_true, ite_false, Bool.false_eq_true, Bool.not_eq_false, decide_not, Bool.not_not, reduceCtorEq, st_i, st_l, st_r, st_n, ee_noL, ee_noL.eq_1, List.length_cons, List.length_nil, Nat.reduceAdd, Nat.reduceLT, Nat.zero_add, and_true, true_and, and_self, fin_ite, pu_0, pu_1, pu_3, sto_0, el_0, Bool.not_eq_true, decide_eq_false_iff_not, Bool.decide_eq_true, Bool.decide_eq_false, decide_true, decide_false, Bool.not_true, Bool.not_false, Bool.and_self, Bool.and_true, Bool.and_false, Bool.true_and, Bool.false_and, Bool.or_true, Bool.or_false, Bool.true_or, Bool.false_or, if_true, if_false, Bool.false_eq_true]
          · by_cases y : i = k
            · rw [y, z] at hbi; cases hbi
            · exact i1 i (by omega) hbi
      · obtain ⟨i, e1, e2, e3⟩ := hex
        exact absurd e3 (i1 i (by omega) e2))
    (n - 0) ([some (.ref 231), some (.int (Int32.ofNat a)), some (.int (Int32.ofNat m)), some (.int (Int32.ofNat (lvv q n a m))), some (.int (Int32.ofNat 0)), none], w) ⟨0, none, rfl, rfl, fun i hi => by omega⟩
  rw [k_0] at hr
  refine ⟨j, j1, j2, j3, j4, ?_⟩
  rw [rn_155 r0]
  simp only [lf0, w_while, hr, be_155, k_0, k_1, k_4294967295, k_6, nz_1, nz_6, v_and, v_bin, v_call, v_cmp, v_cons, v_get, v_idx, v_int, v_loc, v_mat, v_nil, v_z, w_if, w_inc, w_ret, w_seq, w_set, w_skip, List.getElem?_cons_zero, List.getElem?_cons_succ, List.set_cons_zero, List.set_cons_succ, ee_cmp0, ee_cmp1, ee_cmp2, ee_cmp3, ee_cmp4, ee_cmp5, ee_cmpL0, ee_cmpL1, ee_cmpL2, ee_cmpL3, ee_cmpL4, ee_cmpL5, ee_tru_eb, decide_eq_true_eq, ib_i, ie_b, ie_f, ie_t, ib_l, fin_i, fin_l, fin_v, fin_z, fin_a, fin_n, ee_b_0, ee_fld0, ee_fld1, ee_fld2, ee_fld3, bi_0, bi_1, bi_2, bi_3, bi_4, bi_5, bi_6, bi_7, bi_8, bi_9, bi_10, bl_20, bl_21, bl_22, bl_23, bl_24, bl_25, bl_26, bl_48, bl_49, un_0, un_1, un_2, un_3, if_true, if_false, ite_true, ite_false, Bool.false_eq_true, Bool.not_eq_false, decide_not, Bool.not_not, reduceCtorEq, st_i, st_l, st_r, st_n, ee_noL, ee_noL.eq_1, List.length_cons, List.length_nil, Nat.reduceAdd, Nat.reduceLT, Nat.zero_add, and_true, true_and, and_self, fin_ite, pu_0, pu_1, pu_3, sto_0, el_0, Bool.not_eq_true, decide_eq_false_iff_not, Bool.decide_eq_true, Bool.decide_eq_false, decide_true, decide_false, Bool.not_true, Bool.not_false, Bool.and_self, Bool.and_true, Bool.and_false, Bool.true_and, Bool.false_and, Bool.or_true, Bool.or_false, Bool.true_or, Bool.false_or, if_true, if_false, Bool.false_eq_true]
end ORC
