/-! bounds; what both sides work out is the same -/
section BN
variable {P : Nat → Nat → List Value → ee_W → Option (List Value × ee_W)} {d : Nat} {w : ee_W} {X : HX}
def bI (x : Int32) (a b : Int) : Prop := a ≤ x.toInt ∧ x.toInt ≤ b
theorem hold_b {x b c : Int32} (h : b.toInt ≤ c.toInt) : bI (hold32 x b c) b.toInt c.toInt := by
  unfold hold32 bI
  by_cases q : c ≤ x
  · rw [if_pos q]
    by_cases q2 : c ≤ b
    · rw [if_pos q2]; omega
    · rw [if_neg q2]; rw [i32_le] at q2; omega
  · rw [if_neg q]
    rw [i32_le] at q
    by_cases q2 : x ≤ b
    · rw [if_pos q2]; omega
    · rw [if_neg q2]; rw [i32_le] at q2; omega
theorem hold_in {x b c : Int32} (h : b.toInt ≤ x.toInt) (h2 : x.toInt ≤ c.toInt) : hold32 x b c = x := by
  unfold hold32
  by_cases q : c ≤ x
  · have e : c = x := by rw [i32_eq]; rw [i32_le] at q; omega
    rw [if_pos q, e]
    by_cases q2 : x ≤ b
    · rw [if_pos q2, i32_eq]; rw [i32_le] at q2; omega
    · rw [if_neg q2]
  · rw [if_neg q]
    by_cases q2 : x ≤ b
    · rw [if_pos q2, i32_eq]; rw [i32_le] at q2; omega
    · rw [if_neg q2]
theorem hold_top {x b c : Int32} (h : b.toInt < c.toInt) (h2 : c.toInt ≤ x.toInt) : hold32 x b c = c := by
  unfold hold32
  have e : (if c ≤ x then c else x) = c := by rw [if_pos (by rw [i32_le]; exact h2)]
  rw [e, if_neg (by rw [i32_le]; omega)]
theorem bs_inv (f : Nat → Bool) : ∀ n (s : Nat × Nat), s.1 ≤ 64 → (lp (fun s => decide (0 < s.2)) (bs_n f) n s).1 ≤ 64 := by
  intro n
  induction n with
  | zero => intro s h; exact h
  | succ n ih =>
    intro s h
    simp only [lp]
    split
    · refine ih _ ?_
      show (if s.1 + s.2 ≤ 64 ∧ f (s.1 + s.2) = true then s.1 + s.2 else s.1) ≤ 64
      split <;> omega
    · exact h
theorem cc_le (x p : Int32) : ccurve x p ≤ 64 := bs_inv _ 64 (0, 64) (by decide)
theorem kv_b (x : Int32) : bI (kv x) (-64) 64 := by
  unfold kv bI
  have h := cc_le x 1
  have e := nI_t (n := ccurve x 1) (by omega)
  split
  · rw [Int32.toInt_neg, e, i32_bm] <;> omega
  · rw [e]; omega
def M6 : Int := 1000000
theorem i64_lt {a b : Int64} : a < b ↔ a.toInt < b.toInt := Int64.lt_iff_toInt_lt
theorem i64_le {a b : Int64} : a ≤ b ↔ a.toInt ≤ b.toInt := Int64.le_iff_toInt_le
theorem i64_eq {a b : Int64} : a = b ↔ a.toInt = b.toInt := Int64.toInt_inj.symm
theorem p6 : (1000000 : Int64).toInt = 1000000 := rfl
theorem n6 : (-1000000 : Int64).toInt = -1000000 := rfl
def clipL (v : Int64) : Int64 := if 1000000 < v then 1000000 else if v < -1000000 then -1000000 else v
theorem to32_of {v : Int64} (h1 : -2147483648 ≤ v.toInt) (h2 : v.toInt < 2147483648) : v.toInt32.toInt = v.toInt := by
  rw [Int64.toInt_toInt32]
  exact i32_bm h1 h2
theorem bn_clip (v : Int64) : (bnL v).toInt64 = clipL v ∧ bI (bnL v) (-1000000) 1000000 := by
  have e : (bnL v).toInt = if 1000000 < v.toInt then 1000000 else if v.toInt < -1000000 then -1000000 else v.toInt := by
    unfold bnL mxL mnL
    have := p6
    have := n6
    by_cases q1 : 1000000 ≤ v
    · rw [if_pos q1]
      rw [i64_le] at q1
      by_cases q2 : (1000000 : Int64) ≤ -1000000
      · exact absurd q2 (by decide)
      · rw [if_neg q2]
        split
        · rfl
        · split
          · omega
          · rw [show v.toInt = 1000000 by omega]; rfl
    · rw [if_neg q1]
      rw [i64_le] at q1
      by_cases q2 : v ≤ -1000000
      · rw [if_pos q2]
        rw [i64_le] at q2
        split
        · omega
        · split
          · rfl
          · rw [show v.toInt = -1000000 by omega]; rfl
      · rw [if_neg q2]
        rw [i64_le] at q2
        rw [to32_of (by omega) (by omega)]
        split
        · omega
        · split
          · omega
          · rfl
  refine ⟨?_, ?_⟩
  · rw [i64_eq, Int32.toInt_toInt64, e]
    unfold clipL
    have := p6
    have := n6
    by_cases q1 : 1000000 < v
    · rw [if_pos q1]
      rw [i64_lt] at q1
      rw [if_pos (by omega)]
      rfl
    · rw [if_neg q1]
      rw [i64_lt] at q1
      rw [if_neg (by omega)]
      by_cases q2 : v < -1000000
      · rw [if_pos q2]
        rw [i64_lt] at q2
        rw [if_pos (by omega)]
        rfl
      · rw [if_neg q2]
        rw [i64_lt] at q2
        rw [if_neg (by omega)]
  · unfold bI
    rw [e]
    split
    · omega
    · split <;> omega
theorem clip_id {x : Int32} (h : bI x (-1000000) 1000000) : clipL x.toInt64 = x.toInt64 := by
  unfold clipL
  unfold bI at h
  have := p6
  have := n6
  rw [if_neg (by rw [i64_lt, Int32.toInt_toInt64]; omega), if_neg (by rw [i64_lt, Int32.toInt_toInt64]; omega)]
theorem ne_min {x : Int32} (h : bI x (-1000000) 1000000) : x ≠ Int32.minValue := by
  intro z
  unfold bI at h
  rw [z, show (Int32.minValue).toInt = -2147483648 from rfl] at h
  omega
theorem div_b {x y : Int32} (h : bI x (-1000000) 1000000) : bI (x / y) (-1000000) 1000000 := by
  unfold bI
  rw [Int32.toInt_div_of_ne_left _ _ (ne_min h)]
  have h1 := Int.natAbs_tdiv x.toInt y.toInt
  have h2 := Nat.div_le_self x.toInt.natAbs y.toInt.natAbs
  have h3 : (x.toInt.tdiv y.toInt).natAbs ≤ x.toInt.natAbs := by rw [h1]; exact h2
  unfold bI at h
  omega
def twoM (o : Nat) (x y : Int64) : Int64 := if o = 31 then clipL (x + y) else if o = 32 then clipL (x - y) else if o = 33 then clipL (x * y) else if y = 0 then 0 else clipL (x / y)
theorem z64 {y : Int32} : (y.toInt64 = 0) ↔ y = 0 := by
  rw [i64_eq, i32_eq, Int32.toInt_toInt64]
  rfl
theorem two_eq {o : Nat} (ho : 31 ≤ o ∧ o ≤ 34) {x y : Int32} (hx : bI x (-1000000) 1000000) : twoM o x.toInt64 y.toInt64 = (jv o x y).toInt64 ∧ bI (jv o x y) (-1000000) 1000000 := by
  have : o = 31 ∨ o = 32 ∨ o = 33 ∨ o = 34 := by omega
  unfold twoM jv
  rcases this with rfl | rfl | rfl | rfl
  · simp +decide only [if_true, if_false]
    exact ⟨(bn_clip _).1.symm, (bn_clip _).2⟩
  · simp +decide only [if_true, if_false]
    exact ⟨(bn_clip _).1.symm, (bn_clip _).2⟩
  · simp +decide only [if_true, if_false]
    exact ⟨(bn_clip _).1.symm, (bn_clip _).2⟩
  · simp +decide only [if_true, if_false]
    have hb : bI (0 : Int32) (-1000000) 1000000 := by
      unfold bI
      rw [show (0 : Int32).toInt = 0 from rfl]
      omega
    by_cases q : y = 0
    · have q2 : y.toInt64 = 0 := z64.2 q
      rw [if_pos q, if_pos q2]
      exact ⟨rfl, hb⟩
    · have q2 : ¬ y.toInt64 = 0 := fun z => q (z64.1 z)
      have e := clip_id (div_b (y := y) hx)
      rw [Int32.toInt64_div_of_ne_left _ _ (ne_min hx)] at e
      rw [if_neg q, if_neg q2]
      exact ⟨by rw [e, Int32.toInt64_div_of_ne_left _ _ (ne_min hx)], div_b hx⟩
def askM (o : Nat) (x y : Int64) : Bool := if o = 25 then decide (x < y) else if o = 26 then decide (x ≤ y) else if o = 27 then decide (y < x) else if o = 28 then decide (y ≤ x) else if o = 29 then decide (x = y) else !decide (x = y)
theorem e64 {x y : Int32} : (x.toInt64 = y.toInt64) ↔ x = y := by
  rw [i64_eq, i32_eq, Int32.toInt_toInt64, Int32.toInt_toInt64]
theorem ask_eq {o : Nat} (ho : 25 ≤ o ∧ o ≤ 30) (x y : Int32) : ee_b (askM o x.toInt64 y.toInt64) = jv o x y := by
  have : o = 25 ∨ o = 26 ∨ o = 27 ∨ o = 28 ∨ o = 29 ∨ o = 30 := by omega
  rcases this with rfl | rfl | rfl | rfl | rfl | rfl <;> simp +decide only [askM, jv, ee_b, if_true, if_false, Int32.toInt64_lt, Int32.toInt64_le, e64, decide_eq_true_eq, Bool.not_eq_true', decide_eq_false_iff_not]
theorem av_b {nm L : _} (hnm : ∀ o, bI (nm o) (-1000000) 1000000) (hL : ∀ x, bI (L x) (-1000000) 1000000) : ∀ N e, esz e ≤ N → (ty e = 1 → bI (av nm L e) (-1000000) 1000000) ∧ (ty e = 2 → av nm L e = 0 ∨ av nm L e = 1) := by
  intro N
  induction N with
  | zero => intro e he; cases e <;> simp only [esz] at he <;> omega
  | succ N ih =>
    intro e he
    unfold ty
    split
    · rename_i o v
      rw [av_leaf]
      refine ⟨fun h => ?_, fun h => ?_⟩
      · by_cases q : o = 38
        · rw [if_pos q]
          have : v ≤ 9999 := by
            split at h
            · omega
            · omega
          unfold bI
          rw [nI_t (by omega)]
          omega
        · rw [if_neg q]; exact hnm o
      · split at h <;> omega
    · rename_i o a
      simp only [esz] at he
      obtain ⟨i1, i2⟩ := ih a (by omega)
      rw [av_un]
      refine ⟨fun h => ?_, fun h => ?_⟩
      · split at h
        · rename_i q
          have b1 := i1 q.1
          unfold uv
          split
          · have := kv_b (av nm L a)
            unfold bI at this ⊢
            omega
          · split
            · exact hL _
            · split
              · unfold bI at b1 ⊢
                rw [Int32.toInt_neg, i32_bm] <;> omega
              · omega
        · split at h <;> omega
      · split at h
        · omega
        · split at h
          · rename_i q1 q
            obtain ⟨q2, rfl⟩ := q
            rcases i2 q2 with e | e <;> rw [e]
            · right; rfl
            · left; rfl
          · omega
    · rename_i o a b
      simp only [esz] at he
      obtain ⟨i1, i2⟩ := ih a (by omega)
      obtain ⟨j1, j2⟩ := ih b (by omega)
      rw [av_bin]
      refine ⟨fun h => ?_, fun h => ?_⟩
      · split at h
        · rename_i q
          exact (two_eq q.2.2 (i1 q.1)).2
        · split at h
          · omega
          · split at h <;> omega
      · split at h
        · omega
        · split at h
          · rename_i q
            rw [← ask_eq q.2.2]
            cases askM o (av nm L a).toInt64 (av nm L b).toInt64
            · left; rfl
            · right; rfl
          · split at h
            · rename_i q
              obtain ⟨q1, q2, q3⟩ := q
              rcases i2 q1 with e1 | e1 <;> rcases j2 q2 with e2 | e2 <;> rw [e1, e2] <;> rcases q3 with rfl | rfl <;> decide
            · omega
    · rename_i c a b
      simp only [esz] at he
      obtain ⟨i1, i2⟩ := ih a (by omega)
      obtain ⟨j1, j2⟩ := ih b (by omega)
      rw [av_if]
      refine ⟨fun h => ?_, fun h => ?_⟩
      · split at h
        · rename_i q
          split
          · exact j1 q.2.2
          · exact i1 q.2.1
        · omega
      · split at h <;> omega
    · exact ⟨fun h => by omega, fun h => by omega⟩
theorem m_curveBoth (hd : 3 ≤ d) {x : Int32} (hx : bI x (-1000000) 1000000) : ee_run ee_B P d 257 [.long x.toInt64] w = some ([.int (kv x)], w) := by
  obtain ⟨d, rfl⟩ : ∃ k, d = k + 1 := ⟨d - 1, by omega⟩
  have hd1 : 1 ≤ d := by omega
  have hd2 : 2 ≤ d := by omega
  have p1 : 1 ≤ (1 : Int32).toInt ∧ (1 : Int32).toInt ≤ 9 := by decide
  have z0 : (0 : Int32).toInt = 0 := rfl
  have z3 : (1023 : Int32).toInt = 1023 := rfl
  have hx2 := hx
  unfold bI at hx2
  have ng : (-x).toInt = -x.toInt := by rw [Int32.toInt_neg, i32_bm] <;> omega
  have key : ∀ F : Int32, 0 ≤ F.toInt → F.toInt ≤ 1023 → cfar x = F → ccurve x 1 = mcurve F 1 := by
    intro F f1 f2 f3
    rw [← curve_eq f1 f2 p1.1 p1.2]
    unfold ccurve
    have : cfar F = F := by
      unfold cfar
      have n0 : ¬ F < 0 := by rw [i32_lt]; omega
      rw [if_neg n0]
      by_cases q : F ≤ 1023
      · rw [if_pos q]
      · exact absurd (by rw [i32_le]; omega) q
    rw [this, f3]
  rw [rn_257]
  by_cases q : x < 0
  · have q' : x.toInt64 < 0 := by rw [i64_lt, Int32.toInt_toInt64]; rw [i32_lt] at q; exact q
    have e1 : -x.toInt64 = (-x).toInt64 := (Int32.toInt64_neg_of_ne (ne_min hx)).symm
    have e2 : cfar x = hold32 (-x) 0 1023 := by
      unfold cfar
      rw [if_pos q]
      rw [i32_lt] at q
      by_cases r : -x ≤ 1023
      · rw [if_pos r]
        rw [i32_le] at r
        exact (hold_in (by omega) (by omega)).symm
      · rw [if_neg r]
        rw [i32_le] at r
        exact (hold_top (by decide) (by omega)).symm
    have hb := hold_b (x := -x) (b := 0) (c := 1023) (by decide)
    have e3 := key (hold32 (-x) 0 1023) (by have := hb.1; omega) (by have := hb.2; omega) e2
    simp only [kv, q, q', e1, m_held hd1 _ 0 1023 (by decide), r_curveOf hd2 _ 1 p1, e3, bd_257, k_0, k_1, k_1023, kl_0, nz_1, nz_1023, v_call, v_cmpL, v_cons, v_int, v_loc, v_long, v_nil, v_tern, v_un, w_ret, List.getElem?_cons_zero, List.getElem?_cons_succ, List.set_cons_zero, List.set_cons_succ, ee_cmp0, ee_cmp1, ee_cmp2, ee_cmp3, ee_cmp4, ee_cmp5, ee_cmpL0, ee_cmpL1, ee_cmpL2, ee_cmpL3, ee_cmpL4, ee_cmpL5, ee_tru_eb, decide_eq_true_eq, ib_i, ie_b, ie_f, ie_t, ib_l, fin_i, fin_l, fin_v, fin_z, fin_a, fin_n, ee_b_0, ee_fld0, ee_fld1, ee_fld2, ee_fld3, bi_0, bi_1, bi_2, bi_3, bi_4, bi_5, bi_6, bi_7, bi_8, bi_9, bi_10, bl_20, bl_21, bl_22, bl_23, bl_24, bl_25, bl_26, bl_48, bl_49, un_0, un_1, un_2, un_3, if_true, if_false, ite_true, ite_false, Bool.false_eq_true, Bool.not_eq_false, decide_not, Bool.not_not, reduceCtorEq, st_i, st_l, st_r, st_n, ee_noL, ee_noL.eq_1, List.length_cons, List.length_nil, Nat.reduceAdd, Nat.reduceLT, Nat.zero_add, and_true, true_and, and_self, fin_ite, pu_0, pu_1, pu_3, sto_0, el_0, Bool.not_eq_true, decide_eq_false_iff_not, Bool.decide_eq_true, Bool.decide_eq_false, decide_true, decide_false, Bool.not_true, Bool.not_false, Bool.and_self, Bool.and_true, Bool.and_false, Bool.true_and, Bool.false_and, Bool.or_true, Bool.or_false, Bool.true_or, Bool.false_or, if_true, if_false, Bool.false_eq_true]
  · have q' : ¬ x.toInt64 < 0 := by rw [i64_lt, Int32.toInt_toInt64]; rw [i32_lt] at q; exact q
    have e2 : cfar x = hold32 x 0 1023 := by
      unfold cfar
      rw [if_neg q]
      rw [i32_lt] at q
      by_cases r : x ≤ 1023
      · rw [if_pos r]
        rw [i32_le] at r
        exact (hold_in (by omega) (by omega)).symm
      · rw [if_neg r]
        rw [i32_le] at r
        exact (hold_top (by decide) (by omega)).symm
    have hb := hold_b (x := x) (b := 0) (c := 1023) (by decide)
    have e3 := key (hold32 x 0 1023) (by have := hb.1; omega) (by have := hb.2; omega) e2
    simp only [kv, q, q', m_held hd1 _ 0 1023 (by decide), r_curveOf hd2 _ 1 p1, e3, bd_257, k_0, k_1, k_1023, kl_0, nz_1, nz_1023, v_call, v_cmpL, v_cons, v_int, v_loc, v_long, v_nil, v_tern, v_un, w_ret, List.getElem?_cons_zero, List.getElem?_cons_succ, List.set_cons_zero, List.set_cons_succ, ee_cmp0, ee_cmp1, ee_cmp2, ee_cmp3, ee_cmp4, ee_cmp5, ee_cmpL0, ee_cmpL1, ee_cmpL2, ee_cmpL3, ee_cmpL4, ee_cmpL5, ee_tru_eb, decide_eq_true_eq, ib_i, ie_b, ie_f, ie_t, ib_l, fin_i, fin_l, fin_v, fin_z, fin_a, fin_n, ee_b_0, ee_fld0, ee_fld1, ee_fld2, ee_fld3, bi_0, bi_1, bi_2, bi_3, bi_4, bi_5, bi_6, bi_7, bi_8, bi_9, bi_10, bl_20, bl_21, bl_22, bl_23, bl_24, bl_25, bl_26, bl_48, bl_49, un_0, un_1, un_2, un_3, if_true, if_false, ite_true, ite_false, Bool.false_eq_true, Bool.not_eq_false, decide_not, Bool.not_not, reduceCtorEq, st_i, st_l, st_r, st_n, ee_noL, ee_noL.eq_1, List.length_cons, List.length_nil, Nat.reduceAdd, Nat.reduceLT, Nat.zero_add, and_true, true_and, and_self, fin_ite, pu_0, pu_1, pu_3, sto_0, el_0, Bool.not_eq_true, decide_eq_false_iff_not, Bool.decide_eq_true, Bool.decide_eq_false, decide_true, decide_false, Bool.not_true, Bool.not_false, Bool.and_self, Bool.and_true, Bool.and_false, Bool.true_and, Bool.false_and, Bool.or_true, Bool.or_false, Bool.true_or, Bool.false_or, if_true, if_false, Bool.false_eq_true]
end BN
