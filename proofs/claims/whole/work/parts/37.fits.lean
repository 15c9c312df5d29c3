section FI
variable {P : Nat → Nat → List Value → ee_W → Option (List Value × ee_W)} {d : Nat} {w : ee_W} {h : Nat}
/-- how many of m places from lo on -/
def cnt (q : Nat → Bool) : Nat → Nat → Nat
  | _, 0 => 0
  | lo, m + 1 => (if q lo = true then 1 else 0) + cnt q (lo + 1) m
theorem cb_cnt (q : Nat → Bool) (hi : Nat) : ∀ n lo c, hi < lo + n → (lp (fun s => decide (s.1 ≤ hi)) (cb_n q) n (lo, c)).2 = c + cnt q lo (hi + 1 - lo) := by
  intro n
  induction n with
  | zero =>
    intro lo c h1
    rw [show hi + 1 - lo = 0 by omega]
    rfl
  | succ n ih =>
    intro lo c h1
    simp only [lp]
    by_cases g : lo ≤ hi
    · rw [if_pos (decide_eq_true g), show hi + 1 - lo = (hi + 1 - (lo + 1)) + 1 by omega]
      simp only [cb_n, cnt]
      rw [ih (lo + 1) _ (by omega)]
      split <;> omega
    · rw [if_neg (by simpa using g), show hi + 1 - lo = 0 by omega]
      rfl
theorem cnt_add (q : Nat → Bool) : ∀ m lo k, cnt q lo (m + k) = cnt q lo m + cnt q (lo + m) k := by
  intro m
  induction m with
  | zero => intro lo k; simp [cnt]
  | succ m ih =>
    intro lo k
    rw [show m + 1 + k = (m + k) + 1 by omega]
    simp only [cnt]
    rw [ih, show lo + 1 + m = lo + (m + 1) by omega]
    omega
theorem cnt_congr (q q2 : Nat → Bool) : ∀ m lo, (∀ p, lo ≤ p → p < lo + m → q p = q2 p) → cnt q lo m = cnt q2 lo m := by
  intro m
  induction m with
  | zero => intro lo h; rfl
  | succ m ih =>
    intro lo h
    simp only [cnt]
    rw [h lo (by omega) (by omega), ih (lo + 1) (fun p a b => h p (by omega) (by omega))]
theorem cnt_no : ∀ m lo, cnt (fun _ => false) lo m = 0 := by
  intro m
  induction m with
  | zero => intro lo; rfl
  | succ m ih => intro lo; simp only [cnt]; rw [ih]; rfl
theorem cnt_in (q : Nat → Bool) (lo hi : Nat) (h1 : lo ≤ hi) (h2 : hi ≤ 1023) : cnt (fun p => decide (lo ≤ p ∧ p ≤ hi) && q p) 0 1024 = cnt q lo (hi + 1 - lo) := by
  rw [show 1024 = lo + ((hi + 1 - lo) + (1023 - hi)) by omega, cnt_add, cnt_add]
  rw [cnt_congr _ (fun _ => false) lo 0 (fun p a b => by rw [decide_eq_false (by omega), Bool.false_and]), cnt_no]
  rw [cnt_congr _ q (hi + 1 - lo) (0 + lo) (fun p a b => by rw [decide_eq_true (by omega), Bool.true_and])]
  rw [cnt_congr _ (fun _ => false) (1023 - hi) _ (fun p a b => by rw [decide_eq_false (by omega), Bool.false_and]), cnt_no]
  rw [Nat.zero_add, Nat.zero_add, Nat.add_zero]
theorem r_areReadM (hd : 3 ≤ d) (hh : es_sh h = (18, 0)) (x a b c e : Int32) : ee_run ee_B P d 295 [.ref h, .int x, .int a, .int b, .int c, .int e] w = some ([.int (ee_b ((decide (0 ≤ x) && decide (x < 64)) && (okB a && okB b && okB c && okB e)))], w) := by
  obtain ⟨d, rfl⟩ : ∃ k, d = k + 1 := ⟨d - 1, by omega⟩
  have hd2 : 2 ≤ d := by omega
  rw [rn_295 hh]
  cases h0 : (decide (0 ≤ x) && decide (x < 64)) <;> cases h1 : okB a <;> cases h2 : okB b <;> cases h3 : okB c <;> cases h4 : okB e <;> simp only [r_isTrackM hd2, i63, r_isBM hd2, h0, h1, h2, h3, h4, bd_295, v_and, v_call, v_cons, v_loc, v_mat, v_nil, v_z, w_ret, List.getElem?_cons_zero, List.getElem?_cons_succ, List.set_cons_zero, List.set_cons_succ, ee_cmp0, ee_cmp1, ee_cmp2, ee_cmp3, ee_cmp4, ee_cmp5, ee_cmpL0, ee_cmpL1, ee_cmpL2, ee_cmpL3, ee_cmpL4, ee_cmpL5, ee_tru_eb, decide_eq_true_eq, ib_i, ie_b, ie_f, ie_t, ib_l, fin_i, fin_l, fin_v, fin_z, fin_a, fin_n, ee_b_0, ee_fld0, ee_fld1, ee_fld2, ee_fld3, bi_0, bi_1, bi_2, bi_3, bi_4, bi_5, bi_6, bi_7, bi_8, bi_9, bi_10, bl_20, bl_21, bl_22, bl_23, bl_24, bl_25, bl_26, bl_48, bl_49, un_0, un_1, un_2, un_3, if_true, if_false, ite_true, ite_false, Bool.false_eq_true, Bool.not_eq_false, decide_not, Bool.not_not, reduceCtorEq, st_i, st_l, st_r, st_n, ee_noL, ee_noL.eq_1, List.length_cons, List.length_nil, Nat.reduceAdd, Nat.reduceLT, Nat.zero_add, and_true, true_and, and_self, fin_ite, pu_0, pu_1, pu_3, sto_0, el_0, Bool.not_eq_true, decide_eq_false_iff_not, Bool.decide_eq_true, Bool.decide_eq_false, decide_true, decide_false, Bool.not_true, Bool.not_false, Bool.and_self, Bool.and_true, Bool.and_false, Bool.true_and, Bool.false_and, Bool.or_true, Bool.or_false, Bool.true_or, Bool.false_or, if_true, if_false, Bool.false_eq_true]
theorem r_canBe (hd : 4 ≤ d) (hh : es_sh h = (18, 0)) (p n : Nat) (hp : p < 1024) (hn : n < 64) (a b c e : Int32) : ee_run ee_B P d 297 [.ref h, .int (Int32.ofNat p), .int (Int32.ofNat n), .int a, .int b, .int c, .int e] w = some ([.int (ee_b (rT (tk n) p && bears (Int32.ofNat p) a b c e))], w) := by
  obtain ⟨d, rfl⟩ : ∃ k, d = k + 1 := ⟨d - 1, by omega⟩
  have hd2 : 2 ≤ d := by omega
  have hd3 : 3 ≤ d := by omega
  have g0 := fun a => r_likeM (P := P) (w := w) hd3 a (Int32.ofNat p) 0 (cc_of p (by omega) rfl 0 (by omega))
  have g1 := fun a => r_likeM (P := P) (w := w) hd3 a (Int32.ofNat p) 1 (cc_of p (by omega) rfl 1 (by omega))
  have g2 := fun a => r_likeM (P := P) (w := w) hd3 a (Int32.ofNat p) 2 (cc_of p (by omega) rfl 2 (by omega))
  have g3 := fun a => r_likeM (P := P) (w := w) hd3 a (Int32.ofNat p) 3 (cc_of p (by omega) rfl 3 (by omega))
  have g4 := r_readAt (P := P) (w := w) hd2 p n hp hn
  rw [rn_297 hh]
  cases k4 : rT (tk n) p <;> cases k0 : lk (Int32.ofNat p) a 0 <;> cases k1 : lk (Int32.ofNat p) b 1 <;> cases k2 : lk (Int32.ofNat p) c 2 <;> cases k3 : lk (Int32.ofNat p) e 3 <;> simp only [bears, g0, g1, g2, g3, g4, k0, k1, k2, k3, k4, bd_297, k_0, k_1, k_2, k_3, nz_1, nz_2, nz_3, v_and, v_call, v_cons, v_int, v_loc, v_mat, v_nil, v_z, w_ret, List.getElem?_cons_zero, List.getElem?_cons_succ, List.set_cons_zero, List.set_cons_succ, ee_cmp0, ee_cmp1, ee_cmp2, ee_cmp3, ee_cmp4, ee_cmp5, ee_cmpL0, ee_cmpL1, ee_cmpL2, ee_cmpL3, ee_cmpL4, ee_cmpL5, ee_tru_eb, decide_eq_true_eq, ib_i, ie_b, ie_f, ie_t, ib_l, fin_i, fin_l, fin_v, fin_z, fin_a, fin_n, ee_b_0, ee_fld0, ee_fld1, ee_fld2, ee_fld3, bi_0, bi_1, bi_2, bi_3, bi_4, bi_5, bi_6, bi_7, bi_8, bi_9, bi_10, bl_20, bl_21, bl_22, bl_23, bl_24, bl_25, bl_26, bl_48, bl_49, un_0, un_1, un_2, un_3, if_true, if_false, ite_true, ite_false, Bool.false_eq_true, Bool.not_eq_false, decide_not, Bool.not_not, reduceCtorEq, st_i, st_l, st_r, st_n, ee_noL, ee_noL.eq_1, List.length_cons, List.length_nil, Nat.reduceAdd, Nat.reduceLT, Nat.zero_add, and_true, true_and, and_self, fin_ite, pu_0, pu_1, pu_3, sto_0, el_0, Bool.not_eq_true, decide_eq_false_iff_not, Bool.decide_eq_true, Bool.decide_eq_false, decide_true, decide_false, Bool.not_true, Bool.not_false, Bool.and_self, Bool.and_true, Bool.and_false, Bool.true_and, Bool.false_and, Bool.or_true, Bool.or_false, Bool.true_or, Bool.false_or, if_true, if_false, Bool.false_eq_true]
end FI
