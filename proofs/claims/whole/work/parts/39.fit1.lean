section FK
variable {P : Nat → Nat → List Value → ee_W → Option (List Value × ee_W)} {d : Nat} {w : ee_W} {h : Nat}
/-- the first of m places from lo on -/
def fs (q : Nat → Bool) : Nat → Nat → Option Nat
  | _, 0 => none
  | lo, m + 1 => if q lo = true then some lo else fs q (lo + 1) m
def fq (q : Nat → Bool) (s : Nat) : Nat ⊕ Nat := if q s = true then .inr s else .inl (s + 1)
def got : Nat ⊕ Nat → Option Nat
  | .inl _ => none
  | .inr k => some k
theorem lpR_fs (q : Nat → Bool) (hi : Nat) : ∀ n lo, hi < lo + n → got (lpR (fun s => decide (s ≤ hi)) (fq q) n lo) = fs q lo (hi + 1 - lo) := by
  intro n
  induction n with
  | zero =>
    intro lo h1
    rw [show hi + 1 - lo = 0 by omega]
    rfl
  | succ n ih =>
    intro lo h1
    simp only [lpR]
    by_cases g : lo ≤ hi
    · rw [if_pos (decide_eq_true g), show hi + 1 - lo = (hi + 1 - (lo + 1)) + 1 by omega]
      simp only [fs]
      cases k : q lo with
      | true => simp only [fq, k, if_true, got]
      | false =>
        simp only [fq, k, if_false, Bool.false_eq_true]
        exact ih (lo + 1) (by omega)
    · rw [if_neg (by simpa using g), show hi + 1 - lo = 0 by omega]
      rfl
theorem fs_add (q : Nat → Bool) : ∀ m lo k, fs q lo (m + k) = match fs q lo m with | some r => some r | none => fs q (lo + m) k := by
  intro m
  induction m with
  | zero => intro lo k; simp [fs]
  | succ m ih =>
    intro lo k
    rw [show m + 1 + k = (m + k) + 1 by omega]
    simp only [fs]
    split
    · rfl
    · rw [ih, show lo + 1 + m = lo + (m + 1) by omega]
theorem fs_congr (q q2 : Nat → Bool) : ∀ m lo, (∀ p, lo ≤ p → p < lo + m → q p = q2 p) → fs q lo m = fs q2 lo m := by
  intro m
  induction m with
  | zero => intro lo h; rfl
  | succ m ih =>
    intro lo h
    simp only [fs]
    rw [h lo (by omega) (by omega), ih (lo + 1) (fun p a b => h p (by omega) (by omega))]
theorem fs_no : ∀ m lo, fs (fun _ => false) lo m = none := by
  intro m
  induction m with
  | zero => intro lo; rfl
  | succ m ih => intro lo; simp only [fs]; rw [ih]; rfl
theorem fs_in (q : Nat → Bool) (lo hi : Nat) (h1 : lo ≤ hi) (h2 : hi ≤ 1023) : fs (fun p => decide (lo ≤ p ∧ p ≤ hi) && q p) 0 1024 = fs q lo (hi + 1 - lo) := by
  rw [show 1024 = lo + ((hi + 1 - lo) + (1023 - hi)) by omega, fs_add, fs_add]
  rw [fs_congr _ (fun _ => false) lo 0 (fun p a b => by rw [decide_eq_false (by omega), Bool.false_and]), fs_no]
  rw [fs_congr _ q (hi + 1 - lo) (0 + lo) (fun p a b => by rw [decide_eq_true (by omega), Bool.true_and])]
  rw [fs_congr _ (fun _ => false) (1023 - hi) _ (fun p a b => by rw [decide_eq_false (by omega), Bool.false_and]), fs_no]
  rw [Nat.zero_add]
  cases fs q lo (hi + 1 - lo) <;> rfl
def oI : Option Nat → Int32
  | none => -1
  | some k => Int32.ofNat k
def x_fit (x a b c e : Int32) : Int32 := if ((decide (0 ≤ x) && decide (x < 64)) && (okB a && okB b && okB c && okB e)) = true then oI (fs (fun p => bears (Int32.ofNat p) a b c e) (lowN (tI x)) (highN (tI x) + 1 - lowN (tI x))) else -1
theorem q_fit (hd : 5 ≤ d) (hh : es_sh h = (10, 0)) (x a b c e : Int32) : ee_run ee_B P d 122 [.ref h, .int x, .int a, .int b, .int c, .int e] w = some ([.int (x_fit x a b c e)], w) := by
  obtain ⟨d, rfl⟩ : ∃ k, d = k + 1 := ⟨d - 1, by omega⟩
  have hd1 : 1 ≤ d := by omega
  have hd2 : 2 ≤ d := by omega
  have hd3 : 3 ≤ d := by omega
  rw [rn_122 hh]
  unfold x_fit
  cases h1 : (decide (0 ≤ x) && decide (x < 64)) <;> cases h2 : (okB a && okB b && okB c && okB e) <;> try (simp only [r_isTrack hd1, r_areB hd2, h1, h2, bd_122, k_4294967295, v_call, v_cmp, v_cons, v_int, v_loc, v_nil, v_not, v_or, v_z, w_if, w_inc, w_ret, w_seq, w_set, w_skip, List.getElem?_cons_zero, List.getElem?_cons_succ, List.set_cons_zero, List.set_cons_succ, ee_cmp0, ee_cmp1, ee_cmp2, ee_cmp3, ee_cmp4, ee_cmp5, ee_cmpL0, ee_cmpL1, ee_cmpL2, ee_cmpL3, ee_cmpL4, ee_cmpL5, ee_tru_eb, decide_eq_true_eq, ib_i, ie_b, ie_f, ie_t, ib_l, fin_i, fin_l, fin_v, fin_z, fin_a, fin_n, ee_b_0, ee_fld0, ee_fld1, ee_fld2, ee_fld3, bi_0, bi_1, bi_2, bi_3, bi_4, bi_5, bi_6, bi_7, bi_8, bi_9, bi_10, bl_20, bl_21, bl_22, bl_23, bl_24, bl_25, bl_26, bl_48, bl_49, un_0, un_1, un_2, un_3, if_true, if_false, ite_true, ite_false, Bool.false_eq_true, Bool.not_eq_false, decide_not, Bool.not_not, reduceCtorEq, st_i, st_l, st_r, st_n, ee_noL, ee_noL.eq_1, List.length_cons, List.length_nil, Nat.reduceAdd, Nat.reduceLT, Nat.zero_add, and_true, true_and, and_self, fin_ite, pu_0, pu_1, pu_3, sto_0, el_0, Bool.not_eq_true, decide_eq_false_iff_not, Bool.decide_eq_true, Bool.decide_eq_false, decide_true, decide_false, Bool.not_true, Bool.not_false, Bool.and_self, Bool.and_true, Bool.and_false, Bool.true_and, Bool.false_and, Bool.or_true, Bool.or_false, Bool.true_or, Bool.false_or, if_true, if_false, Bool.false_eq_true]; done)
  obtain ⟨n, hn, rfl⟩ := of64 h1
  obtain ⟨t1, t2, t3, t4⟩ := rim_all n hn
  obtain ⟨l1, l2, l3⟩ := lim t4
  have e1 := r_lowRim (P := P) (w := w) hd2 (ctrack (Int32.ofNat n))
  have e2 := r_highRim (P := P) (w := w) hd2 (ctrack (Int32.ofNat n))
  rw [t1] at e1
  rw [t2] at e2
  have e4 : tI (Int32.ofNat n) = tk n := rfl
  simp only [r_isTrack hd1, r_areB hd2, r_trackOf hd1, e1, e4, h1, h2, w_while, bd_122, k_4294967295, v_call, v_cmp, v_cons, v_int, v_loc, v_nil, v_not, v_or, v_z, w_if, w_inc, w_ret, w_seq, w_set, w_skip, List.getElem?_cons_zero, List.getElem?_cons_succ, List.set_cons_zero, List.set_cons_succ, ee_cmp0, ee_cmp1, ee_cmp2, ee_cmp3, ee_cmp4, ee_cmp5, ee_cmpL0, ee_cmpL1, ee_cmpL2, ee_cmpL3, ee_cmpL4, ee_cmpL5, ee_tru_eb, decide_eq_true_eq, ib_i, ie_b, ie_f, ie_t, ib_l, fin_i, fin_l, fin_v, fin_z, fin_a, fin_n, ee_b_0, ee_fld0, ee_fld1, ee_fld2, ee_fld3, bi_0, bi_1, bi_2, bi_3, bi_4, bi_5, bi_6, bi_7, bi_8, bi_9, bi_10, bl_20, bl_21, bl_22, bl_23, bl_24, bl_25, bl_26, bl_48, bl_49, un_0, un_1, un_2, un_3, if_true, if_false, ite_true, ite_false, Bool.false_eq_true, Bool.not_eq_false, decide_not, Bool.not_not, reduceCtorEq, st_i, st_l, st_r, st_n, ee_noL, ee_noL.eq_1, List.length_cons, List.length_nil, Nat.reduceAdd, Nat.reduceLT, Nat.zero_add, and_true, true_and, and_self, fin_ite, pu_0, pu_1, pu_3, sto_0, el_0, Bool.not_eq_true, decide_eq_false_iff_not, Bool.decide_eq_true, Bool.decide_eq_false, decide_true, decide_false, Bool.not_true, Bool.not_false, Bool.and_self, Bool.and_true, Bool.and_false, Bool.true_and, Bool.false_and, Bool.or_true, Bool.or_false, Bool.true_or, Bool.false_or, if_true, if_false, Bool.false_eq_true]
  have hl := ee_wh_lpR (x := ee_ev es_sh es_rf (ee_run ee_B P d) (n_cmp 5 (n_loc 7 0) (n_call 125 (n_cons (n_loc 6 0) n_nil)))) (b := ee_evS es_sh es_rf (ee_run ee_B P d) (s_seq 61 (s_if 58 61 (n_z 1 (n_call 126 (n_cons (n_loc 7 0) (n_cons (n_loc 2 0) (n_cons (n_loc 3 0) (n_cons (n_loc 4 0) (n_cons (n_loc 5 0) n_nil))))))) (s_ret 0 (n_loc 7 0)) s_skip) (s_inc 7 1)))
    (fun k : Nat => ([some (.ref h), some (.int (Int32.ofNat n)), some (.int a), some (.int b), some (.int c), some (.int e), some (.int (ctrack (Int32.ofNat n))), some (.int (Int32.ofNat k))], w)) (fun k : Nat => ([.int (Int32.ofNat k)], w)) (fun k => decide (k ≤ highN (tk n))) (fq (fun p => bears (Int32.ofNat p) a b c e)) (fun k => k ≤ 1024) (fun k => 1024 - k)
    (by
      intro k hi
      have hi : k ≤ 1024 := hi
      have h9 : (Int32.ofNat k ≤ Int32.ofNat (highN (tk n))) ↔ k ≤ highN (tk n) := j_le (by omega) (by omega)
      by_cases q : k ≤ highN (tk n)
      · cases q2 : bears (Int32.ofNat k) a b c e <;> simp only [ee_turn, fq, r_bears hd3, e2, h9, q, q2, j_s, j_a, bd_122, k_4294967295, v_call, v_cmp, v_cons, v_int, v_loc, v_nil, v_not, v_or, v_z, w_if, w_inc, w_ret, w_seq, w_set, w_skip, List.getElem?_cons_zero, List.getElem?_cons_succ, List.set_cons_zero, List.set_cons_succ, ee_cmp0, ee_cmp1, ee_cmp2, ee_cmp3, ee_cmp4, ee_cmp5, ee_cmpL0, ee_cmpL1, ee_cmpL2, ee_cmpL3, ee_cmpL4, ee_cmpL5, ee_tru_eb, decide_eq_true_eq, ib_i, ie_b, ie_f, ie_t, ib_l, fin_i, fin_l, fin_v, fin_z, fin_a, fin_n, ee_b_0, ee_fld0, ee_fld1, ee_fld2, ee_fld3, bi_0, bi_1, bi_2, bi_3, bi_4, bi_5, bi_6, bi_7, bi_8, bi_9, bi_10, bl_20, bl_21, bl_22, bl_23, bl_24, bl_25, bl_26, bl_48, bl_49, un_0, un_1, un_2, un_3, if_true, if_false, ite_true, ite_false, Bool.false_eq_true, Bool.not_eq_false, decide_not, Bool.not_not, reduceCtorEq, st_i, st_l, st_r, st_n, ee_noL, ee_noL.eq_1, List.length_cons, List.length_nil, Nat.reduceAdd, Nat.reduceLT, Nat.zero_add, and_true, true_and, and_self, fin_ite, pu_0, pu_1, pu_3, sto_0, el_0, Bool.not_eq_true, decide_eq_false_iff_not, Bool.decide_eq_true, Bool.decide_eq_false, decide_true, decide_false, Bool.not_true, Bool.not_false, Bool.and_self, Bool.and_true, Bool.and_false, Bool.true_and, Bool.false_and, Bool.or_true, Bool.or_false, Bool.true_or, Bool.false_or, if_true, if_false, Bool.false_eq_true]
      · simp only [ee_turn, e2, h9, q, bd_122, k_4294967295, v_call, v_cmp, v_cons, v_int, v_loc, v_nil, v_not, v_or, v_z, w_if, w_inc, w_ret, w_seq, w_set, w_skip, List.getElem?_cons_zero, List.getElem?_cons_succ, List.set_cons_zero, List.set_cons_succ, ee_cmp0, ee_cmp1, ee_cmp2, ee_cmp3, ee_cmp4, ee_cmp5, ee_cmpL0, ee_cmpL1, ee_cmpL2, ee_cmpL3, ee_cmpL4, ee_cmpL5, ee_tru_eb, decide_eq_true_eq, ib_i, ie_b, ie_f, ie_t, ib_l, fin_i, fin_l, fin_v, fin_z, fin_a, fin_n, ee_b_0, ee_fld0, ee_fld1, ee_fld2, ee_fld3, bi_0, bi_1, bi_2, bi_3, bi_4, bi_5, bi_6, bi_7, bi_8, bi_9, bi_10, bl_20, bl_21, bl_22, bl_23, bl_24, bl_25, bl_26, bl_48, bl_49, un_0, un_1, un_2, un_3, if_true, if_false, ite_true, ite_false, Bool.false_eq_true, Bool.not_eq_false, decide_not, Bool.not_not, reduceCtorEq, st_i, st_l, st_r, st_n, ee_noL, ee_noL.eq_1, List.length_cons, List.length_nil, Nat.reduceAdd, Nat.reduceLT, Nat.zero_add, and_true, true_and, and_self, fin_ite, pu_0, pu_1, pu_3, sto_0, el_0, Bool.not_eq_true, decide_eq_false_iff_not, Bool.decide_eq_true, Bool.decide_eq_false, decide_true, decide_false, Bool.not_true, Bool.not_false, Bool.and_self, Bool.and_true, Bool.and_false, Bool.true_and, Bool.false_and, Bool.or_true, Bool.or_false, Bool.true_or, Bool.false_or, if_true, if_false, Bool.false_eq_true])
    (by
      intro k k' hi hc hn
      simp only [decide_eq_true_eq] at hc
      simp only [fq] at hn
      split at hn
      · cases hn
      · cases hn; show k + 1 ≤ 1024; omega)
    (by
      intro k k' hi hc hn
      simp only [decide_eq_true_eq] at hc
      simp only [fq] at hn
      split at hn
      · cases hn
      · cases hn; show 1024 - (k + 1) < 1024 - k; omega)
    1100 (lowN (tk n)) (by omega) (by omega)
  rw [hl]
  have e5 := lpR_fs (fun p => bears (Int32.ofNat p) a b c e) (highN (tk n)) 1100 (lowN (tk n)) (by omega)
  rw [← e5]
  cases lpR (fun s => decide (s ≤ highN (tk n))) (fq (fun p => bears (Int32.ofNat p) a b c e)) 1100 (lowN (tk n)) <;> simp only [got, oI, bd_122, k_4294967295, v_call, v_cmp, v_cons, v_int, v_loc, v_nil, v_not, v_or, v_z, w_if, w_inc, w_ret, w_seq, w_set, w_skip, List.getElem?_cons_zero, List.getElem?_cons_succ, List.set_cons_zero, List.set_cons_succ, ee_cmp0, ee_cmp1, ee_cmp2, ee_cmp3, ee_cmp4, ee_cmp5, ee_cmpL0, ee_cmpL1, ee_cmpL2, ee_cmpL3, ee_cmpL4, ee_cmpL5, ee_tru_eb, decide_eq_true_eq, ib_i, ie_b, ie_f, ie_t, ib_l, fin_i, fin_l, fin_v, fin_z, fin_a, fin_n, ee_b_0, ee_fld0, ee_fld1, ee_fld2, ee_fld3, bi_0, bi_1, bi_2, bi_3, bi_4, bi_5, bi_6, bi_7, bi_8, bi_9, bi_10, bl_20, bl_21, bl_22, bl_23, bl_24, bl_25, bl_26, bl_48, bl_49, un_0, un_1, un_2, un_3, if_true, if_false, ite_true, ite_false, Bool.false_eq_true, Bool.not_eq_false, decide_not, Bool.not_not, reduceCtorEq, st_i, st_l, st_r, st_n, ee_noL, ee_noL.eq_1, List.length_cons, List.length_nil, Nat.reduceAdd, Nat.reduceLT, Nat.zero_add, and_true, true_and, and_self, fin_ite, pu_0, pu_1, pu_3, sto_0, el_0, Bool.not_eq_true, decide_eq_false_iff_not, Bool.decide_eq_true, Bool.decide_eq_false, decide_true, decide_false, Bool.not_true, Bool.not_false, Bool.and_self, Bool.and_true, Bool.and_false, Bool.true_and, Bool.false_and, Bool.or_true, Bool.or_false, Bool.true_or, Bool.false_or, if_true, if_false, Bool.false_eq_true]
theorem m_fit (hd : 5 ≤ d) (hh : es_sh h = (18, 0)) (x a b c e : Int32) : ee_run ee_B P d 294 [.ref h, .int x, .int a, .int b, .int c, .int e] w = some ([.int (x_fit x a b c e)], w) := by
  obtain ⟨d, rfl⟩ : ∃ k, d = k + 1 := ⟨d - 1, by omega⟩
  have hd3 : 3 ≤ d := by omega
  have hd4 : 4 ≤ d := by omega
  rw [rn_294 hh]
  unfold x_fit
  cases h1 : ((decide (0 ≤ x) && decide (x < 64)) && (okB a && okB b && okB c && okB e))
  · simp only [r_areReadM hd3 hh, h1, bd_294, k_0, k_1023, k_4294967295, nz_1023, v_call, v_cmp, v_cons, v_int, v_loc, v_nil, v_not, v_z, w_if, w_inc, w_ret, w_seq, w_set, w_skip, List.getElem?_cons_zero, List.getElem?_cons_succ, List.set_cons_zero, List.set_cons_succ, ee_cmp0, ee_cmp1, ee_cmp2, ee_cmp3, ee_cmp4, ee_cmp5, ee_cmpL0, ee_cmpL1, ee_cmpL2, ee_cmpL3, ee_cmpL4, ee_cmpL5, ee_tru_eb, decide_eq_true_eq, ib_i, ie_b, ie_f, ie_t, ib_l, fin_i, fin_l, fin_v, fin_z, fin_a, fin_n, ee_b_0, ee_fld0, ee_fld1, ee_fld2, ee_fld3, bi_0, bi_1, bi_2, bi_3, bi_4, bi_5, bi_6, bi_7, bi_8, bi_9, bi_10, bl_20, bl_21, bl_22, bl_23, bl_24, bl_25, bl_26, bl_48, bl_49, un_0, un_1, un_2, un_3, if_true, if_false, ite_true, ite_false, Bool.false_eq_true, Bool.not_eq_false, decide_not, Bool.not_not, reduceCtorEq, st_i, st_l, st_r, st_n, ee_noL, ee_noL.eq_1, List.length_cons, List.length_nil, Nat.reduceAdd, Nat.reduceLT, Nat.zero_add, and_true, true_and, and_self, fin_ite, pu_0, pu_1, pu_3, sto_0, el_0, Bool.not_eq_true, decide_eq_false_iff_not, Bool.decide_eq_true, Bool.decide_eq_false, decide_true, decide_false, Bool.not_true, Bool.not_false, Bool.and_self, Bool.and_true, Bool.and_false, Bool.true_and, Bool.false_and, Bool.or_true, Bool.or_false, Bool.true_or, Bool.false_or, if_true, if_false, Bool.false_eq_true]
  · obtain ⟨n, hn, rfl⟩ := of64 (Bool.and_eq_true_iff.1 h1).1
    obtain ⟨t1, t2, t3, t4⟩ := rim_all n hn
    obtain ⟨l1, l2, l3⟩ := lim t4
    have e4 : tI (Int32.ofNat n) = tk n := rfl
    simp only [r_areReadM hd3 hh, h1, e4, w_while, bd_294, k_0, k_1023, k_4294967295, nz_1023, v_call, v_cmp, v_cons, v_int, v_loc, v_nil, v_not, v_z, w_if, w_inc, w_ret, w_seq, w_set, w_skip, List.getElem?_cons_zero, List.getElem?_cons_succ, List.set_cons_zero, List.set_cons_succ, ee_cmp0, ee_cmp1, ee_cmp2, ee_cmp3, ee_cmp4, ee_cmp5, ee_cmpL0, ee_cmpL1, ee_cmpL2, ee_cmpL3, ee_cmpL4, ee_cmpL5, ee_tru_eb, decide_eq_true_eq, ib_i, ie_b, ie_f, ie_t, ib_l, fin_i, fin_l, fin_v, fin_z, fin_a, fin_n, ee_b_0, ee_fld0, ee_fld1, ee_fld2, ee_fld3, bi_0, bi_1, bi_2, bi_3, bi_4, bi_5, bi_6, bi_7, bi_8, bi_9, bi_10, bl_20, bl_21, bl_22, bl_23, bl_24, bl_25, bl_26, bl_48, bl_49, un_0, un_1, un_2, un_3, if_true, if_false, ite_true, ite_false, Bool.false_eq_true, Bool.not_eq_false, decide_not, Bool.not_not, reduceCtorEq, st_i, st_l, st_r, st_n, ee_noL, ee_noL.eq_1, List.length_cons, List.length_nil, Nat.reduceAdd, Nat.reduceLT, Nat.zero_add, and_true, true_and, and_self, fin_ite, pu_0, pu_1, pu_3, sto_0, el_0, Bool.not_eq_true, decide_eq_false_iff_not, Bool.decide_eq_true, Bool.decide_eq_false, decide_true, decide_false, Bool.not_true, Bool.not_false, Bool.and_self, Bool.and_true, Bool.and_false, Bool.true_and, Bool.false_and, Bool.or_true, Bool.or_false, Bool.true_or, Bool.false_or, if_true, if_false, Bool.false_eq_true]
    have hl := ee_wh_lpR (x := ee_ev es_sh es_rf (ee_run ee_B P d) (n_cmp 5 (n_loc 6 0) (n_int 1023))) (b := ee_evS es_sh es_rf (ee_run ee_B P d) (s_seq 46 (s_if 43 46 (n_z 1 (n_call 297 (n_cons (n_loc 0 2) (n_cons (n_loc 6 0) (n_cons (n_loc 1 0) (n_cons (n_loc 2 0) (n_cons (n_loc 3 0) (n_cons (n_loc 4 0) (n_cons (n_loc 5 0) n_nil))))))))) (s_ret 0 (n_loc 6 0)) s_skip) (s_inc 6 1)))
      (fun k : Nat => ([some (.ref h), some (.int (Int32.ofNat n)), some (.int a), some (.int b), some (.int c), some (.int e), some (.int (Int32.ofNat k))], w)) (fun k : Nat => ([.int (Int32.ofNat k)], w)) (fun k => decide (k ≤ 1023)) (fq (fun p => rT (tk n) p && bears (Int32.ofNat p) a b c e)) (fun k => k ≤ 1024) (fun k => 1024 - k)
      (by
        intro k hi
        have hi : k ≤ 1024 := hi
        have h9 : (Int32.ofNat k ≤ 1023) ↔ k ≤ 1023 := j_le (b := 1023) (by omega) (by omega)
        by_cases q : k ≤ 1023
        · have g := r_canBe (P := P) (w := w) hd4 hh k n (by omega) hn a b c e
          cases k0 : (rT (tk n) k && bears (Int32.ofNat k) a b c e) <;> rw [k0] at g <;> simp only [ee_turn, fq, g, k0, h9, q, j_s, j_a, bd_294, k_0, k_1023, k_4294967295, nz_1023, v_call, v_cmp, v_cons, v_int, v_loc, v_nil, v_not, v_z, w_if, w_inc, w_ret, w_seq, w_set, w_skip, List.getElem?_cons_zero, List.getElem?_cons_succ, List.set_cons_zero, List.set_cons_succ, ee_cmp0, ee_cmp1, ee_cmp2, ee_cmp3, ee_cmp4, ee_cmp5, ee_cmpL0, ee_cmpL1, ee_cmpL2, ee_cmpL3, ee_cmpL4, ee_cmpL5, ee_tru_eb, decide_eq_true_eq, ib_i, ie_b, ie_f, ie_t, ib_l, fin_i, fin_l, fin_v, fin_z, fin_a, fin_n, ee_b_0, ee_fld0, ee_fld1, ee_fld2, ee_fld3, bi_0, bi_1, bi_2, bi_3, bi_4, bi_5, bi_6, bi_7, bi_8, bi_9, bi_10, bl_20, bl_21, bl_22, bl_23, bl_24, bl_25, bl_26, bl_48, bl_49, un_0, un_1, un_2, un_3, if_true, if_false, ite_true, ite_false, Bool.false_eq_true, Bool.not_eq_false, decide_not, Bool.not_not, reduceCtorEq, st_i, st_l, st_r, st_n, ee_noL, ee_noL.eq_1, List.length_cons, List.length_nil, Nat.reduceAdd, Nat.reduceLT, Nat.zero_add, and_true, true_and, and_self, fin_ite, pu_0, pu_1, pu_3, sto_0, el_0, Bool.not_eq_true, decide_eq_false_iff_not, Bool.decide_eq_true, Bool.decide_eq_false, decide_true, decide_false, Bool.not_true, Bool.not_false, Bool.and_self, Bool.and_true, Bool.and_false, Bool.true_and, Bool.false_and, Bool.or_true, Bool.or_false, Bool.true_or, Bool.false_or, if_true, if_false, Bool.false_eq_true]
        · simp only [ee_turn, h9, q, bd_294, k_0, k_1023, k_4294967295, nz_1023, v_call, v_cmp, v_cons, v_int, v_loc, v_nil, v_not, v_z, w_if, w_inc, w_ret, w_seq, w_set, w_skip, List.getElem?_cons_zero, List.getElem?_cons_succ, List.set_cons_zero, List.set_cons_succ, ee_cmp0, ee_cmp1, ee_cmp2, ee_cmp3, ee_cmp4, ee_cmp5, ee_cmpL0, ee_cmpL1, ee_cmpL2, ee_cmpL3, ee_cmpL4, ee_cmpL5, ee_tru_eb, decide_eq_true_eq, ib_i, ie_b, ie_f, ie_t, ib_l, fin_i, fin_l, fin_v, fin_z, fin_a, fin_n, ee_b_0, ee_fld0, ee_fld1, ee_fld2, ee_fld3, bi_0, bi_1, bi_2, bi_3, bi_4, bi_5, bi_6, bi_7, bi_8, bi_9, bi_10, bl_20, bl_21, bl_22, bl_23, bl_24, bl_25, bl_26, bl_48, bl_49, un_0, un_1, un_2, un_3, if_true, if_false, ite_true, ite_false, Bool.false_eq_true, Bool.not_eq_false, decide_not, Bool.not_not, reduceCtorEq, st_i, st_l, st_r, st_n, ee_noL, ee_noL.eq_1, List.length_cons, List.length_nil, Nat.reduceAdd, Nat.reduceLT, Nat.zero_add, and_true, true_and, and_self, fin_ite, pu_0, pu_1, pu_3, sto_0, el_0, Bool.not_eq_true, decide_eq_false_iff_not, Bool.decide_eq_true, Bool.decide_eq_false, decide_true, decide_false, Bool.not_true, Bool.not_false, Bool.and_self, Bool.and_true, Bool.and_false, Bool.true_and, Bool.false_and, Bool.or_true, Bool.or_false, Bool.true_or, Bool.false_or, if_true, if_false, Bool.false_eq_true])
      (by
        intro k k' hi hc hn
        simp only [decide_eq_true_eq] at hc
        simp only [fq] at hn
        split at hn
        · cases hn
        · cases hn; show k + 1 ≤ 1024; omega)
      (by
        intro k k' hi hc hn
        simp only [decide_eq_true_eq] at hc
        simp only [fq] at hn
        split at hn
        · cases hn
        · cases hn; show 1024 - (k + 1) < 1024 - k; omega)
      1100 0 (Nat.zero_le _) (Nat.le_of_ble_eq_true rfl)
    rw [show (some (Value.int (Int32.ofNat 0))) = some (Value.int 0) from rfl] at hl
    rw [hl]
    have e5 := lpR_fs (fun p => rT (tk n) p && bears (Int32.ofNat p) a b c e) 1023 1100 0 (by omega)
    rw [← fs_in (fun p => bears (Int32.ofNat p) a b c e) _ _ l3 (by omega)]
    rw [fs_congr _ (fun p => rT (tk n) p && bears (Int32.ofNat p) a b c e) 1024 0 (fun p a b => by rw [rT_iff t4 (by omega)]), ← e5]
    cases lpR (fun s => decide (s ≤ 1023)) (fq (fun p => rT (tk n) p && bears (Int32.ofNat p) a b c e)) 1100 0 <;> simp only [got, oI, bd_294, k_0, k_1023, k_4294967295, nz_1023, v_call, v_cmp, v_cons, v_int, v_loc, v_nil, v_not, v_z, w_if, w_inc, w_ret, w_seq, w_set, w_skip, List.getElem?_cons_zero, List.getElem?_cons_succ, List.set_cons_zero, List.set_cons_succ, ee_cmp0, ee_cmp1, ee_cmp2, ee_cmp3, ee_cmp4, ee_cmp5, ee_cmpL0, ee_cmpL1, ee_cmpL2, ee_cmpL3, ee_cmpL4, ee_cmpL5, ee_tru_eb, decide_eq_true_eq, ib_i, ie_b, ie_f, ie_t, ib_l, fin_i, fin_l, fin_v, fin_z, fin_a, fin_n, ee_b_0, ee_fld0, ee_fld1, ee_fld2, ee_fld3, bi_0, bi_1, bi_2, bi_3, bi_4, bi_5, bi_6, bi_7, bi_8, bi_9, bi_10, bl_20, bl_21, bl_22, bl_23, bl_24, bl_25, bl_26, bl_48, bl_49, un_0, un_1, un_2, un_3, if_true, if_false, ite_true, ite_false, Bool.false_eq_true, Bool.not_eq_false, decide_not, Bool.not_not, reduceCtorEq, st_i, st_l, st_r, st_n, ee_noL, ee_noL.eq_1, List.length_cons, List.length_nil, Nat.reduceAdd, Nat.reduceLT, Nat.zero_add, and_true, true_and, and_self, fin_ite, pu_0, pu_1, pu_3, sto_0, el_0, Bool.not_eq_true, decide_eq_false_iff_not, Bool.decide_eq_true, Bool.decide_eq_false, decide_true, decide_false, Bool.not_true, Bool.not_false, Bool.and_self, Bool.and_true, Bool.and_false, Bool.true_and, Bool.false_and, Bool.or_true, Bool.or_false, Bool.true_or, Bool.false_or, if_true, if_false, Bool.false_eq_true]
end FK
