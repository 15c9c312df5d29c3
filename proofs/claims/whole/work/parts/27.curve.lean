section CU
variable {P : Nat → Nat → List Value → ee_W → Option (List Value × ee_W)} {d : Nat} {w : ee_W}
theorem nI_t {n : Nat} (h : n < 2147483648) : (Int32.ofNat n).toInt = (n : Int) := nI_toInt h
/-- up while the next one may be -/
def tn (f : Nat → Bool) : Nat → Nat → Nat := lp (fun s => decide (s < 64) && f (s + 1)) (fun s => s + 1)
/-- by halves -/
def bs_n (f : Nat → Bool) (s : Nat × Nat) : Nat × Nat := (if s.1 + s.2 ≤ 64 ∧ f (s.1 + s.2) = true then s.1 + s.2 else s.1, s.2 / 2)
def bs (f : Nat → Bool) : Nat := (lp (fun s => decide (0 < s.2)) (bs_n f) 64 (0, 64)).1
theorem tn_spec (f : Nat → Bool) : ∀ (n s : Nat), s ≤ 64 → 64 ≤ s + n → s ≤ tn f n s ∧ tn f n s ≤ 64 ∧ (∀ k, s < k → k ≤ tn f n s → f k = true) ∧ (tn f n s = 64 ∨ f (tn f n s + 1) = false) := by
  intro n
  induction n with
  | zero =>
    intro s h1 h2
    have h3 : s = 64 := by omega
    subst h3
    exact ⟨Nat.le_refl _, Nat.le_refl _, fun k q1 q2 => by simp only [tn, lp] at q2; omega, Or.inl rfl⟩
  | succ n ih =>
    intro s h1 h2
    by_cases h3 : s < 64 ∧ f (s + 1) = true
    · have e : tn f (n + 1) s = tn f n (s + 1) := by
        simp only [tn, lp]
        rw [if_pos (by simp [h3.1, h3.2])]
      rw [e]
      obtain ⟨a1, a2, a3, a4⟩ := ih (s + 1) (by omega) (by omega)
      refine ⟨by omega, a2, fun k q1 q2 => ?_, a4⟩
      by_cases q3 : k = s + 1
      · rw [q3]; exact h3.2
      · exact a3 k (by omega) q2
    · have e : tn f (n + 1) s = s := by
        simp only [tn, lp]
        rw [if_neg (by simpa using h3)]
      rw [e]
      refine ⟨Nat.le_refl _, h1, fun k q1 q2 => by omega, ?_⟩
      by_cases q : s = 64
      · exact Or.inl q
      · right
        have : ¬ f (s + 1) = true := fun z => h3 ⟨by omega, z⟩
        simpa using this
theorem bs_le : ∀ T, T ≤ 64 → bs (fun s => decide (s ≤ T)) = T := by decide +kernel
theorem lp_congr {σ : Type} {c : σ → Bool} {n1 n2 : σ → σ} (inv : σ → Prop) (h : ∀ s, inv s → c s = true → n1 s = n2 s) (hi : ∀ s, inv s → c s = true → inv (n2 s)) : ∀ (n : Nat) (s : σ), inv s → lp c n1 n s = lp c n2 n s := by
  intro n
  induction n with
  | zero => intro s _; rfl
  | succ n ih =>
    intro s hs
    simp only [lp]
    cases hc : c s with
    | false => rfl
    | true =>
      simp only [if_true]
      rw [h s hs hc]
      exact ih _ (hi s hs hc)
theorem bs_tn (f : Nat → Bool) (hm : ∀ s, s < 64 → f (s + 1) = true → f s = true ∨ s = 0) : bs f = tn f 64 0 := by
  obtain ⟨-, a2, a3, a4⟩ := tn_spec f 64 0 (by omega) (by omega)
  have key : ∀ k, 1 ≤ k → k ≤ 64 → f k = decide (k ≤ tn f 64 0) := by
    intro k h1 h2
    by_cases q : k ≤ tn f 64 0
    · rw [a3 k (by omega) q, decide_eq_true q]
    · rw [decide_eq_false q]
      have hT : f (tn f 64 0 + 1) = false := by
        rcases a4 with h | h
        · omega
        · exact h
      have down : ∀ j, tn f 64 0 + 1 + j ≤ 64 → f (tn f 64 0 + 1 + j) = false := by
        intro j
        induction j with
        | zero => intro _; exact hT
        | succ j ih =>
          intro h
          have := ih (by omega)
          cases hv : f (tn f 64 0 + 1 + (j + 1)) with
          | false => rfl
          | true =>
            rcases hm (tn f 64 0 + 1 + j) (by omega) hv with z | z
            · rw [this] at z; cases z
            · omega
      have := down (k - (tn f 64 0 + 1)) (by omega)
      rwa [show tn f 64 0 + 1 + (k - (tn f 64 0 + 1)) = k by omega] at this
  have h2 : bs f = bs (fun s => decide (s ≤ tn f 64 0)) := by
    unfold bs
    rw [lp_congr (fun s : Nat × Nat => True) (n2 := bs_n (fun s => decide (s ≤ tn f 64 0))) ?_ (fun _ _ _ => trivial) 64 (0, 64) trivial]
    intro s _ hc
    have hc : 0 < s.2 := by simpa using hc
    unfold bs_n
    by_cases q : s.1 + s.2 ≤ 64
    · rw [key (s.1 + s.2) (by omega) q]
    · rw [if_neg (fun z => q z.1), if_neg (fun z => q z.1)]
  rw [h2]
  exact bs_le _ a2
/-- how far till it stands, as the class works it out -/
def cway (s p : Int32) : Int32 := if (decide (s ≤ 0) || decide (p ≤ 0)) = true then 0 else ((s - 1) / p + 1) * s - p * (((s - 1) / p + 1) * ((s - 1) / p + 1 - 1) / 2)
theorem r_wayToStop (hd : 1 ≤ d) (s p : Int32) : ee_run ee_B P d 93 [.int s, .int p] w = some ([.int (cway s p)], w) := by
  obtain ⟨d, rfl⟩ : ∃ k, d = k + 1 := ⟨d - 1, by omega⟩
  rw [rn_93]
  by_cases h : s ≤ 0
  · simp only [h, cway, decide_true, Bool.true_or, bd_93, k_0, k_1, k_2, nz_1, nz_2, v_bin, v_int, v_loc, v_or, v_z, w_if, w_ret, w_seq, w_set, List.getElem?_cons_zero, List.getElem?_cons_succ, List.set_cons_zero, List.set_cons_succ, ee_cmp0, ee_cmp1, ee_cmp2, ee_cmp3, ee_cmp4, ee_cmp5, ee_cmpL0, ee_cmpL1, ee_cmpL2, ee_cmpL3, ee_cmpL4, ee_cmpL5, ee_tru_eb, decide_eq_true_eq, ib_i, ie_b, ie_f, ie_t, ib_l, fin_i, fin_l, fin_v, fin_z, fin_a, fin_n, ee_b_0, ee_fld0, ee_fld1, ee_fld2, ee_fld3, bi_0, bi_1, bi_2, bi_3, bi_4, bi_5, bi_6, bi_7, bi_8, bi_9, bi_10, bl_20, bl_21, bl_22, bl_23, bl_24, bl_25, bl_26, bl_48, bl_49, un_0, un_1, un_2, un_3, if_true, if_false, ite_true, ite_false, Bool.false_eq_true, Bool.not_eq_false, decide_not, Bool.not_not, reduceCtorEq, st_i, st_l, st_r, st_n, ee_noL, ee_noL.eq_1, List.length_cons, List.length_nil, Nat.reduceAdd, Nat.reduceLT, Nat.zero_add, and_true, true_and, and_self, fin_ite, pu_0, pu_1, pu_3, sto_0, el_0, Bool.not_eq_true, decide_eq_false_iff_not, Bool.decide_eq_true, Bool.decide_eq_false]
  · by_cases h2 : p ≤ 0
    · simp only [h, h2, cway, decide_true, decide_false, Bool.or_true, bd_93, k_0, k_1, k_2, nz_1, nz_2, v_bin, v_int, v_loc, v_or, v_z, w_if, w_ret, w_seq, w_set, List.getElem?_cons_zero, List.getElem?_cons_succ, List.set_cons_zero, List.set_cons_succ, ee_cmp0, ee_cmp1, ee_cmp2, ee_cmp3, ee_cmp4, ee_cmp5, ee_cmpL0, ee_cmpL1, ee_cmpL2, ee_cmpL3, ee_cmpL4, ee_cmpL5, ee_tru_eb, decide_eq_true_eq, ib_i, ie_b, ie_f, ie_t, ib_l, fin_i, fin_l, fin_v, fin_z, fin_a, fin_n, ee_b_0, ee_fld0, ee_fld1, ee_fld2, ee_fld3, bi_0, bi_1, bi_2, bi_3, bi_4, bi_5, bi_6, bi_7, bi_8, bi_9, bi_10, bl_20, bl_21, bl_22, bl_23, bl_24, bl_25, bl_26, bl_48, bl_49, un_0, un_1, un_2, un_3, if_true, if_false, ite_true, ite_false, Bool.false_eq_true, Bool.not_eq_false, decide_not, Bool.not_not, reduceCtorEq, st_i, st_l, st_r, st_n, ee_noL, ee_noL.eq_1, List.length_cons, List.length_nil, Nat.reduceAdd, Nat.reduceLT, Nat.zero_add, and_true, true_and, and_self, fin_ite, pu_0, pu_1, pu_3, sto_0, el_0, Bool.not_eq_true, decide_eq_false_iff_not, Bool.decide_eq_true, Bool.decide_eq_false]
    · have h3 : ¬ p = 0 := fun z => h2 (by rw [z]; decide)
      simp only [h, h2, h3, cway, decide_false, Bool.or_false, bd_93, k_0, k_1, k_2, nz_1, nz_2, v_bin, v_int, v_loc, v_or, v_z, w_if, w_ret, w_seq, w_set, List.getElem?_cons_zero, List.getElem?_cons_succ, List.set_cons_zero, List.set_cons_succ, ee_cmp0, ee_cmp1, ee_cmp2, ee_cmp3, ee_cmp4, ee_cmp5, ee_cmpL0, ee_cmpL1, ee_cmpL2, ee_cmpL3, ee_cmpL4, ee_cmpL5, ee_tru_eb, decide_eq_true_eq, ib_i, ie_b, ie_f, ie_t, ib_l, fin_i, fin_l, fin_v, fin_z, fin_a, fin_n, ee_b_0, ee_fld0, ee_fld1, ee_fld2, ee_fld3, bi_0, bi_1, bi_2, bi_3, bi_4, bi_5, bi_6, bi_7, bi_8, bi_9, bi_10, bl_20, bl_21, bl_22, bl_23, bl_24, bl_25, bl_26, bl_48, bl_49, un_0, un_1, un_2, un_3, if_true, if_false, ite_true, ite_false, Bool.false_eq_true, Bool.not_eq_false, decide_not, Bool.not_not, reduceCtorEq, st_i, st_l, st_r, st_n, ee_noL, ee_noL.eq_1, List.length_cons, List.length_nil, Nat.reduceAdd, Nat.reduceLT, Nat.zero_add, and_true, true_and, and_self, fin_ite, pu_0, pu_1, pu_3, sto_0, el_0, Bool.not_eq_true, decide_eq_false_iff_not, Bool.decide_eq_true, Bool.decide_eq_false]
set_option maxRecDepth 100000 in
theorem way_eq : ∀ s, s ≤ 64 → ∀ p, p ≤ 9 → 1 ≤ p → pway (Int32.ofNat s) (Int32.ofNat p) = cway (Int32.ofNat s) (Int32.ofNat p) := by decide +kernel
set_option maxRecDepth 100000 in
theorem way_mono : ∀ s, s < 64 → ∀ p, p ≤ 9 → 1 ≤ p → cway (Int32.ofNat s) (Int32.ofNat p) ≤ cway (Int32.ofNat (s + 1)) (Int32.ofNat p) := by decide +kernel
end CU
