/-! longest on both sides -/
section BL1
variable {P : Nat → Nat → List Value → ee_W → Option (List Value × ee_W)} {d : Nat} {w : ee_W} {Z : ZX}
def lgr (f : Nat → Bool) : Nat → Nat
  | 0 => 0
  | k + 1 => if f (k % 8) = true then lgr f k + 1 else 0
def lgb (f : Nat → Bool) : Nat → Nat
  | 0 => 0
  | k + 1 => if lgr f (k + 1) ≤ lgb f k then lgb f k else lgr f (k + 1)
def lgc (f : Nat → Bool) (i : Nat) : Nat → Nat
  | 0 => 0
  | m + 1 => if lgc f i m = m ∧ f ((i + m) % 8) = true then m + 1 else lgc f i m
def lgm (f : Nat → Bool) : Nat → Nat
  | 0 => 0
  | k + 1 => if lgm f k < lgc f k 8 then lgc f k 8 else lgm f k
def lgs (f : Nat → Bool) : Nat → Int32
  | 0 => 0
  | k + 1 => if f k = true then lgs f k ||| (1 <<< (Int32.ofNat k &&& 31)) else lgs f k
def lg8 (b0 b1 b2 b3 b4 b5 b6 b7 : Bool) : Nat → Bool
  | 0 => b0
  | 1 => b1
  | 2 => b2
  | 3 => b3
  | 4 => b4
  | 5 => b5
  | 6 => b6
  | _ => b7
theorem rm8 {k : Nat} (hk : k < 2 ^ 31) : Int32.ofNat k - Int32.ofNat k / 8 * 8 = Int32.ofNat (k % 8) := by
  have a : Int32.ofNat k / 8 = Int32.ofNat (k / 8) := (Int32.ofNat_div hk (show 8 < 2 ^ 31 by decide)).symm
  have b : Int32.ofNat (k / 8) * 8 = Int32.ofNat (k / 8 * 8) := j_m (k / 8) 8
  have c : Int32.ofNat (k / 8 * 8) + Int32.ofNat (k % 8) = Int32.ofNat (k / 8 * 8 + k % 8) := j_a _ _
  rw [show k / 8 * 8 + k % 8 = k by omega] at c
  rw [a, b, ← c]
  grind
def lgl (f : Nat → Bool) : Nat → Option Value
  | 0 => none
  | k + 1 => some (.int (Int32.ofNat (lgc f k 8)))
theorem lg8_e (f : Nat → Bool) : ∀ k, k < 8 → lg8 (f 0) (f 1) (f 2) (f 3) (f 4) (f 5) (f 6) (f 7) k = f k := by
  intro k hk
  rcases (by omega : k = 0 ∨ k = 1 ∨ k = 2 ∨ k = 3 ∨ k = 4 ∨ k = 5 ∨ k = 6 ∨ k = 7) with h | h | h | h | h | h | h | h <;> subst h <;> rfl
theorem lgr_c {f g : Nat → Bool} (h : ∀ k, k < 8 → f k = g k) : ∀ k, lgr f k = lgr g k := by
  intro k
  induction k with
  | zero => rfl
  | succ k ih => unfold lgr; rw [ih, h _ (Nat.mod_lt _ (by decide))]
theorem lgb_c {f g : Nat → Bool} (h : ∀ k, k < 8 → f k = g k) : ∀ k, lgb f k = lgb g k := by
  intro k
  induction k with
  | zero => rfl
  | succ k ih => unfold lgb; rw [ih, lgr_c h]
theorem lgc_c {f g : Nat → Bool} (h : ∀ k, k < 8 → f k = g k) (i : Nat) : ∀ k, lgc f i k = lgc g i k := by
  intro k
  induction k with
  | zero => rfl
  | succ k ih => unfold lgc; rw [ih, h _ (Nat.mod_lt _ (by decide))]
theorem lgm_c {f g : Nat → Bool} (h : ∀ k, k < 8 → f k = g k) : ∀ k, lgm f k = lgm g k := by
  intro k
  induction k with
  | zero => rfl
  | succ k ih => unfold lgm; rw [ih, lgc_c h]
theorem lgs_c {f g : Nat → Bool} (h : ∀ k, k < 8 → f k = g k) : ∀ k, k ≤ 8 → lgs f k = lgs g k := by
  intro k
  induction k with
  | zero => intro _; rfl
  | succ k ih => intro hk; unfold lgs; rw [ih (by omega), h k (by omega)]
theorem lg_key : ∀ b0 b1 b2 b3 b4 b5 b6 b7 : Bool, (if lgb (lg8 b0 b1 b2 b3 b4 b5 b6 b7) 16 ≤ 8 then lgb (lg8 b0 b1 b2 b3 b4 b5 b6 b7) 16 else 8) = lgm (lg8 b0 b1 b2 b3 b4 b5 b6 b7) 8 := by decide +kernel
theorem lg_eq (f : Nat → Bool) : (if lgb f 16 ≤ 8 then lgb f 16 else 8) = lgm f 8 := by
  have h := lg_key (f 0) (f 1) (f 2) (f 3) (f 4) (f 5) (f 6) (f 7)
  rw [lgb_c (lg8_e f), lgm_c (lg8_e f)] at h
  exact h
theorem lg_bit : ∀ b0 b1 b2 b3 b4 b5 b6 b7 : Bool, ∀ k : Fin 8, decide (((lgs (lg8 b0 b1 b2 b3 b4 b5 b6 b7) 8 >>> (Int32.ofNat k.1 &&& 31)) &&& 1) = 1) = lg8 b0 b1 b2 b3 b4 b5 b6 b7 k.1 := by decide +kernel
theorem lg_has (f : Nat → Bool) {k : Nat} (hk : k < 8) : decide (((lgs f 8 >>> (Int32.ofNat k &&& 31)) &&& 1) = 1) = f k := by
  have h := lg_bit (f 0) (f 1) (f 2) (f 3) (f 4) (f 5) (f 6) (f 7) ⟨k, hk⟩
  rw [lgs_c (lg8_e f) 8 (by omega)] at h
  rw [← lg8_e f k hk]
  exact h
theorem syb_lgs : ∀ k, syb Z k = lgs (sy Z) k := by
  intro k
  induction k with
  | zero => rfl
  | succ k ih => unfold syb lgs; rw [ih]
theorem lgc_p (f : Nat → Bool) (i : Nat) : ∀ m, lgc f i m ≤ m ∧ (∀ k, k < lgc f i m → f ((i + k) % 8) = true) ∧ (lgc f i m < m → f ((i + lgc f i m) % 8) = false) := by
  intro m
  induction m with
  | zero => exact ⟨Nat.le_refl _, fun k h => by exact absurd h (Nat.not_lt_zero _), fun h => absurd h (Nat.not_lt_zero _)⟩
  | succ m ih =>
    obtain ⟨i1, i2, i3⟩ := ih
    have e : lgc f i (m + 1) = if lgc f i m = m ∧ f ((i + m) % 8) = true then m + 1 else lgc f i m := rfl
    rw [e]
    split
    · rename_i q
      refine ⟨Nat.le_refl _, ?_, fun h => absurd h (Nat.lt_irrefl _)⟩
      intro k hk
      rcases (by omega : k < m ∨ k = m) with h | h
      · exact i2 k (by omega)
      · rw [h]; exact q.2
    · rename_i q
      refine ⟨by omega, i2, ?_⟩
      intro _
      rcases (by omega : lgc f i m < m ∨ lgc f i m = m) with h | h
      · exact i3 h
      · rw [h]
        cases c : f ((i + m) % 8) with
        | false => rfl
        | true => exact absurd ⟨h, c⟩ q
theorem lgr_le (f : Nat → Bool) : ∀ k, lgr f k ≤ k ∧ lgb f k ≤ k := by
  intro k
  induction k with
  | zero => exact ⟨Nat.le_refl _, Nat.le_refl _⟩
  | succ k ih =>
    have a : lgr f (k + 1) ≤ k + 1 := by unfold lgr; split <;> omega
    refine ⟨a, ?_⟩
    unfold lgb
    split <;> omega
theorem lgm_le (f : Nat → Bool) : ∀ k, lgm f k ≤ 8 := by
  intro k
  induction k with
  | zero => exact Nat.zero_le _
  | succ k ih =>
    have := (lgc_p f k 8).1
    unfold lgm
    split <;> omega
theorem b_longest (hd : 5 ≤ d) (hS : Sim w) : Both P d 169 338 [] w := by
  obtain ⟨Z, h1, h2, h3⟩ := hS
  obtain ⟨d, rfl⟩ : ∃ k, d = k + 1 := ⟨d - 1, by omega⟩
  have hd1 : 1 ≤ d := by omega
  have hd3 : 3 ≤ d := by omega
  have hd4 : 4 ≤ d := by omega
  refine both_q h1 h2 h3 (r := .int (Int32.ofNat (lgm (sy Z) 8))) ?_ ?_
  · have hl := for_q (w := w) (x := ee_ev es_sh es_rf (ee_run ee_B P d) lx_169_1) (b := ee_evS es_sh es_rf (ee_run ee_B P d) lb_169_1)
      (fun k => [some (.ref 0), some (.int (Int32.ofNat (lgb (sy Z) k))), some (.int (Int32.ofNat (lgr (sy Z) k))), some (.int (Int32.ofNat k))]) 16
      (by
        intro k hk
        have h9 : Int32.ofNat k < 16 := (j_lt (b := 16) (by omega) (by omega)).2 hk
        have hm : k % 8 < 8 := Nat.mod_lt _ (by decide)
        have e := c_isSteady (P := P) hd4 h1 hm
        have m8 := rm8 (show k < 2 ^ 31 by omega)
        have q := lgr_le (sy Z) k
        have q' := lgr_le (sy Z) (k + 1)
        have er : lgr (sy Z) (k + 1) = if sy Z (k % 8) = true then lgr (sy Z) k + 1 else 0 := rfl
        have eb : lgb (sy Z) (k + 1) = if lgr (sy Z) (k + 1) ≤ lgb (sy Z) k then lgb (sy Z) k else lgr (sy Z) (k + 1) := rfl
        have em : (if Int32.ofNat (lgr (sy Z) (k + 1)) ≤ Int32.ofNat (lgb (sy Z) k) then Int32.ofNat (lgb (sy Z) k) else Int32.ofNat (lgr (sy Z) (k + 1))) = Int32.ofNat (lgb (sy Z) (k + 1)) := by
          rw [eb]
          by_cases z : lgr (sy Z) (k + 1) ≤ lgb (sy Z) k
          · rw [if_pos z, if_pos ((j_le (by omega) (by omega)).2 z)]
          · rw [if_neg z, if_neg (fun y => z ((j_le (by omega) (by omega)).1 y))]
        cases a : sy Z (k % 8)
        · rw [a] at e
          rw [a, if_neg (by decide)] at er
          rw [er] at em ⊢
          rw [k_0] at em
          simp only [h9, e, m8, r_max hd1, em, j_s, j_a, lx_169_1, lb_169_1, ee_turn, k_0, k_1, k_16, k_8, nz_1, nz_16, nz_8, v_bin, v_call, v_cmp, v_cons, v_int, v_loc, v_nil, v_tern, v_z, w_inc, w_ret, w_seq, w_set, List.getElem?_cons_zero, List.getElem?_cons_succ, List.set_cons_zero, List.set_cons_succ, ee_cmp0, ee_cmp1, ee_cmp2, ee_cmp3, ee_cmp4, ee_cmp5, ee_cmpL0, ee_cmpL1, ee_cmpL2, ee_cmpL3, ee_cmpL4, ee_cmpL5, ee_tru_eb, decide_eq_true_eq, ib_i, ie_b, ie_f, ie_t, ib_l, fin_i, fin_l, fin_v, fin_z, fin_a, fin_n, ee_b_0, ee_fld0, ee_fld1, ee_fld2, ee_fld3, bi_0, bi_1, bi_2, bi_3, bi_4, bi_5, bi_6, bi_7, bi_8, bi_9, bi_10, bl_20, bl_21, bl_22, bl_23, bl_24, bl_25, bl_26, bl_48, bl_49, un_0, un_1, un_2, un_3, if_true, if_false, ite_true, ite_false, Bool.false_eq_true, Bool.not_eq_false, decide_not, Bool.not_not, reduceCtorEq, st_i, st_l, st_r, st_n, ee_noL, ee_noL.eq_1, List.length_cons, List.length_nil, Nat.reduceAdd, Nat.reduceLT, Nat.zero_add, and_true, true_and, and_self, fin_ite, pu_0, pu_1, pu_3, sto_0, el_0, Bool.not_eq_true, decide_eq_false_iff_not, Bool.decide_eq_true, Bool.decide_eq_false, decide_true, decide_false, Bool.not_true, Bool.not_false, Bool.and_self, Bool.and_true, Bool.and_false, Bool.true_and, Bool.false_and, Bool.or_true, Bool.or_false, Bool.true_or, Bool.false_or, if_true, if_false, Bool.false_eq_true]
        · rw [a] at e
          rw [a, if_pos rfl] at er
          rw [er] at em ⊢
          simp only [h9, e, m8, r_max hd1, em, j_s, j_a, lx_169_1, lb_169_1, ee_turn, k_0, k_1, k_16, k_8, nz_1, nz_16, nz_8, v_bin, v_call, v_cmp, v_cons, v_int, v_loc, v_nil, v_tern, v_z, w_inc, w_ret, w_seq, w_set, List.getElem?_cons_zero, List.getElem?_cons_succ, List.set_cons_zero, List.set_cons_succ, ee_cmp0, ee_cmp1, ee_cmp2, ee_cmp3, ee_cmp4, ee_cmp5, ee_cmpL0, ee_cmpL1, ee_cmpL2, ee_cmpL3, ee_cmpL4, ee_cmpL5, ee_tru_eb, decide_eq_true_eq, ib_i, ie_b, ie_f, ie_t, ib_l, fin_i, fin_l, fin_v, fin_z, fin_a, fin_n, ee_b_0, ee_fld0, ee_fld1, ee_fld2, ee_fld3, bi_0, bi_1, bi_2, bi_3, bi_4, bi_5, bi_6, bi_7, bi_8, bi_9, bi_10, bl_20, bl_21, bl_22, bl_23, bl_24, bl_25, bl_26, bl_48, bl_49, un_0, un_1, un_2, un_3, if_true, if_false, ite_true, ite_false, Bool.false_eq_true, Bool.not_eq_false, decide_not, Bool.not_not, reduceCtorEq, st_i, st_l, st_r, st_n, ee_noL, ee_noL.eq_1, List.length_cons, List.length_nil, Nat.reduceAdd, Nat.reduceLT, Nat.zero_add, and_true, true_and, and_self, fin_ite, pu_0, pu_1, pu_3, sto_0, el_0, Bool.not_eq_true, decide_eq_false_iff_not, Bool.decide_eq_true, Bool.decide_eq_false, decide_true, decide_false, Bool.not_true, Bool.not_false, Bool.and_self, Bool.and_true, Bool.and_false, Bool.true_and, Bool.false_and, Bool.or_true, Bool.or_false, Bool.true_or, Bool.false_or, if_true, if_false, Bool.false_eq_true])
      (by
        have h9 : ¬ (16 : Int32) < 16 := by decide
        simp only [h9, lx_169_1, lb_169_1, ee_turn, k_0, k_1, k_16, k_8, nz_1, nz_16, nz_8, v_bin, v_call, v_cmp, v_cons, v_int, v_loc, v_nil, v_tern, v_z, w_inc, w_ret, w_seq, w_set, List.getElem?_cons_zero, List.getElem?_cons_succ, List.set_cons_zero, List.set_cons_succ, ee_cmp0, ee_cmp1, ee_cmp2, ee_cmp3, ee_cmp4, ee_cmp5, ee_cmpL0, ee_cmpL1, ee_cmpL2, ee_cmpL3, ee_cmpL4, ee_cmpL5, ee_tru_eb, decide_eq_true_eq, ib_i, ie_b, ie_f, ie_t, ib_l, fin_i, fin_l, fin_v, fin_z, fin_a, fin_n, ee_b_0, ee_fld0, ee_fld1, ee_fld2, ee_fld3, bi_0, bi_1, bi_2, bi_3, bi_4, bi_5, bi_6, bi_7, bi_8, bi_9, bi_10, bl_20, bl_21, bl_22, bl_23, bl_24, bl_25, bl_26, bl_48, bl_49, un_0, un_1, un_2, un_3, if_true, if_false, ite_true, ite_false, Bool.false_eq_true, Bool.not_eq_false, decide_not, Bool.not_not, reduceCtorEq, st_i, st_l, st_r, st_n, ee_noL, ee_noL.eq_1, List.length_cons, List.length_nil, Nat.reduceAdd, Nat.reduceLT, Nat.zero_add, and_true, true_and, and_self, fin_ite, pu_0, pu_1, pu_3, sto_0, el_0, Bool.not_eq_true, decide_eq_false_iff_not, Bool.decide_eq_true, Bool.decide_eq_false, decide_true, decide_false, Bool.not_true, Bool.not_false, Bool.and_self, Bool.and_true, Bool.and_false, Bool.true_and, Bool.false_and, Bool.or_true, Bool.or_false, Bool.true_or, Bool.false_or, if_true, if_false, Bool.false_eq_true])
    rw [show lgb (sy Z) 0 = 0 from rfl, show lgr (sy Z) 0 = 0 from rfl, k_0] at hl
    have em : (if Int32.ofNat (lgb (sy Z) 16) ≤ 8 then Int32.ofNat (lgb (sy Z) 16) else 8) = Int32.ofNat (lgm (sy Z) 8) := by
      rw [← lg_eq]
      have q := lgr_le (sy Z) 16
      have y8 : Int32.ofNat (lgb (sy Z) 16) ≤ 8 ↔ lgb (sy Z) 16 ≤ 8 := j_le (b := 8) (by omega) (by omega)
      by_cases z : lgb (sy Z) 16 ≤ 8
      · rw [if_pos z, if_pos (y8.2 z)]
      · rw [if_neg z, if_neg (fun y => z (y8.1 y))]
        rfl
    rw [rn_169 cz_0]
    simp only [w_while, hl, r_min hd1, em, be_169, k_0, k_1, k_16, k_8, nz_1, nz_16, nz_8, v_bin, v_call, v_cmp, v_cons, v_int, v_loc, v_nil, v_tern, v_z, w_inc, w_ret, w_seq, w_set, List.getElem?_cons_zero, List.getElem?_cons_succ, List.set_cons_zero, List.set_cons_succ, ee_cmp0, ee_cmp1, ee_cmp2, ee_cmp3, ee_cmp4, ee_cmp5, ee_cmpL0, ee_cmpL1, ee_cmpL2, ee_cmpL3, ee_cmpL4, ee_cmpL5, ee_tru_eb, decide_eq_true_eq, ib_i, ie_b, ie_f, ie_t, ib_l, fin_i, fin_l, fin_v, fin_z, fin_a, fin_n, ee_b_0, ee_fld0, ee_fld1, ee_fld2, ee_fld3, bi_0, bi_1, bi_2, bi_3, bi_4, bi_5, bi_6, bi_7, bi_8, bi_9, bi_10, bl_20, bl_21, bl_22, bl_23, bl_24, bl_25, bl_26, bl_48, bl_49, un_0, un_1, un_2, un_3, if_true, if_false, ite_true, ite_false, Bool.false_eq_true, Bool.not_eq_false, decide_not, Bool.not_not, reduceCtorEq, st_i, st_l, st_r, st_n, ee_noL, ee_noL.eq_1, List.length_cons, List.length_nil, Nat.reduceAdd, Nat.reduceLT, Nat.zero_add, and_true, true_and, and_self, fin_ite, pu_0, pu_1, pu_3, sto_0, el_0, Bool.not_eq_true, decide_eq_false_iff_not, Bool.decide_eq_true, Bool.decide_eq_false, decide_true, decide_false, Bool.not_true, Bool.not_false, Bool.and_self, Bool.and_true, Bool.and_false, Bool.true_and, Bool.false_and, Bool.or_true, Bool.or_false, Bool.true_or, Bool.false_or, if_true, if_false, Bool.false_eq_true]
  · have hs := m_steady (P := P) hd3 h2
    rw [syb_lgs] at hs
    have hl := for_q (w := w) (x := ee_ev es_sh es_rf (ee_run ee_B P d) lx_338_2) (b := ee_evS es_sh es_rf (ee_run ee_B P d) lb_338_2)
      (fun k => [some (.ref 236), some (.int (lgs (sy Z) 8)), some (.int (Int32.ofNat (lgm (sy Z) k))), some (.int (Int32.ofNat k)), lgl (sy Z) k]) 8
      (by
        intro i hi
        have h9 : Int32.ofNat i < 8 := (j_lt (b := 8) (by omega) (by omega)).2 hi
        obtain ⟨c1, c2, c3⟩ := lgc_p (sy Z) i 8
        have hin := for_q (w := w) (x := ee_ev es_sh es_rf (ee_run ee_B P d) lx_338_1) (b := ee_evS es_sh es_rf (ee_run ee_B P d) lb_338_1)
          (fun k => [some (.ref 236), some (.int (lgs (sy Z) 8)), some (.int (Int32.ofNat (lgm (sy Z) i))), some (.int (Int32.ofNat i)), some (.int (Int32.ofNat k))]) (lgc (sy Z) i 8)
          (by
            intro k hk
            have h8 : Int32.ofNat k < 8 := (j_lt (b := 8) (by omega) (by omega)).2 (by omega)
            have ia : Int32.ofNat i + Int32.ofNat k = Int32.ofNat (i + k) := j_a i k
            have m8 := rm8 (show i + k < 2 ^ 31 by omega)
            have g := lg_has (sy Z) (Nat.mod_lt (i + k) (show 8 > 0 by decide))
            rw [c2 k hk] at g
            have r := r_bitM (P := P) (w := w) hd1 (lgs (sy Z) 8) (Int32.ofNat ((i + k) % 8))
            rw [g] at r
            simp only [h8, ia, m8, r, j_s, j_a, lx_338_1, lb_338_1, ee_turn, k_0, k_8, nz_8, v_and, v_bin, v_call, v_cmp, v_cons, v_int, v_loc, v_nil, v_tern, v_z, w_inc, w_ret, w_seq, w_set, List.getElem?_cons_zero, List.getElem?_cons_succ, List.set_cons_zero, List.set_cons_succ, ee_cmp0, ee_cmp1, ee_cmp2, ee_cmp3, ee_cmp4, ee_cmp5, ee_cmpL0, ee_cmpL1, ee_cmpL2, ee_cmpL3, ee_cmpL4, ee_cmpL5, ee_tru_eb, decide_eq_true_eq, ib_i, ie_b, ie_f, ie_t, ib_l, fin_i, fin_l, fin_v, fin_z, fin_a, fin_n, ee_b_0, ee_fld0, ee_fld1, ee_fld2, ee_fld3, bi_0, bi_1, bi_2, bi_3, bi_4, bi_5, bi_6, bi_7, bi_8, bi_9, bi_10, bl_20, bl_21, bl_22, bl_23, bl_24, bl_25, bl_26, bl_48, bl_49, un_0, un_1, un_2, un_3, if_true, if_false, ite_true, ite_false, Bool.false_eq_true, Bool.not_eq_false, decide_not, Bool.not_not, reduceCtorEq, st_i, st_l, st_r, st_n, ee_noL, ee_noL.eq_1, List.length_cons, List.length_nil, Nat.reduceAdd, Nat.reduceLT, Nat.zero_add, and_true, true_and, and_self, fin_ite, pu_0, pu_1, pu_3, sto_0, el_0, Bool.not_eq_true, decide_eq_false_iff_not, Bool.decide_eq_true, Bool.decide_eq_false, decide_true, decide_false, Bool.not_true, Bool.not_false, Bool.and_self, Bool.and_true, Bool.and_false, Bool.true_and, Bool.false_and, Bool.or_true, Bool.or_false, Bool.true_or, Bool.false_or, if_true, if_false, Bool.false_eq_true, tc_0, ix_0, tc_8, ix_8, mz_0, mz_1, mz_a, rvs, j_s, j_a, wI_at, Nat.reduceEqDiff, zero_ne_one_n, one_ne_zero_n])
          (by
            by_cases z : lgc (sy Z) i 8 < 8
            · have h8 : Int32.ofNat (lgc (sy Z) i 8) < 8 := (j_lt (b := 8) (by omega) (by omega)).2 (by omega)
              have ia : Int32.ofNat i + Int32.ofNat (lgc (sy Z) i 8) = Int32.ofNat (i + lgc (sy Z) i 8) := j_a i _
              have m8 := rm8 (show i + lgc (sy Z) i 8 < 2 ^ 31 by omega)
              have g := lg_has (sy Z) (Nat.mod_lt (i + lgc (sy Z) i 8) (show 8 > 0 by decide))
              rw [c3 z] at g
              have r := r_bitM (P := P) (w := w) hd1 (lgs (sy Z) 8) (Int32.ofNat ((i + lgc (sy Z) i 8) % 8))
              rw [g] at r
              simp only [h8, ia, m8, r, j_s, j_a, lx_338_1, lb_338_1, ee_turn, k_0, k_8, nz_8, v_and, v_bin, v_call, v_cmp, v_cons, v_int, v_loc, v_nil, v_tern, v_z, w_inc, w_ret, w_seq, w_set, List.getElem?_cons_zero, List.getElem?_cons_succ, List.set_cons_zero, List.set_cons_succ, ee_cmp0, ee_cmp1, ee_cmp2, ee_cmp3, ee_cmp4, ee_cmp5, ee_cmpL0, ee_cmpL1, ee_cmpL2, ee_cmpL3, ee_cmpL4, ee_cmpL5, ee_tru_eb, decide_eq_true_eq, ib_i, ie_b, ie_f, ie_t, ib_l, fin_i, fin_l, fin_v, fin_z, fin_a, fin_n, ee_b_0, ee_fld0, ee_fld1, ee_fld2, ee_fld3, bi_0, bi_1, bi_2, bi_3, bi_4, bi_5, bi_6, bi_7, bi_8, bi_9, bi_10, bl_20, bl_21, bl_22, bl_23, bl_24, bl_25, bl_26, bl_48, bl_49, un_0, un_1, un_2, un_3, if_true, if_false, ite_true, ite_false, Bool.false_eq_true, Bool.not_eq_false, decide_not, Bool.not_not, reduceCtorEq, st_i, st_l, st_r, st_n, ee_noL, ee_noL.eq_1, List.length_cons, List.length_nil, Nat.reduceAdd, Nat.reduceLT, Nat.zero_add, and_true, true_and, and_self, fin_ite, pu_0, pu_1, pu_3, sto_0, el_0, Bool.not_eq_true, decide_eq_false_iff_not, Bool.decide_eq_true, Bool.decide_eq_false, decide_true, decide_false, Bool.not_true, Bool.not_false, Bool.and_self, Bool.and_true, Bool.and_false, Bool.true_and, Bool.false_and, Bool.or_true, Bool.or_false, Bool.true_or, Bool.false_or, if_true, if_false, Bool.false_eq_true, tc_0, ix_0, tc_8, ix_8, mz_0, mz_1, mz_a, rvs, j_s, j_a, wI_at, Nat.reduceEqDiff, zero_ne_one_n, one_ne_zero_n]
            · have h8 : ¬ Int32.ofNat (lgc (sy Z) i 8) < 8 := fun y => z ((j_lt (b := 8) (by omega) (by omega)).1 y)
              simp only [h8, lx_338_1, lb_338_1, ee_turn, k_0, k_8, nz_8, v_and, v_bin, v_call, v_cmp, v_cons, v_int, v_loc, v_nil, v_tern, v_z, w_inc, w_ret, w_seq, w_set, List.getElem?_cons_zero, List.getElem?_cons_succ, List.set_cons_zero, List.set_cons_succ, ee_cmp0, ee_cmp1, ee_cmp2, ee_cmp3, ee_cmp4, ee_cmp5, ee_cmpL0, ee_cmpL1, ee_cmpL2, ee_cmpL3, ee_cmpL4, ee_cmpL5, ee_tru_eb, decide_eq_true_eq, ib_i, ie_b, ie_f, ie_t, ib_l, fin_i, fin_l, fin_v, fin_z, fin_a, fin_n, ee_b_0, ee_fld0, ee_fld1, ee_fld2, ee_fld3, bi_0, bi_1, bi_2, bi_3, bi_4, bi_5, bi_6, bi_7, bi_8, bi_9, bi_10, bl_20, bl_21, bl_22, bl_23, bl_24, bl_25, bl_26, bl_48, bl_49, un_0, un_1, un_2, un_3, if_true, if_false, ite_true, ite_false, Bool.false_eq_true, Bool.not_eq_false, decide_not, Bool.not_not, reduceCtorEq, st_i, st_l, st_r, st_n, ee_noL, ee_noL.eq_1, List.length_cons, List.length_nil, Nat.reduceAdd, Nat.reduceLT, Nat.zero_add, and_true, true_and, and_self, fin_ite, pu_0, pu_1, pu_3, sto_0, el_0, Bool.not_eq_true, decide_eq_false_iff_not, Bool.decide_eq_true, Bool.decide_eq_false, decide_true, decide_false, Bool.not_true, Bool.not_false, Bool.and_self, Bool.and_true, Bool.and_false, Bool.true_and, Bool.false_and, Bool.or_true, Bool.or_false, Bool.true_or, Bool.false_or, if_true, if_false, Bool.false_eq_true, tc_0, ix_0, tc_8, ix_8, mz_0, mz_1, mz_a, rvs, j_s, j_a, wI_at, Nat.reduceEqDiff, zero_ne_one_n, one_ne_zero_n])
        rw [k_0] at hin
        have ql := lgm_le (sy Z) i
        have eb : lgm (sy Z) (i + 1) = if lgm (sy Z) i < lgc (sy Z) i 8 then lgc (sy Z) i 8 else lgm (sy Z) i := rfl
        have el : lgl (sy Z) (i + 1) = some (.int (Int32.ofNat (lgc (sy Z) i 8))) := rfl
        rw [eb]
        by_cases z : lgm (sy Z) i < lgc (sy Z) i 8
        · have z' : Int32.ofNat (lgm (sy Z) i) < Int32.ofNat (lgc (sy Z) i 8) := (j_lt (by omega) (by omega)).2 z
          simp only [h9, w_while, hin, z, z', el, j_s, j_a, lx_338_2, lb_338_2, ee_turn, k_0, k_8, nz_8, v_and, v_bin, v_call, v_cmp, v_cons, v_int, v_loc, v_nil, v_tern, v_z, w_inc, w_ret, w_seq, w_set, List.getElem?_cons_zero, List.getElem?_cons_succ, List.set_cons_zero, List.set_cons_succ, ee_cmp0, ee_cmp1, ee_cmp2, ee_cmp3, ee_cmp4, ee_cmp5, ee_cmpL0, ee_cmpL1, ee_cmpL2, ee_cmpL3, ee_cmpL4, ee_cmpL5, ee_tru_eb, decide_eq_true_eq, ib_i, ie_b, ie_f, ie_t, ib_l, fin_i, fin_l, fin_v, fin_z, fin_a, fin_n, ee_b_0, ee_fld0, ee_fld1, ee_fld2, ee_fld3, bi_0, bi_1, bi_2, bi_3, bi_4, bi_5, bi_6, bi_7, bi_8, bi_9, bi_10, bl_20, bl_21, bl_22, bl_23, bl_24, bl_25, bl_26, bl_48, bl_49, un_0, un_1, un_2, un_3, if_true, if_false, ite_true, ite_false, Bool.false_eq_true, Bool.not_eq_false, decide_not, Bool.not_not, reduceCtorEq, st_i, st_l, st_r, st_n, ee_noL, ee_noL.eq_1, List.length_cons, List.length_nil, Nat.reduceAdd, Nat.reduceLT, Nat.zero_add, and_true, true_and, and_self, fin_ite, pu_0, pu_1, pu_3, sto_0, el_0, Bool.not_eq_true, decide_eq_false_iff_not, Bool.decide_eq_true, Bool.decide_eq_false, decide_true, decide_false, Bool.not_true, Bool.not_false, Bool.and_self, Bool.and_true, Bool.and_false, Bool.true_and, Bool.false_and, Bool.or_true, Bool.or_false, Bool.true_or, Bool.false_or, if_true, if_false, Bool.false_eq_true, tc_0, ix_0, tc_8, ix_8, mz_0, mz_1, mz_a, rvs, j_s, j_a, wI_at, Nat.reduceEqDiff, zero_ne_one_n, one_ne_zero_n]
        · have z' : ¬ Int32.ofNat (lgm (sy Z) i) < Int32.ofNat (lgc (sy Z) i 8) := fun y => z ((j_lt (by omega) (by omega)).1 y)
          simp only [h9, w_while, hin, z, z', el, j_s, j_a, lx_338_2, lb_338_2, ee_turn, k_0, k_8, nz_8, v_and, v_bin, v_call, v_cmp, v_cons, v_int, v_loc, v_nil, v_tern, v_z, w_inc, w_ret, w_seq, w_set, List.getElem?_cons_zero, List.getElem?_cons_succ, List.set_cons_zero, List.set_cons_succ, ee_cmp0, ee_cmp1, ee_cmp2, ee_cmp3, ee_cmp4, ee_cmp5, ee_cmpL0, ee_cmpL1, ee_cmpL2, ee_cmpL3, ee_cmpL4, ee_cmpL5, ee_tru_eb, decide_eq_true_eq, ib_i, ie_b, ie_f, ie_t, ib_l, fin_i, fin_l, fin_v, fin_z, fin_a, fin_n, ee_b_0, ee_fld0, ee_fld1, ee_fld2, ee_fld3, bi_0, bi_1, bi_2, bi_3, bi_4, bi_5, bi_6, bi_7, bi_8, bi_9, bi_10, bl_20, bl_21, bl_22, bl_23, bl_24, bl_25, bl_26, bl_48, bl_49, un_0, un_1, un_2, un_3, if_true, if_false, ite_true, ite_false, Bool.false_eq_true, Bool.not_eq_false, decide_not, Bool.not_not, reduceCtorEq, st_i, st_l, st_r, st_n, ee_noL, ee_noL.eq_1, List.length_cons, List.length_nil, Nat.reduceAdd, Nat.reduceLT, Nat.zero_add, and_true, true_and, and_self, fin_ite, pu_0, pu_1, pu_3, sto_0, el_0, Bool.not_eq_true, decide_eq_false_iff_not, Bool.decide_eq_true, Bool.decide_eq_false, decide_true, decide_false, Bool.not_true, Bool.not_false, Bool.and_self, Bool.and_true, Bool.and_false, Bool.true_and, Bool.false_and, Bool.or_true, Bool.or_false, Bool.true_or, Bool.false_or, if_true, if_false, Bool.false_eq_true, tc_0, ix_0, tc_8, ix_8, mz_0, mz_1, mz_a, rvs, j_s, j_a, wI_at, Nat.reduceEqDiff, zero_ne_one_n, one_ne_zero_n])
      (by
        have h9 : ¬ (8 : Int32) < 8 := by decide
        simp only [h9, lx_338_2, lb_338_2, ee_turn, k_0, k_8, nz_8, v_and, v_bin, v_call, v_cmp, v_cons, v_int, v_loc, v_nil, v_tern, v_z, w_inc, w_ret, w_seq, w_set, List.getElem?_cons_zero, List.getElem?_cons_succ, List.set_cons_zero, List.set_cons_succ, ee_cmp0, ee_cmp1, ee_cmp2, ee_cmp3, ee_cmp4, ee_cmp5, ee_cmpL0, ee_cmpL1, ee_cmpL2, ee_cmpL3, ee_cmpL4, ee_cmpL5, ee_tru_eb, decide_eq_true_eq, ib_i, ie_b, ie_f, ie_t, ib_l, fin_i, fin_l, fin_v, fin_z, fin_a, fin_n, ee_b_0, ee_fld0, ee_fld1, ee_fld2, ee_fld3, bi_0, bi_1, bi_2, bi_3, bi_4, bi_5, bi_6, bi_7, bi_8, bi_9, bi_10, bl_20, bl_21, bl_22, bl_23, bl_24, bl_25, bl_26, bl_48, bl_49, un_0, un_1, un_2, un_3, if_true, if_false, ite_true, ite_false, Bool.false_eq_true, Bool.not_eq_false, decide_not, Bool.not_not, reduceCtorEq, st_i, st_l, st_r, st_n, ee_noL, ee_noL.eq_1, List.length_cons, List.length_nil, Nat.reduceAdd, Nat.reduceLT, Nat.zero_add, and_true, true_and, and_self, fin_ite, pu_0, pu_1, pu_3, sto_0, el_0, Bool.not_eq_true, decide_eq_false_iff_not, Bool.decide_eq_true, Bool.decide_eq_false, decide_true, decide_false, Bool.not_true, Bool.not_false, Bool.and_self, Bool.and_true, Bool.and_false, Bool.true_and, Bool.false_and, Bool.or_true, Bool.or_false, Bool.true_or, Bool.false_or, if_true, if_false, Bool.false_eq_true, tc_0, ix_0, tc_8, ix_8, mz_0, mz_1, mz_a, rvs, j_s, j_a, wI_at, Nat.reduceEqDiff, zero_ne_one_n, one_ne_zero_n])
    rw [show lgm (sy Z) 0 = 0 from rfl, k_0, show lgl (sy Z) 0 = none from rfl] at hl
    rw [rn_338 mz_0]
    simp only [w_while, hs, hl, be_338, k_0, k_8, nz_8, v_and, v_bin, v_call, v_cmp, v_cons, v_int, v_loc, v_nil, v_tern, v_z, w_inc, w_ret, w_seq, w_set, List.getElem?_cons_zero, List.getElem?_cons_succ, List.set_cons_zero, List.set_cons_succ, ee_cmp0, ee_cmp1, ee_cmp2, ee_cmp3, ee_cmp4, ee_cmp5, ee_cmpL0, ee_cmpL1, ee_cmpL2, ee_cmpL3, ee_cmpL4, ee_cmpL5, ee_tru_eb, decide_eq_true_eq, ib_i, ie_b, ie_f, ie_t, ib_l, fin_i, fin_l, fin_v, fin_z, fin_a, fin_n, ee_b_0, ee_fld0, ee_fld1, ee_fld2, ee_fld3, bi_0, bi_1, bi_2, bi_3, bi_4, bi_5, bi_6, bi_7, bi_8, bi_9, bi_10, bl_20, bl_21, bl_22, bl_23, bl_24, bl_25, bl_26, bl_48, bl_49, un_0, un_1, un_2, un_3, if_true, if_false, ite_true, ite_false, Bool.false_eq_true, Bool.not_eq_false, decide_not, Bool.not_not, reduceCtorEq, st_i, st_l, st_r, st_n, ee_noL, ee_noL.eq_1, List.length_cons, List.length_nil, Nat.reduceAdd, Nat.reduceLT, Nat.zero_add, and_true, true_and, and_self, fin_ite, pu_0, pu_1, pu_3, sto_0, el_0, Bool.not_eq_true, decide_eq_false_iff_not, Bool.decide_eq_true, Bool.decide_eq_false, decide_true, decide_false, Bool.not_true, Bool.not_false, Bool.and_self, Bool.and_true, Bool.and_false, Bool.true_and, Bool.false_and, Bool.or_true, Bool.or_false, Bool.true_or, Bool.false_or, if_true, if_false, Bool.false_eq_true, ix_0, ix_8, tc_0, tc_8, mz_0, mz_1, mz_a, rvs, j_s, j_a, wI_at, Nat.reduceEqDiff, zero_ne_one_n, one_ne_zero_n]
end BL1
