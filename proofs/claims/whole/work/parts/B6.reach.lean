/-! the reference's loop, turn by turn -/
section RCS
variable {P : Nat → Nat → List Value → ee_W → Option (List Value × ee_W)} {d : Nat} {w w1 w2 : ee_W} {f : Nat → Int32} {n t i W O law : Nat} {ks ps : List Nat} {wh : Bool}
noncomputable abbrev sG (P : Nat → Nat → List Value → ee_W → Option (List Value × ee_W)) (d : Nat) := ee_turn (fun (_ : ee_E) (w : ee_W) => some ([Value.int 1], w)) (ee_evS es_sh es_rf (ee_run ee_B P d) lb_213_1)
/-- going on from here is going on from there -/
def RCH (P : Nat → Nat → List Value → ee_W → Option (List Value × ee_W)) (d : Nat) (w w' : ee_W) : Prop := ∀ v : Option Value, ∃ v', ee_wh (sG P d) ([some (.ref 236), v], w) = ee_wh (sG P d) ([some (.ref 236), v'], w')
def RCF (P : Nat → Nat → List Value → ee_W → Option (List Value × ee_W)) (d : Nat) (w : ee_W) (q : Nat) (w' : ee_W) : Prop := ∀ v : Option Value, ee_wh (sG P d) ([some (.ref 236), v], w) = some (.inr ([.int (Int32.ofNat q)], w'))
theorem RCH_refl (w : ee_W) : RCH P d w w := fun v => ⟨v, rfl⟩
theorem RCH_trans (h : RCH P d w w1) (h2 : RCH P d w1 w2) : RCH P d w w2 := fun v => by
  obtain ⟨v1, e1⟩ := h v
  obtain ⟨v2, e2⟩ := h2 v1
  exact ⟨v2, e1.trans e2⟩
theorem RCF_of {q : Nat} (h : RCH P d w w1) (h2 : RCF P d w1 q w2) : RCF P d w q w2 := fun v => by
  obtain ⟨v1, e1⟩ := h v
  exact e1.trans (h2 v1)
theorem t_beg0 (h18 : w.1 236 18 = ee_b false) (hr : ee_run ee_B P d 224 [.ref 236] w = some ([.int 0], w1)) : RCH P d w w1 := fun v => by
  refine ⟨some (.int 0), ?_⟩
  have tt : sG P d ([some (.ref 236), v], w) = some (.inl ([some (.ref 236), some (.int 0)], w1)) := by
    unfold sG
    simp +decide only [h18, hr, lb_213_1, ee_turn, k_0, k_1, nz_1, v_call, v_cons, v_get, v_int, v_loc, v_nil, v_z, w_exp0, w_exp1, w_if, w_put, w_ret, w_seq, w_set, w_skip, List.getElem?_cons_zero, List.getElem?_cons_succ, List.set_cons_zero, List.set_cons_succ, ee_cmp0, ee_cmp1, ee_cmp2, ee_cmp3, ee_cmp4, ee_cmp5, ee_cmpL0, ee_cmpL1, ee_cmpL2, ee_cmpL3, ee_cmpL4, ee_cmpL5, ee_tru_eb, decide_eq_true_eq, ib_i, ie_b, ie_f, ie_t, ib_l, fin_i, fin_l, fin_v, fin_z, fin_a, fin_n, ee_b_0, ee_fld0, ee_fld1, ee_fld2, ee_fld3, bi_0, bi_1, bi_2, bi_3, bi_4, bi_5, bi_6, bi_7, bi_8, bi_9, bi_10, bl_20, bl_21, bl_22, bl_23, bl_24, bl_25, bl_26, bl_48, bl_49, un_0, un_1, un_2, un_3, if_true, if_false, ite_true, ite_false, Bool.false_eq_true, Bool.not_eq_false, decide_not, Bool.not_not, reduceCtorEq, st_i, st_l, st_r, st_n, ee_noL, ee_noL.eq_1, List.length_cons, List.length_nil, Nat.reduceAdd, Nat.reduceLT, Nat.zero_add, and_true, true_and, and_self, fin_ite, pu_0, pu_1, pu_3, sto_0, el_0, Bool.not_eq_true, decide_eq_false_iff_not, Bool.decide_eq_true, Bool.decide_eq_false, decide_true, decide_false, Bool.not_true, Bool.not_false, Bool.and_self, Bool.and_true, Bool.and_false, Bool.true_and, Bool.false_and, Bool.or_true, Bool.or_false, Bool.true_or, Bool.false_or, if_true, if_false, Bool.false_eq_true, tc_0, ix_0, tc_1, ix_1, mz_0, mz_1, mz_a, rvs, j_s, j_a, wI_at, Nat.reduceEqDiff, zero_ne_one_n, one_ne_zero_n]
    rfl
  rw [ee_wh_eq, tt]
theorem t_begq {q : Nat} (hq : 1 ≤ q ∧ q < 100) (h18 : w.1 236 18 = ee_b false) (hr : ee_run ee_B P d 224 [.ref 236] w = some ([.int (Int32.ofNat q)], w1)) : RCF P d w q w1 := fun v => by
  have nz : ¬ Int32.ofNat q = 0 := fun z => by
    have := (kq (k := q) (m := 0) (by omega) (by omega)).mp z
    omega
  have tt : sG P d ([some (.ref 236), v], w) = some (.inr (.inr ([.int (Int32.ofNat q)], w1))) := by
    unfold sG
    simp +decide only [h18, hr, nz, lb_213_1, ee_turn, k_0, k_1, nz_1, v_call, v_cons, v_get, v_int, v_loc, v_nil, v_z, w_exp0, w_exp1, w_if, w_put, w_ret, w_seq, w_set, w_skip, List.getElem?_cons_zero, List.getElem?_cons_succ, List.set_cons_zero, List.set_cons_succ, ee_cmp0, ee_cmp1, ee_cmp2, ee_cmp3, ee_cmp4, ee_cmp5, ee_cmpL0, ee_cmpL1, ee_cmpL2, ee_cmpL3, ee_cmpL4, ee_cmpL5, ee_tru_eb, decide_eq_true_eq, ib_i, ie_b, ie_f, ie_t, ib_l, fin_i, fin_l, fin_v, fin_z, fin_a, fin_n, ee_b_0, ee_fld0, ee_fld1, ee_fld2, ee_fld3, bi_0, bi_1, bi_2, bi_3, bi_4, bi_5, bi_6, bi_7, bi_8, bi_9, bi_10, bl_20, bl_21, bl_22, bl_23, bl_24, bl_25, bl_26, bl_48, bl_49, un_0, un_1, un_2, un_3, if_true, if_false, ite_true, ite_false, Bool.false_eq_true, Bool.not_eq_false, decide_not, Bool.not_not, reduceCtorEq, st_i, st_l, st_r, st_n, ee_noL, ee_noL.eq_1, List.length_cons, List.length_nil, Nat.reduceAdd, Nat.reduceLT, Nat.zero_add, and_true, true_and, and_self, fin_ite, pu_0, pu_1, pu_3, sto_0, el_0, Bool.not_eq_true, decide_eq_false_iff_not, Bool.decide_eq_true, Bool.decide_eq_false, decide_true, decide_false, Bool.not_true, Bool.not_false, Bool.and_self, Bool.and_true, Bool.and_false, Bool.true_and, Bool.false_and, Bool.or_true, Bool.or_false, Bool.true_or, Bool.false_or, if_true, if_false, Bool.false_eq_true, tc_0, ix_0, tc_1, ix_1, mz_0, mz_1, mz_a, rvs, j_s, j_a, wI_at, Nat.reduceEqDiff, zero_ne_one_n, one_ne_zero_n]
    rfl
  rw [ee_wh_eq, tt]
theorem t_beh1 (h18 : w.1 236 18 = ee_b true) (hr : ee_run ee_B P d 214 [.ref 236] w = some ([.int 1], w1)) : RCH P d w w1 := fun v => by
  refine ⟨v, ?_⟩
  have tt : sG P d ([some (.ref 236), v], w) = some (.inl ([some (.ref 236), v], w1)) := by
    unfold sG
    simp +decide only [h18, hr, lb_213_1, ee_turn, k_0, k_1, nz_1, v_call, v_cons, v_get, v_int, v_loc, v_nil, v_z, w_exp0, w_exp1, w_if, w_put, w_ret, w_seq, w_set, w_skip, List.getElem?_cons_zero, List.getElem?_cons_succ, List.set_cons_zero, List.set_cons_succ, ee_cmp0, ee_cmp1, ee_cmp2, ee_cmp3, ee_cmp4, ee_cmp5, ee_cmpL0, ee_cmpL1, ee_cmpL2, ee_cmpL3, ee_cmpL4, ee_cmpL5, ee_tru_eb, decide_eq_true_eq, ib_i, ie_b, ie_f, ie_t, ib_l, fin_i, fin_l, fin_v, fin_z, fin_a, fin_n, ee_b_0, ee_fld0, ee_fld1, ee_fld2, ee_fld3, bi_0, bi_1, bi_2, bi_3, bi_4, bi_5, bi_6, bi_7, bi_8, bi_9, bi_10, bl_20, bl_21, bl_22, bl_23, bl_24, bl_25, bl_26, bl_48, bl_49, un_0, un_1, un_2, un_3, if_true, if_false, ite_true, ite_false, Bool.false_eq_true, Bool.not_eq_false, decide_not, Bool.not_not, reduceCtorEq, st_i, st_l, st_r, st_n, ee_noL, ee_noL.eq_1, List.length_cons, List.length_nil, Nat.reduceAdd, Nat.reduceLT, Nat.zero_add, and_true, true_and, and_self, fin_ite, pu_0, pu_1, pu_3, sto_0, el_0, Bool.not_eq_true, decide_eq_false_iff_not, Bool.decide_eq_true, Bool.decide_eq_false, decide_true, decide_false, Bool.not_true, Bool.not_false, Bool.and_self, Bool.and_true, Bool.and_false, Bool.true_and, Bool.false_and, Bool.or_true, Bool.or_false, Bool.true_or, Bool.false_or, if_true, if_false, Bool.false_eq_true, tc_0, ix_0, tc_1, ix_1, mz_0, mz_1, mz_a, rvs, j_s, j_a, wI_at, Nat.reduceEqDiff, zero_ne_one_n, one_ne_zero_n]
    rfl
  rw [ee_wh_eq, tt]
theorem t_beh0 (h18 : w.1 236 18 = ee_b true) (hr : ee_run ee_B P d 214 [.ref 236] w = some ([.int 0], w)) {o : Nat} (ho : 1 ≤ o ∧ o ≤ 43) (hn : ee_run ee_B P d 216 [.ref 236] w = some ([.int (opi o)], w)) : RCF P d w 1 w := fun v => by
  have z : (0 : Int32) ≤ Int32.ofNat o := (j_le (a := 0) (by omega) (by omega)).2 (by omega)
  rw [opi_p (show o ≠ 0 by omega)] at hn
  have tt : sG P d ([some (.ref 236), v], w) = some (.inr (.inr ([.int 1], w))) := by
    unfold sG
    simp +decide only [h18, hr, hn, z, lb_213_1, ee_turn, k_0, k_1, nz_1, v_call, v_cons, v_get, v_int, v_loc, v_nil, v_z, w_exp0, w_exp1, w_if, w_put, w_ret, w_seq, w_set, w_skip, List.getElem?_cons_zero, List.getElem?_cons_succ, List.set_cons_zero, List.set_cons_succ, ee_cmp0, ee_cmp1, ee_cmp2, ee_cmp3, ee_cmp4, ee_cmp5, ee_cmpL0, ee_cmpL1, ee_cmpL2, ee_cmpL3, ee_cmpL4, ee_cmpL5, ee_tru_eb, decide_eq_true_eq, ib_i, ie_b, ie_f, ie_t, ib_l, fin_i, fin_l, fin_v, fin_z, fin_a, fin_n, ee_b_0, ee_fld0, ee_fld1, ee_fld2, ee_fld3, bi_0, bi_1, bi_2, bi_3, bi_4, bi_5, bi_6, bi_7, bi_8, bi_9, bi_10, bl_20, bl_21, bl_22, bl_23, bl_24, bl_25, bl_26, bl_48, bl_49, un_0, un_1, un_2, un_3, if_true, if_false, ite_true, ite_false, Bool.false_eq_true, Bool.not_eq_false, decide_not, Bool.not_not, reduceCtorEq, st_i, st_l, st_r, st_n, ee_noL, ee_noL.eq_1, List.length_cons, List.length_nil, Nat.reduceAdd, Nat.reduceLT, Nat.zero_add, and_true, true_and, and_self, fin_ite, pu_0, pu_1, pu_3, sto_0, el_0, Bool.not_eq_true, decide_eq_false_iff_not, Bool.decide_eq_true, Bool.decide_eq_false, decide_true, decide_false, Bool.not_true, Bool.not_false, Bool.and_self, Bool.and_true, Bool.and_false, Bool.true_and, Bool.false_and, Bool.or_true, Bool.or_false, Bool.true_or, Bool.false_or, if_true, if_false, Bool.false_eq_true, tc_0, ix_0, tc_1, ix_1, mz_0, mz_1, mz_a, rvs, j_s, j_a, wI_at, Nat.reduceEqDiff, zero_ne_one_n, one_ne_zero_n]
    rfl
  rw [ee_wh_eq, tt, k_1]
theorem t_end (h18 : w.1 236 18 = ee_b true) (hr : ee_run ee_B P d 214 [.ref 236] w = some ([.int 0], w)) (hn : ee_run ee_B P d 216 [.ref 236] w = some ([.int (-1)], w)) (hs : ee_run ee_B P d 221 [.ref 236, .int 1] w = some ([], w1)) : RCF P d w 0 w1 := fun v => by
  have z : ¬ (0 : Int32) ≤ -1 := by decide
  have tt : sG P d ([some (.ref 236), v], w) = some (.inr (.inr ([.int 0], w1))) := by
    unfold sG
    simp +decide only [h18, hr, hn, z, hs, lb_213_1, ee_turn, k_0, k_1, nz_1, v_call, v_cons, v_get, v_int, v_loc, v_nil, v_z, w_exp0, w_exp1, w_if, w_put, w_ret, w_seq, w_set, w_skip, List.getElem?_cons_zero, List.getElem?_cons_succ, List.set_cons_zero, List.set_cons_succ, ee_cmp0, ee_cmp1, ee_cmp2, ee_cmp3, ee_cmp4, ee_cmp5, ee_cmpL0, ee_cmpL1, ee_cmpL2, ee_cmpL3, ee_cmpL4, ee_cmpL5, ee_tru_eb, decide_eq_true_eq, ib_i, ie_b, ie_f, ie_t, ib_l, fin_i, fin_l, fin_v, fin_z, fin_a, fin_n, ee_b_0, ee_fld0, ee_fld1, ee_fld2, ee_fld3, bi_0, bi_1, bi_2, bi_3, bi_4, bi_5, bi_6, bi_7, bi_8, bi_9, bi_10, bl_20, bl_21, bl_22, bl_23, bl_24, bl_25, bl_26, bl_48, bl_49, un_0, un_1, un_2, un_3, if_true, if_false, ite_true, ite_false, Bool.false_eq_true, Bool.not_eq_false, decide_not, Bool.not_not, reduceCtorEq, st_i, st_l, st_r, st_n, ee_noL, ee_noL.eq_1, List.length_cons, List.length_nil, Nat.reduceAdd, Nat.reduceLT, Nat.zero_add, and_true, true_and, and_self, fin_ite, pu_0, pu_1, pu_3, sto_0, el_0, Bool.not_eq_true, decide_eq_false_iff_not, Bool.decide_eq_true, Bool.decide_eq_false, decide_true, decide_false, Bool.not_true, Bool.not_false, Bool.and_self, Bool.and_true, Bool.and_false, Bool.true_and, Bool.false_and, Bool.or_true, Bool.or_false, Bool.true_or, Bool.false_or, if_true, if_false, Bool.false_eq_true, tc_0, ix_0, tc_1, ix_1, mz_0, mz_1, mz_a, rvs, j_s, j_a, wI_at, Nat.reduceEqDiff, zero_ne_one_n, one_ne_zero_n]
    rfl
  rw [ee_wh_eq, tt, k_0]
/-- a tree's instructions, of which the last lie on the pile -/
def PND (code : Nat → Int32 × Int32) (e : ee_T) (A B : Nat) (ps : List Nat) : Prop := ∀ c : Nat → Int32 × Int32, (∀ k, A ≤ k → k < B → c k = code k) → emo c B ps → mseg c e A (B + ps.length)
theorem mseg_congr {c1 c2 : Nat → Int32 × Int32} : ∀ N e, esz e ≤ N → ∀ f t, mseg c1 e f t → (∀ k, f ≤ k → k < t → c2 k = c1 k) → mseg c2 e f t := by
  intro N
  induction N with
  | zero =>
    intro e he
    cases e <;> simp only [esz] at he <;> omega
  | succ N ih =>
    intro e he f t h hk
    unfold mseg at h ⊢
    split at h
    · rename_i o v
      exact ⟨h.1, by rw [hk f (by omega) (by omega)]; exact h.2⟩
    · rename_i o a
      obtain ⟨m, h1, h2, h3⟩ := h
      simp only [esz] at he
      have lt := mseg_lt _ _ _ (Nat.le_refl _) _ _ h1
      exact ⟨m, ih a (by omega) f m h1 (fun k k1 k2 => hk k k1 (by omega)), h2, by rw [hk m (by omega) (by omega)]; exact h3⟩
    · rename_i o a b
      obtain ⟨m, k, h1, h2, h3, h4⟩ := h
      simp only [esz] at he
      have lt := mseg_lt _ _ _ (Nat.le_refl _) _ _ h1
      have lt2 := mseg_lt _ _ _ (Nat.le_refl _) _ _ h2
      exact ⟨m, k, ih a (by omega) f m h1 (fun k k1 k2 => hk k k1 (by omega)), ih b (by omega) m k h2 (fun k k1 k2 => hk k (by omega) (by omega)), h3, by rw [hk k (by omega) (by omega)]; exact h4⟩
    · rename_i c a b
      obtain ⟨m, k, q, h1, h2, h3, h4, h5⟩ := h
      simp only [esz] at he
      have lt := mseg_lt _ _ _ (Nat.le_refl _) _ _ h1
      have lt2 := mseg_lt _ _ _ (Nat.le_refl _) _ _ h2
      have lt3 := mseg_lt _ _ _ (Nat.le_refl _) _ _ h3
      exact ⟨m, k, q, ih c (by omega) f m h1 (fun k k1 k2 => hk k k1 (by omega)), ih a (by omega) m k h2 (fun k k1 k2 => hk k (by omega) (by omega)), ih b (by omega) k q h3 (fun k k1 k2 => hk k (by omega) (by omega)), h4, by rw [hk q (by omega) (by omega)]; exact h5⟩
    · exact h.elim
theorem mseg_cg {c1 c2 : Nat → Int32 × Int32} {e : ee_T} {f t : Nat} (h : mseg c1 e f t) (hk : ∀ k, f ≤ k → k < t → c2 k = c1 k) : mseg c2 e f t := mseg_congr _ e (Nat.le_refl _) f t h hk
theorem PND_0 {code : Nat → Int32 × Int32} {e : ee_T} {A B : Nat} (h : mseg code e A B) : PND code e A B [] := fun c hc _ => by
  rw [List.length_nil, Nat.add_zero]
  exact mseg_cg h hc
theorem emo_1 {c : Nat → Int32 × Int32} {B o : Nat} : emo c B (ps ++ [o]) ↔ emo c B ps ∧ (c (B + ps.length)).1 = Int32.ofNat o := by
  rw [emo_app, emo_cons]
  exact ⟨fun h => ⟨h.1, h.2.1⟩, fun h => ⟨h.1, h.2, emo_nil _ _⟩⟩
theorem PND_bin {code : Nat → Int32 × Int32} {x e : ee_T} {A B C o k : Nat} (ho : mo k = o) (h1 : mseg code x A B) (h2 : PND code e B C ps) (hB : B ≤ C) : PND code (l_bin k x e) A C (ps ++ [o]) := fun c hc he => by
  rw [emo_1] at he
  have lt := mseg_lt _ _ _ (Nat.le_refl _) _ _ h1
  have h3 := h2 c (fun k k1 k2 => hc k (by omega) k2) he.1
  rw [List.length_append, show ([o] : List Nat).length = 1 from rfl]
  show ∃ m k', mseg c x A m ∧ mseg c e m k' ∧ C + (ps.length + 1) = k' + 1 ∧ (c k').1 = Int32.ofNat (mo k)
  exact ⟨B, C + ps.length, mseg_cg h1 (fun k k1 k2 => hc k k1 (by omega)), h3, by omega, by rw [ho]; exact he.2⟩
theorem PND_un {code : Nat → Int32 × Int32} {e : ee_T} {A B o k : Nat} (ho : mo k = o) (h : PND code e A B ps) : PND code (l_un k e) A B (ps ++ [o]) := fun c hc he => by
  rw [emo_1] at he
  rw [List.length_append, show ([o] : List Nat).length = 1 from rfl]
  show ∃ m, mseg c e A m ∧ B + (ps.length + 1) = m + 1 ∧ (c m).1 = Int32.ofNat (mo k)
  exact ⟨B + ps.length, h c hc he.1, by omega, by rw [ho]; exact he.2⟩
/-- what can't stand behind a mode's end -/
def pe (md K : Nat) : Prop := if md = 0 ∨ md = 1 ∨ md = 9 then ¬ (31 ≤ K ∧ K ≤ 34) else if md = 2 ∨ md = 3 then ¬ (33 ≤ K ∧ K ≤ 34) else if md = 7 ∨ md = 8 then ¬ K = 16 ∧ ¬ (31 ≤ K ∧ K ≤ 34) else if md = 5 ∨ md = 6 then ¬ K = 16 ∧ ¬ K = 17 ∧ ¬ (31 ≤ K ∧ K ≤ 34) else True
def psu (md : Nat) : Nat := if md = 1 then 2 else if md = 3 then 4 else if md = 6 then 7 else 9
theorem pp_end {K V : Nat → Nat} : ∀ F md D i x e j, md ≤ 10 → pp K V law F md D i x = some (.inl (e, j)) → (prs md = true → pe (psu md) (K i)) → pe md (K j) := by
  intro F
  induction F with
  | zero => intro md D i x e j _ h; cases h
  | succ F ih =>
    intro md D i x e j hmd h hx
    have : md = 0 ∨ md = 1 ∨ md = 2 ∨ md = 3 ∨ md = 4 ∨ md = 5 ∨ md = 6 ∨ md = 7 ∨ md = 8 ∨ md = 9 ∨ md = 10 := by omega
    rcases this with rfl | rfl | rfl | rfl | rfl | rfl | rfl | rfl | rfl | rfl | rfl
    · rw [pp_0] at h
      obtain ⟨e1, j1, h1, h2⟩ := pb_l h
      exact ih 1 D j1 e1 e j (by omega) h2 (fun _ => ih 2 D i x e1 j1 (by omega) h1 (fun z => by cases z))
    · rw [pp_1] at h
      have hx := hx rfl
      by_cases c : K i = 31 ∨ K i = 32
      · rw [if_pos c] at h
        obtain ⟨e1, j1, h1, h2⟩ := pb_l h
        exact ih 1 D j1 _ e j (by omega) h2 (fun _ => ih 2 D (i + 1) x e1 j1 (by omega) h1 (fun z => by cases z))
      · rw [if_neg c] at h
        cases h
        have hx : pe 2 (K i) := hx
        unfold pe at hx ⊢
        simp at hx ⊢
        omega
    · rw [pp_2] at h
      obtain ⟨e1, j1, h1, h2⟩ := pb_l h
      exact ih 3 D j1 e1 e j (by omega) h2 (fun _ => ih 4 D i x e1 j1 (by omega) h1 (fun z => by cases z))
    · rw [pp_3] at h
      have hx := hx rfl
      by_cases c : K i = 33 ∨ K i = 34
      · rw [if_pos c] at h
        obtain ⟨e1, j1, h1, h2⟩ := pb_l h
        exact ih 3 D j1 _ e j (by omega) h2 (fun _ => ih 4 D (i + 1) x e1 j1 (by omega) h1 (fun z => by cases z))
      · rw [if_neg c] at h
        cases h
        unfold pe
        simp
        omega
    · unfold pe; simp
    · rw [pp_5] at h
      obtain ⟨e1, j1, h1, h2⟩ := pb_l h
      exact ih 6 D j1 e1 e j (by omega) h2 (fun _ => ih 7 D i x e1 j1 (by omega) h1 (fun z => by cases z))
    · rw [pp_6] at h
      have hx := hx rfl
      by_cases c : K i = 17
      · rw [if_pos c] at h
        obtain ⟨e1, j1, h1, h2⟩ := pb_l h
        exact ih 6 D j1 _ e j (by omega) h2 (fun _ => ih 7 D (i + 1) x e1 j1 (by omega) h1 (fun z => by cases z))
      · rw [if_neg c] at h
        cases h
        have hx : pe 7 (K i) := hx
        unfold pe at hx ⊢
        simp at hx ⊢
        omega
    · rw [pp_7] at h
      obtain ⟨e1, j1, h1, h2⟩ := pb_l h
      exact ih 8 D j1 e1 e j (by omega) h2 (fun _ => ih 9 D i x e1 j1 (by omega) h1 (fun z => by cases z))
    · rw [pp_8] at h
      have hx := hx rfl
      by_cases c : K i = 16
      · rw [if_pos c] at h
        obtain ⟨e1, j1, h1, h2⟩ := pb_l h
        exact ih 8 D j1 _ e j (by omega) h2 (fun _ => ih 9 D (i + 1) x e1 j1 (by omega) h1 (fun z => by cases z))
      · rw [if_neg c] at h
        cases h
        have hx : pe 9 (K i) := hx
        unfold pe at hx ⊢
        simp at hx ⊢
        omega
    · rw [pp_9] at h
      by_cases c : K i = 15
      · rw [if_pos c] at h
        by_cases v : 8 ≤ D
        · rw [if_pos v] at h; cases h
        · rw [if_neg v] at h
          obtain ⟨e1, j1, h1, h2⟩ := pb_l h
          cases h2
          exact ih 9 (D + 1) (i + 1) x e1 _ (by omega) h1 (fun z => by cases z)
      · rw [if_neg c] at h
        obtain ⟨e1, j1, h1, h2⟩ := pb_l h
        by_cases v : 25 ≤ K j1 ∧ K j1 ≤ 30
        · rw [if_pos v] at h2
          obtain ⟨e2, j2, h3, h4⟩ := pb_l h2
          cases h4
          exact ih 0 D (j1 + 1) x e2 _ (by omega) h3 (fun z => by cases z)
        · rw [if_neg v] at h2; cases h2
    · unfold pe; simp
end RCS
