/-! the class's parser: its leaves -/
section PLF
variable {P : Nat → Nat → List Value → ee_W → Option (List Value × ee_W)} {d : Nat} {w : ee_W} {f : Nat → Int32} {n c b law i l : Nat}
theorem cseg_congr {c1 c2 : Nat → Int32} : ∀ N e, esz e ≤ N → ∀ f t, cseg c1 e f t → (∀ k, f ≤ k → k < t → c2 k = c1 k) → cseg c2 e f t := by
  intro N
  induction N with
  | zero =>
    intro e he
    cases e <;> simp only [esz] at he <;> omega
  | succ N ih =>
    intro e he f t h hk
    unfold cseg at h ⊢
    split at h
    · rename_i o v
      exact ⟨h.1, by rw [hk f (by omega) (by omega)]; exact h.2⟩
    · rename_i o a
      obtain ⟨m, h1, h2, h3⟩ := h
      simp only [esz] at he
      have lt := cseg_lt _ _ _ (Nat.le_refl _) _ _ h1
      exact ⟨m, ih a (by omega) f m h1 (fun k k1 k2 => hk k k1 (by omega)), h2, by rw [hk m (by omega) (by omega)]; exact h3⟩
    · rename_i o a b
      obtain ⟨m, k, h1, h2, h3, h4⟩ := h
      simp only [esz] at he
      have lt := cseg_lt _ _ _ (Nat.le_refl _) _ _ h1
      have lt2 := cseg_lt _ _ _ (Nat.le_refl _) _ _ h2
      exact ⟨m, k, ih a (by omega) f m h1 (fun k k1 k2 => hk k k1 (by omega)), ih b (by omega) m k h2 (fun k k1 k2 => hk k (by omega) (by omega)), h3, by rw [hk k (by omega) (by omega)]; exact h4⟩
    · rename_i c a b
      obtain ⟨m, k, h1, h2, h3, h4, h5⟩ := h
      simp only [esz] at he
      have lt := cseg_lt _ _ _ (Nat.le_refl _) _ _ h1
      have lt2 := cseg_lt _ _ _ (Nat.le_refl _) _ _ h3
      have lt3 := cseg_lt _ _ _ (Nat.le_refl _) _ _ h5
      exact ⟨m, k, ih c (by omega) f m h1 (fun k k1 k2 => hk k k1 (by omega)), by rw [hk m (by omega) (by omega)]; exact h2, ih a (by omega) (m + 1) k h3 (fun k k1 k2 => hk k (by omega) (by omega)), by rw [hk k (by omega) (by omega)]; exact h4, ih b (by omega) (k + 1) t h5 (fun k k1 k2 => hk k (by omega) k2)⟩
    · exact h.elim
theorem cseg_cg {c1 c2 : Nat → Int32} {e : ee_T} {f t : Nat} (h : cseg c1 e f t) (hk : ∀ k, f ≤ k → k < t → c2 k = c1 k) : cseg c2 e f t := cseg_congr _ e (Nat.le_refl _) f t h hk
def ppr (b c k : Nat) : Prop := (c = 225 ∧ (k = 4 ∨ k = 4 ∨ k = 4)) ∨ (c = b ∧ k = 5) ∨ c = b + 4
def ppf (b c k : Nat) : Prop := (c = 225 ∧ (k = 4 ∨ k = 6 ∨ k = 7)) ∨ (c = b ∧ k = 5) ∨ c = b + 4
theorem ppr_f {b : Nat} {w w' : ee_W} (h : chk (ppr b) w w') : chk (ppf b) w w' := chk_mono h (fun c k h => by unfold ppr at h; unfold ppf; omega)
def bok (b : Nat) : Prop := 202 ≤ b ∧ b + 4 < 222 ∧ tx_ok b
/-- the parser stands at token i, l instructions have been written -/
def PS (w : ee_W) (n : Nat) (f : Nat → Int32) (c b law i l : Nat) : Prop := TOK w n f c ∧ w.1 225 4 = Int32.ofNat i ∧ w.1 225 5 = Int32.ofNat law ∧ w.1 b 5 = Int32.ofNat l ∧ i ≤ c ∧ l ≤ i ∧ bok b
theorem TOK_chk {w' : ee_W} {p : Nat → Nat → Prop} (hT : TOK w n f c) (hc : chk p w w') (h3 : ¬ p 225 3) (hp : ∀ x k, 226 ≤ x → x ≤ 228 → ¬ p x k) : TOK w' n f c := by
  obtain ⟨h1, h2, h4, h5, h6⟩ := hT
  refine ⟨h1, (hc.1 _ _ h3).trans h2, fun i hi => ?_, h5, h6⟩
  rw [hc.1 _ _ (hp 226 _ (by omega) (by omega)), hc.1 _ _ (hp 227 _ (by omega) (by omega)), hc.1 _ _ (hp 228 _ (by omega) (by omega))]
  exact h4 i hi
theorem TOK_p {w' : ee_W} (hb : bok b) (hT : TOK w n f c) (hc : chk (ppr b) w w') : TOK w' n f c := by
  obtain ⟨b1, b2, -⟩ := hb
  exact TOK_chk hT hc (by unfold ppr; omega) (fun x k h1 h2 => by unfold ppr; omega)
theorem ps_n9 (h : PS w n f c b law i l) (hk : (tkn f n i).1 ≠ 39) : i + 1 ≤ c := by
  obtain ⟨⟨-, -, -, -, h6⟩, -, -, -, h7, -⟩ := h
  by_cases y : i = c
  · rw [y] at hk; exact absurd h6 hk
  · omega
theorem r_kind (hd : 2 ≤ d) (h : PS w n f c b law i l) : ee_run ee_B P d 39 [.ref 225] w = some ([.int (Int32.ofNat (tkn f n i).1)], w) := by
  obtain ⟨d, rfl⟩ : ∃ k, d = k + 1 := ⟨d - 1, by omega⟩
  have hd1 : 1 ≤ d := by omega
  obtain ⟨⟨t1, t2, t3, t4, t5⟩, h2, h3, h4, h5, h6, -⟩ := h
  obtain ⟨r0, r1, r2, r3, r4, r5⟩ := rd_r
  have q1 : (decide ((0 : Int32) ≤ Int32.ofNat i) && decide (Int32.ofNat i ≤ 300)) = true := (inb (b := 300) (by omega) (by omega)).trans (decide_eq_true (by omega))
  have c1 : Int32.ofNat i < Int32.ofNat (c + 1) := (j_lt (by omega) (by omega)).2 (by omega)
  have x1 : ee_ix (Int32.ofNat i) 301 = true := by rw [ixn (by omega)]; exact decide_eq_true (by omega)
  have v := (t3 i h5).1
  rw [rn_39 rd_225]
  simp only [h2, t2, r_within hd1, q1, c1, x1, v, tnc (show i < 2147483648 by omega), rd_225, r0, r3, rvs, bd_39, k_0, k_300, k_39, nz_300, nz_39, v_and, v_call, v_cmp, v_cons, v_get, v_idx, v_int, v_loc, v_nil, v_tern, v_z, w_ret, List.getElem?_cons_zero, List.getElem?_cons_succ, List.set_cons_zero, List.set_cons_succ, ee_cmp0, ee_cmp1, ee_cmp2, ee_cmp3, ee_cmp4, ee_cmp5, ee_cmpL0, ee_cmpL1, ee_cmpL2, ee_cmpL3, ee_cmpL4, ee_cmpL5, ee_tru_eb, decide_eq_true_eq, ib_i, ie_b, ie_f, ie_t, ib_l, fin_i, fin_l, fin_v, fin_z, fin_a, fin_n, ee_b_0, ee_fld0, ee_fld1, ee_fld2, ee_fld3, bi_0, bi_1, bi_2, bi_3, bi_4, bi_5, bi_6, bi_7, bi_8, bi_9, bi_10, bl_20, bl_21, bl_22, bl_23, bl_24, bl_25, bl_26, bl_48, bl_49, un_0, un_1, un_2, un_3, if_true, if_false, ite_true, ite_false, Bool.false_eq_true, Bool.not_eq_false, decide_not, Bool.not_not, reduceCtorEq, st_i, st_l, st_r, st_n, ee_noL, ee_noL.eq_1, List.length_cons, List.length_nil, Nat.reduceAdd, Nat.reduceLT, Nat.zero_add, and_true, true_and, and_self, fin_ite, pu_0, pu_1, pu_3, sto_0, el_0, Bool.not_eq_true, decide_eq_false_iff_not, Bool.decide_eq_true, Bool.decide_eq_false, decide_true, decide_false, Bool.not_true, Bool.not_false, Bool.and_self, Bool.and_true, Bool.and_false, Bool.true_and, Bool.false_and, Bool.or_true, Bool.or_false, Bool.true_or, Bool.false_or, if_true, if_false, Bool.false_eq_true]
theorem r_value (hd : 2 ≤ d) (h : PS w n f c b law i l) : ee_run ee_B P d 47 [.ref 225] w = some ([.int (Int32.ofNat (tkn f n i).2.1)], w) := by
  obtain ⟨d, rfl⟩ : ∃ k, d = k + 1 := ⟨d - 1, by omega⟩
  have hd1 : 1 ≤ d := by omega
  obtain ⟨⟨t1, t2, t3, t4, t5⟩, h2, h3, h4, h5, h6, -⟩ := h
  obtain ⟨r0, r1, r2, r3, r4, r5⟩ := rd_r
  have q1 : (decide ((0 : Int32) ≤ Int32.ofNat i) && decide (Int32.ofNat i ≤ 300)) = true := (inb (b := 300) (by omega) (by omega)).trans (decide_eq_true (by omega))
  have x1 : ee_ix (Int32.ofNat i) 301 = true := by rw [ixn (by omega)]; exact decide_eq_true (by omega)
  have v := (t3 i h5).2.2
  rw [rn_47 rd_225]
  simp only [h2, r_within hd1, q1, x1, v, tnc (show i < 2147483648 by omega), rd_225, r2, r5, rvs, bd_47, k_0, k_300, nz_300, v_call, v_cons, v_get, v_idx, v_int, v_loc, v_nil, v_tern, v_z, w_ret, List.getElem?_cons_zero, List.getElem?_cons_succ, List.set_cons_zero, List.set_cons_succ, ee_cmp0, ee_cmp1, ee_cmp2, ee_cmp3, ee_cmp4, ee_cmp5, ee_cmpL0, ee_cmpL1, ee_cmpL2, ee_cmpL3, ee_cmpL4, ee_cmpL5, ee_tru_eb, decide_eq_true_eq, ib_i, ie_b, ie_f, ie_t, ib_l, fin_i, fin_l, fin_v, fin_z, fin_a, fin_n, ee_b_0, ee_fld0, ee_fld1, ee_fld2, ee_fld3, bi_0, bi_1, bi_2, bi_3, bi_4, bi_5, bi_6, bi_7, bi_8, bi_9, bi_10, bl_20, bl_21, bl_22, bl_23, bl_24, bl_25, bl_26, bl_48, bl_49, un_0, un_1, un_2, un_3, if_true, if_false, ite_true, ite_false, Bool.false_eq_true, Bool.not_eq_false, decide_not, Bool.not_not, reduceCtorEq, st_i, st_l, st_r, st_n, ee_noL, ee_noL.eq_1, List.length_cons, List.length_nil, Nat.reduceAdd, Nat.reduceLT, Nat.zero_add, and_true, true_and, and_self, fin_ite, pu_0, pu_1, pu_3, sto_0, el_0, Bool.not_eq_true, decide_eq_false_iff_not, Bool.decide_eq_true, Bool.decide_eq_false, decide_true, decide_false, Bool.not_true, Bool.not_false, Bool.and_self, Bool.and_true, Bool.and_false, Bool.true_and, Bool.false_and, Bool.or_true, Bool.or_false, Bool.true_or, Bool.false_or, if_true, if_false, Bool.false_eq_true]
abbrev rfw (w : ee_W) (q s : Nat) : ee_W := ee_wI (ee_wI w 225 6 (Int32.ofNat q)) 225 7 (Int32.ofNat s)
theorem r_refuse (hd : 2 ≤ d) (h : PS w n f c b law i l) (q : Nat) : ee_run ee_B P d 41 [.ref 225, .int (Int32.ofNat q)] w = some ([.int 0], rfw w q (tkn f n i).2.2.1) := by
  obtain ⟨d, rfl⟩ : ∃ k, d = k + 1 := ⟨d - 1, by omega⟩
  have hd1 : 1 ≤ d := by omega
  obtain ⟨⟨t1, t2, t3, t4, t5⟩, h2, h3, h4, h5, h6, -⟩ := h
  obtain ⟨r0, r1, r2, r3, r4, r5⟩ := rd_r
  have q1 : (decide ((0 : Int32) ≤ Int32.ofNat i) && decide (Int32.ofNat i ≤ 300)) = true := (inb (b := 300) (by omega) (by omega)).trans (decide_eq_true (by omega))
  have x1 : ee_ix (Int32.ofNat i) 301 = true := by rw [ixn (by omega)]; exact decide_eq_true (by omega)
  have v : (ee_wI w 225 6 (Int32.ofNat q)).1 227 i = Int32.ofNat (tkn f n i).2.2.1 := by rw [wI_at, if_neg (by omega)]; exact (t3 i h5).2.1
  have h2' : (ee_wI w 225 6 (Int32.ofNat q)).1 225 4 = Int32.ofNat i := by rw [wI_at, if_neg (by omega)]; exact h2
  unfold rfw
  rw [rn_41 rd_225]
  simp only [h2', r_within hd1, q1, x1, v, tnc (show i < 2147483648 by omega), rd_225, r1, r4, rvs, bd_41, k_0, k_300, k_4294967295, nz_300, v_call, v_cons, v_get, v_idx, v_int, v_loc, v_nil, v_tern, v_z, w_put, w_ret, w_seq, List.getElem?_cons_zero, List.getElem?_cons_succ, List.set_cons_zero, List.set_cons_succ, ee_cmp0, ee_cmp1, ee_cmp2, ee_cmp3, ee_cmp4, ee_cmp5, ee_cmpL0, ee_cmpL1, ee_cmpL2, ee_cmpL3, ee_cmpL4, ee_cmpL5, ee_tru_eb, decide_eq_true_eq, ib_i, ie_b, ie_f, ie_t, ib_l, fin_i, fin_l, fin_v, fin_z, fin_a, fin_n, ee_b_0, ee_fld0, ee_fld1, ee_fld2, ee_fld3, bi_0, bi_1, bi_2, bi_3, bi_4, bi_5, bi_6, bi_7, bi_8, bi_9, bi_10, bl_20, bl_21, bl_22, bl_23, bl_24, bl_25, bl_26, bl_48, bl_49, un_0, un_1, un_2, un_3, if_true, if_false, ite_true, ite_false, Bool.false_eq_true, Bool.not_eq_false, decide_not, Bool.not_not, reduceCtorEq, st_i, st_l, st_r, st_n, ee_noL, ee_noL.eq_1, List.length_cons, List.length_nil, Nat.reduceAdd, Nat.reduceLT, Nat.zero_add, and_true, true_and, and_self, fin_ite, pu_0, pu_1, pu_3, sto_0, el_0, Bool.not_eq_true, decide_eq_false_iff_not, Bool.decide_eq_true, Bool.decide_eq_false, decide_true, decide_false, Bool.not_true, Bool.not_false, Bool.and_self, Bool.and_true, Bool.and_false, Bool.true_and, Bool.false_and, Bool.or_true, Bool.or_false, Bool.true_or, Bool.false_or, if_true, if_false, Bool.false_eq_true]
  rfl
abbrev atw (w : ee_W) (i : Nat) : ee_W := ee_wI w 225 4 (Int32.ofNat i)
theorem PS_at (h : PS w n f c b law i l) (hk : (tkn f n i).1 ≠ 39) : PS (atw w (i + 1)) n f c b law (i + 1) l := by
  have i1 := ps_n9 h hk
  obtain ⟨h1, h2, h3, h4, h5, h6, h7⟩ := h
  have hc : chk (ppr b) w (atw w (i + 1)) := chk_I (Or.inl ⟨rfl, Or.inl rfl⟩) (chk_refl _ _)
  have hb := h7
  obtain ⟨b1, b2, -⟩ := h7
  refine ⟨TOK_p hb h1 hc, by unfold atw; rw [wI_at, if_pos ⟨rfl, rfl⟩], ?_, ?_, i1, by omega, hb⟩
  · unfold atw; rw [wI_at, if_neg (by omega)]; exact h3
  · unfold atw; rw [wI_at, if_neg (by omega)]; exact h4
theorem kq {k m : Nat} (hk : k < 2147483648) (hm : m < 2147483648) : (Int32.ofNat k = Int32.ofNat m) = (k = m) := by
  rw [i32_eq, nI_t hk, nI_t hm]
  exact propext ⟨fun h => by omega, fun h => by omega⟩
theorem tkn_b (f : Nat → Int32) (n i : Nat) : (tkn f n i).1 ≤ 40 ∧ (tkn f n i).2.1 ≤ 10000 := ⟨(tok_b f n _).1, (tok_b f n _).2.1⟩
theorem r_take (hd : 3 ≤ d) (h : PS w n f c b law i l) {k : Nat} (hk : k ≤ 40) (h39 : k ≠ 39) : ee_run ee_B P d 51 [.ref 225, .int (Int32.ofNat k)] w = if (tkn f n i).1 = k then some ([.int 1], atw w (i + 1)) else some ([.int 0], rfw w 1 (tkn f n i).2.2.1) := by
  obtain ⟨d, rfl⟩ : ∃ k, d = k + 1 := ⟨d - 1, by omega⟩
  have hd2 : 2 ≤ d := by omega
  have rk := r_kind (P := P) hd2 h
  have kb := (tkn_b f n i).1
  have e := kq (k := (tkn f n i).1) (m := k) (by omega) (by omega)
  have h2 := h.2.1
  rw [rn_51 rd_225]
  by_cases y : (tkn f n i).1 = k
  · have yt : ((tkn f n i).1 = k) = True := eq_true y
    rw [if_pos y]
    unfold atw
    simp only [rk, e, yt, h2, rd_225, w_opf, j_s, j_a, bd_51, k_1, nz_1, v_call, v_cmp, v_cons, v_int, v_loc, v_nil, w_if, w_opf, w_ret, w_seq, List.getElem?_cons_zero, List.getElem?_cons_succ, List.set_cons_zero, List.set_cons_succ, ee_cmp0, ee_cmp1, ee_cmp2, ee_cmp3, ee_cmp4, ee_cmp5, ee_cmpL0, ee_cmpL1, ee_cmpL2, ee_cmpL3, ee_cmpL4, ee_cmpL5, ee_tru_eb, decide_eq_true_eq, ib_i, ie_b, ie_f, ie_t, ib_l, fin_i, fin_l, fin_v, fin_z, fin_a, fin_n, ee_b_0, ee_fld0, ee_fld1, ee_fld2, ee_fld3, bi_0, bi_1, bi_2, bi_3, bi_4, bi_5, bi_6, bi_7, bi_8, bi_9, bi_10, bl_20, bl_21, bl_22, bl_23, bl_24, bl_25, bl_26, bl_48, bl_49, un_0, un_1, un_2, un_3, if_true, if_false, ite_true, ite_false, Bool.false_eq_true, Bool.not_eq_false, decide_not, Bool.not_not, reduceCtorEq, st_i, st_l, st_r, st_n, ee_noL, ee_noL.eq_1, List.length_cons, List.length_nil, Nat.reduceAdd, Nat.reduceLT, Nat.zero_add, and_true, true_and, and_self, fin_ite, pu_0, pu_1, pu_3, sto_0, el_0, Bool.not_eq_true, decide_eq_false_iff_not, Bool.decide_eq_true, Bool.decide_eq_false, decide_true, decide_false, Bool.not_true, Bool.not_false, Bool.and_self, Bool.and_true, Bool.and_false, Bool.true_and, Bool.false_and, Bool.or_true, Bool.or_false, Bool.true_or, Bool.false_or, if_true, if_false, Bool.false_eq_true]
    rfl
  · have rr := r_refuse (P := P) hd2 h 1
    rw [k_1] at rr
    rw [if_neg y]
    simp only [rk, e, y, rr, bd_51, k_1, nz_1, v_call, v_cmp, v_cons, v_int, v_loc, v_nil, w_if, w_opf, w_ret, w_seq, List.getElem?_cons_zero, List.getElem?_cons_succ, List.set_cons_zero, List.set_cons_succ, ee_cmp0, ee_cmp1, ee_cmp2, ee_cmp3, ee_cmp4, ee_cmp5, ee_cmpL0, ee_cmpL1, ee_cmpL2, ee_cmpL3, ee_cmpL4, ee_cmpL5, ee_tru_eb, decide_eq_true_eq, ib_i, ie_b, ie_f, ie_t, ib_l, fin_i, fin_l, fin_v, fin_z, fin_a, fin_n, ee_b_0, ee_fld0, ee_fld1, ee_fld2, ee_fld3, bi_0, bi_1, bi_2, bi_3, bi_4, bi_5, bi_6, bi_7, bi_8, bi_9, bi_10, bl_20, bl_21, bl_22, bl_23, bl_24, bl_25, bl_26, bl_48, bl_49, un_0, un_1, un_2, un_3, if_true, if_false, ite_true, ite_false, Bool.false_eq_true, Bool.not_eq_false, decide_not, Bool.not_not, reduceCtorEq, st_i, st_l, st_r, st_n, ee_noL, ee_noL.eq_1, List.length_cons, List.length_nil, Nat.reduceAdd, Nat.reduceLT, Nat.zero_add, and_true, true_and, and_self, fin_ite, pu_0, pu_1, pu_3, sto_0, el_0, Bool.not_eq_true, decide_eq_false_iff_not, Bool.decide_eq_true, Bool.decide_eq_false, decide_true, decide_false, Bool.not_true, Bool.not_false, Bool.and_self, Bool.and_true, Bool.and_false, Bool.true_and, Bool.false_and, Bool.or_true, Bool.or_false, Bool.true_or, Bool.false_or, if_true, if_false, Bool.false_eq_true]
    rfl
theorem r_number (hd : 3 ≤ d) (h : PS w n f c b law i l) {lo hi : Nat} (hlo : lo ≤ 10000) (hhi : hi ≤ 10000) : ee_run ee_B P d 48 [.ref 225, .int (Int32.ofNat lo), .int (Int32.ofNat hi)] w = if (tkn f n i).1 = 38 then (if lo ≤ (tkn f n i).2.1 ∧ (tkn f n i).2.1 ≤ hi then some ([.int 1], atw w (i + 1)) else some ([.int 0], rfw w 2 (tkn f n i).2.2.1)) else some ([.int 0], rfw w 1 (tkn f n i).2.2.1) := by
  obtain ⟨d, rfl⟩ : ∃ k, d = k + 1 := ⟨d - 1, by omega⟩
  have hd1 : 1 ≤ d := by omega
  have hd2 : 2 ≤ d := by omega
  have rk := r_kind (P := P) hd2 h
  have rv := r_value (P := P) hd2 h
  obtain ⟨kb, vb⟩ := tkn_b f n i
  have e : (Int32.ofNat (tkn f n i).1 = 38) = ((tkn f n i).1 = 38) := kq (k := (tkn f n i).1) (m := 38) (by omega) (by omega)
  have h2 := h.2.1
  rw [rn_48 rd_225]
  by_cases y : (tkn f n i).1 = 38
  · have yt : ((tkn f n i).1 = 38) = True := eq_true y
    rw [if_pos y]
    by_cases z : lo ≤ (tkn f n i).2.1 ∧ (tkn f n i).2.1 ≤ hi
    · have q : (decide (Int32.ofNat lo ≤ Int32.ofNat (tkn f n i).2.1) && decide (Int32.ofNat (tkn f n i).2.1 ≤ Int32.ofNat hi)) = true := by
        rw [decide_eq_true ((j_le (by omega) (by omega)).2 z.1), decide_eq_true ((j_le (by omega) (by omega)).2 z.2)]; rfl
      rw [if_pos z]
      unfold atw
      simp only [rk, rv, e, yt, r_within hd1, q, h2, rd_225, w_opf, j_s, j_a, bd_48, k_1, k_2, k_38, nz_1, nz_2, nz_38, v_call, v_cmp, v_cons, v_int, v_loc, v_nil, v_not, v_z, w_if, w_opf, w_ret, w_seq, List.getElem?_cons_zero, List.getElem?_cons_succ, List.set_cons_zero, List.set_cons_succ, ee_cmp0, ee_cmp1, ee_cmp2, ee_cmp3, ee_cmp4, ee_cmp5, ee_cmpL0, ee_cmpL1, ee_cmpL2, ee_cmpL3, ee_cmpL4, ee_cmpL5, ee_tru_eb, decide_eq_true_eq, ib_i, ie_b, ie_f, ie_t, ib_l, fin_i, fin_l, fin_v, fin_z, fin_a, fin_n, ee_b_0, ee_fld0, ee_fld1, ee_fld2, ee_fld3, bi_0, bi_1, bi_2, bi_3, bi_4, bi_5, bi_6, bi_7, bi_8, bi_9, bi_10, bl_20, bl_21, bl_22, bl_23, bl_24, bl_25, bl_26, bl_48, bl_49, un_0, un_1, un_2, un_3, if_true, if_false, ite_true, ite_false, Bool.false_eq_true, Bool.not_eq_false, decide_not, Bool.not_not, reduceCtorEq, st_i, st_l, st_r, st_n, ee_noL, ee_noL.eq_1, List.length_cons, List.length_nil, Nat.reduceAdd, Nat.reduceLT, Nat.zero_add, and_true, true_and, and_self, fin_ite, pu_0, pu_1, pu_3, sto_0, el_0, Bool.not_eq_true, decide_eq_false_iff_not, Bool.decide_eq_true, Bool.decide_eq_false, decide_true, decide_false, Bool.not_true, Bool.not_false, Bool.and_self, Bool.and_true, Bool.and_false, Bool.true_and, Bool.false_and, Bool.or_true, Bool.or_false, Bool.true_or, Bool.false_or, if_true, if_false, Bool.false_eq_true]
      rfl
    · have q : (decide (Int32.ofNat lo ≤ Int32.ofNat (tkn f n i).2.1) && decide (Int32.ofNat (tkn f n i).2.1 ≤ Int32.ofNat hi)) = false := by
        refine bf (fun q => z ?_)
        rw [Bool.and_eq_true, decide_eq_true_eq, decide_eq_true_eq, j_le (by omega) (by omega), j_le (by omega) (by omega)] at q
        exact q
      have rr := r_refuse (P := P) hd2 h 2
      rw [k_2] at rr
      rw [if_neg z]
      simp only [rk, rv, e, yt, r_within hd1, q, rr, bd_48, k_1, k_2, k_38, nz_1, nz_2, nz_38, v_call, v_cmp, v_cons, v_int, v_loc, v_nil, v_not, v_z, w_if, w_opf, w_ret, w_seq, List.getElem?_cons_zero, List.getElem?_cons_succ, List.set_cons_zero, List.set_cons_succ, ee_cmp0, ee_cmp1, ee_cmp2, ee_cmp3, ee_cmp4, ee_cmp5, ee_cmpL0, ee_cmpL1, ee_cmpL2, ee_cmpL3, ee_cmpL4, ee_cmpL5, ee_tru_eb, decide_eq_true_eq, ib_i, ie_b, ie_f, ie_t, ib_l, fin_i, fin_l, fin_v, fin_z, fin_a, fin_n, ee_b_0, ee_fld0, ee_fld1, ee_fld2, ee_fld3, bi_0, bi_1, bi_2, bi_3, bi_4, bi_5, bi_6, bi_7, bi_8, bi_9, bi_10, bl_20, bl_21, bl_22, bl_23, bl_24, bl_25, bl_26, bl_48, bl_49, un_0, un_1, un_2, un_3, if_true, if_false, ite_true, ite_false, Bool.false_eq_true, Bool.not_eq_false, decide_not, Bool.not_not, reduceCtorEq, st_i, st_l, st_r, st_n, ee_noL, ee_noL.eq_1, List.length_cons, List.length_nil, Nat.reduceAdd, Nat.reduceLT, Nat.zero_add, and_true, true_and, and_self, fin_ite, pu_0, pu_1, pu_3, sto_0, el_0, Bool.not_eq_true, decide_eq_false_iff_not, Bool.decide_eq_true, Bool.decide_eq_false, decide_true, decide_false, Bool.not_true, Bool.not_false, Bool.and_self, Bool.and_true, Bool.and_false, Bool.true_and, Bool.false_and, Bool.or_true, Bool.or_false, Bool.true_or, Bool.false_or, if_true, if_false, Bool.false_eq_true]
      rfl
  · have rr := r_refuse (P := P) hd2 h 1
    rw [k_1] at rr
    rw [if_neg y]
    simp only [rk, e, y, rr, bd_48, k_1, k_2, k_38, nz_1, nz_2, nz_38, v_call, v_cmp, v_cons, v_int, v_loc, v_nil, v_not, v_z, w_if, w_opf, w_ret, w_seq, List.getElem?_cons_zero, List.getElem?_cons_succ, List.set_cons_zero, List.set_cons_succ, ee_cmp0, ee_cmp1, ee_cmp2, ee_cmp3, ee_cmp4, ee_cmp5, ee_cmpL0, ee_cmpL1, ee_cmpL2, ee_cmpL3, ee_cmpL4, ee_cmpL5, ee_tru_eb, decide_eq_true_eq, ib_i, ie_b, ie_f, ie_t, ib_l, fin_i, fin_l, fin_v, fin_z, fin_a, fin_n, ee_b_0, ee_fld0, ee_fld1, ee_fld2, ee_fld3, bi_0, bi_1, bi_2, bi_3, bi_4, bi_5, bi_6, bi_7, bi_8, bi_9, bi_10, bl_20, bl_21, bl_22, bl_23, bl_24, bl_25, bl_26, bl_48, bl_49, un_0, un_1, un_2, un_3, if_true, if_false, ite_true, ite_false, Bool.false_eq_true, Bool.not_eq_false, decide_not, Bool.not_not, reduceCtorEq, st_i, st_l, st_r, st_n, ee_noL, ee_noL.eq_1, List.length_cons, List.length_nil, Nat.reduceAdd, Nat.reduceLT, Nat.zero_add, and_true, true_and, and_self, fin_ite, pu_0, pu_1, pu_3, sto_0, el_0, Bool.not_eq_true, decide_eq_false_iff_not, Bool.decide_eq_true, Bool.decide_eq_false, decide_true, decide_false, Bool.not_true, Bool.not_false, Bool.and_self, Bool.and_true, Bool.and_false, Bool.true_and, Bool.false_and, Bool.or_true, Bool.or_false, Bool.true_or, Bool.false_or, if_true, if_false, Bool.false_eq_true]
    rfl
abbrev emw (w : ee_W) (b l : Nat) (x : Int32) : ee_W := ee_wI (ee_wI w (b + 4) l x) b 5 (Int32.ofNat (l + 1))
theorem r_emit (hd : 2 ≤ d) (hb : bok b) (h5 : w.1 b 5 = Int32.ofNat l) (hl : l < 300) (o v : Nat) : ee_run ee_B P d 49 [.ref b, .int (Int32.ofNat o), .int (Int32.ofNat v)] w = some ([.int (Int32.ofNat l)], emw w b l (enc v o)) := by
  obtain ⟨d, rfl⟩ : ∃ k, d = k + 1 := ⟨d - 1, by omega⟩
  have hd1 : 1 ≤ d := by omega
  obtain ⟨b1, b2, x0, -, -, -, x4, -, -, -, x8⟩ := hb
  have q1 : (decide ((0 : Int32) ≤ Int32.ofNat l) && decide (Int32.ofNat l ≤ 299)) = true := (inb (b := 299) (by omega) (by omega)).trans (decide_eq_true (by omega))
  have i1 : ee_ix (Int32.ofNat l) 300 = true := by rw [ixn (by omega)]; exact decide_eq_true (by omega)
  have h5' : ∀ y : Int32, (ee_wI w (b + 4) l y).1 b 5 = Int32.ofNat l := fun y => by rw [wI_at, if_neg (by omega)]; exact h5
  unfold emw enc
  rw [rn_49 x0]
  simp only [h5, h5', r_within hd1, q1, i1, tnc (show l < 2147483648 by omega), x0, x4, x8, rvs, w_opf, j_s, j_a, bd_49, k_0, k_1, k_299, k_6, nz_1, nz_299, nz_6, v_bin, v_call, v_cons, v_get, v_int, v_loc, v_nil, v_z, w_if, w_opf, w_ret, w_seq, w_set, w_skip, w_sto, List.getElem?_cons_zero, List.getElem?_cons_succ, List.set_cons_zero, List.set_cons_succ, ee_cmp0, ee_cmp1, ee_cmp2, ee_cmp3, ee_cmp4, ee_cmp5, ee_cmpL0, ee_cmpL1, ee_cmpL2, ee_cmpL3, ee_cmpL4, ee_cmpL5, ee_tru_eb, decide_eq_true_eq, ib_i, ie_b, ie_f, ie_t, ib_l, fin_i, fin_l, fin_v, fin_z, fin_a, fin_n, ee_b_0, ee_fld0, ee_fld1, ee_fld2, ee_fld3, bi_0, bi_1, bi_2, bi_3, bi_4, bi_5, bi_6, bi_7, bi_8, bi_9, bi_10, bl_20, bl_21, bl_22, bl_23, bl_24, bl_25, bl_26, bl_48, bl_49, un_0, un_1, un_2, un_3, if_true, if_false, ite_true, ite_false, Bool.false_eq_true, Bool.not_eq_false, decide_not, Bool.not_not, reduceCtorEq, st_i, st_l, st_r, st_n, ee_noL, ee_noL.eq_1, List.length_cons, List.length_nil, Nat.reduceAdd, Nat.reduceLT, Nat.zero_add, and_true, true_and, and_self, fin_ite, pu_0, pu_1, pu_3, sto_0, el_0, Bool.not_eq_true, decide_eq_false_iff_not, Bool.decide_eq_true, Bool.decide_eq_false, decide_true, decide_false, Bool.not_true, Bool.not_false, Bool.and_self, Bool.and_true, Bool.and_false, Bool.true_and, Bool.false_and, Bool.or_true, Bool.or_false, Bool.true_or, Bool.false_or, if_true, if_false, Bool.false_eq_true]
theorem r_lead (hd : 2 ≤ d) (hb : bok b) (h5 : w.1 b 5 = Int32.ofNat l) {m : Nat} (hm : m < 300) (o : Nat) : ee_run ee_B P d 56 [.ref b, .int (Int32.ofNat m), .int (Int32.ofNat o)] w = some ([], ee_wI w (b + 4) m (enc l o)) := by
  obtain ⟨d, rfl⟩ : ∃ k, d = k + 1 := ⟨d - 1, by omega⟩
  have hd1 : 1 ≤ d := by omega
  obtain ⟨b1, b2, x0, -, -, -, x4, -, -, -, x8⟩ := hb
  have q1 : (decide ((0 : Int32) ≤ Int32.ofNat m) && decide (Int32.ofNat m ≤ 299)) = true := (inb (b := 299) (by omega) (by omega)).trans (decide_eq_true (by omega))
  have i1 : ee_ix (Int32.ofNat m) 300 = true := by rw [ixn (by omega)]; exact decide_eq_true (by omega)
  unfold enc
  rw [rn_56 x0]
  simp only [h5, r_within hd1, q1, i1, tnc (show m < 2147483648 by omega), x0, x4, x8, rvs, bd_56, k_0, k_299, k_6, nz_299, nz_6, v_bin, v_call, v_cons, v_get, v_int, v_loc, v_nil, v_z, w_if, w_retv, w_seq, w_skip, w_sto, List.getElem?_cons_zero, List.getElem?_cons_succ, List.set_cons_zero, List.set_cons_succ, ee_cmp0, ee_cmp1, ee_cmp2, ee_cmp3, ee_cmp4, ee_cmp5, ee_cmpL0, ee_cmpL1, ee_cmpL2, ee_cmpL3, ee_cmpL4, ee_cmpL5, ee_tru_eb, decide_eq_true_eq, ib_i, ie_b, ie_f, ie_t, ib_l, fin_i, fin_l, fin_v, fin_z, fin_a, fin_n, ee_b_0, ee_fld0, ee_fld1, ee_fld2, ee_fld3, bi_0, bi_1, bi_2, bi_3, bi_4, bi_5, bi_6, bi_7, bi_8, bi_9, bi_10, bl_20, bl_21, bl_22, bl_23, bl_24, bl_25, bl_26, bl_48, bl_49, un_0, un_1, un_2, un_3, if_true, if_false, ite_true, ite_false, Bool.false_eq_true, Bool.not_eq_false, decide_not, Bool.not_not, reduceCtorEq, st_i, st_l, st_r, st_n, ee_noL, ee_noL.eq_1, List.length_cons, List.length_nil, Nat.reduceAdd, Nat.reduceLT, Nat.zero_add, and_true, true_and, and_self, fin_ite, pu_0, pu_1, pu_3, sto_0, el_0, Bool.not_eq_true, decide_eq_false_iff_not, Bool.decide_eq_true, Bool.decide_eq_false, decide_true, decide_false, Bool.not_true, Bool.not_false, Bool.and_self, Bool.and_true, Bool.and_false, Bool.true_and, Bool.false_and, Bool.or_true, Bool.or_false, Bool.true_or, Bool.false_or, if_true, if_false, Bool.false_eq_true]
theorem r_open (hd : 3 ≤ d) (h : PS w n f c b law i l) {D : Nat} (hD : D ≤ 8) : ee_run ee_B P d 50 [.ref 225, .int (Int32.ofNat D)] w = if 8 ≤ D then some ([.int 0], rfw w 3 (tkn f n i).2.2.1) else some ([.int 1], atw w (i + 1)) := by
  obtain ⟨d, rfl⟩ : ∃ k, d = k + 1 := ⟨d - 1, by omega⟩
  have hd2 : 2 ≤ d := by omega
  have e : (8 : Int32) ≤ Int32.ofNat D ↔ 8 ≤ D := j_le (a := 8) (by omega) (by omega)
  have h2 := h.2.1
  rw [rn_50 rd_225]
  by_cases y : 8 ≤ D
  · have rr := r_refuse (P := P) hd2 h 3
    rw [k_3] at rr
    rw [if_pos y]
    simp only [e, y, rr, bd_50, k_1, k_3, k_8, nz_1, nz_3, nz_8, v_call, v_cmp, v_cons, v_int, v_loc, v_nil, w_if, w_opf, w_ret, w_seq, List.getElem?_cons_zero, List.getElem?_cons_succ, List.set_cons_zero, List.set_cons_succ, ee_cmp0, ee_cmp1, ee_cmp2, ee_cmp3, ee_cmp4, ee_cmp5, ee_cmpL0, ee_cmpL1, ee_cmpL2, ee_cmpL3, ee_cmpL4, ee_cmpL5, ee_tru_eb, decide_eq_true_eq, ib_i, ie_b, ie_f, ie_t, ib_l, fin_i, fin_l, fin_v, fin_z, fin_a, fin_n, ee_b_0, ee_fld0, ee_fld1, ee_fld2, ee_fld3, bi_0, bi_1, bi_2, bi_3, bi_4, bi_5, bi_6, bi_7, bi_8, bi_9, bi_10, bl_20, bl_21, bl_22, bl_23, bl_24, bl_25, bl_26, bl_48, bl_49, un_0, un_1, un_2, un_3, if_true, if_false, ite_true, ite_false, Bool.false_eq_true, Bool.not_eq_false, decide_not, Bool.not_not, reduceCtorEq, st_i, st_l, st_r, st_n, ee_noL, ee_noL.eq_1, List.length_cons, List.length_nil, Nat.reduceAdd, Nat.reduceLT, Nat.zero_add, and_true, true_and, and_self, fin_ite, pu_0, pu_1, pu_3, sto_0, el_0, Bool.not_eq_true, decide_eq_false_iff_not, Bool.decide_eq_true, Bool.decide_eq_false, decide_true, decide_false, Bool.not_true, Bool.not_false, Bool.and_self, Bool.and_true, Bool.and_false, Bool.true_and, Bool.false_and, Bool.or_true, Bool.or_false, Bool.true_or, Bool.false_or, if_true, if_false, Bool.false_eq_true]
    rfl
  · rw [if_neg y]
    unfold atw
    simp only [e, y, h2, rd_225, w_opf, j_s, j_a, bd_50, k_1, k_3, k_8, nz_1, nz_3, nz_8, v_call, v_cmp, v_cons, v_int, v_loc, v_nil, w_if, w_opf, w_ret, w_seq, List.getElem?_cons_zero, List.getElem?_cons_succ, List.set_cons_zero, List.set_cons_succ, ee_cmp0, ee_cmp1, ee_cmp2, ee_cmp3, ee_cmp4, ee_cmp5, ee_cmpL0, ee_cmpL1, ee_cmpL2, ee_cmpL3, ee_cmpL4, ee_cmpL5, ee_tru_eb, decide_eq_true_eq, ib_i, ie_b, ie_f, ie_t, ib_l, fin_i, fin_l, fin_v, fin_z, fin_a, fin_n, ee_b_0, ee_fld0, ee_fld1, ee_fld2, ee_fld3, bi_0, bi_1, bi_2, bi_3, bi_4, bi_5, bi_6, bi_7, bi_8, bi_9, bi_10, bl_20, bl_21, bl_22, bl_23, bl_24, bl_25, bl_26, bl_48, bl_49, un_0, un_1, un_2, un_3, if_true, if_false, ite_true, ite_false, Bool.false_eq_true, Bool.not_eq_false, decide_not, Bool.not_not, reduceCtorEq, st_i, st_l, st_r, st_n, ee_noL, ee_noL.eq_1, List.length_cons, List.length_nil, Nat.reduceAdd, Nat.reduceLT, Nat.zero_add, and_true, true_and, and_self, fin_ite, pu_0, pu_1, pu_3, sto_0, el_0, Bool.not_eq_true, decide_eq_false_iff_not, Bool.decide_eq_true, Bool.decide_eq_false, decide_true, decide_false, Bool.not_true, Bool.not_false, Bool.and_self, Bool.and_true, Bool.and_false, Bool.true_and, Bool.false_and, Bool.or_true, Bool.or_false, Bool.true_or, Bool.false_or, if_true, if_false, Bool.false_eq_true]
    rfl
theorem PS_em (h : PS w n f c b law i l) (hl : l + 1 ≤ i) (x : Int32) : PS (emw w b l x) n f c b law i (l + 1) ∧ chk (ppr b) w (emw w b l x) ∧ (emw w b l x).1 (b + 4) l = x ∧ (∀ k, k ≠ l → (emw w b l x).1 (b + 4) k = w.1 (b + 4) k) := by
  obtain ⟨h1, h2, h3, h4, h5, h6, h7⟩ := h
  have hc : chk (ppr b) w (emw w b l x) := chk_I (Or.inr (Or.inl ⟨rfl, rfl⟩)) (chk_I (Or.inr (Or.inr rfl)) (chk_refl _ _))
  have hb := h7
  obtain ⟨b1, b2, -⟩ := h7
  refine ⟨⟨TOK_p hb h1 hc, by unfold emw; rw [wI_at, if_neg (by omega), wI_at, if_neg (by omega)]; exact h2, (hc.1 _ _ (by unfold ppr; omega)).trans h3, by unfold emw; rw [wI_at, if_pos ⟨rfl, rfl⟩], h5, hl, hb⟩, hc, ?_, fun k hk => ?_⟩
  · unfold emw; rw [wI_at, if_neg (by omega), wI_at, if_pos ⟨rfl, rfl⟩]
  · unfold emw; rw [wI_at, if_neg (by omega), wI_at, if_neg (by omega)]
end PLF
