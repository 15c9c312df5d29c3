/-! text, on both sides -/
section BTX
variable {P : Nat → Nat → List Value → ee_W → Option (List Value × ee_W)} {d : Nat} {w : ee_W}
theorem MLw_at {w' : ee_W} {t sort kk n : Nat} {o : Option ee_T} (hL : MLw w t sort kk n o) (hn : n ≤ 24) (he : ∀ k, 681 * t ≤ k → k < 681 * t + 681 → w'.1 239 k = w.1 239 k) : MLw w' t sort kk n o := by
  cases o with
  | none => intro k hk; rw [he _ (by omega) (by omega)]; exact hL k hk
  | some e2 =>
    obtain ⟨a1, a2, k, f, E, a3, a4, a5, a6, a7, a8, a9⟩ := hL
    refine ⟨a1, a2, k, f, E, a3, (he _ (by omega) (by omega)).trans a4, fun j hj => ?_, (he _ (by omega) (by omega)).trans a6, (he _ (by omega) (by omega)).trans a7, a8, mseg_cg a9 (fun q _ q2 => ?_)⟩
    · rw [he _ (by omega) (by omega)]; exact a5 j hj
    · unfold mcode
      rw [he _ (by omega) (by omega), he _ (by omega) (by omega)]
theorem MT_at {w' : ee_W} {t : Nat} {T : TX} (hT : MT w t T) (he : ∀ k, 681 * t ≤ k → k < 681 * t + 681 → w'.1 239 k = w.1 239 k) : MT w' t T := by
  obtain ⟨a1, a2, a3, a4, a5⟩ := hT
  refine ⟨a1, (he _ (by omega) (by omega)).trans a2, fun i hi => ?_, MLw_at a4 a1 he, MLw_at a5 a1 he⟩
  rw [he _ (by omega) (by omega), he _ (by omega) (by omega), he _ (by omega) (by omega)]
  exact a3 i hi
/-- the cells that text changes -/
def ptc (k c : Nat) : Bool := decide (c = 0 ∨ (225 ≤ c ∧ c ≤ 228) ∨ (202 + 5 * k ≤ c ∧ c ≤ 206 + 5 * k))
theorem ptc_f {k c : Nat} (h : c ≠ 0 ∧ (c < 225 ∨ 228 < c) ∧ (c < 202 + 5 * k ∨ 206 + 5 * k < c)) : ptc k c = false := by
  unfold ptc
  rw [decide_eq_false_iff_not]
  omega
theorem tx_oks : ∀ i, i < 4 → tx_ok (202 + 5 * i) := by
  unfold tx_ok
  decide +kernel
theorem rdt_le {K V : Nat → Nat} {N F : Nat} (hN : ∀ i, i ≤ N → (K i = 39 ↔ i = N)) : ∀ {G i : Nat} {T : TX} {z : TX × Nat}, i ≤ N → rdt K V F G T i = .inl z → z.2 ≤ N := by
  intro G
  induction G with
  | zero => intro i T z _ h; cases h
  | succ G ih =>
    intro i T z hi h
    rw [rdt_s] at h
    by_cases q : K i = 39
    · rw [if_pos q] at h
      cases h
      exact hi
    · rw [if_neg q] at h
      cases hc : cls K V F T i with
      | inr y => rw [hc] at h; cases h
      | inl x =>
        rw [hc] at h
        exact ih (cls_lt hN hi hc).2 h
theorem bok_i : ∀ i, i < 4 → bok (202 + 5 * i) := fun i hi => ⟨by omega, by omega, (tx_oks i hi)⟩
/-- a TEXT that is read -/
def newT (Z : ZX) (k : Nat) (T : TX) : ZX := ((Z.1.1, Z.1.2.1, Z.1.2.2.1, up Z.1.2.2.2.1 1 (Int32.ofNat (k + 1)), Z.1.2.2.2.2), Z.2.1, (fun i => if i = k then T else Z.2.2.1 i), (0, Z.2.2.2.1.2), 0, -1)
/-- a TEXT with a FAULT -/
def badT (Z : ZX) (q s : Nat) : ZX := (Z.1, Z.2.1, Z.2.2.1, (0, Z.2.2.2.1.2), Int32.ofNat q, Int32.ofNat s)
theorem nT_new {Y : AX} {k : Nat} (hk : k < 1000) (h : Y.2.2.2.1 1 = Int32.ofNat k) : nT Y = k := by
  unfold nT
  rw [h, nI_t (by omega)]
  omega
theorem b_text (hS : SP P) (hd : 82 ≤ d) (hSim : Sim w) : Both P d 15 193 [] w := by
  obtain ⟨Z, h1, h2, h3⟩ := hSim
  obtain ⟨d, rfl⟩ : ∃ k, d = k + 1 := ⟨d - 1, by omega⟩
  have hd1 : 1 ≤ d := by omega
  have hd2 : 2 ≤ d := by omega
  obtain ⟨k, k4, kr, kn, krul⟩ := nT_of h3.1
  obtain ⟨p0, p1, p2, p3, p4, p5, p6, p7, p8⟩ := al_1
  have ec : w.1 1 4 = Int32.ofNat k := h1.1.2.2.2.1.2.2.1.trans kr
  have q1 : (decide ((0 : Int32) ≤ Int32.ofNat k) && decide (Int32.ofNat k ≤ 3)) = decide (k ≤ 3) := inb (b := 3) (by omega) (by omega)
  have q4 : (Int32.ofNat k = 4) = (k = 4) := kq (m := 4) (by omega) (by omega)
  by_cases c4 : k = 4
  · rw [decide_eq_false (show ¬ k ≤ 3 by omega)] at q1
    have q4 : (Int32.ofNat k = 4) = True := q4.trans (eq_true c4)
    have em : w.1 237 0 = Int32.ofNat k := h2.1.1.1.trans kr
    refine both_q h1 h2 h3 (r := .int (-1)) ?_ ?_
    · rw [rn_15 cz_0]
      simp only [cz_0, cz_r0, p0, rvs, ec, r_within hd1, q1, bd_15, k_0, k_1, k_3, k_4294967295, nz_1, nz_3, v_call, v_cons, v_get, v_idx, v_int, v_loc, v_nil, v_not, v_z, w_if, w_opf, w_put, w_ret, w_seq, w_set, List.getElem?_cons_zero, List.getElem?_cons_succ, List.set_cons_zero, List.set_cons_succ, ee_cmp0, ee_cmp1, ee_cmp2, ee_cmp3, ee_cmp4, ee_cmp5, ee_cmpL0, ee_cmpL1, ee_cmpL2, ee_cmpL3, ee_cmpL4, ee_cmpL5, ee_tru_eb, decide_eq_true_eq, ib_i, ie_b, ie_f, ie_t, ib_l, fin_i, fin_l, fin_v, fin_z, fin_a, fin_n, ee_b_0, ee_fld0, ee_fld1, ee_fld2, ee_fld3, bi_0, bi_1, bi_2, bi_3, bi_4, bi_5, bi_6, bi_7, bi_8, bi_9, bi_10, bl_20, bl_21, bl_22, bl_23, bl_24, bl_25, bl_26, bl_48, bl_49, un_0, un_1, un_2, un_3, if_true, if_false, ite_true, ite_false, Bool.false_eq_true, Bool.not_eq_false, decide_not, Bool.not_not, reduceCtorEq, st_i, st_l, st_r, st_n, ee_noL, ee_noL.eq_1, List.length_cons, List.length_nil, Nat.reduceAdd, Nat.reduceLT, Nat.zero_add, and_true, true_and, and_self, fin_ite, pu_0, pu_1, pu_3, sto_0, el_0, Bool.not_eq_true, decide_eq_false_iff_not, Bool.decide_eq_true, Bool.decide_eq_false, decide_true, decide_false, Bool.not_true, Bool.not_false, Bool.and_self, Bool.and_true, Bool.and_false, Bool.true_and, Bool.false_and, Bool.or_true, Bool.or_false, Bool.true_or, Bool.false_or, if_true, if_false, Bool.false_eq_true]
      try rfl
    · rw [rn_193 mz_0]
      simp only [em, q4, bd_193, k_0, k_1, k_4, k_4294967295, nz_1, nz_4, v_bin, v_call, v_cmp, v_cons, v_get, v_idx, v_int, v_loc, v_nil, v_tern, v_z, w_if, w_opa, w_put, w_ret, w_seq, List.getElem?_cons_zero, List.getElem?_cons_succ, List.set_cons_zero, List.set_cons_succ, ee_cmp0, ee_cmp1, ee_cmp2, ee_cmp3, ee_cmp4, ee_cmp5, ee_cmpL0, ee_cmpL1, ee_cmpL2, ee_cmpL3, ee_cmpL4, ee_cmpL5, ee_tru_eb, decide_eq_true_eq, ib_i, ie_b, ie_f, ie_t, ib_l, fin_i, fin_l, fin_v, fin_z, fin_a, fin_n, ee_b_0, ee_fld0, ee_fld1, ee_fld2, ee_fld3, bi_0, bi_1, bi_2, bi_3, bi_4, bi_5, bi_6, bi_7, bi_8, bi_9, bi_10, bl_20, bl_21, bl_22, bl_23, bl_24, bl_25, bl_26, bl_48, bl_49, un_0, un_1, un_2, un_3, if_true, if_false, ite_true, ite_false, Bool.false_eq_true, Bool.not_eq_false, decide_not, Bool.not_not, reduceCtorEq, st_i, st_l, st_r, st_n, ee_noL, ee_noL.eq_1, List.length_cons, List.length_nil, Nat.reduceAdd, Nat.reduceLT, Nat.zero_add, and_true, true_and, and_self, fin_ite, pu_0, pu_1, pu_3, sto_0, el_0, Bool.not_eq_true, decide_eq_false_iff_not, Bool.decide_eq_true, Bool.decide_eq_false, decide_true, decide_false, Bool.not_true, Bool.not_false, Bool.and_self, Bool.and_true, Bool.and_false, Bool.true_and, Bool.false_and, Bool.or_true, Bool.or_false, Bool.true_or, Bool.false_or, if_true, if_false, Bool.false_eq_true, ix_0, ix_1, ix_4, tc_0, tc_1, tc_4, mz_0, mz_1, mz_a, rvs, j_s, j_a, wI_at, Nat.reduceEqDiff, zero_ne_one_n, one_ne_zero_n]
      try rfl
  have k3 : k < 4 := by omega
  rw [decide_eq_true (show k ≤ 3 by omega)] at q1
  have q4 : (Int32.ofNat k = 4) = False := q4.trans (eq_false c4)
  -- the class
  obtain ⟨wa, hwa⟩ : ∃ wa, wa = ee_wI w 0 10 1 := ⟨_, rfl⟩
  have pE : ee_put w 0 10 3 (.int 1) = some wa := by rw [hwa]; rfl
  have hb := bok_i k k3
  have n300 := h3.2.2.2.1
  have hT : TAP wa Z.2.2.2.1.1 Z.2.2.2.1.2 := ⟨n300, fun i hi => by rw [hwa, wI_at, if_neg (by omega)]; exact h1.2.2.2.1.2 i hi⟩
  obtain ⟨wb, c, hE, rb, cb, db⟩ := c_readTape (P := P) (d := d) (F := 3700) hS (by omega) (by omega) hb hT
  have c0 : w.1 0 9 = Int32.ofNat Z.2.2.2.1.1 := h1.2.2.2.1.1
  have a9 : wa.1 0 9 = Int32.ofNat Z.2.2.2.1.1 := by rw [hwa, wI_at, if_neg (by omega)]; exact c0
  obtain ⟨wc, hwc⟩ : ∃ wc, wc = ee_wI wb 0 9 0 := ⟨_, rfl⟩
  have hc : chg (ptc k) w wc := by
    refine ⟨fun c j hh => ?_, ?_⟩
    · have hh : ¬ (c = 0 ∨ (225 ≤ c ∧ c ≤ 228) ∨ (202 + 5 * k ≤ c ∧ c ≤ 206 + 5 * k)) := by
        unfold ptc at hh
        exact decide_eq_false_iff_not.1 hh
      rw [hwc, wI_at, if_neg (by omega), cb.1 _ _ (by unfold prd; omega), hwa, wI_at, if_neg (by omega)]
    · rw [hwc]
      show wb.2.2 = _
      rw [cb.2, hwa]
      rfl
  have e0 : wc.1 0 10 = 1 ∧ wc.1 0 9 = 0 := by
    rw [hwc, wI_at, if_neg (by omega), wI_at, if_pos ⟨rfl, rfl⟩, cb.1 _ _ (by unfold prd; omega), hwa, wI_at, if_pos ⟨rfl, rfl⟩]
    exact ⟨rfl, rfl⟩
  have et : es_rf 201 k = some (202 + 5 * k) := (cz_tx k k3).1
  have xk : ee_ix (Int32.ofNat k) 4 = true := by rw [ixn (by omega)]; exact decide_eq_true (by omega)
  have tk := tnc (n := k) (by omega)
  have el : ee_elt es_rf wa 201 4 (Int32.ofNat k) = .ref (202 + 5 * k) := by
    show ee_rv (es_rf 201 (Int32.ofNat k).toNatClampNeg) = _
    rw [tk, et]
    rfl
  have hlo : chg plo w wc := chg_mono hc (fun c h => ptc_f (by have := plo_f.1 h; omega))
  have f225 : ∀ j, wc.1 225 j = wb.1 225 j := fun j => by rw [hwc, wI_at, if_neg (by omega)]
  have fb : ∀ j, 202 + 5 * k ≤ j → j ≤ 206 + 5 * k → wc.1 j = wb.1 j := fun j a b => funext (fun i => by rw [hwc, wI_at, if_neg (by omega)])
  have ecc : wc.1 1 4 = Int32.ofNat k := (hc.1 _ _ (ptc_f (by omega))).trans ec
  have oth : ∀ i, i < k → CT wc (202 + 5 * i) (Z.2.2.1 i) := fun i hi => CT_chg (h1.2.2.1 i (by omega) (by omega)) hc (fun c a b => ptc_f (by omega))
  -- the reference
  have mref : ∀ w1, MZ w1 Z → ∃ w2, ee_run ee_B P d 194 [.ref 236] w1 = some ([.int (Int32.ofNat (fcr (rdt (kkf Z.2.2.2.1.2 Z.2.2.2.1.1) (vvf Z.2.2.2.1.2 Z.2.2.2.1.1) 3700 (c + 1) TX0 0)))], w2) ∧ MCS w1 w2 Z.2.2.2.1.1 Z.2.2.2.1.2 k (rdt (kkf Z.2.2.2.1.2 Z.2.2.2.1.1) (vvf Z.2.2.2.1.2 Z.2.2.2.1.1) 3700 (c + 1) TX0 0) := fun w1 hM => m_readText (P := P) (d := d) (by omega) ⟨n300, hM.2.2.2.1.1, hM.2.2.2.1.2⟩ h3.2.2.2.2 hE (by omega) k3 (hM.1.1.1.trans kr)
  generalize hr : rdt (kkf Z.2.2.2.1.2 Z.2.2.2.1.1) (vvf Z.2.2.2.1.2 Z.2.2.2.1.1) 3700 (c + 1) TX0 0 = r at *
  cases r with
  | inr y =>
    have rb : ee_run ee_B P d 16 [.ref 225, .ref 235, .int (Int32.ofNat Z.2.2.2.1.1), .ref (202 + 5 * k)] wa = some ([.int 0], wb) := rb
    obtain ⟨d1, d2⟩ := db
    have hW : WZ (badT Z y.1 (tkn Z.2.2.2.1.2 Z.2.2.2.1.1 y.2).2.2.1) := ⟨h3.1, h3.2.1, h3.2.2.1, Nat.zero_le _, fun i hi => by have hi : i < 0 := hi; omega⟩
    refine both_of (r := .int (-1)) h2 h3 hW ?_ ?_
    · refine ⟨wc, ?_, ⟨CA_chg h1.1 hc (fun c a b => ptc_f (by omega)), CA_chg h1.2.1 hc (fun c a b => ptc_f (by omega)), fun i hi h4 => oth i (by have hi : i < nT Z.1 := hi; omega), ⟨e0.2, fun i hi => by have hi : i < 0 := hi; omega⟩, Or.inr ⟨e0.1, (f225 6).trans d1, (f225 7).trans d2⟩⟩, hlo⟩
      rw [rn_15 cz_0]
      simp only [cz_0, cz_r0, cz_r2, cz_r4, cz_r8, cz_201, p0, rvs, ec, r_within hd1, q1, pE, a9, xk, el, rb, ← hwc, bd_15, k_0, k_1, k_3, k_4294967295, nz_1, nz_3, v_call, v_cons, v_get, v_idx, v_int, v_loc, v_nil, v_not, v_z, w_if, w_opf, w_put, w_ret, w_seq, w_set, List.getElem?_cons_zero, List.getElem?_cons_succ, List.set_cons_zero, List.set_cons_succ, ee_cmp0, ee_cmp1, ee_cmp2, ee_cmp3, ee_cmp4, ee_cmp5, ee_cmpL0, ee_cmpL1, ee_cmpL2, ee_cmpL3, ee_cmpL4, ee_cmpL5, ee_tru_eb, decide_eq_true_eq, ib_i, ie_b, ie_f, ie_t, ib_l, fin_i, fin_l, fin_v, fin_z, fin_a, fin_n, ee_b_0, ee_fld0, ee_fld1, ee_fld2, ee_fld3, bi_0, bi_1, bi_2, bi_3, bi_4, bi_5, bi_6, bi_7, bi_8, bi_9, bi_10, bl_20, bl_21, bl_22, bl_23, bl_24, bl_25, bl_26, bl_48, bl_49, un_0, un_1, un_2, un_3, if_true, if_false, ite_true, ite_false, Bool.false_eq_true, Bool.not_eq_false, decide_not, Bool.not_not, reduceCtorEq, st_i, st_l, st_r, st_n, ee_noL, ee_noL.eq_1, List.length_cons, List.length_nil, Nat.reduceAdd, Nat.reduceLT, Nat.zero_add, and_true, true_and, and_self, fin_ite, pu_0, pu_1, pu_3, sto_0, el_0, Bool.not_eq_true, decide_eq_false_iff_not, Bool.decide_eq_true, Bool.decide_eq_false, decide_true, decide_false, Bool.not_true, Bool.not_false, Bool.and_self, Bool.and_true, Bool.and_false, Bool.true_and, Bool.false_and, Bool.or_true, Bool.or_false, Bool.true_or, Bool.false_or, if_true, if_false, Bool.false_eq_true]
      try rfl
    · intro w1 hM
      obtain ⟨w2, r2, m1, m2, m3, m4⟩ := mref w1 hM
      obtain ⟨n1, n2, n3, ⟨n4, n5⟩, ⟨n6, n7⟩, n8⟩ := hM
      have r2 : ee_run ee_B P d 194 [.ref 236] w1 = some ([.int (Int32.ofNat y.1)], w2) := r2
      have ny : ¬ Int32.ofNat y.1 = 0 := fun z => by
        have := (kq (m := 0) (by omega) (by omega)).mp z
        omega
      have em : w1.1 237 0 = Int32.ofNat k := n1.1.1.trans kr
      obtain ⟨w3, hw3⟩ : ∃ w3, w3 = ee_wI (ee_wI (ee_wI w2 236 5 (Int32.ofNat y.1)) 236 6 (Int32.ofNat (tkn Z.2.2.2.1.2 Z.2.2.2.1.1 y.2).2.2.1)) 236 4 0 := ⟨_, rfl⟩
      have o3 : ∀ c j, ¬ (c = 236 ∧ (j = 4 ∨ j = 5 ∨ j = 6)) → w3.1 c j = w2.1 c j := fun c j hh => by rw [hw3, wI_at, if_neg (by omega), wI_at, if_neg (by omega), wI_at, if_neg (by omega)]
      have o13 : ∀ c j, ¬ pcm k c j → ¬ (c = 236 ∧ (j = 4 ∨ j = 5 ∨ j = 6)) → w3.1 c j = w1.1 c j := fun c j h1 h2 => (o3 c j h2).trans (m1.1 c j h1)
      have g5 : (ee_wI w2 236 5 (Int32.ofNat y.1)).1 236 8 = Int32.ofNat (tkn Z.2.2.2.1.2 Z.2.2.2.1.1 y.2).2.2.1 := by rw [wI_at, if_neg (by omega)]; exact m2
      have g6 : (ee_wI w2 236 5 (Int32.ofNat y.1)).1 236 5 = Int32.ofNat y.1 := by rw [wI_at, if_pos ⟨rfl, rfl⟩]
      have g7 : w3.1 236 5 = Int32.ofNat y.1 := by rw [hw3, wI_at, if_neg (by omega), wI_at, if_neg (by omega), wI_at, if_pos ⟨rfl, rfl⟩]
      refine ⟨w3, ?_, ⟨MA_eq n1 h3.1 (fun j _ => o13 _ _ (by unfold pcm; omega) (by omega)), MA_eq n2 h3.2.1 (fun j _ => o13 _ _ (by unfold pcm; omega) (by omega)), fun i hi h4 => ?_, ⟨?_, fun i hi => by have hi : i < 0 := hi; omega⟩, ⟨g7, ?_⟩, ?_⟩, ?_⟩
      · rw [rn_193 mz_0]
        simp only [em, q4, r2, g5, g6, ny, ← hw3, g7, bd_193, k_0, k_1, k_4, k_4294967295, nz_1, nz_4, v_bin, v_call, v_cmp, v_cons, v_get, v_idx, v_int, v_loc, v_nil, v_tern, v_z, w_if, w_opa, w_put, w_ret, w_seq, List.getElem?_cons_zero, List.getElem?_cons_succ, List.set_cons_zero, List.set_cons_succ, ee_cmp0, ee_cmp1, ee_cmp2, ee_cmp3, ee_cmp4, ee_cmp5, ee_cmpL0, ee_cmpL1, ee_cmpL2, ee_cmpL3, ee_cmpL4, ee_cmpL5, ee_tru_eb, decide_eq_true_eq, ib_i, ie_b, ie_f, ie_t, ib_l, fin_i, fin_l, fin_v, fin_z, fin_a, fin_n, ee_b_0, ee_fld0, ee_fld1, ee_fld2, ee_fld3, bi_0, bi_1, bi_2, bi_3, bi_4, bi_5, bi_6, bi_7, bi_8, bi_9, bi_10, bl_20, bl_21, bl_22, bl_23, bl_24, bl_25, bl_26, bl_48, bl_49, un_0, un_1, un_2, un_3, if_true, if_false, ite_true, ite_false, Bool.false_eq_true, Bool.not_eq_false, decide_not, Bool.not_not, reduceCtorEq, st_i, st_l, st_r, st_n, ee_noL, ee_noL.eq_1, List.length_cons, List.length_nil, Nat.reduceAdd, Nat.reduceLT, Nat.zero_add, and_true, true_and, and_self, fin_ite, pu_0, pu_1, pu_3, sto_0, el_0, Bool.not_eq_true, decide_eq_false_iff_not, Bool.decide_eq_true, Bool.decide_eq_false, decide_true, decide_false, Bool.not_true, Bool.not_false, Bool.and_self, Bool.and_true, Bool.and_false, Bool.true_and, Bool.false_and, Bool.or_true, Bool.or_false, Bool.true_or, Bool.false_or, if_true, if_false, Bool.false_eq_true, ix_0, ix_1, ix_4, tc_0, tc_1, tc_4, mz_0, mz_1, mz_a, rvs, j_s, j_a, wI_at, Nat.reduceEqDiff, zero_ne_one_n, one_ne_zero_n]
        try rfl
      · have hi : i < nT Z.1 := hi
        exact MT_at (n3 i hi h4) (fun j a b => o13 _ _ (by unfold pcm; omega) (by omega))
      · rw [hw3, wI_at, if_pos ⟨rfl, rfl⟩]; rfl
      · rw [hw3, wI_at, if_neg (by omega), wI_at, if_pos ⟨rfl, rfl⟩]; rfl
      · rw [o13 _ _ (by unfold pcm; omega) (by omega)]; exact n8
      · refine ⟨fun c j hh => ?_, ?_⟩
        · unfold phi at hh
          exact o13 c j (by unfold pcm; omega) (by omega)
        · rw [hw3]; exact m1.2
  | inl z =>
    have rb : ee_run ee_B P d 16 [.ref 225, .ref 235, .int (Int32.ofNat Z.2.2.2.1.1), .ref (202 + 5 * k)] wa = some ([.int 1], wb) := rb
    obtain ⟨d1, d2, d3⟩ := db
    have nn : nT (newT Z k z.1).1 = k + 1 := nT_new (by omega) (by show up Z.1.2.2.2.1 1 (Int32.ofNat (k + 1)) 1 = _; rw [up_at, if_pos rfl])
    have hW : WZ (newT Z k z.1) := by
      refine ⟨⟨h3.1.1, h3.1.2.1, h3.1.2.2.1, ⟨k + 1, by omega, ?_, ?_⟩, h3.1.2.2.2.2⟩, h3.2.1, ?_, Nat.zero_le _, fun i hi => by have hi : i < 0 := hi; omega⟩
      · show up Z.1.2.2.2.1 1 (Int32.ofNat (k + 1)) 1 = _
        rw [up_at, if_pos rfl]
      · show up Z.1.2.2.2.1 1 (Int32.ofNat (k + 1)) 2 = -1 ∨ ∃ i, i < k + 1 ∧ up Z.1.2.2.2.1 1 (Int32.ofNat (k + 1)) 2 = Int32.ofNat i
        rw [up_at, if_neg (by omega)]
        rcases krul with q | ⟨i, a, b⟩
        · exact Or.inl q
        · exact Or.inr ⟨i, by omega, b⟩
      · have := h3.2.2.1
        rw [nn]
        show nT Z.2.1 ≤ k + 1
        omega
    have ek : Int32.ofNat k + 1 = Int32.ofNat (k + 1) := j_s k
    refine both_of (r := .int (Int32.ofNat k)) h2 h3 hW ?_ ?_
    · obtain ⟨wd, hwd⟩ : ∃ wd, wd = ee_wI wc 1 4 (Int32.ofNat (k + 1)) := ⟨_, rfl⟩
      have hc1 : chg pm0 wc wd := by rw [hwd]; exact chg_I (by decide) (chg_refl _ _)
      obtain ⟨a1, a2, a3, ⟨b0, b1, b2, b3, b4, b5, b6, b7⟩, a5, a6⟩ := h1.1
      have A1 : CA wc 1 Z.1 := CA_chg h1.1 hc (fun c a b => ptc_f (by omega))
      obtain ⟨a1, a2, a3, ⟨b0, b1, b2, b3, b4, b5, b6, b7⟩, a5, a6⟩ := A1
      have ct : CT wc (202 + 5 * k) z.1 := by
        have q : ∀ c, 202 + 5 * k ≤ c → c < 202 + 5 * k + 5 → (fun c => decide (c = 0)) c = false := fun c a b => decide_eq_false (by omega)
        exact CT_chg d3 (show chg (fun c => decide (c = 0)) wb wc by rw [hwc]; exact chg_I (by decide) (chg_refl _ _)) q
      refine ⟨wd, ?_, ⟨⟨CH_chg a1 hc1 (pm0_f (by omega)) (pm0_f (by omega)) (pm0_f (by omega)), a2, CS_chg a3 hc1 (fun c q1 q2 => pm0_f (by omega)), ⟨fun j hj => ?_, ?_, ?_, ?_, ?_, fun i hi => ?_, ?_, fun i hi => ?_⟩, a5, a6⟩, CA_chg (CA_chg h1.2.1 hc (fun c a b => ptc_f (by omega))) hc1 (fun c q1 q2 => pm0_f (by omega)), fun i hi h4 => ?_, ⟨?_, fun i hi => by have hi : i < 0 := hi; omega⟩, Or.inr ⟨?_, ?_, ?_⟩⟩, chg_trans hlo (chg_mono hc1 pm0_lo)⟩
      · rw [rn_15 cz_0]
        simp only [cz_0, cz_r0, cz_r2, cz_r4, cz_r8, cz_201, p0, rvs, ec, r_within hd1, q1, pE, a9, xk, el, rb, ← hwc, ecc, ek, w_opf, ← hwd, bd_15, k_0, k_1, k_3, k_4294967295, nz_1, nz_3, v_call, v_cons, v_get, v_idx, v_int, v_loc, v_nil, v_not, v_z, w_if, w_opf, w_put, w_ret, w_seq, w_set, List.getElem?_cons_zero, List.getElem?_cons_succ, List.set_cons_zero, List.set_cons_succ, ee_cmp0, ee_cmp1, ee_cmp2, ee_cmp3, ee_cmp4, ee_cmp5, ee_cmpL0, ee_cmpL1, ee_cmpL2, ee_cmpL3, ee_cmpL4, ee_cmpL5, ee_tru_eb, decide_eq_true_eq, ib_i, ie_b, ie_f, ie_t, ib_l, fin_i, fin_l, fin_v, fin_z, fin_a, fin_n, ee_b_0, ee_fld0, ee_fld1, ee_fld2, ee_fld3, bi_0, bi_1, bi_2, bi_3, bi_4, bi_5, bi_6, bi_7, bi_8, bi_9, bi_10, bl_20, bl_21, bl_22, bl_23, bl_24, bl_25, bl_26, bl_48, bl_49, un_0, un_1, un_2, un_3, if_true, if_false, ite_true, ite_false, Bool.false_eq_true, Bool.not_eq_false, decide_not, Bool.not_not, reduceCtorEq, st_i, st_l, st_r, st_n, ee_noL, ee_noL.eq_1, List.length_cons, List.length_nil, Nat.reduceAdd, Nat.reduceLT, Nat.zero_add, and_true, true_and, and_self, fin_ite, pu_0, pu_1, pu_3, sto_0, el_0, Bool.not_eq_true, decide_eq_false_iff_not, Bool.decide_eq_true, Bool.decide_eq_false, decide_true, decide_false, Bool.not_true, Bool.not_false, Bool.and_self, Bool.and_true, Bool.and_false, Bool.true_and, Bool.false_and, Bool.or_true, Bool.or_false, Bool.true_or, Bool.false_or, if_true, if_false, Bool.false_eq_true]
        try rfl
      · rw [hwd, wI_at, if_neg (by omega)]; exact b0 j hj
      · rw [hwd, wI_at, if_neg (by omega)]; exact b1
      · rw [hwd, wI_at, if_pos ⟨rfl, rfl⟩]
        show _ = up Z.1.2.2.2.1 1 (Int32.ofNat (k + 1)) 1
        rw [up_at, if_pos rfl]
      · rw [hwd, wI_at, if_neg (by omega)]
        show _ = up Z.1.2.2.2.1 1 (Int32.ofNat (k + 1)) 2
        rw [up_at, if_neg (by omega)]
        exact b3
      · rw [hwd, wI_at, if_neg (by omega)]; exact b4
      · rw [hwd, wI_at, if_neg (by omega)]; exact b5 i hi
      · rw [hwd, wI_at, if_neg (by omega)]; exact b6
      · rw [hwd, wI_at, if_neg (by omega), wI_at, if_neg (by omega)]; exact b7 i hi
      · rw [nn] at hi
        show CT wd (202 + 5 * i) (if i = k then z.1 else Z.2.2.1 i)
        by_cases y : i = k
        · rw [if_pos y, y]
          exact CT_chg ct hc1 (fun c q1 q2 => pm0_f (by omega))
        · rw [if_neg y]
          exact CT_chg (oth i (by omega)) hc1 (fun c q1 q2 => pm0_f (by omega))
      · rw [hwd, wI_at, if_neg (by omega)]; exact e0.2
      · rw [hwd, wI_at, if_neg (by omega)]; exact e0.1
      · rw [hwd, wI_at, if_neg (by omega)]; exact (f225 6).trans d1
      · rw [hwd, wI_at, if_neg (by omega)]; exact (f225 7).trans d2
    · intro w1 hM
      obtain ⟨w2, r2, m1, W, m2, m3, -⟩ := mref w1 hM
      obtain ⟨n1, n2, n3, ⟨n4, n5⟩, ⟨n6, n7⟩, n8⟩ := hM
      have r2 : ee_run ee_B P d 194 [.ref 236] w1 = some ([.int 0], w2) := r2
      have em : w1.1 237 0 = Int32.ofNat k := n1.1.1.trans kr
      obtain ⟨w3, hw3⟩ : ∃ w3, w3 = ee_wI (ee_wI (ee_wI w2 236 5 0) 236 6 (-1)) 236 4 0 := ⟨_, rfl⟩
      have o3 : ∀ c j, ¬ (c = 236 ∧ (j = 4 ∨ j = 5 ∨ j = 6)) → w3.1 c j = w2.1 c j := fun c j hh => by rw [hw3, wI_at, if_neg (by omega), wI_at, if_neg (by omega), wI_at, if_neg (by omega)]
      have o13 : ∀ c j, ¬ pcm k c j → ¬ (c = 236 ∧ (j = 4 ∨ j = 5 ∨ j = 6)) → w3.1 c j = w1.1 c j := fun c j h1 h2 => (o3 c j h2).trans (m1.1 c j h1)
      have g6 : (ee_wI w2 236 5 0).1 236 5 = 0 := by rw [wI_at, if_pos ⟨rfl, rfl⟩]
      have g7 : w3.1 236 5 = 0 := by rw [hw3, wI_at, if_neg (by omega), wI_at, if_neg (by omega), wI_at, if_pos ⟨rfl, rfl⟩]
      have e3 : w3.1 237 0 = Int32.ofNat k := (o13 _ _ (by unfold pcm; omega) (by omega)).trans em
      obtain ⟨w4, hw4⟩ : ∃ w4, w4 = ee_wI w3 237 0 (Int32.ofNat (k + 1)) := ⟨_, rfl⟩
      have e4 : w4.1 237 0 = Int32.ofNat (k + 1) := by rw [hw4, wI_at, if_pos ⟨rfl, rfl⟩]
      have es : Int32.ofNat (k + 1) - 1 = Int32.ofNat k := j_sub1 (by omega) (by omega)
      have o4 : ∀ c j, ¬ (c = 237 ∧ j = 0) → w4.1 c j = w3.1 c j := fun c j hh => by rw [hw4, wI_at, if_neg hh]
      have o14 : ∀ j, j ≠ 0 → w4.1 237 j = w1.1 237 j := fun j hj => (o4 _ _ (by omega)).trans (o13 _ _ (by unfold pcm; omega) (by omega))
      have W300 : W ≤ 300 := by
        have a := m2.2.2.2.2.2
        have b := hE.1
        have c5 : z.2 ≤ c := rdt_le hE.2 (Nat.zero_le _) hr
        omega
      obtain ⟨⟨x0, x1, x2, x3, x4⟩, y1, y2, y3, y4, y5, y6⟩ := n1
      obtain ⟨v1, ⟨v2, v3⟩, -⟩ := h3.1
      refine ⟨w4, ?_, ⟨⟨⟨?_, ?_, (o14 _ (by omega)).trans x2, (o14 _ (by omega)).trans x3, (o14 _ (by omega)).trans x4⟩, MH_eq y1 v1.2.1 (fun j hj => o14 _ (by omega)) (fun j hj => o14 _ (by omega)), fun i hi => MH_eq (y2 i hi) (v3 i hi).2.1 (fun j hj => o14 _ (by omega)) (fun j hj => o14 _ (by omega)), fun j hj => (o14 _ (by omega)).trans (y3 j hj), ?_, fun i hi => (o14 _ (by omega)).trans (y5 i hi), fun i hi => ?_⟩, MA_eq n2 h3.2.1 (fun j _ => (o4 _ _ (by omega)).trans (o13 _ _ (by unfold pcm; omega) (by omega))), fun i hi h4 => ?_, ⟨?_, fun i hi => by have hi : i < 0 := hi; omega⟩, ⟨?_, ?_⟩, ?_⟩, ?_⟩
      · rw [rn_193 mz_0]
        simp only [em, q4, r2, g6, ← hw3, g7, e3, ek, w_opa, ← hw4, e4, es, bd_193, k_0, k_1, k_4, k_4294967295, nz_1, nz_4, v_bin, v_call, v_cmp, v_cons, v_get, v_idx, v_int, v_loc, v_nil, v_tern, v_z, w_if, w_opa, w_put, w_ret, w_seq, List.getElem?_cons_zero, List.getElem?_cons_succ, List.set_cons_zero, List.set_cons_succ, ee_cmp0, ee_cmp1, ee_cmp2, ee_cmp3, ee_cmp4, ee_cmp5, ee_cmpL0, ee_cmpL1, ee_cmpL2, ee_cmpL3, ee_cmpL4, ee_cmpL5, ee_tru_eb, decide_eq_true_eq, ib_i, ie_b, ie_f, ie_t, ib_l, fin_i, fin_l, fin_v, fin_z, fin_a, fin_n, ee_b_0, ee_fld0, ee_fld1, ee_fld2, ee_fld3, bi_0, bi_1, bi_2, bi_3, bi_4, bi_5, bi_6, bi_7, bi_8, bi_9, bi_10, bl_20, bl_21, bl_22, bl_23, bl_24, bl_25, bl_26, bl_48, bl_49, un_0, un_1, un_2, un_3, if_true, if_false, ite_true, ite_false, Bool.false_eq_true, Bool.not_eq_false, decide_not, Bool.not_not, reduceCtorEq, st_i, st_l, st_r, st_n, ee_noL, ee_noL.eq_1, List.length_cons, List.length_nil, Nat.reduceAdd, Nat.reduceLT, Nat.zero_add, and_true, true_and, and_self, fin_ite, pu_0, pu_1, pu_3, sto_0, el_0, Bool.not_eq_true, decide_eq_false_iff_not, Bool.decide_eq_true, Bool.decide_eq_false, decide_true, decide_false, Bool.not_true, Bool.not_false, Bool.and_self, Bool.and_true, Bool.and_false, Bool.true_and, Bool.false_and, Bool.or_true, Bool.or_false, Bool.true_or, Bool.false_or, if_true, if_false, Bool.false_eq_true, ix_0, ix_1, ix_4, tc_0, tc_1, tc_4, mz_0, mz_1, mz_a, rvs, j_s, j_a, wI_at, Nat.reduceEqDiff, zero_ne_one_n, one_ne_zero_n]
        try rfl
      · rw [e4]
        show _ = up Z.1.2.2.2.1 1 (Int32.ofNat (k + 1)) 1
        rw [up_at, if_pos rfl]
      · rw [o14 _ (by omega)]
        show _ = up Z.1.2.2.2.1 1 (Int32.ofNat (k + 1)) 2
        rw [up_at, if_neg (by omega)]
        exact x1
      · rw [o14 _ (by omega)]
        show _ = up Z.1.2.2.2.1 1 (Int32.ofNat (k + 1)) 0
        rw [up_at, if_neg (by omega)]
        exact y4
      · rw [o14 _ (by omega), o14 _ (by omega)]; exact y6 i hi
      · rw [nn] at hi
        show MT w4 i (if i = k then z.1 else Z.2.2.1 i)
        by_cases y : i = k
        · rw [if_pos y, y]
          exact MT_eq (MQ_MT m3 W300) (fun j => by rw [o4 _ _ (by omega), o3 _ _ (by omega)])
        · rw [if_neg y]
          exact MT_at (n3 i (by omega) h4) (fun j a b => (o4 _ _ (by omega)).trans (o13 _ _ (by unfold pcm; omega) (by omega)))
      · rw [o4 _ _ (by omega), hw3, wI_at, if_pos ⟨rfl, rfl⟩]; rfl
      · rw [o4 _ _ (by omega)]; exact g7
      · rw [o4 _ _ (by omega), hw3, wI_at, if_neg (by omega), wI_at, if_pos ⟨rfl, rfl⟩]; rfl
      · rw [o4 _ _ (by omega), o13 _ _ (by unfold pcm; omega) (by omega)]; exact n8
      · refine ⟨fun c j hh => ?_, ?_⟩
        · unfold phi at hh
          exact (o4 _ _ (by omega)).trans (o13 c j (by unfold pcm; omega) (by omega))
        · rw [hw4, hw3]; exact m1.2
end BTX
