/-! the reference's loop is the parser: one -/
section MPB
variable {P : Nat → Nat → List Value → ee_W → Option (List Value × ee_W)} {d : Nat} {w w1 : ee_W} {f : Nat → Int32} {n c t i j W W0 O D law : Nat} {ks ps us : List Nat} {x e : ee_T}
def SUC4 (P : Nat → Nat → List Value → ee_W → Option (List Value × ee_W)) (d : Nat) (w : ee_W) (n : Nat) (f : Nat → Int32) (t W : Nat) (us ks : List Nat) (D : Nat) (e : ee_T) (j : Nat) : Prop := ∃ (w' : ee_W) (W' : Nat), RCH P d w w' ∧ MP w' n f j t (W' + us.length) ks (D - us.length) true ∧ mseg (mcode w' t) e W W' ∧ emo (mcode w' t) W' us ∧ (∀ k, k < W → mcode w' t k = mcode w t k) ∧ chk (pms t) w w' ∧ W ≤ W' ∧ W' + (us.length + ks.length) ≤ j
def RES4 (P : Nat → Nat → List Value → ee_W → Option (List Value × ee_W)) (d : Nat) (w : ee_W) (n : Nat) (f : Nat → Int32) (t W : Nat) (us ks : List Nat) (D : Nat) (r : PR) : Prop := match r with
  | .inl z => SUC4 P d w n f t W us ks D z.1 z.2
  | .inr y => FLT P d w n f t y.1 y.2
theorem RES4_go {r : PR} (h : RCH P d w w1) (hc : chk (pms t) w w1) (hk : ∀ k, k < W → mcode w1 t k = mcode w t k) (h2 : RES4 P d w1 n f t W us ks D r) : RES4 P d w n f t W us ks D r := by
  cases r with
  | inl z =>
    obtain ⟨w', W', a1, a2, a3, a4, a5, a6, a7⟩ := h2
    exact ⟨w', W', RCH_trans h a1, a2, a3, a4, fun k k1 => (a5 k k1).trans (hk k k1), chk_trans hc a6, a7⟩
  | inr y => exact FLT_go h hc h2
def uns (us : List Nat) : Prop := ∀ o ∈ us, o = 5 ∨ o = 2 ∨ o = 4
theorem uns_r (h : uns us) : ∀ o ∈ us, 7 ≤ rnk o := fun o ho => by
  rcases h o ho with rfl | rfl | rfl <;> decide
theorem uns_o : ∀ us : List Nat, uns us → ops us = us.length := by
  intro us
  induction us with
  | nil => intro _; rfl
  | cons o r ih =>
    intro h
    rw [List.length_cons]
    show opc o + ops r = _
    rw [ih (fun y hy => h y (List.mem_cons_of_mem _ hy))]
    rcases h o List.mem_cons_self with rfl | rfl | rfl
    · rw [show opc 5 = 1 from rfl]; omega
    · rw [show opc 2 = 1 from rfl]; omega
    · rw [show opc 4 = 1 from rfl]; omega
theorem FLT_of {q : Nat} {wh : Bool} (h : RCF P d w q w) (hP : MP w n f i t W ks O wh) : FLT P d w n f t q i := ⟨w, h, hP.1, hP.2.1, chk_refl _ _⟩
theorem op_push (hd : 7 ≤ d) (hb : ∀ i, i < n → bI (f i) 0 255) {o : Nat} (h : MP w n f i t W ks D false) (hc : (tkn f n i).1 ≠ 38 ∧ ¬ (18 ≤ (tkn f n i).1 ∧ (tkn f n i).1 ≤ 24)) (ho : bgo (tkn f n i).1 ks = o) (h0 : o ≠ 0) (h43 : o ≤ 43) (hl : ks.length < 160) (hD : D ≤ 8) :
    (8 ≤ D → FLT P d w n f t 3 i) ∧ (¬ 8 ≤ D → ∃ w1, RCH P d w w1 ∧ MP w1 n f (i + 1) t W (o :: ks) (D + 1) false ∧ (∀ k, mcode w1 t k = mcode w t k) ∧ chk (pms t) w w1) := by
  obtain ⟨e, he, g⟩ := m_bopen (P := P) hd h hc
  obtain ⟨g1, g2⟩ := m_opened (P := P) (d := e) (by omega) hb h h43 hl hD
  rw [ho] at g
  refine ⟨fun y => ?_, fun y => ?_⟩
  · have r := g1 (by omega)
    have r2 := g _ (fun z => absurd z h0) (fun _ => ⟨r, 3, w, rfl⟩)
    exact FLT_of (t_begq (q := 3) (by omega) h.2.2.2 (by rw [k_3]; exact r2)) h
  · obtain ⟨w1, r, a1, a2, a3⟩ := g2 (by omega)
    have r2 := g _ (fun z => absurd z h0) (fun _ => ⟨r, 0, w1, rfl⟩)
    exact ⟨w1, t_beg0 h.2.2.2 r2, a1, a2, a3⟩
def Q4 (P : Nat → Nat → List Value → ee_W → Option (List Value × ee_W)) (d n : Nat) (f : Nat → Int32) (c t law F : Nat) : Prop := ∀ D i x r w W ks us, pp (kkf f n) (vvf f n) law F 4 D i x = some r → D ≤ 8 → i ≤ c → MP w n f i t W (us ++ ks) D false → w.1 236 14 = Int32.ofNat law → W + (us.length + ks.length) ≤ i → us.length + ks.length ≤ 6 * D + 5 → okx ks 7 → uns us → us.length ≤ D → (kkf f n i = 15 → iah (us ++ ks) = false) → RES4 P d w n f t W us ks D r
def Q10 (P : Nat → Nat → List Value → ee_W → Option (List Value × ee_W)) (d n : Nat) (f : Nat → Int32) (c t law F : Nat) : Prop := ∀ D i x r w W ks us, pp (kkf f n) (vvf f n) law F 10 D i x = some r → D ≤ 8 → i ≤ c → MP w n f i t W (41 :: (us ++ ks)) D false → w.1 236 14 = Int32.ofNat law → W + (us.length + ks.length + 1) ≤ i → us.length + ks.length + 1 ≤ 6 * D → okx ks 7 → uns us → us.length + 1 ≤ D → RES4 P d w n f t W us ks (D - 1) r
theorem q_four {F : Nat} (h : Q4 P d n f c t law F) : QS P d n f c t law 4 F := by
  intro D i x r w W ks hp hD hi hP hl hW hk ho _ h15
  have g := h D i x r w W ks [] hp hD hi hP hl (by rw [List.length_nil]; omega) (by rw [List.length_nil]; unfold lmd at hk; simp at hk; omega) ho (fun o ho => by cases ho) (Nat.zero_le _) (h15 (by omega))
  cases r with
  | inl z =>
    obtain ⟨w', W', a1, a2, a3, a4, a5, a6, a7, a8⟩ := g
    exact ⟨w', W', [], a1, a2, fun o ho => (by cases ho), rfl, PND_0 a3, a5, a6, a7, a8⟩
  | inr y => exact g
theorem bgo_t {K : Nat} : (K = 35 → bgo K ks = 40) ∧ (K = 32 → bgo K ks = 5) ∧ (K = 9 → bgo K ks = 2) ∧ (K = 10 → bgo K ks = 4) ∧ (K = 11 → bgo K ks = 41) := by
  refine ⟨?_, ?_, ?_, ?_, ?_⟩ <;> rintro rfl <;> rfl
theorem iah_0 (h : opk ks ≠ 41) : iah ks = false := by
  unfold iah
  rw [decide_eq_false h, Bool.false_and]
theorem q_one {F : Nat} (hd : 7 ≤ d) (hb : ∀ i, i < n → bI (f i) 0 255) (hlaw : law ≤ 1) (hT : TKE f n c) (q4 : Q4 P d n f c t law F) (q0 : QS P d n f c t law 0 F) (q10 : Q10 P d n f c t law F) : Q4 P d n f c t law (F + 1) := by
  intro D i x r w W ks us h hD hi hP hl hW hk ho hu huD h15
  have c300 := hT.1
  have ru := uns_r hu
  have ou := uns_o us hu
  have la : (us ++ ks).length = us.length + ks.length := List.length_append
  rw [pp_4] at h
  by_cases c1 : kkf f n i = 38
  · rw [if_pos c1] at h
    have c1' : (tkn f n i).1 = 38 := c1
    by_cases v : vvf f n i ≤ 9999
    · rw [if_pos v] at h
      cases h
      have i1 := TKE_n hT hi (show (tkn f n i).1 ≠ 39 by omega)
      obtain ⟨w', g1, g2, g3, g4, g5, g6⟩ := m_bleaf (P := P) hd hb hP hlaw hl ru ho (by omega) (by omega) (Or.inl ⟨c1, v⟩)
      rw [if_pos c1'] at g3
      rw [ou] at g2
      refine ⟨w', W + 1, t_beg0 hP.2.2.2 g1, g2, ⟨rfl, g3⟩, g4, g5, g6, by omega, by show W + 1 + (us.length + ks.length) ≤ i + 1; omega⟩
    · rw [if_neg v] at h
      cases h
      have g := m_b2 (P := P) hd hP c1' (show 9999 < (tkn f n i).2.1 from Nat.lt_of_not_le v)
      exact FLT_of (t_begq (q := 2) (by omega) hP.2.2.2 (by rw [k_2]; exact g)) hP
  rw [if_neg c1] at h
  by_cases c2 : kkf f n i = 35
  · rw [if_pos c2] at h
    have c2' : (tkn f n i).1 = 35 := c2
    obtain ⟨p1, p2⟩ := op_push (P := P) hd hb hP ⟨c1, by omega⟩ (bgo_t.1 c2') (by omega) (by omega) (by omega) hD
    by_cases v : 8 ≤ D
    · rw [if_pos v] at h
      cases h
      exact p1 v
    · rw [if_neg v] at h
      obtain ⟨w1, a1, a2, a3, a4⟩ := p2 v
      have i1 := TKE_n hT hi (show (tkn f n i).1 ≠ 39 by omega)
      have lc : (40 :: (us ++ ks)).length = us.length + ks.length + 1 := by rw [List.length_cons, la]
      have G : ∀ r, pp (kkf f n) (vvf f n) law F 0 (D + 1) (i + 1) x = some r → RES P d w1 n f t W (40 :: (us ++ ks)) (D + 1) 0 r := fun r hr => q0 (D + 1) (i + 1) x r w1 W _ hr (by omega) i1 a2 (law_c a4 hl) (by rw [lc]; omega) (by rw [lc]; unfold lmd; simp; omega) (fun a b e => by injection e with e1 e2; rw [← e1]; decide) (fun z => by omega) (fun _ _ => iah_0 (by show (40 : Nat) ≠ 41; decide))
      rcases pb_cases h with ⟨y, h1, rfl⟩ | ⟨e, j, h1, h2⟩
      · exact FLT_go a1 a4 (G _ h1)
      · obtain ⟨w2, W2, ps, b1, b2, b3, b4, b5, b6, b7, b8, b9⟩ := G _ h1
        have b2 : MP w2 n f j t W2 (ps ++ 40 :: (us ++ ks)) (D + 1 + ops ps) true := b2
        have b9 : W2 + (ps.length + (40 :: (us ++ ks)).length) ≤ j := b9
        have b3 : ∀ o ∈ ps, 5 ≤ rnk o := b3
        rw [lc] at b9
        have jc := pp_ok hT.2 F 0 (D + 1) (i + 1) x e j (by omega) h1 (by omega) i1 (fun z => by cases z)
        have en := pp_end F 0 (D + 1) (i + 1) x e j (by omega) h1 (fun z => by cases z)
        have en : ¬ (31 ≤ kkf f n j ∧ kkf f n j ≤ 34) := by unfold pe at en; simp at en; omega
        have en : ¬ (31 ≤ (tkn f n j).1 ∧ (tkn f n j).1 ≤ 34) := en
        have b31 : ∀ o ∈ ps, 1 ≤ rnk o := fun o ho => by have := b3 o ho; omega
        have ok := opk_us (h := 40) (r := us ++ ks) b31 (by omega)
        have bz : btw (tkn f n j).1 (ps ++ 40 :: (us ++ ks)) = 0 := by
          unfold btw
          rw [if_neg en, ok, if_neg (by omega)]
        by_cases v2 : kkf f n j = 36
        · rw [if_pos v2] at h2
          cases h2
          have v2' : (tkn f n j).1 = 36 := v2
          obtain ⟨w3, g1, g2, g3, g4, g5, g6, g7⟩ := m_hshut (P := P) (d := d) (by omega) hb b2 bz (by omega) (by rw [v2']; rfl) b31 ru ho (by rw [if_neg (by omega)]; have := jc.2.1; omega) (by omega)
          rw [if_neg (by omega), Nat.add_zero] at g2 g5
          rw [show D + 1 + ops ps - ops ps - 1 - ops us = D - us.length by omega] at g2
          exact ⟨w3, W2 + ps.length, RCH_trans a1 (RCH_trans b1 (t_beh1 b2.2.2.2 g1)), g2, b5 _ (fun k k1 k2 => g6 k k2) g3, g5, fun k hk => by rw [g6 k (by omega), b6 k hk, a3], chk_trans a4 (chk_trans b7 g7), by omega, by show W2 + ps.length + (us.length + ks.length) ≤ j + 1; omega⟩
        · rw [if_neg v2] at h2
          cases h2
          have v2' : ¬ (tkn f n j).1 = 36 := v2
          have pz : pto (tkn f n j).1 (opk (ps ++ 40 :: (us ++ ks))) (icm (ps ++ 40 :: (us ++ ks))) = 0 := by
            rw [ok]; unfold pto; rw [if_pos rfl, if_neg v2']
          have g := m_hno (P := P) (d := d) (by omega) b2 bz pz
          have on := m_openNow (P := P) (d := d) (by omega) (EMT_h b2.2.2.1)
          rw [ok] at on
          exact FLT_go (RCH_trans a1 b1) (chk_trans a4 b7) (FLT_of (t_beh0 b2.2.2.2 g (o := 40) (by omega) on) b2)
  rw [if_neg c2] at h
  by_cases c3 : kkf f n i = 11
  · rw [if_pos c3] at h
    have c3' : (tkn f n i).1 = 11 := c3
    obtain ⟨p1, p2⟩ := op_push (P := P) hd hb hP ⟨c1, by omega⟩ (bgo_t.2.2.2.2 c3') (by omega) (by omega) (by omega) hD
    by_cases v : 8 ≤ D
    · rw [if_pos v] at h
      cases h
      exact p1 v
    · rw [if_neg v] at h
      obtain ⟨w1, a1, a2, a3, a4⟩ := p2 v
      have i1 := TKE_n hT hi (show (tkn f n i).1 ≠ 39 by omega)
      have g := q10 (D + 1) (i + 1) x r w1 W ks us h (by omega) i1 a2 (law_c a4 hl) (by omega) (by omega) ho hu (by omega)
      rw [Nat.add_sub_cancel] at g
      exact RES4_go a1 a4 (fun k _ => a3 k) g
  rw [if_neg c3] at h
  by_cases c4 : kkf f n i = 32 ∨ kkf f n i = 9 ∨ kkf f n i = 10
  · rw [if_pos c4] at h
    have c4' : (tkn f n i).1 = 32 ∨ (tkn f n i).1 = 9 ∨ (tkn f n i).1 = 10 := c4
    obtain ⟨o, o1, o2, o3⟩ : ∃ o, bgo (tkn f n i).1 (us ++ ks) = o ∧ (o = 5 ∨ o = 2 ∨ o = 4) ∧ mo (if kkf f n i = 32 then 41 else kkf f n i) = o := by
      rcases c4 with y | y | y
      · exact ⟨5, bgo_t.2.1 y, Or.inl rfl, by rw [if_pos y]; rfl⟩
      · exact ⟨2, bgo_t.2.2.1 y, Or.inr (Or.inl rfl), by rw [if_neg (by omega), y]; rfl⟩
      · exact ⟨4, bgo_t.2.2.2.1 y, Or.inr (Or.inr rfl), by rw [if_neg (by omega), y]; rfl⟩
    obtain ⟨p1, p2⟩ := op_push (P := P) hd hb hP ⟨c1, by omega⟩ o1 (by omega) (by omega) (by omega) hD
    by_cases v : 8 ≤ D
    · rw [if_pos v] at h
      cases h
      exact p1 v
    · rw [if_neg v] at h
      obtain ⟨w1, a1, a2, a3, a4⟩ := p2 v
      have i1 := TKE_n hT hi (show (tkn f n i).1 ≠ 39 by omega)
      have a2 : MP w1 n f (i + 1) t W ((o :: us) ++ ks) (D + 1) false := a2
      have iz : iah ((o :: us) ++ ks) = false := by
        unfold iah
        show (_ && (decide (40 ≤ o) || (decide (1 ≤ rnk o) && decide (rnk o ≤ 3)))) = false
        rcases o2 with rfl | rfl | rfl
        · rw [show (decide (40 ≤ 5) || (decide (1 ≤ rnk 5) && decide (rnk 5 ≤ 3))) = false from by decide, Bool.and_false]
        · rw [show (decide (40 ≤ 2) || (decide (1 ≤ rnk 2) && decide (rnk 2 ≤ 3))) = false from by decide, Bool.and_false]
        · rw [show (decide (40 ≤ 4) || (decide (1 ≤ rnk 4) && decide (rnk 4 ≤ 3))) = false from by decide, Bool.and_false]
      have G : ∀ r, pp (kkf f n) (vvf f n) law F 4 (D + 1) (i + 1) x = some r → RES4 P d w1 n f t W (o :: us) ks (D + 1) r := fun r hr => q4 (D + 1) (i + 1) x r w1 W ks (o :: us) hr (by omega) i1 a2 (law_c a4 hl) (by rw [List.length_cons]; omega) (by rw [List.length_cons]; omega) ho (fun y hy => by
        rw [List.mem_cons] at hy
        rcases hy with rfl | hy
        · exact o2
        · exact hu y hy) (by rw [List.length_cons]; omega) (fun _ => iz)
      rcases pb_cases h with ⟨y, h1, rfl⟩ | ⟨e, j, h1, h2⟩
      · exact FLT_go a1 a4 (G _ h1)
      · obtain ⟨w2, W2, b1, b2, b3, b4, b5, b6, b7, b8⟩ := G _ h1
        cases h2
        rw [emo_cons] at b4
        have b2 : MP w2 n f j t (W2 + (o :: us).length) ks (D + 1 - (o :: us).length) true := b2
        have b8 : W2 + ((o :: us).length + ks.length) ≤ j := b8
        rw [List.length_cons] at b2 b8
        rw [show W2 + (us.length + 1) = W2 + 1 + us.length by omega, show D + 1 - (us.length + 1) = D - us.length by omega] at b2
        exact ⟨w2, W2 + 1, RCH_trans a1 b1, b2, ⟨W2, b3, rfl, by rw [o3]; exact b4.1⟩, b4.2, fun k hk => by rw [b5 k hk, a3], chk_trans a4 b6, by omega, by show W2 + 1 + (us.length + ks.length) ≤ j; omega⟩
  rw [if_neg c4] at h
  by_cases c5 : 18 ≤ kkf f n i ∧ kkf f n i ≤ 24
  · rw [if_pos c5] at h
    have c5' : 18 ≤ (tkn f n i).1 ∧ (tkn f n i).1 ≤ 24 := c5
    by_cases v : kkf f n i = (if law = 0 then 24 else 23)
    · rw [if_pos v] at h
      cases h
      have g := m_b5 (P := P) hd hP hlaw hl (show (tkn f n i).1 = pkk law from v)
      exact FLT_of (t_begq (q := 5) (by omega) hP.2.2.2 (by rw [k_5]; exact g)) hP
    · rw [if_neg v] at h
      cases h
      have i1 := TKE_n hT hi (show (tkn f n i).1 ≠ 39 by omega)
      obtain ⟨w', g1, g2, g3, g4, g5, g6⟩ := m_bleaf (P := P) hd hb hP hlaw hl ru ho (by omega) (by omega) (Or.inr ⟨c5'.1, c5'.2, v⟩)
      have c1' : ¬ (tkn f n i).1 = 38 := c1
      rw [if_neg c1'] at g3
      rw [ou] at g2
      have m1 : mo (kkf f n i) = 1 := by
        show (if (tkn f n i).1 = 38 then 0 else if 18 ≤ (tkn f n i).1 ∧ (tkn f n i).1 ≤ 24 then 1 else _) = 1
        rw [if_neg c1', if_pos c5']
      have m2 : mvv (kkf f n i) 0 = (tkn f n i).1 - 18 := by
        show (if (tkn f n i).1 = 38 then 0 else (tkn f n i).1 - 18) = _
        rw [if_neg c1']
      refine ⟨w', W + 1, t_beg0 hP.2.2.2 g1, g2, ⟨rfl, ?_⟩, g4, g5, g6, by omega, by show W + 1 + (us.length + ks.length) ≤ i + 1; omega⟩
      rw [m1, m2, g3]
      rfl
  · rw [if_neg c5] at h
    cases h
    have c1' : ¬ (tkn f n i).1 = 38 := c1
    have c2' : ¬ (tkn f n i).1 = 35 := c2
    have c3' : ¬ (tkn f n i).1 = 11 := c3
    have c4' : ¬ ((tkn f n i).1 = 32 ∨ (tkn f n i).1 = 9 ∨ (tkn f n i).1 = 10) := c4
    have c5' : ¬ (18 ≤ (tkn f n i).1 ∧ (tkn f n i).1 ≤ 24) := c5
    have bz : bgo (tkn f n i).1 (us ++ ks) = 0 := by
      unfold bgo
      rw [if_neg c2', if_neg (fun z => c4' (Or.inl z)), if_neg (fun z => c4' (Or.inr (Or.inl z))), if_neg (fun z => c4' (Or.inr (Or.inr z))), if_neg c3', if_neg (fun z => by rw [h15 z.1] at z; cases z.2)]
    obtain ⟨e, he, g⟩ := m_bopen (P := P) hd hP ⟨c1', c5'⟩
    have r := g _ (fun _ => rfl) (fun z => absurd bz z)
    exact FLT_of (t_begq (q := 1) (by omega) hP.2.2.2 (by rw [k_1]; exact r)) hP
end MPB
