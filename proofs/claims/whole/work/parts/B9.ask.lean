/-! the reference's loop is the parser: what is asked, and the choice -/
section MPC
variable {P : Nat → Nat → List Value → ee_W → Option (List Value × ee_W)} {d : Nat} {w w1 : ee_W} {f : Nat → Int32} {n c t i j W W0 O D law : Nat} {ks ps us : List Nat} {x e : ee_T}
theorem icm_4 (h : okx ks 4) : icm ks = false := by
  cases ks with
  | nil => rfl
  | cons k r =>
    have := h k r rfl
    show (if 4 < rnk k then icm r else decide (rnk k = 4)) = false
    rw [if_neg (by omega), decide_eq_false (by omega)]
theorem iah_1 (h : okx ks 4) (h2 : opk ks = 41) : iah ks = true := by
  unfold iah
  cases ks with
  | nil => exact absurd h2 (by show ¬ (0 : Nat) = 41; decide)
  | cons k r =>
    have := h k r rfl
    rw [decide_eq_true h2, Bool.true_and]
    show (decide (40 ≤ k) || (decide (1 ≤ rnk k) && decide (rnk k ≤ 3))) = true
    by_cases y : 40 ≤ k
    · rw [decide_eq_true y, Bool.true_or]
    · have : 1 ≤ rnk k := by
        unfold rnk
        rw [if_neg y]
        (repeat' split) <;> omega
      rw [decide_eq_true this, decide_eq_true (show rnk k ≤ 3 by omega), Bool.and_true, Bool.or_true]
theorem cmp_o {K : Nat} (h : 25 ≤ K ∧ K ≤ 30) : K - 15 ≠ 0 ∧ K - 15 < 40 ∧ lst (K - 15) = 5 ∧ rnk (K - 15) = 4 ∧ opc (K - 15) = 0 ∧ mo K = K - 15 := by
  have : K = 25 ∨ K = 26 ∨ K = 27 ∨ K = 28 ∨ K = 29 ∨ K = 30 := by omega
  rcases this with rfl | rfl | rfl | rfl | rfl | rfl <;> decide
theorem g_ask {F : Nat} (hd : 7 ≤ d) (hb : ∀ i, i < n → bI (f i) 0 255) (hT : TKE f n c) (q9 : QS P d n f c t law 9 F) (q0 : QS P d n f c t law 0 F) : QS P d n f c t law 9 (F + 1) := by
  intro D i x r w W ks h hD hi hP hl hW hk ho h41 h15
  have c300 := hT.1
  have h41 := h41 (by omega)
  have hk : ks.length ≤ 6 * D + 2 := hk
  have ho : okx ks 4 := ho
  rw [pp_9] at h
  by_cases c1 : kkf f n i = 15
  · rw [if_pos c1] at h
    have c1' : (tkn f n i).1 = 15 := c1
    have i1 := TKE_n hT hi (show (tkn f n i).1 ≠ 39 by omega)
    have bg : bgo (tkn f n i).1 ks = 20 := by
      rw [c1']
      unfold bgo
      simp +decide [iah_1 ho h41]
    obtain ⟨p1, p2⟩ := op_push (P := P) hd hb hP (by omega) bg (by omega) (by omega) (by omega) hD
    by_cases v : 8 ≤ D
    · rw [if_pos v] at h
      cases h
      exact p1 v
    · rw [if_neg v] at h
      obtain ⟨w1, a1, a2, a3, a4⟩ := p2 v
      have lc : (20 :: ks).length = ks.length + 1 := List.length_cons
      have G : ∀ r, pp (kkf f n) (vvf f n) law F 9 (D + 1) (i + 1) x = some r → RES P d w1 n f t W (20 :: ks) (D + 1) 9 r := fun r hr => q9 (D + 1) (i + 1) x r w1 W _ hr (by omega) i1 a2 (law_c a4 hl) (by rw [lc]; omega) (by rw [lc]; show ks.length + 1 ≤ 6 * (D + 1) + 2; omega) (fun a b e => by injection e with e1 e2; rw [← e1]; decide) (fun _ => h41) (fun z => by omega)
      rcases pb_cases h with ⟨y, h1, rfl⟩ | ⟨e, j, h1, h2⟩
      · exact FLT_go a1 a4 (G _ h1)
      · obtain ⟨w2, W2, ps, b1, b2, b3, b4, b5, b6, b7, b8, b9⟩ := G _ h1
        cases h2
        have b2 : MP w2 n f j t W2 (ps ++ 20 :: ks) (D + 1 + ops ps) true := b2
        have b9 : W2 + (ps.length + (20 :: ks).length) ≤ j := b9
        have b4 : icm (ps ++ 20 :: ks) = true := b4
        have b3 : ∀ o ∈ ps, 3 ≤ rnk o := b3
        have ap : ps ++ 20 :: ks = (ps ++ [20]) ++ ks := by rw [List.append_assoc]; rfl
        rw [lc] at b9
        rw [ap] at b2 b4
        refine ⟨w2, W2, ps ++ [20], RCH_trans a1 b1, ?_, ?_, b4, PND_un rfl b5, fun k hk => by rw [b6 k hk, a3], chk_trans a4 b7, b8, ?_⟩
        · rw [ops_1, show opc 20 = 1 from rfl, show D + (ops ps + 1) = D + 1 + ops ps by omega]; exact b2
        · intro o ho
          rw [List.mem_append, List.mem_singleton] at ho
          rcases ho with ho | rfl
          · exact b3 o ho
          · decide
        · rw [List.length_append]
          show W2 + (ps.length + 1 + ks.length) ≤ j
          omega
  · rw [if_neg c1] at h
    have G : ∀ r, pp (kkf f n) (vvf f n) law F 0 D i x = some r → RES P d w n f t W ks D 0 r := fun r hr => q0 D i x r w W ks hr hD hi hP hl hW (by show ks.length ≤ 6 * D + 3; omega) (okx_m ho (by show 4 ≤ 5; omega)) (fun z => by omega) (fun _ z => absurd z c1)
    rcases pb_cases h with ⟨y, h1, rfl⟩ | ⟨e, j, h1, h2⟩
    · exact G _ h1
    · obtain ⟨w1, W1, ps, a1, a2, a3, a4, a5, a6, a7, a8, a9⟩ := G _ h1
      have a2 : MP w1 n f j t W1 (ps ++ ks) (D + ops ps) true := a2
      have a9 : W1 + (ps.length + ks.length) ≤ j := a9
      have a4 : icm (ps ++ ks) = icm ks := a4
      have a3 : ∀ o ∈ ps, 5 ≤ rnk o := a3
      rw [icm_4 ho] at a4
      have oa := opk_app (ks := ks) (fun o ho' => Nat.le_trans (by omega) (a3 o ho'))
      rw [h41] at oa
      have jc := pp_ok hT.2 F 0 D i x e j (by omega) h1 hD hi (fun z => by cases z)
      have en := pp_end F 0 D i x e j (by omega) h1 (fun z => by cases z)
      have en : ¬ (31 ≤ kkf f n j ∧ kkf f n j ≤ 34) := by unfold pe at en; simp at en; omega
      have en : ¬ (31 ≤ (tkn f n j).1 ∧ (tkn f n j).1 ≤ 34) := en
      have bt : btw (tkn f n j).1 (ps ++ ks) = cmo (tkn f n j).1 := by
        unfold btw
        rw [if_neg en, if_pos oa, a4, if_neg (by decide)]
      by_cases v : 25 ≤ kkf f n j ∧ kkf f n j ≤ 30
      · rw [if_pos v] at h2
        have v' : 25 ≤ (tkn f n j).1 ∧ (tkn f n j).1 ≤ 30 := v
        obtain ⟨o0, o40, ol, orr, oz, om⟩ := cmp_o v
        have j1 := TKE_n hT jc.2.1 (show (tkn f n j).1 ≠ 39 by omega)
        have bt : btw (tkn f n j).1 (ps ++ ks) = kkf f n j - 15 := by rw [bt]; unfold cmo; rw [if_pos v']
        generalize hoo : kkf f n j - 15 = o at *
        obtain ⟨w2, b1, b2, b3, b4, b5⟩ := m_hop (P := P) (d := d) (by omega) hb a2 bt o0 (fun y hy => by rw [ol]; exact a3 y hy) (fun h r e => by rw [ol]; have := ho h r e; omega) (by have := jc.2.1; omega) (by omega) (by omega)
        rw [show D + ops ps - ops ps = D by omega] at b2
        have rc : RCH P d w1 w2 := t_beh1 a2.2.2.2 b1
        have hx1 : mseg (mcode w2 t) e W (W1 + ps.length) := a5 _ (fun k k1 k2 => b4 k k2) b3
        have lk : (o :: ks).length = ks.length + 1 := List.length_cons
        have cK : ∀ r, pp (kkf f n) (vvf f n) law F 0 D (j + 1) x = some r → RES P d w2 n f t (W1 + ps.length) (o :: ks) D 0 r := fun r hr => q0 D (j + 1) x r w2 (W1 + ps.length) (o :: ks) hr hD j1 b2 (law_c (chk_trans a7 b5) hl) (by rw [lk]; omega) (by rw [lk]; show ks.length + 1 ≤ 6 * D + 3; omega) (fun a b e => by injection e with e1 e2; rw [← e1]; show rnk o < 5; omega) (fun z => by omega)
          (fun _ _ => by
            unfold iah
            show (_ && (decide (40 ≤ o) || (decide (1 ≤ rnk o) && decide (rnk o ≤ 3)))) = false
            rw [decide_eq_false (show ¬ 40 ≤ o by omega), decide_eq_false (show ¬ rnk o ≤ 3 by omega), Bool.and_false, Bool.false_or, Bool.and_false])
        rcases pb_cases h2 with ⟨y, h3, rfl⟩ | ⟨e2, k, h3, h4⟩
        · exact FLT_go (RCH_trans a1 rc) (chk_trans a7 b5) (cK _ h3)
        · obtain ⟨w3, W3, ps2, d1, d2, d3, d4, d5, d6, d7, d8, d9⟩ := cK _ h3
          cases h4
          have ap : ps2 ++ o :: ks = (ps2 ++ [o]) ++ ks := by rw [List.append_assoc]; rfl
          have d2 : MP w3 n f k t W3 (ps2 ++ o :: ks) (D + ops ps2) true := d2
          have d4 : icm (ps2 ++ o :: ks) = icm (o :: ks) := d4
          have d9 : W3 + (ps2.length + (o :: ks).length) ≤ k := d9
          have d3 : ∀ o ∈ ps2, 5 ≤ rnk o := d3
          have ic : icm (o :: ks) = true := by
            show (if 4 < rnk o then icm ks else decide (rnk o = 4)) = true
            rw [if_neg (by omega), decide_eq_true orr]
          rw [ic] at d4
          rw [ap] at d2 d4
          rw [lk] at d9
          refine ⟨w3, W3, ps2 ++ [o], RCH_trans a1 (RCH_trans rc d1), ?_, ?_, d4, PND_bin om (mseg_cg hx1 (fun q _ q2 => d6 q q2)) d5 d8, fun q hq => by rw [d6 q (by omega), b4 q (by omega), a6 q hq], chk_trans a7 (chk_trans b5 d7), by omega, ?_⟩
          · rw [ops_1, oz]; exact d2
          · intro y hy
            rw [List.mem_append, List.mem_singleton] at hy
            rcases hy with hy | rfl
            · exact Nat.le_trans (by show 3 ≤ 5; omega) (d3 y hy)
            · rw [orr]; show 3 ≤ 4; omega
          · rw [List.length_append]
            show W3 + (ps2.length + 1 + ks.length) ≤ k
            omega
      · rw [if_neg v] at h2
        cases h2
        have v' : ¬ (25 ≤ (tkn f n j).1 ∧ (tkn f n j).1 ≤ 30) := v
        have bt : btw (tkn f n j).1 (ps ++ ks) = 0 := by rw [bt]; unfold cmo; rw [if_neg v']
        have pz : pto (tkn f n j).1 (opk (ps ++ ks)) (icm (ps ++ ks)) = 0 := by
          rw [oa, a4]; unfold pto; rw [if_neg (by omega), if_pos rfl, if_neg (fun z => by cases z.2)]
        have g := m_hno (P := P) (d := d) (by omega) a2 bt pz
        have on := m_openNow (P := P) (d := d) (by omega) (EMT_h a2.2.2.1)
        rw [oa] at on
        exact FLT_go a1 a7 (FLT_of (t_beh0 a2.2.2.2 g (o := 41) (by omega) on) a2)
theorem q_choice {F : Nat} (hd : 7 ≤ d) (hb : ∀ i, i < n → bI (f i) 0 255) (hT : TKE f n c) (q5 : QS P d n f c t law 5 F) (q0 : QS P d n f c t law 0 F) : Q10 P d n f c t law (F + 1) := by
  intro D i x r w W ks us h hD hi hP hl hW hk ho hu huD
  have c300 := hT.1
  have ru := uns_r hu
  have ou := uns_o us hu
  have la : (us ++ ks).length = us.length + ks.length := List.length_append
  have lc : ∀ q : Nat, (q :: (us ++ ks)).length = us.length + ks.length + 1 := fun q => by rw [List.length_cons, la]
  rw [pp_10] at h
  have G := fun r hr => q5 D i x r w W (41 :: (us ++ ks)) hr hD hi hP hl (by rw [lc]; omega) (by rw [lc]; show _ ≤ 6 * D + 0; omega) (fun a b e => by injection e with e1 e2; rw [← e1]; decide) (fun _ => rfl) (fun z => by omega)
  rcases pb_cases h with ⟨y, h1, rfl⟩ | ⟨e, j, h1, h2⟩
  · exact G _ h1
  · obtain ⟨w1, W1, ps, a1, a2, a3, a4, a5, a6, a7, a8, a9⟩ := G _ h1
    have a2 : MP w1 n f j t W1 (ps ++ 41 :: (us ++ ks)) (D + ops ps) true := a2
    have a9 : W1 + (ps.length + (41 :: (us ++ ks)).length) ≤ j := a9
    have a4 : icm (ps ++ 41 :: (us ++ ks)) = true := a4
    have a3 : ∀ o ∈ ps, 1 ≤ rnk o := a3
    rw [lc] at a9
    have jc := pp_ok hT.2 F 5 D i x e j (by omega) h1 hD hi (fun z => by cases z)
    have en := pp_end F 5 D i x e j (by omega) h1 (fun z => by cases z)
    have en : ¬ kkf f n j = 16 ∧ ¬ kkf f n j = 17 ∧ ¬ (31 ≤ kkf f n j ∧ kkf f n j ≤ 34) := by unfold pe at en; simp at en; omega
    have en : ¬ (tkn f n j).1 = 16 ∧ ¬ (tkn f n j).1 = 17 ∧ ¬ (31 ≤ (tkn f n j).1 ∧ (tkn f n j).1 ≤ 34) := en
    have ok := opk_us (h := 41) (r := us ++ ks) a3 (by omega)
    have bz : btw (tkn f n j).1 (ps ++ 41 :: (us ++ ks)) = 0 := by
      unfold btw
      rw [if_neg en.2.2, if_pos ok, if_pos a4, if_neg en.1, if_neg en.2.1]
    by_cases v : kkf f n j = 12
    · rw [if_pos v] at h2
      have v' : (tkn f n j).1 = 12 := v
      have j1 := TKE_n hT jc.2.1 (show (tkn f n j).1 ≠ 39 by omega)
      obtain ⟨w2, b1, b2, b3, b4, b5⟩ := m_hpart (P := P) (d := d) (by omega) hb a2 bz (by omega) (r := 42) (by rw [v', a4]; rfl) (Or.inl rfl) a3 (by have := jc.2.1; omega) (by omega)
      rw [show D + ops ps - ops ps = D by omega] at b2
      have rc : RCH P d w1 w2 := t_beh1 a2.2.2.2 b1
      have hx1 : mseg (mcode w2 t) e W (W1 + ps.length) := a5 _ (fun k k1 k2 => b4 k k2) b3
      have ch2 := chk_trans a7 b5
      have G2 := fun r hr => q0 D (j + 1) x r w2 (W1 + ps.length) (42 :: (us ++ ks)) hr hD j1 b2 (law_c ch2 hl) (by rw [lc]; omega) (by rw [lc]; show _ ≤ 6 * D + 3; omega) (fun a b e => by injection e with e1 e2; rw [← e1]; decide) (fun z => by omega) (fun _ _ => iah_0 (by show ¬ (42 : Nat) = 41; decide))
      rcases pb_cases h2 with ⟨y, h3, rfl⟩ | ⟨e2, k, h3, h4⟩
      · exact FLT_go (RCH_trans a1 rc) ch2 (G2 _ h3)
      · obtain ⟨w3, W3, ps2, d1, d2, d3, d4, d5, d6, d7, d8, d9⟩ := G2 _ h3
        have d2 : MP w3 n f k t W3 (ps2 ++ 42 :: (us ++ ks)) (D + ops ps2) true := d2
        have d9 : W3 + (ps2.length + (42 :: (us ++ ks)).length) ≤ k := d9
        have d3 : ∀ o ∈ ps2, 5 ≤ rnk o := d3
        have d31 : ∀ o ∈ ps2, 1 ≤ rnk o := fun o ho => by have := d3 o ho; omega
        rw [lc] at d9
        have kc := pp_ok hT.2 F 0 D (j + 1) x e2 k (by omega) h3 hD j1 (fun z => by cases z)
        have en2 := pp_end F 0 D (j + 1) x e2 k (by omega) h3 (fun z => by cases z)
        have en2 : ¬ (31 ≤ kkf f n k ∧ kkf f n k ≤ 34) := by unfold pe at en2; simp at en2; omega
        have en2 : ¬ (31 ≤ (tkn f n k).1 ∧ (tkn f n k).1 ≤ 34) := en2
        have ok2 := opk_us (h := 42) (r := us ++ ks) d31 (by omega)
        have bz2 : btw (tkn f n k).1 (ps2 ++ 42 :: (us ++ ks)) = 0 := by
          unfold btw
          rw [if_neg en2, ok2, if_neg (by omega)]
        have rc2 := RCH_trans a1 (RCH_trans rc d1)
        have ch3 := chk_trans ch2 d7
        by_cases v2 : kkf f n k = 13
        · rw [if_pos v2] at h4
          have v2' : (tkn f n k).1 = 13 := v2
          have k1 := TKE_n hT kc.2.1 (show (tkn f n k).1 ≠ 39 by omega)
          obtain ⟨w4, f1, f2, f3, f4, f5⟩ := m_hpart (P := P) (d := d) (by omega) hb d2 bz2 (by omega) (r := 43) (by rw [v2']; rfl) (Or.inr rfl) d31 (by have := kc.2.1; omega) (by omega)
          rw [show D + ops ps2 - ops ps2 = D by omega] at f2
          have rc3 := RCH_trans rc2 (t_beh1 d2.2.2.2 f1)
          have hx2 : mseg (mcode w4 t) e2 (W1 + ps.length) (W3 + ps2.length) := d5 _ (fun k k1 k2 => f4 k k2) f3
          have ch4 := chk_trans ch3 f5
          have G3 := fun r hr => q0 D (k + 1) x r w4 (W3 + ps2.length) (43 :: (us ++ ks)) hr hD k1 f2 (law_c ch4 hl) (by rw [lc]; omega) (by rw [lc]; show _ ≤ 6 * D + 3; omega) (fun a b e => by injection e with e1 e2; rw [← e1]; decide) (fun z => by omega) (fun _ _ => iah_0 (by show ¬ (43 : Nat) = 41; decide))
          rcases pb_cases h4 with ⟨y, h5, rfl⟩ | ⟨e3, l, h5, h6⟩
          · exact FLT_go rc3 ch4 (G3 _ h5)
          · obtain ⟨w5, W5, ps3, p1, p2, p3, p4, p5, p6, p7, p8, p9⟩ := G3 _ h5
            have p2 : MP w5 n f l t W5 (ps3 ++ 43 :: (us ++ ks)) (D + ops ps3) true := p2
            have p9 : W5 + (ps3.length + (43 :: (us ++ ks)).length) ≤ l := p9
            have p3 : ∀ o ∈ ps3, 5 ≤ rnk o := p3
            have p31 : ∀ o ∈ ps3, 1 ≤ rnk o := fun o ho => by have := p3 o ho; omega
            rw [lc] at p9
            have lc3 := pp_ok hT.2 F 0 D (k + 1) x e3 l (by omega) h5 hD k1 (fun z => by cases z)
            have en3 := pp_end F 0 D (k + 1) x e3 l (by omega) h5 (fun z => by cases z)
            have en3 : ¬ (31 ≤ kkf f n l ∧ kkf f n l ≤ 34) := by unfold pe at en3; simp at en3; omega
            have en3 : ¬ (31 ≤ (tkn f n l).1 ∧ (tkn f n l).1 ≤ 34) := en3
            have ok3 := opk_us (h := 43) (r := us ++ ks) p31 (by omega)
            have bz3 : btw (tkn f n l).1 (ps3 ++ 43 :: (us ++ ks)) = 0 := by
              unfold btw
              rw [if_neg en3, ok3, if_neg (by omega)]
            have rc4 := RCH_trans rc3 p1
            have ch5 := chk_trans ch4 p7
            by_cases v3 : kkf f n l = 14
            · rw [if_pos v3] at h6
              cases h6
              have v3' : (tkn f n l).1 = 14 := v3
              obtain ⟨w6, g1, g2, g3, g4, g5, g6, g7⟩ := m_hshut (P := P) (d := d) (by omega) hb p2 bz3 (by omega) (by rw [v3']; rfl) p31 ru ho (by rw [if_pos rfl]; have := lc3.2.1; omega) (by omega)
              rw [if_pos rfl] at g2 g5
              rw [show D + ops ps3 - ops ps3 - 1 - ops us = D - 1 - us.length by omega] at g2
              have hx3 : mseg (mcode w6 t) e3 (W3 + ps2.length) (W5 + ps3.length) := p5 _ (fun k k1 k2 => g6 k k2) g3
              refine ⟨w6, W5 + ps3.length + 1, RCH_trans rc4 (t_beh1 p2.2.2.2 g1), g2, ?_, g5, fun q hq => by rw [g6 q (by omega), p6 q (by omega), f4 q (by omega), d6 q (by omega), b4 q (by omega), a6 q hq], chk_trans ch5 g7, by omega, by show W5 + ps3.length + 1 + (us.length + ks.length) ≤ l + 1; omega⟩
              exact ⟨W1 + ps.length, W3 + ps2.length, W5 + ps3.length, mseg_cg hx1 (fun q _ q2 => by rw [g6 q (by omega), p6 q (by omega), f4 q (by omega), d6 q (by omega)]), mseg_cg hx2 (fun q _ q2 => by rw [g6 q (by omega), p6 q (by omega)]), hx3, rfl, by rw [g4 rfl]⟩
            · rw [if_neg v3] at h6
              cases h6
              have v3' : ¬ (tkn f n l).1 = 14 := v3
              have pz : pto (tkn f n l).1 (opk (ps3 ++ 43 :: (us ++ ks))) (icm (ps3 ++ 43 :: (us ++ ks))) = 0 := by
                rw [ok3]; unfold pto; rw [if_neg (by omega), if_neg (by omega), if_neg (by omega), if_pos rfl, if_neg v3']
              have g := m_hno (P := P) (d := d) (by omega) p2 bz3 pz
              have on := m_openNow (P := P) (d := d) (by omega) (EMT_h p2.2.2.1)
              rw [ok3] at on
              exact FLT_go rc4 ch5 (FLT_of (t_beh0 p2.2.2.2 g (o := 43) (by omega) on) p2)
        · rw [if_neg v2] at h4
          cases h4
          have v2' : ¬ (tkn f n k).1 = 13 := v2
          have pz : pto (tkn f n k).1 (opk (ps2 ++ 42 :: (us ++ ks))) (icm (ps2 ++ 42 :: (us ++ ks))) = 0 := by
            rw [ok2]; unfold pto; rw [if_neg (by omega), if_neg (by omega), if_pos rfl, if_neg v2']
          have g := m_hno (P := P) (d := d) (by omega) d2 bz2 pz
          have on := m_openNow (P := P) (d := d) (by omega) (EMT_h d2.2.2.1)
          rw [ok2] at on
          exact FLT_go rc2 ch3 (FLT_of (t_beh0 d2.2.2.2 g (o := 42) (by omega) on) d2)
    · rw [if_neg v] at h2
      cases h2
      have v' : ¬ (tkn f n j).1 = 12 := v
      have pz : pto (tkn f n j).1 (opk (ps ++ 41 :: (us ++ ks))) (icm (ps ++ 41 :: (us ++ ks))) = 0 := by
        rw [ok]; unfold pto; rw [if_neg (by omega), if_pos rfl, if_neg (fun z => v' z.1)]
      have g := m_hno (P := P) (d := d) (by omega) a2 bz pz
      have on := m_openNow (P := P) (d := d) (by omega) (EMT_h a2.2.2.1)
      rw [ok] at on
      exact FLT_go a1 a7 (FLT_of (t_beh0 a2.2.2.2 g (o := 41) (by omega) on) a2)
/-- every mode -/
theorem m_pp (hd : 7 ≤ d) (hb : ∀ i, i < n → bI (f i) 0 255) (hlaw : law ≤ 1) (hT : TKE f n c) : ∀ F, (∀ md, md = 0 ∨ md = 2 ∨ md = 5 ∨ md = 7 ∨ md = 9 → QS P d n f c t law md F) ∧ (∀ md, md = 1 ∨ md = 3 ∨ md = 6 ∨ md = 8 → QR P d n f c t law md F) ∧ Q4 P d n f c t law F ∧ Q10 P d n f c t law F := by
  intro F
  induction F with
  | zero =>
    refine ⟨fun md _ => ?_, fun md _ => ?_, ?_, ?_⟩
    · intro D i x r w W ks h; cases h
    · intro D i x r w W W0 ks ps h; cases h
    · intro D i x r w W ks us h; cases h
    · intro D i x r w W ks us h; cases h
  | succ F ih =>
    obtain ⟨h1, h2, h3, h4⟩ := ih
    have q4 := q_four h3
    refine ⟨fun md hm => ?_, fun md hm => ?_, q_one hd hb hlaw hT h3 (h1 0 (by omega)) h4, q_choice hd hb hT (h1 5 (by omega)) (h1 0 (by omega))⟩
    · rcases hm with rfl | rfl | rfl | rfl | rfl
      · exact g_head (sb := 2) (rs := 1) (by unfold hbd; omega) hT (h1 2 (by omega)) (h2 1 (by omega))
      · exact g_head (sb := 4) (rs := 3) (by unfold hbd; omega) hT q4 (h2 3 (by omega))
      · exact g_head (sb := 7) (rs := 6) (by unfold hbd; omega) hT (h1 7 (by omega)) (h2 6 (by omega))
      · exact g_head (sb := 9) (rs := 8) (by unfold hbd; omega) hT (h1 9 (by omega)) (h2 8 (by omega))
      · exact g_ask hd hb hT (h1 9 (by omega)) (h1 0 (by omega))
    · rcases hm with rfl | rfl | rfl | rfl
      · exact g_rest (sb := 2) (by omega) hb (by unfold rbd; omega) hT (h1 2 (by omega)) (h2 1 (by omega))
      · exact g_rest (sb := 4) (by omega) hb (by unfold rbd; omega) hT q4 (h2 3 (by omega))
      · exact g_rest (sb := 7) (by omega) hb (by unfold rbd; omega) hT (h1 7 (by omega)) (h2 6 (by omega))
      · exact g_rest (sb := 9) (by omega) hb (by unfold rbd; omega) hT (h1 9 (by omega)) (h2 8 (by omega))
end MPC
