/-! the reference runs a law -/
section NR
variable {P : Nat → Nat → List Value → ee_W → Option (List Value × ee_W)} {d : Nat} {w w0 : ee_W} {X : HX} {tx cl : Int32} {xx cd E kk : Nat} {nm : Nat → Int32}
theorem mseg_lt (code : Nat → Int32 × Int32) : ∀ N e, esz e ≤ N → ∀ f t, mseg code e f t → f < t := by
  intro N
  induction N with
  | zero => intro e he; cases e <;> simp only [esz] at he <;> omega
  | succ N ih =>
    intro e he f t hs
    unfold mseg at hs
    split at hs
    · omega
    · obtain ⟨m, h1, h2, h3⟩ := hs
      simp only [esz] at he
      have := ih _ (by omega) _ _ h1
      omega
    · obtain ⟨m, k, h1, h2, h3, h4⟩ := hs
      simp only [esz] at he
      have := ih _ (by omega) _ _ h1
      have := ih _ (by omega) _ _ h2
      omega
    · obtain ⟨m, k, q, h1, h2, h3, h4, h5⟩ := hs
      simp only [esz] at he
      have := ih _ (by omega) _ _ h1
      have := ih _ (by omega) _ _ h2
      have := ih _ (by omega) _ _ h3
      omega
    · cases hs
theorem GW_go {s s' : ee_E × ee_W} (h : GW P d s = some (.inl s')) : ee_wh (GW P d) s = ee_wh (GW P d) s' := by
  rw [ee_wh_eq, h]
def pmt (c _k : Nat) : Prop := c = 244
theorem nl_leaf (k o v : Nat) : nl k (.op (.var 0) (.op (.var o) (.var v))) = (o ≠ k) := rfl
theorem nl_un (k o : Nat) (a : ee_T) : nl k (.op (.op (.var 1) (.var o)) a) = nl k a := rfl
theorem nl_bin (k o : Nat) (a b : ee_T) : nl k (.op (.op (.op (.var 2) (.var o)) a) b) = (nl k a ∧ nl k b) := rfl
theorem nl_if (k : Nat) (c a b : ee_T) : nl k (.op (.op (.op (.var 3) c) a) b) = (nl k c ∧ nl k a ∧ nl k b) := rfl
theorem eb_of {x : Int32} (h : x = 0 ∨ x = 1) : ∃ p, x = ee_b p := by
  rcases h with h | h
  · exact ⟨false, h⟩
  · exact ⟨true, h⟩
theorem nrun (hd : 4 ≤ d) (hxx : xx + 2 < 2724) (hcd : cd + 602 < 2724) (hE : E ≤ 300) (hEw : w0.1 239 (xx + 2) = Int32.ofNat E)
    (hnm : ∀ o, 18 ≤ o → o ≤ 24 → o ≠ kk → w0.1 242 (o - 18) = nm o) (hnb : ∀ o, bI (nm o) (-1000000) 1000000) (hl : ∀ k, k < 8 → w0.1 237 (15 + k) = X.1 (10 + k)) (hLb : ∀ x, bI (xlearnt X x) (-1000000) 1000000) :
    ∀ N e, esz e ≤ N → ∀ f t n tr w l8 l9, ¬ ty e = 0 → nl kk e → mseg (fun i => (w0.1 239 (cd + 2 * i), w0.1 239 (cd + 2 * i + 1))) e f t → t ≤ E → n + (t - f) ≤ 329 → tr + (t - f) ≤ 329 → chk pmt w0 w →
      ∃ w' n' tr' m8 m9, ee_wh (GW P d) (EM tx cl xx cd n tr f l8 l9, w) = ee_wh (GW P d) (EM tx cl xx cd n' tr' t m8 m9, w') ∧ chk pmt w w' ∧
        (ty e = 1 → n' = n + 1 ∧ tr' = tr ∧ w'.2.1 243 n = (av nm (xlearnt X) e).toInt64) ∧ (ty e = 2 → n' = n ∧ tr' = tr + 1 ∧ w'.1 244 tr = av nm (xlearnt X) e) ∧
        (∀ j, j < n → w'.2.1 243 j = w.2.1 243 j) ∧ (∀ j, j < tr → w'.1 244 j = w.1 244 j) := by
  have hd1 : 1 ≤ d := by omega
  have hd2 : 2 ≤ d := by omega
  have hq : ∀ w, chk pmt w0 w → ∀ c k, c ≠ 244 → w.1 c k = w0.1 c k := fun w hw c k hc => hw.1 c k hc
  have hat : ∀ w, chk pmt w0 w → ∀ i, i < E → at_ok w xx cd i E := fun w hw i hi => ⟨hxx, hcd, hi, hE, (hq w hw 239 _ (by decide)).trans hEw⟩
  have hav := av_b hnb hLb
  intro N
  induction N with
  | zero => intro e he; cases e <;> simp only [esz] at he <;> omega
  | succ N ih =>
    intro e he f t n tr w l8 l9 hty hnl hs ht hn htr hw
    have hcode := hq w hw
    unfold mseg at hs
    split at hs
    · rename_i o v
      obtain ⟨rfl, hc⟩ := hs
      rw [Prod.mk.injEq] at hc
      obtain ⟨hc1, hc2⟩ := hc
      rw [nl_leaf] at hnl
      rw [ty_leaf] at hty ⊢
      have hty1 : (o = 38 ∧ v ≤ 9999) ∨ (18 ≤ o ∧ o ≤ 24) := by
        split at hty
        · assumption
        · exact absurd rfl hty
      rw [if_pos hty1]
      have g1 : w.1 239 (cd + 2 * f) = Int32.ofNat (mo o) := (hcode 239 _ (by decide)).trans hc1
      have g2 : w.1 239 (cd + 2 * f + 1) = Int32.ofNat (mvv o v) := (hcode 239 _ (by decide)).trans hc2
      rcases hty1 with ⟨rfl, hv⟩ | ho
      · have g := u_num (P := P) (d := d) (tx := tx) (cl := cl) (n := n) (tr := tr) (l8 := l8) (l9 := l9) (hat w hw f (by omega)) g1 g2 (by omega)
        refine ⟨_, _, _, _, _, GW_go g, chk_J (chk_refl _ _), fun _ => ⟨rfl, rfl, ?_⟩, fun z => by omega, fun j hj => ?_, fun j hj => rfl⟩
        · rw [wJ_at, if_pos ⟨rfl, rfl⟩, av_leaf, if_pos rfl]
          rfl
        · rw [wJ_at, if_neg (fun z => by omega)]
      · have m1 : mo o = 1 := by
          unfold mo
          rw [if_neg (by omega), if_pos ho]
        have m2 : mvv o v = o - 18 := by
          unfold mvv
          rw [if_neg (by omega)]
        rw [m1] at g1
        rw [m2] at g2
        have g := u_nam (P := P) (d := d) (tx := tx) (cl := cl) (n := n) (tr := tr) (l8 := l8) (l9 := l9) (hat w hw f (by omega)) g1 g2 (by omega) (by omega)
        refine ⟨_, _, _, _, _, GW_go g, chk_J (chk_refl _ _), fun _ => ⟨rfl, rfl, ?_⟩, fun z => by omega, fun j hj => ?_, fun j hj => rfl⟩
        · rw [wJ_at, if_pos ⟨rfl, rfl⟩, av_leaf, if_neg (by omega), hcode 242 _ (by decide), hnm o ho.1 ho.2 hnl]
        · rw [wJ_at, if_neg (fun z => by omega)]
    · rename_i o a
      obtain ⟨m, hs1, rfl, hc1⟩ := hs
      rw [nl_un] at hnl
      simp only [esz] at he
      have hlt := mseg_lt _ _ _ (Nat.le_refl _) _ _ hs1
      rw [ty_un] at hty ⊢
      obtain ⟨b1, b2⟩ := hav _ a (Nat.le_refl _)
      by_cases q1 : ty a = 1 ∧ (o = 9 ∨ o = 10 ∨ o = 41)
      · rw [if_pos q1]
        obtain ⟨w1, n1, t1, m8, m9, r1, r2, r3, r4, r5, r6⟩ := ih a (by omega) f m n tr w l8 l9 (by omega) hnl hs1 (by omega) (by omega) (by omega) hw
        obtain ⟨rfl, rfl, r7⟩ := r3 q1.1
        have hw1 := chk_trans hw r2
        have g1 : w1.1 239 (cd + 2 * m) = Int32.ofNat (mo o) := (hq w1 hw1 239 _ (by decide)).trans hc1
        have hy := m_ofOne (P := P) (w := w1) (X := X) hd q1.2 (fun k hk => (hq w1 hw1 237 _ (by decide)).trans (hl k hk)) (b1 q1.1)
        rw [← r7] at hy
        have hm : ¬ Int32.ofNat (mo o) ≤ 1 ∧ ¬ Int32.ofNat (mo o) = 3 ∧ Int32.ofNat (mo o) ≤ 5 := by
          rcases q1.2 with rfl | rfl | rfl <;> decide
        have g := u_one (P := P) (d := d) (tx := tx) (cl := cl) (n := n) (tr := t1) (l8 := m8) (l9 := m9) (hat w1 hw1 m (by omega)) g1 rfl hm.1 hm.2.1 hm.2.2 (by omega) hy
        refine ⟨_, _, _, _, _, r1.trans (GW_go g), chk_J r2, fun _ => ⟨rfl, rfl, ?_⟩, fun z => by omega, fun j hj => ?_, fun j hj => r6 j hj⟩
        · rw [wJ_at, if_pos ⟨rfl, rfl⟩, av_un]
        · rw [wJ_at, if_neg (fun z => by omega)]; exact r5 j hj
      · rw [if_neg q1] at hty ⊢
        have q2 : ty a = 2 ∧ o = 15 := by
          split at hty
          · assumption
          · exact absurd rfl hty
        rw [if_pos q2]
        obtain ⟨q3, rfl⟩ := q2
        obtain ⟨w1, n1, t1, m8, m9, r1, r2, r3, r4, r5, r6⟩ := ih a (by omega) f m n tr w l8 l9 (by omega) hnl hs1 (by omega) (by omega) (by omega) hw
        obtain ⟨rfl, rfl, r7⟩ := r4 q3
        have hw1 := chk_trans hw r2
        have g1 : w1.1 239 (cd + 2 * m) = 20 := (hq w1 hw1 239 _ (by decide)).trans hc1
        obtain ⟨p, hp⟩ := eb_of (b2 q3)
        rw [hp] at r7
        have g := u_not (P := P) (d := d) (tx := tx) (cl := cl) (n := n1) (tr := tr) (l8 := m8) (l9 := m9) (hat w1 hw1 m (by omega)) g1 rfl (by omega) r7
        refine ⟨_, _, _, _, _, r1.trans (GW_go g), chk_I rfl r2, fun z => by omega, fun _ => ⟨rfl, rfl, ?_⟩, fun j hj => r5 j hj, fun j hj => ?_⟩
        · rw [wI_at, if_pos ⟨rfl, rfl⟩, av_un, hp]
          cases p <;> rfl
        · rw [wI_at, if_neg (fun z => by omega)]; exact r6 j hj
    · rename_i o a b
      obtain ⟨m, k, hs1, hs2, rfl, hc1⟩ := hs
      rw [nl_bin] at hnl
      simp only [esz] at he
      have hlt := mseg_lt _ _ _ (Nat.le_refl _) _ _ hs1
      have hlt2 := mseg_lt _ _ _ (Nat.le_refl _) _ _ hs2
      rw [ty_bin] at hty ⊢
      obtain ⟨b1, b2⟩ := hav _ a (Nat.le_refl _)
      obtain ⟨c1, c2⟩ := hav _ b (Nat.le_refl _)
      by_cases q0 : ty a = 1 ∧ ty b = 1
      · obtain ⟨w1, n1, t1, m8, m9, r1, r2, r3, r4, r5, r6⟩ := ih a (by omega) f m n tr w l8 l9 (by omega) hnl.1 hs1 (by omega) (by omega) (by omega) hw
        obtain ⟨rfl, rfl, r7⟩ := r3 q0.1
        have hw1 := chk_trans hw r2
        obtain ⟨w2, n2, t2, p8, p9, s1, s2, s3, s4, s5, s6⟩ := ih b (by omega) m k (n + 1) t1 w1 m8 m9 (by omega) hnl.2 hs2 (by omega) (by omega) (by omega) hw1
        obtain ⟨rfl, rfl, s7⟩ := s3 q0.2
        have hw2 := chk_trans hw1 s2
        have v1 : w2.2.1 243 n = (av nm (xlearnt X) a).toInt64 := (s5 n (by omega)).trans r7
        have g1 : w2.1 239 (cd + 2 * k) = Int32.ofNat (mo o) := (hq w2 hw2 239 _ (by decide)).trans hc1
        by_cases q1 : 31 ≤ o ∧ o ≤ 34
        · rw [if_pos ⟨q0.1, q0.2, q1⟩]
          have hy := m_two (P := P) (w := w2) hd2 q1 (w2.2.1 243 n) (w2.2.1 243 (n + 1))
          have em : mo o = o - 25 := by
            have : o = 31 ∨ o = 32 ∨ o = 33 ∨ o = 34 := by omega
            rcases this with rfl | rfl | rfl | rfl <;> rfl
          rw [← em] at hy
          have hm : ¬ Int32.ofNat (mo o) ≤ 1 ∧ ¬ Int32.ofNat (mo o) = 3 ∧ ¬ Int32.ofNat (mo o) ≤ 5 ∧ Int32.ofNat (mo o) < 10 := by
            have : o = 31 ∨ o = 32 ∨ o = 33 ∨ o = 34 := by omega
            rcases this with rfl | rfl | rfl | rfl <;> decide
          have g := u_two (P := P) (d := d) (tx := tx) (cl := cl) (n := n) (tr := t2) (l8 := p8) (l9 := p9) (hat w2 hw2 k (by omega)) g1 rfl hm.1 hm.2.1 hm.2.2.1 hm.2.2.2 (by omega) hy
          refine ⟨_, _, _, _, _, r1.trans (s1.trans (GW_go g)), chk_J (chk_trans r2 s2), fun _ => ⟨rfl, rfl, ?_⟩, fun z => by omega, fun j hj => ?_, fun j hj => ?_⟩
          · rw [wJ_at, if_pos ⟨rfl, rfl⟩, av_bin, v1, s7]
            exact (two_eq q1 (b1 q0.1)).1
          · rw [wJ_at, if_neg (fun z => by omega), s5 j (by omega)]; exact r5 j hj
          · exact (s6 j hj).trans (r6 j hj)
        · have q2 : 25 ≤ o ∧ o ≤ 30 := by
            rw [if_neg (fun z => q1 z.2.2)] at hty
            split at hty
            · rename_i z; exact z.2.2
            · split at hty
              · omega
              · exact absurd rfl hty
          rw [if_neg (fun z => q1 z.2.2), if_pos ⟨q0.1, q0.2, q2⟩]
          have hy := m_ask (P := P) (w := w2) hd1 q2 (w2.2.1 243 n) (w2.2.1 243 (n + 1))
          have em : mo o = o - 15 := by
            have : o = 25 ∨ o = 26 ∨ o = 27 ∨ o = 28 ∨ o = 29 ∨ o = 30 := by omega
            rcases this with rfl | rfl | rfl | rfl | rfl | rfl <;> rfl
          rw [← em] at hy
          have hm : ¬ Int32.ofNat (mo o) ≤ 1 ∧ ¬ Int32.ofNat (mo o) = 3 ∧ ¬ Int32.ofNat (mo o) ≤ 5 ∧ ¬ Int32.ofNat (mo o) < 10 ∧ Int32.ofNat (mo o) < 20 := by
            have : o = 25 ∨ o = 26 ∨ o = 27 ∨ o = 28 ∨ o = 29 ∨ o = 30 := by omega
            rcases this with rfl | rfl | rfl | rfl | rfl | rfl <;> decide
          have g := u_ask (P := P) (d := d) (tx := tx) (cl := cl) (n := n) (tr := t2) (l8 := p8) (l9 := p9) (hat w2 hw2 k (by omega)) g1 rfl hm.1 hm.2.1 hm.2.2.1 hm.2.2.2.1 hm.2.2.2.2 (by omega) (by omega) hy
          refine ⟨_, _, _, _, _, r1.trans (s1.trans (GW_go g)), chk_I rfl (chk_trans r2 s2), fun z => by omega, fun _ => ⟨rfl, rfl, ?_⟩, fun j hj => ?_, fun j hj => ?_⟩
          · rw [wI_at, if_pos ⟨rfl, rfl⟩, av_bin, v1, s7]
            exact ask_eq q2 _ _
          · exact (s5 j (by omega)).trans (r5 j hj)
          · rw [wI_at, if_neg (fun z => by omega)]; exact (s6 j hj).trans (r6 j hj)
      · rw [if_neg (fun z => q0 ⟨z.1, z.2.1⟩), if_neg (fun z => q0 ⟨z.1, z.2.1⟩)] at hty ⊢
        have q3 : ty a = 2 ∧ ty b = 2 ∧ (o = 16 ∨ o = 17) := by
          split at hty
          · assumption
          · exact absurd rfl hty
        rw [if_pos q3]
        obtain ⟨q4, q5, q6⟩ := q3
        obtain ⟨w1, n1, t1, m8, m9, r1, r2, r3, r4, r5, r6⟩ := ih a (by omega) f m n tr w l8 l9 (by omega) hnl.1 hs1 (by omega) (by omega) (by omega) hw
        obtain ⟨rfl, rfl, r7⟩ := r4 q4
        have hw1 := chk_trans hw r2
        obtain ⟨w2, n2, t2, p8, p9, s1, s2, s3, s4, s5, s6⟩ := ih b (by omega) m k n1 (tr + 1) w1 m8 m9 (by omega) hnl.2 hs2 (by omega) (by omega) (by omega) hw1
        obtain ⟨rfl, rfl, s7⟩ := s4 q5
        have hw2 := chk_trans hw1 s2
        have v1 : w2.1 244 tr = av nm (xlearnt X) a := (s6 tr (by omega)).trans r7
        have g1 : w2.1 239 (cd + 2 * k) = Int32.ofNat (mo o) := (hq w2 hw2 239 _ (by decide)).trans hc1
        obtain ⟨x, hx⟩ := eb_of (b2 q4)
        obtain ⟨y, hy0⟩ := eb_of (c2 q5)
        have hy := m_joined (P := P) (w := w2) hd1 q6 x y
        obtain ⟨u, hu⟩ : ∃ u, jv o (ee_b x) (ee_b y) = ee_b u := by
          rcases q6 with rfl | rfl <;> cases x <;> cases y <;> first | exact ⟨true, by decide⟩ | exact ⟨false, by decide⟩
        rw [hu, ← hx, ← hy0, ← v1, ← s7] at hy
        have hm : ¬ Int32.ofNat (mo o) ≤ 1 ∧ ¬ Int32.ofNat (mo o) = 3 ∧ ¬ Int32.ofNat (mo o) ≤ 5 ∧ ¬ Int32.ofNat (mo o) < 10 ∧ ¬ Int32.ofNat (mo o) < 20 ∧ ¬ Int32.ofNat (mo o) = 20 := by
          rcases q6 with rfl | rfl <;> decide
        have g := u_join (P := P) (d := d) (tx := tx) (cl := cl) (n := n2) (tr := tr) (l8 := p8) (l9 := p9) (hat w2 hw2 k (by omega)) g1 rfl hm.1 hm.2.1 hm.2.2.1 hm.2.2.2.1 hm.2.2.2.2.1 hm.2.2.2.2.2 (by omega) hy
        refine ⟨_, _, _, _, _, r1.trans (s1.trans (GW_go g)), chk_I rfl (chk_trans r2 s2), fun z => by omega, fun _ => ⟨rfl, rfl, ?_⟩, fun j hj => ?_, fun j hj => ?_⟩
        · rw [wI_at, if_pos ⟨rfl, rfl⟩, av_bin, hx, hy0, hu]
        · exact (s5 j hj).trans (r5 j hj)
        · rw [wI_at, if_neg (fun z => by omega)]; exact (s6 j (by omega)).trans (r6 j hj)
    · rename_i c a b
      obtain ⟨m, k, q, hs1, hs2, hs3, rfl, hc1⟩ := hs
      rw [nl_if] at hnl
      simp only [esz] at he
      have hlt := mseg_lt _ _ _ (Nat.le_refl _) _ _ hs1
      have hlt2 := mseg_lt _ _ _ (Nat.le_refl _) _ _ hs2
      have hlt3 := mseg_lt _ _ _ (Nat.le_refl _) _ _ hs3
      rw [ty_if] at hty ⊢
      have q0 : ty c = 2 ∧ ty a = 1 ∧ ty b = 1 := by
        split at hty
        · assumption
        · exact absurd rfl hty
      rw [if_pos q0]
      obtain ⟨b1, b2⟩ := hav _ c (Nat.le_refl _)
      obtain ⟨w1, n1, t1, m8, m9, r1, r2, r3, r4, r5, r6⟩ := ih c (by omega) f m n tr w l8 l9 (by omega) hnl.1 hs1 (by omega) (by omega) (by omega) hw
      obtain ⟨rfl, rfl, r7⟩ := r4 q0.1
      have hw1 := chk_trans hw r2
      obtain ⟨w2, n2, t2, p8, p9, s1, s2, s3, s4, s5, s6⟩ := ih a (by omega) m k n1 (tr + 1) w1 m8 m9 (by omega) hnl.2.1 hs2 (by omega) (by omega) (by omega) hw1
      obtain ⟨rfl, rfl, s7⟩ := s3 q0.2.1
      have hw2 := chk_trans hw1 s2
      obtain ⟨w3, n3, t3, v8, v9, x1, x2, x3, x4, x5, x6⟩ := ih b (by omega) k q (n1 + 1) (tr + 1) w2 p8 p9 (by omega) hnl.2.2 hs3 (by omega) (by omega) (by omega) hw2
      obtain ⟨rfl, rfl, x7⟩ := x3 q0.2.2
      have hw3 := chk_trans hw2 x2
      have v1 : w3.1 244 tr = av nm (xlearnt X) c := (x6 tr (by omega)).trans ((s6 tr (by omega)).trans r7)
      have v2 : w3.2.1 243 n1 = (av nm (xlearnt X) a).toInt64 := (x5 n1 (by omega)).trans s7
      have g1 : w3.1 239 (cd + 2 * q) = 3 := (hq w3 hw3 239 _ (by decide)).trans hc1
      obtain ⟨p, hp⟩ := eb_of (b2 q0.1)
      rw [hp] at v1
      have g := u_sel (P := P) (d := d) (tx := tx) (cl := cl) (n := n1) (tr := tr) (l8 := v8) (l9 := v9) (hat w3 hw3 q (by omega)) g1 rfl (by omega) (by omega) v1
      cases p
      · rw [if_neg (by decide)] at g
        refine ⟨_, _, _, _, _, r1.trans (s1.trans (x1.trans (GW_go g))), chk_J (chk_trans r2 (chk_trans s2 x2)), fun _ => ⟨rfl, rfl, ?_⟩, fun z => by omega, fun j hj => ?_, fun j hj => ?_⟩
        · rw [wJ_at, if_pos ⟨rfl, rfl⟩, av_if, hp, if_pos (by rfl)]
          exact x7
        · rw [wJ_at, if_neg (fun z => by omega), x5 j (by omega), s5 j hj]; exact r5 j hj
        · exact (x6 j (by omega)).trans ((s6 j (by omega)).trans (r6 j hj))
      · rw [if_pos rfl] at g
        refine ⟨_, _, _, _, _, r1.trans (s1.trans (x1.trans (GW_go g))), chk_trans r2 (chk_trans s2 x2), fun _ => ⟨rfl, rfl, ?_⟩, fun z => by omega, fun j hj => ?_, fun j hj => ?_⟩
        · rw [av_if, hp, if_neg (by decide)]
          exact v2
        · rw [x5 j (by omega), s5 j hj]; exact r5 j hj
        · exact (x6 j (by omega)).trans ((s6 j (by omega)).trans (r6 j hj))
    · cases hs
end NR
