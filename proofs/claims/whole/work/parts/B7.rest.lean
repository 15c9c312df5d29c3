/-! the reference's loop is the parser: what comes of a mode, and the modes that go on between two -/
section MPA
variable {P : Nat → Nat → List Value → ee_W → Option (List Value × ee_W)} {d : Nat} {w w1 : ee_W} {f : Nat → Int32} {n c t i j W W0 O D law : Nat} {ks ps : List Nat} {x e : ee_T}
def rmd (md : Nat) : Nat := if md ≤ 1 then 5 else if md ≤ 3 then 6 else if md = 4 then 7 else if md ≤ 6 then 1 else if md ≤ 8 then 2 else 3
def cmd (md : Nat) : Nat := if md ≤ 1 then 5 else if md ≤ 3 then 6 else if md = 4 then 7 else if md ≤ 6 then 1 else if md ≤ 8 then 2 else 4
def lmd (md : Nat) : Nat := if md ≤ 1 then 3 else if md ≤ 3 then 4 else if md = 4 then 5 else if md ≤ 6 then 0 else if md ≤ 8 then 1 else 2
def okx (ks : List Nat) (B : Nat) : Prop := ∀ h r, ks = h :: r → rnk h < B
theorem okx_m {B C : Nat} (h : okx ks B) (hBC : B ≤ C) : okx ks C := fun a r e => Nat.lt_of_lt_of_le (h a r e) hBC
def SUC (P : Nat → Nat → List Value → ee_W → Option (List Value × ee_W)) (d : Nat) (w : ee_W) (n : Nat) (f : Nat → Int32) (t W0 : Nat) (ks : List Nat) (D md : Nat) (e : ee_T) (j : Nat) : Prop := ∃ (w' : ee_W) (W' : Nat) (ps : List Nat), RCH P d w w' ∧ MP w' n f j t W' (ps ++ ks) (D + ops ps) true ∧ (∀ o ∈ ps, rmd md ≤ rnk o) ∧ icm (ps ++ ks) = (if 5 ≤ md then true else icm ks) ∧ PND (mcode w' t) e W0 W' ps ∧ (∀ k, k < W0 → mcode w' t k = mcode w t k) ∧ chk (pms t) w w' ∧ W0 ≤ W' ∧ W' + (ps.length + ks.length) ≤ j
def FLT (P : Nat → Nat → List Value → ee_W → Option (List Value × ee_W)) (d : Nat) (w : ee_W) (n : Nat) (f : Nat → Int32) (t q j : Nat) : Prop := ∃ w', RCF P d w q w' ∧ MTAP w' n f ∧ MTK w' f n (rnq isBi f n (tpos f n j)) ∧ chk (pms t) w w'
def RES (P : Nat → Nat → List Value → ee_W → Option (List Value × ee_W)) (d : Nat) (w : ee_W) (n : Nat) (f : Nat → Int32) (t W0 : Nat) (ks : List Nat) (D md : Nat) (r : PR) : Prop := match r with
  | .inl z => SUC P d w n f t W0 ks D md z.1 z.2
  | .inr y => FLT P d w n f t y.1 y.2
theorem FLT_go {q : Nat} (h : RCH P d w w1) (hc : chk (pms t) w w1) (h2 : FLT P d w1 n f t q j) : FLT P d w n f t q j := by
  obtain ⟨w', a1, a2, a3, a4⟩ := h2
  exact ⟨w', RCF_of h a1, a2, a3, chk_trans hc a4⟩
theorem RES_go {md : Nat} {r : PR} (h : RCH P d w w1) (hc : chk (pms t) w w1) (hk : ∀ k, k < W0 → mcode w1 t k = mcode w t k) (h2 : RES P d w1 n f t W0 ks D md r) : RES P d w n f t W0 ks D md r := by
  cases r with
  | inl z =>
    obtain ⟨w', W', ps, a1, a2, a3, a4, a5, a6, a7, a8, a9⟩ := h2
    exact ⟨w', W', ps, RCH_trans h a1, a2, a3, a4, a5, fun k k1 => (a6 k k1).trans (hk k k1), chk_trans hc a7, a8, a9⟩
  | inr y => exact FLT_go h hc h2
abbrev kkf (f : Nat → Int32) (n : Nat) : Nat → Nat := fun i => (tkn f n i).1
abbrev vvf (f : Nat → Int32) (n : Nat) : Nat → Nat := fun i => (tkn f n i).2.1
/-- a mode that begins -/
def QS (P : Nat → Nat → List Value → ee_W → Option (List Value × ee_W)) (d n : Nat) (f : Nat → Int32) (c t law md F : Nat) : Prop := ∀ D i x r w W ks, pp (kkf f n) (vvf f n) law F md D i x = some r → D ≤ 8 → i ≤ c → MP w n f i t W ks D false → w.1 236 14 = Int32.ofNat law → W + ks.length ≤ i → ks.length ≤ 6 * D + lmd md → okx ks (cmd md) → (5 ≤ md → opk ks = 41) → (md < 5 → kkf f n i = 15 → iah ks = false) → RES P d w n f t W ks D md r
/-- a mode that goes on behind what stands -/
def QR (P : Nat → Nat → List Value → ee_W → Option (List Value × ee_W)) (d n : Nat) (f : Nat → Int32) (c t law md F : Nat) : Prop := ∀ D i x r w W W0 ks ps, pp (kkf f n) (vvf f n) law F md D i x = some r → D ≤ 8 → i ≤ c → MP w n f i t W (ps ++ ks) (D + ops ps) true → w.1 236 14 = Int32.ofNat law → W + (ps.length + ks.length) ≤ i → ks.length ≤ 6 * D + lmd md → okx ks (rmd md) → (5 ≤ md → opk ks = 41) → (∀ o ∈ ps, rmd md ≤ rnk o) → icm (ps ++ ks) = (if 5 ≤ md then true else icm ks) → PND (mcode w t) x W0 W ps → W0 ≤ W → RES P d w n f t W0 ks D md r
theorem law_c {w' : ee_W} (hc : chk (pms t) w w') (h : w.1 236 14 = Int32.ofNat law) : w'.1 236 14 = Int32.ofNat law := (hc.1 _ _ (by unfold pms pem ptk; omega)).trans h
theorem MP_len {wh : Bool} (h : MP w n f i t W ks O wh) : ks.length ≤ 160 := h.2.2.1.2.2.2.2.2.2.2.2
def hbd (md sb rs : Nat) : Prop := (md = 0 ∧ sb = 2 ∧ rs = 1) ∨ (md = 2 ∧ sb = 4 ∧ rs = 3) ∨ (md = 5 ∧ sb = 7 ∧ rs = 6) ∨ (md = 7 ∧ sb = 9 ∧ rs = 8)
theorem pp_head {K V : Nat → Nat} {md sb rs F : Nat} (h : hbd md sb rs) (x : ee_T) : pp K V law (F + 1) md D i x = ppb (pp K V law F sb D i x) (fun e j => pp K V law F rs D j e) := by
  rcases h with ⟨rfl, rfl, rfl⟩ | ⟨rfl, rfl, rfl⟩ | ⟨rfl, rfl, rfl⟩ | ⟨rfl, rfl, rfl⟩ <;> rfl
/-- the token count: where they end -/
def TKE (f : Nat → Int32) (n c : Nat) : Prop := c ≤ 300 ∧ ∀ i, i ≤ c → (kkf f n i = 39 ↔ i = c)
theorem TKE_n (h : TKE f n c) (hi : i ≤ c) (hk : (tkn f n i).1 ≠ 39) : i + 1 ≤ c := by
  by_cases y : i = c
  · have := (h.2 i hi).2 y
    exact absurd this hk
  · omega
theorem g_head {md sb rs F : Nat} (hh : hbd md sb rs) (hT : TKE f n c) (q1 : QS P d n f c t law sb F) (q2 : QR P d n f c t law rs F) : QS P d n f c t law md (F + 1) := by
  intro D i x r w W ks h hD hi hP hl hW hk ho h41 h15
  rw [pp_head hh] at h
  have nb : cmd md ≤ cmd sb ∧ lmd md ≤ lmd sb ∧ lmd rs = lmd md ∧ rmd rs = cmd md ∧ (5 ≤ sb ↔ 5 ≤ md) ∧ (5 ≤ rs ↔ 5 ≤ md) ∧ rmd rs ≤ rmd sb ∧ sb ≤ 10 ∧ prs sb = false ∧ rmd rs = rmd md := by
    rcases hh with ⟨rfl, rfl, rfl⟩ | ⟨rfl, rfl, rfl⟩ | ⟨rfl, rfl, rfl⟩ | ⟨rfl, rfl, rfl⟩ <;> decide
  obtain ⟨n1, n2, n3, n4, n5, n6, n7, n8, n9, n10⟩ := nb
  rcases pb_cases h with ⟨y, h1, rfl⟩ | ⟨e, j, h1, h2⟩
  · exact q1 D i x _ w W ks h1 hD hi hP hl hW (by omega) (okx_m ho n1) (fun z => h41 (n5.1 z)) (fun z => h15 (by omega))
  · obtain ⟨w1, W1, ps, a1, a2, a3, a4, a5, a6, a7, a8, a9⟩ := q1 D i x _ w W ks h1 hD hi hP hl hW (by omega) (okx_m ho n1) (fun z => h41 (n5.1 z)) (fun z => h15 (by omega))
    obtain ⟨b1, b2, -⟩ := pp_ok hT.2 F sb D i x e j n8 h1 hD hi (fun z => by rw [n9] at z; cases z)
    have ia : icm (ps ++ ks) = (if 5 ≤ rs then true else icm ks) := by
      rw [a4]
      by_cases z : 5 ≤ md
      · rw [if_pos (n5.2 z), if_pos (n6.2 z)]
      · rw [if_neg (fun y => z (n5.1 y)), if_neg (fun y => z (n6.1 y))]
    have g := q2 D j e r w1 W1 W ks ps h2 hD b2 a2 (law_c a7 hl) a9 (by omega) (by rw [n4]; exact ho) (fun z => h41 (n6.1 z)) (fun o ho' => by have := a3 o ho'; omega) ia a5 a8
    have g2 := RES_go a1 a7 a6 g
    cases r with
    | inl z =>
      obtain ⟨w', W', ps', c1, c2, c3, c4, c5⟩ := g2
      have ib : icm (ps' ++ ks) = (if 5 ≤ md then true else icm ks) := by
        rw [c4]
        by_cases z : 5 ≤ md
        · rw [if_pos (n6.2 z), if_pos z]
        · rw [if_neg (fun y => z (n6.1 y)), if_neg z]
      exact ⟨w', W', ps', c1, c2, by rw [n10] at c3; exact c3, ib, c5⟩
    | inr y => exact g2
/-- operators of the modes that go on -/
def opq (md K : Nat) : Prop := (md = 1 ∧ (K = 31 ∨ K = 32)) ∨ (md = 3 ∧ (K = 33 ∨ K = 34)) ∨ (md = 6 ∧ K = 17) ∨ (md = 8 ∧ K = 16)
def rbd (md sb : Nat) : Prop := (md = 1 ∧ sb = 2) ∨ (md = 3 ∧ sb = 4) ∨ (md = 6 ∧ sb = 7) ∨ (md = 8 ∧ sb = 9)
theorem pp_rest {K V : Nat → Nat} {md sb F : Nat} {r : PR} (hm : rbd md sb) (h : pp K V law (F + 1) md D i x = some r) : (opq md (K i) ∧ ppb (pp K V law F sb D (i + 1) x) (fun e j => pp K V law F md D j (l_bin (K i) x e)) = some r) ∨ (¬ opq md (K i) ∧ r = .inl (x, i)) := by
  rcases hm with ⟨rfl, rfl⟩ | ⟨rfl, rfl⟩ | ⟨rfl, rfl⟩ | ⟨rfl, rfl⟩
  · rw [pp_1] at h
    by_cases z : K i = 31 ∨ K i = 32
    · rw [if_pos z] at h; exact Or.inl ⟨Or.inl ⟨rfl, z⟩, h⟩
    · rw [if_neg z] at h; cases h; exact Or.inr ⟨by unfold opq; omega, rfl⟩
  · rw [pp_3] at h
    by_cases z : K i = 33 ∨ K i = 34
    · rw [if_pos z] at h; exact Or.inl ⟨Or.inr (Or.inl ⟨rfl, z⟩), h⟩
    · rw [if_neg z] at h; cases h; exact Or.inr ⟨by unfold opq; omega, rfl⟩
  · rw [pp_6] at h
    by_cases z : K i = 17
    · rw [if_pos z] at h; rw [z]; exact Or.inl ⟨Or.inr (Or.inr (Or.inl ⟨rfl, rfl⟩)), h⟩
    · rw [if_neg z] at h; cases h; exact Or.inr ⟨by unfold opq; omega, rfl⟩
  · rw [pp_8] at h
    by_cases z : K i = 16
    · rw [if_pos z] at h; rw [z]; exact Or.inl ⟨Or.inr (Or.inr (Or.inr ⟨rfl, rfl⟩)), h⟩
    · rw [if_neg z] at h; cases h; exact Or.inr ⟨by unfold opq; omega, rfl⟩
theorem opk_app (hu : ∀ o ∈ ps, 1 ≤ rnk o) : opk (ps ++ ks) = opk ks := by
  induction ps with
  | nil => rfl
  | cons k u ih =>
    rw [List.cons_append]
    have := hu k List.mem_cons_self
    show (if 40 ≤ k then k else opk (u ++ ks)) = _
    rw [if_neg (fun z => by unfold rnk at this; rw [if_pos z] at this; omega)]
    exact ih (fun x hx => hu x (List.mem_cons_of_mem _ hx))
theorem opc_0 {o : Nat} (h : rnk o ≠ 7) (h2 : o ≠ 20) : opc o = 0 := by
  unfold opc
  rw [if_neg (fun z => z.elim h h2)]
theorem ops_1 (o : Nat) : ops (ps ++ [o]) = ops ps + opc o := by
  rw [ops_app]
  rfl
theorem opq_o {md sb K : Nat} (hm : rbd md sb) (h : opq md K) : mo K ≠ 0 ∧ mo K < 40 ∧ lst (mo K) = rmd md ∧ rnk (mo K) = rmd md ∧ rnk (mo K) < cmd sb ∧ opc (mo K) = 0 ∧ K ≠ 39 ∧ (md < 5 → 4 < rnk (mo K)) ∧ (5 ≤ sb ↔ 5 ≤ md) ∧ lmd sb = lmd md + 1 ∧ rmd md ≤ rmd sb ∧ 1 ≤ rmd md ∧ sb ≤ 10 ∧ prs sb = false ∧ ((md = 1 ∨ md = 3) ∧ 31 ≤ K ∧ K ≤ 34 ∧ mo K = K - 25 ∨ md = 6 ∧ K = 17 ∧ mo K = 22 ∨ md = 8 ∧ K = 16 ∧ mo K = 21) := by
  unfold opq at h
  rcases hm with ⟨rfl, rfl⟩ | ⟨rfl, rfl⟩ | ⟨rfl, rfl⟩ | ⟨rfl, rfl⟩
  · have : K = 31 ∨ K = 32 := by omega
    rcases this with rfl | rfl <;> decide
  · have : K = 33 ∨ K = 34 := by omega
    rcases this with rfl | rfl <;> decide
  · have : K = 17 := by omega
    subst this; decide
  · have : K = 16 := by omega
    subst this; decide
theorem g_rest {md sb F : Nat} (hd : 6 ≤ d) (hb : ∀ i, i < n → bI (f i) 0 255) (hm : rbd md sb) (hT : TKE f n c) (q1 : QS P d n f c t law sb F) (q2 : QR P d n f c t law md F) : QR P d n f c t law md (F + 1) := by
  intro D i x r w W W0 ks ps h hD hi hP hl hW hk ho h41 hps hic hx h0
  rcases pp_rest hm h with ⟨hq, h⟩ | ⟨hq, rfl⟩
  · obtain ⟨o0, o40, ol, orr, oc, oz, o39, ob, s5, sl, sr, r1, s10, sp, oK⟩ := opq_o hm hq
    have i1 := TKE_n hT hi o39
    have hbt : btw (tkn f n i).1 (ps ++ ks) = mo (kkf f n i) := by
      have oa := opk_app (ks := ks) (fun o ho' => Nat.le_trans r1 (hps o ho'))
      unfold btw
      rcases oK with ⟨m1, m2, m3, m4⟩ | ⟨rfl, m2, m3⟩ | ⟨rfl, m2, m3⟩
      · rw [if_pos ⟨m2, m3⟩, m4]
      · have m2 : (tkn f n i).1 = 17 := m2
        have ic : icm (ps ++ ks) = true := by rw [hic, if_pos (by omega)]
        rw [if_neg (show ¬ (31 ≤ (tkn f n i).1 ∧ (tkn f n i).1 ≤ 34) by omega), oa, if_pos (h41 (by omega)), if_pos ic, m2, m3]; rfl
      · have m2 : (tkn f n i).1 = 16 := m2
        have ic : icm (ps ++ ks) = true := by rw [hic, if_pos (by omega)]
        rw [if_neg (show ¬ (31 ≤ (tkn f n i).1 ∧ (tkn f n i).1 ≤ 34) by omega), oa, if_pos (h41 (by omega)), if_pos ic, m2, m3]; rfl
    have l5 : lmd sb ≤ 5 := by
      unfold lmd
      (repeat' split) <;> omega
    obtain ⟨w1, a1, a2, a3, a4, a5⟩ := m_hop (P := P) hd hb hP hbt o0 (fun y hy => by rw [ol]; exact hps y hy) (fun h r e => by rw [ol]; exact ho h r e) (by have := hT.1; omega) (by omega) (by omega)
    rw [show D + ops ps - ops ps = D by omega] at a2
    have rc : RCH P d w w1 := t_beh1 hP.2.2.2 a1
    have hx1 : mseg (mcode w1 t) x W0 (W + ps.length) := hx _ (fun k k1 k2 => a4 k k2) a3
    have lk : (mo (kkf f n i) :: ks).length = ks.length + 1 := rfl
    have cK : ∀ r, pp (kkf f n) (vvf f n) law F sb D (i + 1) x = some r → RES P d w1 n f t (W + ps.length) (mo (kkf f n i) :: ks) D sb r := fun r hr => q1 D (i + 1) x r w1 (W + ps.length) (mo (kkf f n i) :: ks) hr hD i1 a2 (law_c a5 hl) (by rw [lk]; omega) (by rw [lk]; omega) (fun a b e => by injection e with e1 e2; rw [← e1]; exact oc)
      (fun z => by show (if 40 ≤ mo (kkf f n i) then mo (kkf f n i) else opk ks) = 41; rw [if_neg (by omega)]; exact h41 (s5.1 z))
      (fun z _ => by
        have := ob (by omega)
        unfold iah
        show (_ && (decide (40 ≤ mo (kkf f n i)) || (decide (1 ≤ rnk (mo (kkf f n i))) && decide (rnk (mo (kkf f n i)) ≤ 3)))) = false
        rw [decide_eq_false (show ¬ 40 ≤ mo (kkf f n i) by omega), decide_eq_false (show ¬ rnk (mo (kkf f n i)) ≤ 3 by omega), Bool.and_false, Bool.false_or, Bool.and_false])
    have kw1 : ∀ k, k < W0 → mcode w1 t k = mcode w t k := fun k hk => a4 k (by omega)
    rcases pb_cases h with ⟨y, h1, rfl⟩ | ⟨e, j, h1, h2⟩
    · exact FLT_go rc a5 (cK _ h1)
    · obtain ⟨w2, W2, ps2, b1, b2, b3, b4, b5, b6, b7, b8, b9⟩ := cK _ h1
      have jc := pp_ok hT.2 F sb D (i + 1) x e j s10 h1 hD i1 (fun z => by rw [sp] at z; cases z)
      have ap : ps2 ++ mo (kkf f n i) :: ks = (ps2 ++ [mo (kkf f n i)]) ++ ks := by rw [List.append_assoc]; rfl
      have b2 : MP w2 n f j t W2 (ps2 ++ mo (kkf f n i) :: ks) (D + ops ps2) true := b2
      have b4 : icm (ps2 ++ mo (kkf f n i) :: ks) = (if 5 ≤ sb then true else icm (mo (kkf f n i) :: ks)) := b4
      have b9 : W2 + (ps2.length + (mo (kkf f n i) :: ks).length) ≤ j := b9
      rw [ap] at b2 b4
      rw [lk] at b9
      have lp : (ps2 ++ [mo (kkf f n i)]).length = ps2.length + 1 := by rw [List.length_append]; rfl
      refine RES_go (RCH_trans rc b1) (chk_trans a5 b7) (fun k hk => (b6 k (by omega)).trans (kw1 k hk)) (q2 D j _ r w2 W2 W0 ks _ h2 hD jc.2.1 (by rw [ops_1, oz]; exact b2) (law_c (chk_trans a5 b7) hl) (by rw [lp]; omega) hk ho h41 (fun y hy => ?_) ?_ (PND_bin rfl (mseg_cg hx1 (fun k _ k2 => b6 k k2)) b5 b8) (by omega))
      · rw [List.mem_append] at hy
        rcases hy with hy | hy
        · exact Nat.le_trans sr (b3 y hy)
        · rw [List.mem_singleton] at hy
          rw [hy, orr]
          exact Nat.le_refl _
      · rw [b4]
        by_cases z : 5 ≤ md
        · rw [if_pos (s5.2 z), if_pos z]
        · rw [if_neg (fun y => z (s5.1 y)), if_neg z]
          show (if 4 < rnk (mo (kkf f n i)) then icm ks else _) = icm ks
          rw [if_pos (ob (by omega))]
  · exact ⟨w, W, ps, RCH_refl _, hP, hps, hic, hx, fun _ _ => rfl, chk_refl _ _, h0, hW⟩
end MPA
