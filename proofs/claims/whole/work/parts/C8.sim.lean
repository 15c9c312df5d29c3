/-! the state at the start -/
def hx0 : HX := (fun k => if k = 1 then 467 else if k = 2 then 8 else 0, 0, fun _ => (0, 0, 0))
def ax0 : AX := (hx0, (0, fun _ => hx0), fun _ => 0, fun k => if k = 2 then -1 else 0, (0, fun _ => 0), (0, fun _ => (0, 0)))
def zx0 : ZX := (ax0, ax0, fun _ => TX0, (0, fun _ => 0), -1, -1)
def cn_a0 (k : Nat) : Int32 := if k = 1 then -1 else if k = 6 then 467 else if k = 7 then 8 else 0
theorem bI_0 {a b : Int} {x : Int32} (h1 : a ≤ x.toInt) (h2 : x.toInt ≤ b) : bI x a b := ⟨h1, h2⟩
theorem hx0_10 (k : Nat) : hx0.1 (10 + k) = 0 := by
  show (if 10 + k = 1 then (467 : Int32) else if 10 + k = 2 then 8 else 0) = 0
  rw [if_neg (by omega), if_neg (by omega)]
theorem hx0_ok : WH hx0 := by
  refine ⟨⟨bI_0 (by decide) (by decide), ⟨by decide, by decide⟩, bI_0 (by decide) (by decide), bI_0 (by decide) (by decide), bI_0 (by decide) (by decide), bI_0 (by decide) (by decide), bI_0 (by decide) (by decide), bI_0 (by decide) (by decide), bI_0 (by decide) (by decide), fun k hk => ?_⟩, by decide, by decide, fun i hi => absurd hi (Nat.not_lt_zero i)⟩
  rw [hx0_10]
  exact bI_0 (by decide) (by decide)
theorem ax0_ok : WA ax0 :=
  ⟨hx0_ok, ⟨by decide, fun i hi => absurd hi (Nat.not_lt_zero i)⟩, fun k _ => bI_0 (x := 0) (by decide) (by decide), ⟨0, by decide, by decide, Or.inl (by decide)⟩, ⟨by decide, fun i hi => absurd hi (Nat.not_lt_zero i)⟩, ⟨by decide, fun i hi => absurd hi (Nat.not_lt_zero i)⟩⟩
section CNS
variable {w : ee_W}
theorem i0_a {h n : Nat} (e : es_sh h = (0, n)) (k : Nat) : cn_i0 h k = 0 := by
  unfold cn_i0
  rw [e]
  try rfl
theorem i0_h {h n : Nat} (e : es_sh h = (12, n)) (k : Nat) : cn_i0 h k = if k = 0 then 8 else if k = 8 then 467 else 0 := by
  unfold cn_i0
  rw [e]
  try rfl
theorem i0_s {h n : Nat} (e : es_sh h = (16, n)) (k : Nat) : cn_i0 h k = 0 := by
  unfold cn_i0
  rw [e]
  try rfl
theorem i0_l {h n : Nat} (e : es_sh h = (11, n)) (k : Nat) : cn_i0 h k = if k = 5 then -1 else 0 := by
  unfold cn_i0
  rw [e]
  try rfl
theorem cn_CH (h : ∀ c k, c ≠ 237 → c ≠ 238 → w.1 c k = cn_i0 c k) {c : Nat} (hc : c + 1 < 237) (e1 : es_sh c = (12, 0)) (e2 : es_sh (c + 1) = (0, 8)) : CH w c hx0 := by
  have g : ∀ k, w.1 c k = if k = 0 then 8 else if k = 8 then 467 else 0 := fun k => by rw [h c k (by omega) (by omega), i0_h e1]
  refine ⟨⟨(g _).trans (by decide), (g _).trans (by decide), (g _).trans (by decide), (g _).trans (by decide), (g _).trans (by decide), (g _).trans (by decide), (g _).trans (by decide), (g _).trans (by decide), (g _).trans (by decide)⟩, (g _).trans (by decide), fun k _ => ?_, fun i hi => absurd hi (Nat.not_lt_zero i)⟩
  rw [h _ _ (by omega) (by omega), i0_a e2, hx0_10]
theorem cn_CA (h : ∀ c k, c ≠ 237 → c ≠ 238 → w.1 c k = cn_i0 c k) {a : Nat} (ha : a + 100 < 237) (e0 : es_sh a = (11, 0)) (e1 : es_sh (a + 1) = (12, 0)) (e2 : es_sh (a + 1 + 1) = (0, 8)) (e4 : es_sh (a + 4) = (16, 0)) (e96 : es_sh (a + 96) = (0, 8)) : CA w a ax0 := by
  have g : ∀ k, w.1 a k = if k = 5 then -1 else 0 := fun k => by rw [h a k (by omega) (by omega), i0_l e0]
  have gs : ∀ k, w.1 (a + 4) k = 0 := fun k => by rw [h _ k (by omega) (by omega), i0_s e4]
  refine ⟨cn_CH h (by omega) e1 e2, by decide, ⟨by decide, (gs _).trans (by decide), 0, by decide, (gs _).trans (by decide), fun i hi => absurd hi (Nat.not_lt_zero i)⟩, ⟨fun k _ => ?_, (g _).trans (by decide), (g _).trans (by decide), (g _).trans (by decide), (g _).trans (by decide), fun i hi => absurd hi (Nat.not_lt_zero i), (g _).trans (by decide), fun i hi => absurd hi (Nat.not_lt_zero i)⟩, by decide, by decide⟩
  rw [h _ _ (by omega) (by omega), i0_a e96]
  rfl
theorem cn_MA {A : Nat} (hA : ∀ k, k < 1369 → w.1 A k = cn_a0 k) : MA w A ax0 := by
  have g5 : ∀ k, k < 18 → cn_a0 (5 + k) = hx0.1 k := by decide
  have g23 : ∀ k, k < 8 → cn_a0 (23 + k) = 0 := by decide
  refine ⟨⟨(hA _ (by omega)).trans (by decide), (hA _ (by omega)).trans (by decide), (hA _ (by omega)).trans (by decide), (hA _ (by omega)).trans (by decide), (hA _ (by omega)).trans (by decide)⟩, ⟨fun k hk _ => (hA _ (by omega)).trans (g5 k hk), (hA _ (by omega)).trans (by decide), fun i hi => absurd hi (Nat.not_lt_zero i)⟩, fun i hi => absurd hi (Nat.not_lt_zero i), fun k hk => (hA _ (by omega)).trans (g23 k hk), (hA _ (by omega)).trans (by decide), fun i hi => absurd hi (Nat.not_lt_zero i), fun i hi => absurd hi (Nat.not_lt_zero i)⟩
theorem cn_sim (h : ∀ c k, c ≠ 237 → c ≠ 238 → w.1 c k = cn_i0 c k) (h1 : ∀ k, k < 1369 → w.1 237 k = cn_a0 k) (h2 : ∀ k, k < 1369 → w.1 238 k = cn_a0 k) : Sim w := by
  have n0 : nT ax0 = 0 := by decide
  refine ⟨zx0, ⟨cn_CA h (by decide) (by decide) (by decide) (by decide) (by decide) (by decide), cn_CA h (by decide) (by decide) (by decide) (by decide) (by decide) (by decide), fun i hi _ => ?_, ⟨(h 0 9 (by decide) (by decide)).trans (by decide), fun i hi => absurd hi (Nat.not_lt_zero i)⟩, Or.inl ⟨(h 0 10 (by decide) (by decide)).trans (by decide), rfl, rfl⟩⟩, ⟨cn_MA h1, cn_MA h2, fun i hi _ => ?_, ⟨(h 236 4 (by decide) (by decide)).trans (by decide), fun i hi => absurd hi (Nat.not_lt_zero i)⟩, ⟨(h 236 5 (by decide) (by decide)).trans (by decide), (h 236 6 (by decide) (by decide)).trans (by decide)⟩, (h 236 23 (by decide) (by decide)).trans (by decide)⟩, ⟨ax0_ok, ax0_ok, Nat.le_refl _, by decide, fun i hi => absurd hi (Nat.not_lt_zero i)⟩⟩
  · have hi : i < nT ax0 := hi
    omega
  · have hi : i < nT ax0 := hi
    omega
end CNS
