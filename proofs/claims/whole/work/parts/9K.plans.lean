/-! plans: what can be done in so many samples -/
section PLN
variable {mo : Nat}
/-- the speed that is one less than m, if it can be, and what is left can be done -/
def pg (mo : Nat) (C : Nat → Nat → Bool) (m f : Nat) : Bool := (decide (1 ≤ m) && decide (m - 1 ≤ mo)) && decide (m - 1 ≤ f) && C (m - 1) (f - (m - 1))
def pc (mo : Nat) : Nat → Nat → Nat → Bool
  | 0 => fun s f => decide (f = 0) && decide (s ≤ 1)
  | l + 1 => fun s f => (pg mo (pc mo l) s f || pg mo (pc mo l) (s + 1) f) || pg mo (pc mo l) (s + 2) f
theorem pc_s (l s f : Nat) : pc mo (l + 1) s f = ((pg mo (pc mo l) s f || pg mo (pc mo l) (s + 1) f) || pg mo (pc mo l) (s + 2) f) := rfl
theorem pg_t {C : Nat → Nat → Bool} {m f : Nat} : pg mo C m f = true ↔ 1 ≤ m ∧ m - 1 ≤ mo ∧ m - 1 ≤ f ∧ C (m - 1) (f - (m - 1)) = true := by
  unfold pg
  simp only [Bool.and_eq_true, decide_eq_true_eq]
  refine ⟨fun ⟨⟨⟨a, b⟩, c⟩, e⟩ => ⟨a, b, c, e⟩, fun ⟨a, b, c, e⟩ => ⟨⟨⟨a, b⟩, c⟩, e⟩⟩
theorem pc_t {l s f : Nat} : pc mo (l + 1) s f = true ↔ ∃ m, s ≤ m ∧ m < s + 3 ∧ pg mo (pc mo l) m f = true := by
  rw [pc_s, Bool.or_eq_true, Bool.or_eq_true]
  refine ⟨fun h => ?_, fun ⟨m, h1, h2, h3⟩ => ?_⟩
  · rcases h with (h | h) | h
    · exact ⟨s, by omega, by omega, h⟩
    · exact ⟨s + 1, by omega, by omega, h⟩
    · exact ⟨s + 2, by omega, by omega, h⟩
  · have : m = s ∨ m = s + 1 ∨ m = s + 2 := by omega
    rcases this with rfl | rfl | rfl
    · exact Or.inl (Or.inl h3)
    · exact Or.inl (Or.inr h3)
    · exact Or.inr h3
def ls (mo s f v : Nat) : Prop := pc mo v s f = true ∧ ∀ l, l < v → pc mo l s f = false
theorem ls_un {s f v v' : Nat} (h : ls mo s f v) (h' : ls mo s f v') : v = v' := by
  by_cases a : v < v'
  · have := h'.2 v a
    rw [h.1] at this
    cases this
  · by_cases b : v' < v
    · have := h.2 v' b
      rw [h'.1] at this
      cases this
    · omega
def fv (mo s f v : Nat) : Prop := (ls mo s f v ∧ v ≤ 2 * f + 1 ∧ (s = 0 → v ≤ 2 * f)) ∨ (v = 10000 ∧ ∀ l, pc mo l s f = false)
theorem fv_0 {s f : Nat} (h : f = 0 ∧ s ≤ 1) : fv mo s f 0 := by
  refine Or.inl ⟨⟨?_, fun l hl => by omega⟩, by omega, by omega⟩
  show (decide (f = 0) && decide (s ≤ 1)) = true
  rw [decide_eq_true h.1, decide_eq_true h.2]; rfl
theorem pc_0f {s f : Nat} (h : ¬ (f = 0 ∧ s ≤ 1)) : pc mo 0 s f = false := by
  show (decide (f = 0) && decide (s ≤ 1)) = false
  by_cases a : f = 0
  · rw [decide_eq_false (show ¬ s ≤ 1 by omega), Bool.and_false]
  · rw [decide_eq_false a]; rfl
theorem bf {b : Bool} (h : ¬ b = true) : b = false := by
  cases b
  · rfl
  · exact absurd rfl h
/-- the least that has been seen of what comes next, up to m -/
def li (mo s f m u : Nat) : Prop :=
  (u = 9999 ∧ ∀ k, s ≤ k → k < m → 1 ≤ k → k - 1 ≤ mo → k - 1 ≤ f → ¬ (s = 0 ∧ k = 1) → ∀ l, pc mo l (k - 1) (f - (k - 1)) = false) ∨
  ((∃ k, s ≤ k ∧ k < m ∧ 1 ≤ k ∧ k - 1 ≤ mo ∧ k - 1 ≤ f ∧ pc mo u (k - 1) (f - (k - 1)) = true) ∧ u ≤ 2 * f ∧ (s = 0 → u + 1 ≤ 2 * f) ∧
    ∀ k, s ≤ k → k < m → 1 ≤ k → k - 1 ≤ mo → k - 1 ≤ f → ¬ (s = 0 ∧ k = 1) → ∀ l, l < u → pc mo l (k - 1) (f - (k - 1)) = false)
theorem li_0 {s f : Nat} : li mo s f s 9999 := Or.inl ⟨rfl, fun k h1 h2 => by omega⟩
theorem li_no {s f m u : Nat} (h : li mo s f m u) (hn : ¬ (1 ≤ m ∧ m - 1 ≤ mo ∧ m - 1 ≤ f ∧ ¬ (s = 0 ∧ m = 1))) : li mo s f (m + 1) u := by
  rcases h with ⟨h1, h2⟩ | ⟨⟨k, k1, k2, k3⟩, h2, h3, h4⟩
  · refine Or.inl ⟨h1, fun k q1 q2 q3 q4 q5 q6 => ?_⟩
    by_cases y : k = m
    · subst y; exact absurd ⟨q3, q4, q5, q6⟩ hn
    · exact h2 k q1 (by omega) q3 q4 q5 q6
  · refine Or.inr ⟨⟨k, k1, by omega, k3⟩, h2, h3, fun k q1 q2 q3 q4 q5 q6 => ?_⟩
    by_cases y : k = m
    · subst y; exact absurd ⟨q3, q4, q5, q6⟩ hn
    · exact h4 k q1 (by omega) q3 q4 q5 q6
theorem li_yes {s f m u v : Nat} (hs : s ≤ m) (hm : m < s + 3) (h : li mo s f m u) (hy : 1 ≤ m ∧ m - 1 ≤ mo ∧ m - 1 ≤ f ∧ ¬ (s = 0 ∧ m = 1)) (hv : fv mo (m - 1) (f - (m - 1)) v) (hf : f ≤ 60) : li mo s f (m + 1) (if u ≤ v then u else v) := by
  obtain ⟨y1, y2, y3, y4⟩ := hy
  rcases hv with ⟨⟨v1, v2⟩, v3, v4⟩ | ⟨v1, v2⟩
  · have bv : v ≤ 2 * f ∧ (s = 0 → v + 1 ≤ 2 * f) := by
      by_cases z : m = 1
      · have := v4 (by omega)
        exact ⟨by omega, fun q => absurd ⟨q, z⟩ y4⟩
      · exact ⟨by omega, fun _ => by omega⟩
    by_cases q : u ≤ v
    · rw [if_pos q]
      rcases h with ⟨h1, h2⟩ | ⟨⟨k, k1, k2, k3⟩, h2, h3, h4⟩
      · omega
      · refine Or.inr ⟨⟨k, k1, by omega, k3⟩, h2, h3, fun k q1 q2 q3 q4 q5 q6 l hl => ?_⟩
        by_cases y : k = m
        · subst y; exact v2 l (by omega)
        · exact h4 k q1 (by omega) q3 q4 q5 q6 l hl
    · rw [if_neg q]
      refine Or.inr ⟨⟨m, hs, by omega, y1, y2, y3, v1⟩, bv.1, bv.2, fun k q1 q2 q3 q4 q5 q6 l hl => ?_⟩
      by_cases y : k = m
      · subst y; exact v2 l hl
      · rcases h with ⟨h1, h2⟩ | ⟨-, -, -, h4⟩
        · exact h2 k q1 (by omega) q3 q4 q5 q6 l
        · exact h4 k q1 (by omega) q3 q4 q5 q6 l (by omega)
  · have q : u ≤ v := by
      rcases h with ⟨h1, -⟩ | ⟨-, h2, -⟩ <;> omega
    rw [if_pos q]
    rcases h with ⟨h1, h2⟩ | ⟨⟨k, k1, k2, k3⟩, h2, h3, h4⟩
    · refine Or.inl ⟨h1, fun k q1 q2 q3 q4 q5 q6 => ?_⟩
      by_cases y : k = m
      · subst y; exact v2
      · exact h2 k q1 (by omega) q3 q4 q5 q6
    · refine Or.inr ⟨⟨k, k1, by omega, k3⟩, h2, h3, fun k q1 q2 q3 q4 q5 q6 l hl => ?_⟩
      by_cases y : k = m
      · subst y; exact v2 l
      · exact h4 k q1 (by omega) q3 q4 q5 q6 l hl
theorem fv_step {s f u : Nat} (h0 : ¬ (f = 0 ∧ s ≤ 1)) (h : li mo s f (s + 3) u) : fv mo s f (u + 1) := by
  rcases h with ⟨h1, h2⟩ | ⟨⟨k, k1, k2, k3, k4, k5, k6⟩, h2, h3, h4⟩
  · refine Or.inr ⟨by omega, fun l => ?_⟩
    induction l with
    | zero => exact pc_0f h0
    | succ l ih =>
      refine bf (fun z => ?_)
      obtain ⟨m, m1, m2, m3⟩ := pc_t.1 z
      obtain ⟨n1, n2, n3, n4⟩ := pg_t.1 m3
      by_cases q : s = 0 ∧ m = 1
      · obtain ⟨q1, q2⟩ := q
        subst q1 q2
        rw [show f - (1 - 1) = f by omega, show 1 - 1 = 0 from rfl, ih] at n4
        cases n4
      · rw [h2 m m1 m2 n1 n2 n3 q l] at n4
        cases n4
  · refine Or.inl ⟨⟨pc_t.2 ⟨k, k1, k2, pg_t.2 ⟨k3, k4, k5, k6⟩⟩, fun l => ?_⟩, by omega, fun q => h3 q⟩
    induction l with
    | zero => intro _; exact pc_0f h0
    | succ l ih =>
      intro hl
      refine bf (fun z => ?_)
      obtain ⟨m, m1, m2, m3⟩ := pc_t.1 z
      obtain ⟨n1, n2, n3, n4⟩ := pg_t.1 m3
      by_cases q : s = 0 ∧ m = 1
      · obtain ⟨q1, q2⟩ := q
        subst q1 q2
        rw [show f - (1 - 1) = f by omega, show 1 - 1 = 0 from rfl, ih (by omega)] at n4
        cases n4
      · rw [h4 m m1 m2 n1 n2 n3 q l (by omega)] at n4
        cases n4
theorem pc_one (hm : 1 ≤ mo) : ∀ l, pc mo l 1 l = true := by
  intro l
  induction l with
  | zero => rfl
  | succ l ih => exact pc_t.2 ⟨2, by omega, by omega, pg_t.2 ⟨by omega, hm, by omega, by rw [show l + 1 - (2 - 1) = l by omega]; exact ih⟩⟩
theorem pc_far (hm : 1 ≤ mo) : ∀ l, pc mo l 0 l = true := by
  intro l
  cases l with
  | zero => rfl
  | succ l => exact pc_t.2 ⟨2, by omega, by omega, pg_t.2 ⟨by omega, hm, by omega, by rw [show l + 1 - (2 - 1) = l by omega]; exact pc_one hm l⟩⟩
theorem fv_ls (hm : 1 ≤ mo) {f v : Nat} (h : fv mo 0 f v) : ls mo 0 f v := by
  rcases h with ⟨h, -⟩ | ⟨-, h⟩
  · exact h
  · have := h f
    rw [pc_far hm f] at this
    cases this
theorem ls_le (hm : 1 ≤ mo) {f v : Nat} (h : ls mo 0 f v) : v ≤ f := by
  by_cases q : v ≤ f
  · exact q
  · have := h.2 f (by omega)
    rw [pc_far hm f] at this
    cases this
/-- what comes next is what takes one less -/
theorem fv_next {s f l m v : Nat} (h : ls mo s f (l + 1)) (hl : l < 9999) (h1 : s ≤ m) (h2 : m < s + 3) (h3 : 1 ≤ m ∧ m - 1 ≤ mo ∧ m - 1 ≤ f) (hv : fv mo (m - 1) (f - (m - 1)) v) : v = l ↔ pg mo (pc mo l) m f = true := by
  rw [pg_t]
  rcases hv with ⟨⟨v1, v2⟩, -, -⟩ | ⟨v1, v2⟩
  · refine ⟨fun e => ⟨h3.1, h3.2.1, h3.2.2, by rw [← e]; exact v1⟩, fun ⟨_, _, _, e⟩ => ?_⟩
    by_cases a : l < v
    · have := v2 l a
      rw [e] at this
      cases this
    · by_cases b : v < l
      · have := h.2 (v + 1) (by omega)
        rw [pc_t.2 ⟨m, h1, h2, pg_t.2 ⟨h3.1, h3.2.1, h3.2.2, v1⟩⟩] at this
        cases this
      · omega
  · refine ⟨fun e => by omega, fun ⟨_, _, _, e⟩ => ?_⟩
    rw [v2 l] at e
    cases e
/-- the plan's next speed and one -/
def pn (mo l s f : Nat) : Nat := if pg mo (pc mo l) s f = true then s else if pg mo (pc mo l) (s + 1) f = true then s + 1 else s + 2
theorem pn_t {l s f : Nat} (h : pc mo (l + 1) s f = true) : s ≤ pn mo l s f ∧ pn mo l s f < s + 3 ∧ pg mo (pc mo l) (pn mo l s f) f = true := by
  unfold pn
  by_cases a : pg mo (pc mo l) s f = true
  · rw [if_pos a]; exact ⟨by omega, by omega, a⟩
  · rw [if_neg a]
    by_cases b : pg mo (pc mo l) (s + 1) f = true
    · rw [if_pos b]; exact ⟨by omega, by omega, b⟩
    · rw [if_neg b]
      refine ⟨by omega, by omega, ?_⟩
      rw [pc_s, bf a, bf b] at h
      exact h
theorem ls_next {s f l m : Nat} (h : ls mo s f (l + 1)) (h1 : s ≤ m) (h2 : m < s + 3) (h3 : pg mo (pc mo l) m f = true) : ls mo (m - 1) (f - (m - 1)) l := by
  obtain ⟨n1, n2, n3, n4⟩ := pg_t.1 h3
  refine ⟨n4, fun k hk => bf (fun z => ?_)⟩
  have := h.2 (k + 1) (by omega)
  rw [pc_t.2 ⟨m, h1, h2, pg_t.2 ⟨n1, n2, n3, z⟩⟩] at this
  cases this
/-- the plan: speed and way left, so many samples ahead -/
def pl (mo L far : Nat) : Nat → Nat × Nat
  | 0 => (0, far)
  | k + 1 => (pn mo (L - (k + 1)) (pl mo L far k).1 (pl mo L far k).2 - 1, (pl mo L far k).2 - (pn mo (L - (k + 1)) (pl mo L far k).1 (pl mo L far k).2 - 1))
theorem pl_s (L far k : Nat) : pl mo L far (k + 1) = (pn mo (L - (k + 1)) (pl mo L far k).1 (pl mo L far k).2 - 1, (pl mo L far k).2 - (pn mo (L - (k + 1)) (pl mo L far k).1 (pl mo L far k).2 - 1)) := rfl
theorem pl_ok {L far : Nat} (h : ls mo 0 far L) : ∀ k, k ≤ L → ls mo (pl mo L far k).1 (pl mo L far k).2 (L - k) ∧ (pl mo L far k).1 ≤ mo ∧ (pl mo L far k).2 ≤ far := by
  intro k
  induction k with
  | zero => intro _; exact ⟨h, Nat.zero_le _, Nat.le_refl _⟩
  | succ k ih =>
    intro hk
    obtain ⟨i1, i2, i3⟩ := ih (by omega)
    rw [show L - k = L - (k + 1) + 1 by omega] at i1
    obtain ⟨t1, t2, t3⟩ := pn_t i1.1
    obtain ⟨n1, n2, n3, n4⟩ := pg_t.1 t3
    rw [pl_s]
    exact ⟨ls_next i1 t1 t2 t3, n2, by dsimp only; omega⟩
/-- one less, in ints -/
def nxv : Nat → Int32
  | 0 => -1
  | k + 1 => Int32.ofNat k
theorem nxv_s (m : Nat) : nxv m + 1 = nxv (m + 1) := by
  cases m with
  | zero => decide
  | succ k => exact j_s k
theorem nxv_1 {m : Nat} (h : m < 2147483648) : Int32.ofNat m - 1 = nxv m := by
  cases m with
  | zero => decide
  | succ k => exact j_sub1 (by omega) (by omega)
theorem nxv_le {m s : Nat} (h : m < 2147483648) (hs : s < 2147483648) : nxv m ≤ Int32.ofNat s ↔ m ≤ s + 1 := by
  cases m with
  | zero =>
    refine ⟨fun _ => by omega, fun _ => ?_⟩
    show (-1 : Int32) ≤ Int32.ofNat s
    rw [i32_le, nI_t hs, show (-1 : Int32).toInt = -1 from rfl]
    omega
  | succ k =>
    show Int32.ofNat k ≤ Int32.ofNat s ↔ _
    rw [j_le (by omega) hs]
    omega
theorem nxv_0 {m : Nat} (h : m < 2147483648) : 0 ≤ nxv m ↔ 1 ≤ m := by
  cases m with
  | zero => decide
  | succ k =>
    show 0 ≤ Int32.ofNat k ↔ _
    rw [show (0 : Int32) = Int32.ofNat 0 from rfl, j_le (by omega) (by omega)]
    omega
theorem nxv_n {m : Nat} (h : 1 ≤ m) : nxv m = Int32.ofNat (m - 1) := by
  cases m with
  | zero => omega
  | succ k => rfl
end PLN
