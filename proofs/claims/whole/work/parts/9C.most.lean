/-! most on both sides: what is found -/
section BMO
variable {P : Nat → Nat → List Value → ee_W → Option (List Value × ee_W)} {d : Nat} {w : ee_W} {Z : ZX}
theorem lv_of (Z : ZX) (x v : Int32) : ∀ n, 0 < lv Z x v n → ∃ j, j < n ∧ (Z.1.1.2.2 j).2.1 = x ∧ (Z.1.1.2.2 j).2.2 = v := by
  intro n
  induction n with
  | zero => intro h; exact absurd h (Nat.lt_irrefl _)
  | succ n ih =>
    intro h
    rw [lv_s] at h
    split at h
    · rename_i q; exact ⟨n, by omega, q.1, q.2⟩
    · obtain ⟨j, j1, j2⟩ := ih h
      exact ⟨j, by omega, j2⟩
theorem lv_pos (Z : ZX) (x v : Int32) : ∀ n j, j < n → (Z.1.1.2.2 j).2.1 = x → (Z.1.1.2.2 j).2.2 = v → 0 < lv Z x v n := by
  intro n
  induction n with
  | zero => intro j h; exact absurd h (Nat.not_lt_zero _)
  | succ n ih =>
    intro j hj h1 h2
    rw [lv_s]
    split
    · omega
    · rename_i q
      rcases (by omega : j < n ∨ j = n) with h | h
      · exact ih j h h1 h2
      · subst h; exact absurd ⟨h1, h2⟩ q
theorem lc_pos (Z : ZX) (x : Int32) : ∀ n, lc Z x n = 0 ↔ ∀ j, j < n → ¬ (Z.1.1.2.2 j).2.1 = x := by
  intro n
  induction n with
  | zero => exact ⟨fun _ j h => absurd h (Nat.not_lt_zero _), fun _ => rfl⟩
  | succ n ih =>
    rw [show lc Z x (n + 1) = if (Z.1.1.2.2 n).2.1 = x then lc Z x n + 1 else lc Z x n from rfl]
    constructor
    · intro h j hj
      split at h
      · omega
      · rename_i q
        rcases (by omega : j < n ∨ j = n) with y | y
        · exact ih.1 h j y
        · rw [y]; exact q
    · intro h
      rw [if_neg (h n (by omega))]
      exact ih.2 (fun j hj => h j (by omega))
/-- the class's best after k lines -/
def mcI (Z : ZX) (x : Int32) (k : Nat) (b : Int32) (o : Nat) : Prop :=
  (o = 0 ∧ b = -100 ∧ ∀ j, j < k → ¬ (Z.1.1.2.2 j).2.1 = x) ∨
  (0 < o ∧ o = lv Z x b Z.1.1.2.1 ∧ ∀ j, j < k → (Z.1.1.2.2 j).2.1 = x → lv Z x (Z.1.1.2.2 j).2.2 Z.1.1.2.1 < o ∨ (lv Z x (Z.1.1.2.2 j).2.2 Z.1.1.2.1 = o ∧ b.toInt ≤ (Z.1.1.2.2 j).2.2.toInt))
/-- the reference's best of the values below u -/
def mmI (Z : ZX) (x : Int32) (u : Int) (b : Int32) (o : Nat) : Prop :=
  (∀ v : Int32, -40 ≤ v.toInt → v.toInt < u → lv Z x v Z.1.1.2.1 ≤ o) ∧ (0 < o → lv Z x b Z.1.1.2.1 = o ∧ ∀ v : Int32, -40 ≤ v.toInt → v.toInt < b.toInt → lv Z x v Z.1.1.2.1 < o)
theorem most_eq (hW : WZ Z) {x b b' : Int32} {o o' : Nat} (h1 : mcI Z x Z.1.1.2.1 b o) (h2 : mmI Z x 1024 b' o') (hn : ¬ lc Z x Z.1.1.2.1 = 0) : b = b' := by
  rcases h1 with ⟨-, -, h⟩ | ⟨h3, h4, h5⟩
  · exact absurd ((lc_pos Z x _).2 h) hn
  · obtain ⟨m1, m2⟩ := h2
    obtain ⟨j, j1, j2, j3⟩ := lv_of Z x b _ (by omega : 0 < lv Z x b Z.1.1.2.1)
    have bb := (hW.1.1.2.2.2 j j1).2.2
    rw [j3] at bb
    unfold bI at bb
    have s1 := m1 b (by omega) (by omega)
    obtain ⟨p1, p2⟩ := m2 (by omega)
    obtain ⟨i, i1, i2, i3⟩ := lv_of Z x b' _ (by omega : 0 < lv Z x b' Z.1.1.2.1)
    have s2 := h5 i i1 i2
    rw [i3] at s2
    have s3 : b.toInt ≤ b'.toInt := by omega
    by_cases q : b.toInt < b'.toInt
    · have := p2 b (by omega) q
      omega
    · exact i32_eq.2 (by omega)
theorem mcI_0 (x : Int32) : mcI Z x 0 (-100) 0 := Or.inl ⟨rfl, rfl, fun j h => absurd h (Nat.not_lt_zero _)⟩
theorem mcI_no {x : Int32} {k : Nat} {b : Int32} {o : Nat} (h : mcI Z x k b o) (hx : ¬ (Z.1.1.2.2 k).2.1 = x) : mcI Z x (k + 1) b o := by
  rcases h with ⟨a, b, c⟩ | ⟨a, b, c⟩
  · refine Or.inl ⟨a, b, fun j hj => ?_⟩
    rcases (by omega : j < k ∨ j = k) with y | y
    · exact c j y
    · rw [y]; exact hx
  · refine Or.inr ⟨a, b, fun j hj e => ?_⟩
    rcases (by omega : j < k ∨ j = k) with y | y
    · exact c j y e
    · rw [y] at e; exact absurd e hx
theorem mcI_take {x : Int32} {k : Nat} {b : Int32} {o : Nat} (hk : k < Z.1.1.2.1) (h : mcI Z x k b o) (hx : (Z.1.1.2.2 k).2.1 = x) (q : o < lv Z x (Z.1.1.2.2 k).2.2 Z.1.1.2.1 ∨ lv Z x (Z.1.1.2.2 k).2.2 Z.1.1.2.1 = o ∧ (Z.1.1.2.2 k).2.2.toInt < b.toInt) : mcI Z x (k + 1) (Z.1.1.2.2 k).2.2 (lv Z x (Z.1.1.2.2 k).2.2 Z.1.1.2.1) := by
  have hp := lv_pos Z x _ _ k hk hx rfl
  refine Or.inr ⟨hp, rfl, fun j hj e => ?_⟩
  rcases (by omega : j < k ∨ j = k) with y | y
  · rcases h with ⟨-, -, c⟩ | ⟨-, -, c⟩
    · exact absurd e (c j y)
    · have := c j y e
      omega
  · rw [y]; exact Or.inr ⟨rfl, Int.le_refl _⟩
theorem mcI_skip {x : Int32} {k : Nat} {b : Int32} {o : Nat} (hk : k < Z.1.1.2.1) (h : mcI Z x k b o) (hx : (Z.1.1.2.2 k).2.1 = x) (q : ¬ (o < lv Z x (Z.1.1.2.2 k).2.2 Z.1.1.2.1 ∨ lv Z x (Z.1.1.2.2 k).2.2 Z.1.1.2.1 = o ∧ (Z.1.1.2.2 k).2.2.toInt < b.toInt)) : mcI Z x (k + 1) b o := by
  have hp := lv_pos Z x _ _ k hk hx rfl
  rcases h with ⟨a, -, -⟩ | ⟨a, b, c⟩
  · exact absurd (Or.inl (by omega)) q
  · refine Or.inr ⟨a, b, fun j hj e => ?_⟩
    rcases (by omega : j < k ∨ j = k) with y | y
    · exact c j y e
    · rw [y]; omega
theorem mmI_0 (x : Int32) : mmI Z x (-40) 0 0 := ⟨fun v h1 h2 => by omega, fun h => absurd h (Nat.lt_irrefl _)⟩
theorem mmI_take {x v b : Int32} {o : Nat} (h : mmI Z x v.toInt b o) (q : o < lv Z x v Z.1.1.2.1) : mmI Z x (v.toInt + 1) v (lv Z x v Z.1.1.2.1) := by
  obtain ⟨a, -⟩ := h
  refine ⟨fun u h1 h2 => ?_, fun _ => ⟨rfl, fun u h1 h2 => ?_⟩⟩
  · by_cases y : u.toInt < v.toInt
    · have := a u h1 y; omega
    · have : u = v := i32_eq.2 (by omega)
      rw [this]; exact Nat.le_refl _
  · have := a u h1 h2; omega
theorem mmI_skip {x v b : Int32} {o : Nat} (h : mmI Z x v.toInt b o) (q : ¬ o < lv Z x v Z.1.1.2.1) : mmI Z x (v.toInt + 1) b o := by
  obtain ⟨a, c⟩ := h
  refine ⟨fun u h1 h2 => ?_, c⟩
  by_cases y : u.toInt < v.toInt
  · exact a u h1 y
  · have : u = v := i32_eq.2 (by omega)
    rw [this]; omega
end BMO
