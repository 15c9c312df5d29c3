/-! E-semantics: programs as trees, evaluated over an abstract world -/
abbrev ee_T : Type := Lean.Data.AC.Expr
/-- the world: ints (cell, place), longs (cell, place), the script's length, the script's ints -/
abbrev ee_W : Type := (Nat → Nat → Int32) × (Nat → Nat → Int64) × Nat × (Nat → Int32)
abbrev ee_E : Type := List (Option Value)
def ee_up {α : Type} (f : Nat → Nat → α) (h k : Nat) (x : α) : Nat → Nat → α := fun a b => if a = h ∧ b = k then x else f a b
def ee_wI (w : ee_W) (h k : Nat) (x : Int32) : ee_W := (ee_up w.1 h k x, w.2)
def ee_wJ (w : ee_W) (h k : Nat) (x : Int64) : ee_W := (w.1, ee_up w.2.1 h k x, w.2.2)
def ee_b (b : Bool) : Int32 := if b then 1 else 0
def ee_tru : List Value → Option Bool
  | [.int v] => some (v != 0)
  | _ => none
def ee_cmp (o : Nat) (x y : Int32) : Option Bool :=
  match o with
  | 0 => some (decide (x = y))
  | 1 => some (decide (¬ x = y))
  | 2 => some (decide (x < y))
  | 3 => some (decide (y ≤ x))
  | 4 => some (decide (y < x))
  | 5 => some (decide (x ≤ y))
  | _ => none
def ee_cmpL (o : Nat) (x y : Int64) : Option Bool :=
  match o with
  | 0 => some (decide (x = y))
  | 1 => some (decide (¬ x = y))
  | 2 => some (decide (x < y))
  | 3 => some (decide (y ≤ x))
  | 4 => some (decide (y < x))
  | 5 => some (decide (x ≤ y))
  | _ => none
def ee_binI (o : Nat) (x y : Int32) : Option Int32 :=
  match o with
  | 0 => some (x + y)
  | 1 => some (x - y)
  | 2 => some (x * y)
  | 3 => if y = 0 then none else some (x / y)
  | 4 => if y = 0 then none else some (x - x / y * y)
  | 5 => some (x &&& y)
  | 6 => some (x ||| y)
  | 7 => some (x ^^^ y)
  | 8 => some (x <<< (y &&& 31))
  | 9 => some (x >>> (y &&& 31))
  | 10 => some (x.toUInt32 >>> (y.toUInt32 &&& Int32.toUInt32 31)).toInt32
  | _ => none
def ee_binL (o : Nat) (x y : Int64) : Option Int64 :=
  match o with
  | 0 => some (x + y)
  | 1 => some (x - y)
  | 2 => some (x * y)
  | 3 => if y = 0 then none else some (x / y)
  | 4 => if y = 0 then none else some (x - x / y * y)
  | 5 => some (x &&& y)
  | 6 => some (x ||| y)
  | _ => none
/-- shifts of a long -/
def ee_binS (o : Nat) (x : Int64) (y : Int32) : Option Int64 :=
  match o with
  | 8 => some (x <<< (y.toInt64 &&& 63))
  | 9 => some (x >>> (y.toInt64 &&& 63))
  | _ => none
def ee_bin (o : Nat) : Value → Value → Option Value
  | .int x, .int y => (ee_binI o x y).map .int
  | .long x, .long y => if 20 ≤ o then (ee_binL (o - 20) x y).map .long else none
  | .long x, .int y => if 40 ≤ o then (ee_binS (o - 40) x y).map .long else none
  | _, _ => none
def ee_un (o : Nat) : Value → Option Value
  | .int x => match o with
    | 0 => some (.int (-x))
    | 1 => some (.long x.toInt64)
    | _ => none
  | .long x => match o with
    | 3 => some (.long (-x))
    | 2 => some (.int x.toInt32)
    | _ => none
  | _ => none
/-- a loop that may not end: its answer where it does -/
def ee_it {S R : Type} (f : S → Option (S ⊕ R)) : Nat → S → Option R
  | 0, _ => none
  | n + 1, s => match f s with
    | none => none
    | some (.inl s') => ee_it f n s'
    | some (.inr r) => some r
noncomputable def ee_wh {S R : Type} (f : S → Option (S ⊕ R)) (s : S) : Option R :=
  haveI := Classical.propDecidable (∃ n r, ee_it f n s = some r)
  if h : ∃ n r, ee_it f n s = some r then ee_it f (Classical.choose h) s else none
theorem ee_it_mono {S R : Type} {f : S → Option (S ⊕ R)} : ∀ {n : Nat} {s : S} {r : R}, ee_it f n s = some r → ∀ m, n ≤ m → ee_it f m s = some r := by
  intro n
  induction n with
  | zero => intro s r h; cases h
  | succ n ih =>
    intro s r h m hm
    obtain ⟨m', rfl⟩ : ∃ m', m = m' + 1 := ⟨m - 1, by omega⟩
    unfold ee_it at h ⊢
    cases hf : f s with
    | none => rw [hf] at h; cases h
    | some x =>
      rw [hf] at h
      cases x with
      | inl s' => exact ih h m' (by omega)
      | inr r' => exact h
theorem ee_wh_of {S R : Type} {f : S → Option (S ⊕ R)} {s : S} {r : R} {n : Nat} (h : ee_it f n s = some r) : ee_wh f s = some r := by
  have hex : ∃ n r, ee_it f n s = some r := ⟨n, r, h⟩
  unfold ee_wh
  rw [dif_pos hex]
  obtain ⟨r', hr'⟩ := Classical.choose_spec hex
  have h1 := ee_it_mono hr' (max (Classical.choose hex) n) (Nat.le_max_left _ _)
  have h2 := ee_it_mono h (max (Classical.choose hex) n) (Nat.le_max_right _ _)
  rw [hr', ← h1, h2]
theorem ee_wh_ex {S R : Type} {f : S → Option (S ⊕ R)} {s : S} {r : R} (h : ee_wh f s = some r) : ∃ n, ee_it f n s = some r := by
  unfold ee_wh at h
  split at h
  · rename_i hex
    exact ⟨_, h⟩
  · cases h
theorem ee_wh_eq {S R : Type} (f : S → Option (S ⊕ R)) (s : S) : ee_wh f s = match f s with
    | none => none
    | some (.inl s') => ee_wh f s'
    | some (.inr r) => some r := by
  cases hf : f s with
  | none =>
    simp only
    cases hw : ee_wh f s with
    | none => rfl
    | some r =>
      obtain ⟨n, hn⟩ := ee_wh_ex hw
      cases n with
      | zero => cases hn
      | succ n => unfold ee_it at hn; rw [hf] at hn; cases hn
  | some x =>
    cases x with
    | inr r => exact ee_wh_of (n := 1) (by unfold ee_it; rw [hf])
    | inl s' =>
      simp only
      cases hw : ee_wh f s' with
      | some r =>
        obtain ⟨n, hn⟩ := ee_wh_ex hw
        exact ee_wh_of (n := n + 1) (by unfold ee_it; rw [hf]; exact hn)
      | none =>
        cases hw2 : ee_wh f s with
        | none => rfl
        | some r =>
          obtain ⟨n, hn⟩ := ee_wh_ex hw2
          cases n with
          | zero => cases hn
          | succ n =>
            unfold ee_it at hn
            rw [hf] at hn
            rw [ee_wh_of hn] at hw
            cases hw
