/-! the parser, as a function -/
section PPF
abbrev PR : Type := (ee_T × Nat) ⊕ (Nat × Nat)
def ppb (r : Option PR) (g : ee_T → Nat → Option PR) : Option PR := match r with
  | some (.inl x) => g x.1 x.2
  | some (.inr y) => some (.inr y)
  | none => none
def pw (k D i : Nat) (r : Option PR) : Option PR := if 8 ≤ D then some (.inr (3, i)) else r
/-- modes: 0 sum, 1 its rest, 2 product, 3 its rest, 4 one, 5 either, 6 its rest, 7 both, 8 its rest, 9 ask, 10 choice -/
def pp (K V : Nat → Nat) (law : Nat) : Nat → Nat → Nat → Nat → ee_T → Option PR
  | 0, _, _, _, _ => none
  | F + 1, 0, D, i, x => ppb (pp K V law F 2 D i x) (fun e j => pp K V law F 1 D j e)
  | F + 1, 1, D, i, x => if K i = 31 ∨ K i = 32 then ppb (pp K V law F 2 D (i + 1) x) (fun e j => pp K V law F 1 D j (l_bin (K i) x e)) else some (.inl (x, i))
  | F + 1, 2, D, i, x => ppb (pp K V law F 4 D i x) (fun e j => pp K V law F 3 D j e)
  | F + 1, 3, D, i, x => if K i = 33 ∨ K i = 34 then ppb (pp K V law F 4 D (i + 1) x) (fun e j => pp K V law F 3 D j (l_bin (K i) x e)) else some (.inl (x, i))
  | F + 1, 4, D, i, x =>
    if K i = 38 then (if V i ≤ 9999 then some (.inl (l_leaf 38 (V i), i + 1)) else some (.inr (2, i)))
    else if K i = 35 then (if 8 ≤ D then some (.inr (3, i)) else ppb (pp K V law F 0 (D + 1) (i + 1) x) (fun e j => if K j = 36 then some (.inl (e, j + 1)) else some (.inr (1, j))))
    else if K i = 11 then (if 8 ≤ D then some (.inr (3, i)) else pp K V law F 10 (D + 1) (i + 1) x)
    else if K i = 32 ∨ K i = 9 ∨ K i = 10 then (if 8 ≤ D then some (.inr (3, i)) else ppb (pp K V law F 4 (D + 1) (i + 1) x) (fun e j => some (.inl (l_un (if K i = 32 then 41 else K i) e, j))))
    else if 18 ≤ K i ∧ K i ≤ 24 then (if K i = (if law = 0 then 24 else 23) then some (.inr (5, i)) else some (.inl (l_leaf (K i) 0, i + 1)))
    else some (.inr (1, i))
  | F + 1, 5, D, i, x => ppb (pp K V law F 7 D i x) (fun e j => pp K V law F 6 D j e)
  | F + 1, 6, D, i, x => if K i = 17 then ppb (pp K V law F 7 D (i + 1) x) (fun e j => pp K V law F 6 D j (l_bin 17 x e)) else some (.inl (x, i))
  | F + 1, 7, D, i, x => ppb (pp K V law F 9 D i x) (fun e j => pp K V law F 8 D j e)
  | F + 1, 8, D, i, x => if K i = 16 then ppb (pp K V law F 9 D (i + 1) x) (fun e j => pp K V law F 8 D j (l_bin 16 x e)) else some (.inl (x, i))
  | F + 1, 9, D, i, x =>
    if K i = 15 then (if 8 ≤ D then some (.inr (3, i)) else ppb (pp K V law F 9 (D + 1) (i + 1) x) (fun e j => some (.inl (l_un 15 e, j))))
    else ppb (pp K V law F 0 D i x) (fun e j => if 25 ≤ K j ∧ K j ≤ 30 then ppb (pp K V law F 0 D (j + 1) x) (fun e2 k => some (.inl (l_bin (K j) e e2, k))) else some (.inr (1, j)))
  | F + 1, _, D, i, x =>
    ppb (pp K V law F 5 D i x) (fun c j => if K j = 12 then ppb (pp K V law F 0 D (j + 1) x) (fun a k => if K k = 13 then ppb (pp K V law F 0 D (k + 1) x) (fun b l => if K l = 14 then some (.inl (l_if c a b, l + 1)) else some (.inr (1, l))) else some (.inr (1, k))) else some (.inr (1, j)))
variable {K V : Nat → Nat} {law : Nat}
theorem pp_0 (F D i : Nat) (x : ee_T) : pp K V law (F + 1) 0 D i x = ppb (pp K V law F 2 D i x) (fun e j => pp K V law F 1 D j e) := rfl
theorem pp_1 (F D i : Nat) (x : ee_T) : pp K V law (F + 1) 1 D i x = if K i = 31 ∨ K i = 32 then ppb (pp K V law F 2 D (i + 1) x) (fun e j => pp K V law F 1 D j (l_bin (K i) x e)) else some (.inl (x, i)) := rfl
theorem pp_2 (F D i : Nat) (x : ee_T) : pp K V law (F + 1) 2 D i x = ppb (pp K V law F 4 D i x) (fun e j => pp K V law F 3 D j e) := rfl
theorem pp_3 (F D i : Nat) (x : ee_T) : pp K V law (F + 1) 3 D i x = if K i = 33 ∨ K i = 34 then ppb (pp K V law F 4 D (i + 1) x) (fun e j => pp K V law F 3 D j (l_bin (K i) x e)) else some (.inl (x, i)) := rfl
theorem pp_4 (F D i : Nat) (x : ee_T) : pp K V law (F + 1) 4 D i x =
    if K i = 38 then (if V i ≤ 9999 then some (.inl (l_leaf 38 (V i), i + 1)) else some (.inr (2, i)))
    else if K i = 35 then (if 8 ≤ D then some (.inr (3, i)) else ppb (pp K V law F 0 (D + 1) (i + 1) x) (fun e j => if K j = 36 then some (.inl (e, j + 1)) else some (.inr (1, j))))
    else if K i = 11 then (if 8 ≤ D then some (.inr (3, i)) else pp K V law F 10 (D + 1) (i + 1) x)
    else if K i = 32 ∨ K i = 9 ∨ K i = 10 then (if 8 ≤ D then some (.inr (3, i)) else ppb (pp K V law F 4 (D + 1) (i + 1) x) (fun e j => some (.inl (l_un (if K i = 32 then 41 else K i) e, j))))
    else if 18 ≤ K i ∧ K i ≤ 24 then (if K i = (if law = 0 then 24 else 23) then some (.inr (5, i)) else some (.inl (l_leaf (K i) 0, i + 1)))
    else some (.inr (1, i)) := rfl
theorem pp_5 (F D i : Nat) (x : ee_T) : pp K V law (F + 1) 5 D i x = ppb (pp K V law F 7 D i x) (fun e j => pp K V law F 6 D j e) := rfl
theorem pp_6 (F D i : Nat) (x : ee_T) : pp K V law (F + 1) 6 D i x = if K i = 17 then ppb (pp K V law F 7 D (i + 1) x) (fun e j => pp K V law F 6 D j (l_bin 17 x e)) else some (.inl (x, i)) := rfl
theorem pp_7 (F D i : Nat) (x : ee_T) : pp K V law (F + 1) 7 D i x = ppb (pp K V law F 9 D i x) (fun e j => pp K V law F 8 D j e) := rfl
theorem pp_8 (F D i : Nat) (x : ee_T) : pp K V law (F + 1) 8 D i x = if K i = 16 then ppb (pp K V law F 9 D (i + 1) x) (fun e j => pp K V law F 8 D j (l_bin 16 x e)) else some (.inl (x, i)) := rfl
theorem pp_9 (F D i : Nat) (x : ee_T) : pp K V law (F + 1) 9 D i x =
    if K i = 15 then (if 8 ≤ D then some (.inr (3, i)) else ppb (pp K V law F 9 (D + 1) (i + 1) x) (fun e j => some (.inl (l_un 15 e, j))))
    else ppb (pp K V law F 0 D i x) (fun e j => if 25 ≤ K j ∧ K j ≤ 30 then ppb (pp K V law F 0 D (j + 1) x) (fun e2 k => some (.inl (l_bin (K j) e e2, k))) else some (.inr (1, j))) := rfl
theorem pp_10 (F D i : Nat) (x : ee_T) : pp K V law (F + 1) 10 D i x =
    ppb (pp K V law F 5 D i x) (fun c j => if K j = 12 then ppb (pp K V law F 0 D (j + 1) x) (fun a k => if K k = 13 then ppb (pp K V law F 0 D (k + 1) x) (fun b l => if K l = 14 then some (.inl (l_if c a b, l + 1)) else some (.inr (1, l))) else some (.inr (1, k))) else some (.inr (1, j))) := rfl
theorem pb_l {r : Option PR} {g : ee_T → Nat → Option PR} {e : ee_T} {j : Nat} (h : ppb r g = some (.inl (e, j))) : ∃ e1 j1, r = some (.inl (e1, j1)) ∧ g e1 j1 = some (.inl (e, j)) := by
  unfold ppb at h
  cases r with
  | none => cases h
  | some r =>
    cases r with
    | inl x => exact ⟨x.1, x.2, rfl, h⟩
    | inr y => cases h
theorem pb_some {r : Option PR} {g : ee_T → Nat → Option PR} (h : r ≠ none) (hg : ∀ e j, r = some (.inl (e, j)) → g e j ≠ none) : ppb r g ≠ none := by
  cases r with
  | none => exact absurd rfl h
  | some r =>
    cases r with
    | inl x => exact hg x.1 x.2 rfl
    | inr y => intro z; cases z
def pty (md : Nat) : Nat := if md = 5 ∨ md = 6 ∨ md = 7 ∨ md = 8 ∨ md = 9 then 2 else 1
def prs (md : Nat) : Bool := decide (md = 1) || decide (md = 3) || decide (md = 6) || decide (md = 8)
def pnd (md D : Nat) : Nat := (if md = 4 then 0 else if md = 2 ∨ md = 3 then 1 else if md = 0 ∨ md = 1 then 2 else if md = 9 then 3 else if md = 7 ∨ md = 8 then 4 else 5) + 1 + 5 * (8 - D)
def pkk (law : Nat) : Nat := if law = 0 then 24 else 23
/-- what a parser that ends well answers -/
theorem pp_ok {N : Nat} (hN : ∀ i, i ≤ N → (K i = 39 ↔ i = N)) : ∀ F md D i x e j, md ≤ 10 → pp K V law F md D i x = some (.inl (e, j)) → D ≤ 8 → i ≤ N → (prs md = true → ty x = pty md ∧ nl (pkk law) x ∧ need x ≤ pnd md D) →
    i ≤ j ∧ j ≤ N ∧ (prs md = false → i < j) ∧ ty e = pty md ∧ nl (pkk law) e ∧ need e ≤ pnd md D := by
  intro F
  induction F with
  | zero => intro md D i x e j _ h; cases h
  | succ F ih =>
    intro md D i x e j hmd h hD hi hx
    have nx : ∀ i k, i ≤ N → K i = k → k ≠ 39 → i + 1 ≤ N := fun i k h1 h2 h3 => by
      by_cases y : i = N
      · have := (hN i h1).2 y; omega
      · omega
    have : md = 0 ∨ md = 1 ∨ md = 2 ∨ md = 3 ∨ md = 4 ∨ md = 5 ∨ md = 6 ∨ md = 7 ∨ md = 8 ∨ md = 9 ∨ md = 10 := by omega
    rcases this with rfl | rfl | rfl | rfl | rfl | rfl | rfl | rfl | rfl | rfl | rfl
    · rw [pp_0] at h
      obtain ⟨e1, j1, h1, h2⟩ := pb_l h
      obtain ⟨a1, a2, a3, a4, a5, a6⟩ := ih 2 D i x e1 j1 (by omega) h1 hD hi (fun z => by cases z)
      have a3 := a3 rfl
      obtain ⟨b1, b2, b3, b4, b5, b6⟩ := ih 1 D j1 e1 e j (by omega) h2 hD a2 (fun _ => ⟨a4, a5, by unfold pnd at a6 ⊢; simp at a6 ⊢; omega⟩)
      exact ⟨by omega, b2, fun _ => by omega, b4, b5, b6⟩
    · rw [pp_1] at h
      obtain ⟨x1, x2, x3⟩ := hx rfl
      by_cases c : K i = 31 ∨ K i = 32
      · rw [if_pos c] at h
        obtain ⟨e1, j1, h1, h2⟩ := pb_l h
        have i1 := nx i _ hi rfl (by omega)
        obtain ⟨a1, a2, a3, a4, a5, a6⟩ := ih 2 D (i + 1) x e1 j1 (by omega) h1 hD i1 (fun z => by cases z)
        obtain ⟨b1, b2, b3, b4, b5, b6⟩ := ih 1 D j1 _ e j (by omega) h2 hD a2 (fun _ => ⟨by
          rw [ty_bin, if_pos ⟨x1, a4, by omega, by omega⟩]; rfl, ⟨x2, a5⟩, by
          show max (need x) (1 + need e1) ≤ _
          unfold pnd at a6 x3 ⊢; simp at a6 x3 ⊢; omega⟩)
        exact ⟨by omega, b2, fun z => (by cases z), b4, b5, b6⟩
      · rw [if_neg c] at h
        cases h
        exact ⟨Nat.le_refl _, hi, fun z => (by cases z), x1, x2, x3⟩
    · rw [pp_2] at h
      obtain ⟨e1, j1, h1, h2⟩ := pb_l h
      obtain ⟨a1, a2, a3, a4, a5, a6⟩ := ih 4 D i x e1 j1 (by omega) h1 hD hi (fun z => by cases z)
      have a3 := a3 rfl
      obtain ⟨b1, b2, b3, b4, b5, b6⟩ := ih 3 D j1 e1 e j (by omega) h2 hD a2 (fun _ => ⟨a4, a5, by unfold pnd at a6 ⊢; simp at a6 ⊢; omega⟩)
      exact ⟨by omega, b2, fun _ => by omega, b4, b5, b6⟩
    · rw [pp_3] at h
      obtain ⟨x1, x2, x3⟩ := hx rfl
      by_cases c : K i = 33 ∨ K i = 34
      · rw [if_pos c] at h
        obtain ⟨e1, j1, h1, h2⟩ := pb_l h
        have i1 := nx i _ hi rfl (by omega)
        obtain ⟨a1, a2, a3, a4, a5, a6⟩ := ih 4 D (i + 1) x e1 j1 (by omega) h1 hD i1 (fun z => by cases z)
        obtain ⟨b1, b2, b3, b4, b5, b6⟩ := ih 3 D j1 _ e j (by omega) h2 hD a2 (fun _ => ⟨by
          rw [ty_bin, if_pos ⟨x1, a4, by omega, by omega⟩]; rfl, ⟨x2, a5⟩, by
          show max (need x) (1 + need e1) ≤ _
          unfold pnd at a6 x3 ⊢; simp at a6 x3 ⊢; omega⟩)
        exact ⟨by omega, b2, fun z => (by cases z), b4, b5, b6⟩
      · rw [if_neg c] at h
        cases h
        exact ⟨Nat.le_refl _, hi, fun z => (by cases z), x1, x2, x3⟩
    · rw [pp_4] at h
      by_cases c1 : K i = 38
      · rw [if_pos c1] at h
        have i1 := nx i _ hi c1 (by omega)
        by_cases v : V i ≤ 9999
        · rw [if_pos v] at h
          cases h
          refine ⟨by omega, i1, fun _ => by omega, ?_, ?_, ?_⟩
          · show (if (38 = 38 ∧ V i ≤ 9999) ∨ (18 ≤ 38 ∧ 38 ≤ 24) then 1 else 0) = 1
            rw [if_pos (Or.inl ⟨rfl, v⟩)]
          · show 38 ≠ pkk law
            unfold pkk; split <;> omega
          · show 1 ≤ pnd 4 D
            unfold pnd; omega
        · rw [if_neg v] at h
          cases h
      rw [if_neg c1] at h
      by_cases c2 : K i = 35
      · rw [if_pos c2] at h
        have i1 := nx i _ hi c2 (by omega)
        by_cases v : 8 ≤ D
        · rw [if_pos v] at h; cases h
        · rw [if_neg v] at h
          obtain ⟨e1, j1, h1, h2⟩ := pb_l h
          obtain ⟨a1, a2, a3, a4, a5, a6⟩ := ih 0 (D + 1) (i + 1) x e1 j1 (by omega) h1 (by omega) i1 (fun z => by cases z)
          by_cases c : K j1 = 36
          · rw [if_pos c] at h2
            cases h2
            exact ⟨by omega, nx j1 _ a2 c (by omega), fun _ => by omega, a4, a5, by unfold pnd at a6 ⊢; simp at a6 ⊢; omega⟩
          · rw [if_neg c] at h2; cases h2
      rw [if_neg c2] at h
      by_cases c3 : K i = 11
      · rw [if_pos c3] at h
        have i1 := nx i _ hi c3 (by omega)
        by_cases v : 8 ≤ D
        · rw [if_pos v] at h; cases h
        · rw [if_neg v] at h
          obtain ⟨a1, a2, a3, a4, a5, a6⟩ := ih 10 (D + 1) (i + 1) x e j (by omega) h (by omega) i1 (fun z => by cases z)
          exact ⟨by omega, a2, fun _ => by omega, a4, a5, by unfold pnd at a6 ⊢; simp at a6 ⊢; omega⟩
      rw [if_neg c3] at h
      by_cases c4 : K i = 32 ∨ K i = 9 ∨ K i = 10
      · rw [if_pos c4] at h
        have i1 := nx i _ hi rfl (by omega)
        by_cases v : 8 ≤ D
        · rw [if_pos v] at h; cases h
        · rw [if_neg v] at h
          obtain ⟨e1, j1, h1, h2⟩ := pb_l h
          obtain ⟨a1, a2, a3, a4, a5, a6⟩ := ih 4 (D + 1) (i + 1) x e1 j1 (by omega) h1 (by omega) i1 (fun z => by cases z)
          cases h2
          refine ⟨by omega, a2, fun _ => by omega, ?_, a5, by show need e1 ≤ _; unfold pnd at a6 ⊢; simp at a6 ⊢; omega⟩
          rw [ty_un, if_pos ⟨a4, by split <;> omega⟩]
          rfl
      rw [if_neg c4] at h
      by_cases c5 : 18 ≤ K i ∧ K i ≤ 24
      · rw [if_pos c5] at h
        have i1 := nx i _ hi rfl (by omega)
        by_cases v : K i = (if law = 0 then 24 else 23)
        · rw [if_pos v] at h; cases h
        · rw [if_neg v] at h
          cases h
          refine ⟨by omega, i1, fun _ => by omega, ?_, v, ?_⟩
          · show (if (K i = 38 ∧ 0 ≤ 9999) ∨ (18 ≤ K i ∧ K i ≤ 24) then 1 else 0) = 1
            rw [if_pos (Or.inr c5)]
          · show 1 ≤ pnd 4 D
            unfold pnd; omega
      · rw [if_neg c5] at h; cases h
    · rw [pp_5] at h
      obtain ⟨e1, j1, h1, h2⟩ := pb_l h
      obtain ⟨a1, a2, a3, a4, a5, a6⟩ := ih 7 D i x e1 j1 (by omega) h1 hD hi (fun z => by cases z)
      have a3 := a3 rfl
      obtain ⟨b1, b2, b3, b4, b5, b6⟩ := ih 6 D j1 e1 e j (by omega) h2 hD a2 (fun _ => ⟨a4, a5, by unfold pnd at a6 ⊢; simp at a6 ⊢; omega⟩)
      exact ⟨by omega, b2, fun _ => by omega, b4, b5, b6⟩
    · rw [pp_6] at h
      obtain ⟨x1, x2, x3⟩ := hx rfl
      by_cases c : K i = 17
      · rw [if_pos c] at h
        obtain ⟨e1, j1, h1, h2⟩ := pb_l h
        have i1 := nx i _ hi rfl (by omega)
        obtain ⟨a1, a2, a3, a4, a5, a6⟩ := ih 7 D (i + 1) x e1 j1 (by omega) h1 hD i1 (fun z => by cases z)
        obtain ⟨b1, b2, b3, b4, b5, b6⟩ := ih 6 D j1 _ e j (by omega) h2 hD a2 (fun _ => ⟨by
          rw [ty_bin, if_neg (fun z => by have z := z.2.2; omega), if_neg (fun z => by have z := z.2.2; omega), if_pos ⟨x1, a4, Or.inr rfl⟩]; rfl, ⟨x2, a5⟩, by
          show max (need x) (1 + need e1) ≤ _
          unfold pnd at a6 x3 ⊢; simp at a6 x3 ⊢; omega⟩)
        exact ⟨by omega, b2, fun z => (by cases z), b4, b5, b6⟩
      · rw [if_neg c] at h
        cases h
        exact ⟨Nat.le_refl _, hi, fun z => (by cases z), x1, x2, x3⟩
    · rw [pp_7] at h
      obtain ⟨e1, j1, h1, h2⟩ := pb_l h
      obtain ⟨a1, a2, a3, a4, a5, a6⟩ := ih 9 D i x e1 j1 (by omega) h1 hD hi (fun z => by cases z)
      have a3 := a3 rfl
      obtain ⟨b1, b2, b3, b4, b5, b6⟩ := ih 8 D j1 e1 e j (by omega) h2 hD a2 (fun _ => ⟨a4, a5, by unfold pnd at a6 ⊢; simp at a6 ⊢; omega⟩)
      exact ⟨by omega, b2, fun _ => by omega, b4, b5, b6⟩
    · rw [pp_8] at h
      obtain ⟨x1, x2, x3⟩ := hx rfl
      by_cases c : K i = 16
      · rw [if_pos c] at h
        obtain ⟨e1, j1, h1, h2⟩ := pb_l h
        have i1 := nx i _ hi rfl (by omega)
        obtain ⟨a1, a2, a3, a4, a5, a6⟩ := ih 9 D (i + 1) x e1 j1 (by omega) h1 hD i1 (fun z => by cases z)
        obtain ⟨b1, b2, b3, b4, b5, b6⟩ := ih 8 D j1 _ e j (by omega) h2 hD a2 (fun _ => ⟨by
          rw [ty_bin, if_neg (fun z => by have z := z.2.2; omega), if_neg (fun z => by have z := z.2.2; omega), if_pos ⟨x1, a4, Or.inl rfl⟩]; rfl, ⟨x2, a5⟩, by
          show max (need x) (1 + need e1) ≤ _
          unfold pnd at a6 x3 ⊢; simp at a6 x3 ⊢; omega⟩)
        exact ⟨by omega, b2, fun z => (by cases z), b4, b5, b6⟩
      · rw [if_neg c] at h
        cases h
        exact ⟨Nat.le_refl _, hi, fun z => (by cases z), x1, x2, x3⟩
    · rw [pp_9] at h
      by_cases c : K i = 15
      · rw [if_pos c] at h
        have i1 := nx i _ hi rfl (by omega)
        by_cases v : 8 ≤ D
        · rw [if_pos v] at h; cases h
        · rw [if_neg v] at h
          obtain ⟨e1, j1, h1, h2⟩ := pb_l h
          obtain ⟨a1, a2, a3, a4, a5, a6⟩ := ih 9 (D + 1) (i + 1) x e1 j1 (by omega) h1 (by omega) i1 (fun z => by cases z)
          cases h2
          refine ⟨by omega, a2, fun _ => by omega, ?_, a5, by show need e1 ≤ _; unfold pnd at a6 ⊢; simp at a6 ⊢; omega⟩
          have a4 : ty e1 = 2 := a4
          rw [ty_un, if_neg (fun z => by have z := z.1; omega), if_pos ⟨a4, rfl⟩]
          rfl
      · rw [if_neg c] at h
        obtain ⟨e1, j1, h1, h2⟩ := pb_l h
        obtain ⟨a1, a2, a3, a4, a5, a6⟩ := ih 0 D i x e1 j1 (by omega) h1 hD hi (fun z => by cases z)
        have a3 := a3 rfl
        by_cases v : 25 ≤ K j1 ∧ K j1 ≤ 30
        · rw [if_pos v] at h2
          obtain ⟨e2, j2, h3, h4⟩ := pb_l h2
          have i1 := nx j1 _ a2 rfl (by omega)
          obtain ⟨b1, b2, b3, b4, b5, b6⟩ := ih 0 D (j1 + 1) x e2 j2 (by omega) h3 hD i1 (fun z => by cases z)
          cases h4
          refine ⟨by omega, b2, fun _ => by omega, ?_, ⟨a5, b5⟩, by show max (need e1) (1 + need e2) ≤ _; unfold pnd at a6 b6 ⊢; simp at a6 b6 ⊢; omega⟩
          rw [ty_bin, if_neg (fun z => by have z := z.2.2; omega), if_pos ⟨a4, b4, v.1, v.2⟩]
          rfl
        · rw [if_neg v] at h2; cases h2
    · rw [pp_10] at h
      obtain ⟨c, j1, h1, h2⟩ := pb_l h
      obtain ⟨a1, a2, a3, a4, a5, a6⟩ := ih 5 D i x c j1 (by omega) h1 hD hi (fun z => by cases z)
      have a3 := a3 rfl
      by_cases v1 : K j1 = 12
      · rw [if_pos v1] at h2
        obtain ⟨a, j2, h3, h4⟩ := pb_l h2
        obtain ⟨b1, b2, b3, b4, b5, b6⟩ := ih 0 D (j1 + 1) x a j2 (by omega) h3 hD (nx j1 _ a2 rfl (by omega)) (fun z => by cases z)
        by_cases v2 : K j2 = 13
        · rw [if_pos v2] at h4
          obtain ⟨b, j3, h5, h6⟩ := pb_l h4
          obtain ⟨c1, c2, c3, c4, c5, c6⟩ := ih 0 D (j2 + 1) x b j3 (by omega) h5 hD (nx j2 _ b2 rfl (by omega)) (fun z => by cases z)
          by_cases v3 : K j3 = 14
          · rw [if_pos v3] at h6
            cases h6
            refine ⟨by omega, nx j3 _ c2 v3 (by omega), fun _ => by omega, ?_, ⟨a5, b5, c5⟩, by show max (need c) (max (need a) (need b)) ≤ _; unfold pnd at a6 b6 c6 ⊢; simp at a6 b6 c6 ⊢; omega⟩
            rw [ty_if, if_pos ⟨a4, b4, c4⟩]
            rfl
          · rw [if_neg v3] at h6; cases h6
        · rw [if_neg v2] at h4; cases h4
      · rw [if_neg v1] at h2; cases h2
end PPF
