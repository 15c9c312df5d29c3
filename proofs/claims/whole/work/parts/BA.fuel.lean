/-! enough fuel: the parser answers -/
section PFU
variable {K V : Nat → Nat} {law : Nat}
def hfu (md : Nat) : Nat := if md = 2 then 2 else if md = 0 then 3 else if md = 9 then 4 else if md = 7 then 5 else if md = 5 then 6 else if md = 10 then 7 else 1
def okr (md N i : Nat) (r : Option PR) : Prop := (∃ y, r = some (.inr y) ∧ 1 ≤ y.1 ∧ y.1 ≤ 5) ∨ ∃ e j, r = some (.inl (e, j)) ∧ i ≤ j ∧ j ≤ N ∧ (prs md = false → i < j)
theorem okr_b {N i md sb i2 : Nat} {r : Option PR} {g : ee_T → Nat → Option PR} (h : okr sb N i2 r) (hg : ∀ e j, r = some (.inl (e, j)) → i2 ≤ j → j ≤ N → (prs sb = false → i2 < j) → okr md N i (g e j)) : okr md N i (ppb r g) := by
  rcases h with ⟨y, rfl, y1, y2⟩ | ⟨e, j, rfl, h1, h2, h3⟩
  · exact Or.inl ⟨y, rfl, y1, y2⟩
  · exact hg e j rfl h1 h2 h3
theorem okr_r {md N i q j : Nat} (h : 1 ≤ q ∧ q ≤ 5) : okr md N i (some (.inr (q, j))) := Or.inl ⟨_, rfl, h⟩
theorem okr_l {md N i j : Nat} {e : ee_T} (h1 : i ≤ j) (h2 : j ≤ N) (h3 : prs md = false → i < j) : okr md N i (some (.inl (e, j))) := Or.inr ⟨e, j, rfl, h1, h2, h3⟩
theorem okr_w {md sb N i i2 : Nat} {r : Option PR} (h : okr sb N i2 r) (h2 : i ≤ i2) (h3 : prs md = false → prs sb = false ∨ i < i2) : okr md N i r := by
  rcases h with ⟨y, rfl, y1, y2⟩ | ⟨e, j, rfl, a1, a2, a3⟩
  · exact Or.inl ⟨y, rfl, y1, y2⟩
  · refine okr_l (by omega) a2 (fun z => ?_)
    rcases h3 z with y | y
    · have := a3 y; omega
    · omega
theorem pp_fu {N : Nat} (hN : ∀ i, i ≤ N → (K i = 39 ↔ i = N)) : ∀ F md D i x, md ≤ 10 → i ≤ N → 12 * (N - i) + hfu md ≤ F → okr md N i (pp K V law F md D i x) := by
  intro F
  induction F with
  | zero =>
    intro md D i x hmd _ hF
    unfold hfu at hF
    (repeat' split at hF) <;> omega
  | succ F ih =>
    intro md D i x hmd hi hF
    have nx : ∀ i k, i ≤ N → K i = k → k ≠ 39 → i + 1 ≤ N := fun i k h1 h2 h3 => by
      by_cases y : i = N
      · have := (hN i h1).2 y; omega
      · omega
    have : md = 0 ∨ md = 1 ∨ md = 2 ∨ md = 3 ∨ md = 4 ∨ md = 5 ∨ md = 6 ∨ md = 7 ∨ md = 8 ∨ md = 9 ∨ md = 10 := by omega
    rcases this with rfl | rfl | rfl | rfl | rfl | rfl | rfl | rfl | rfl | rfl | rfl
    · have hF : 12 * (N - i) + 3 ≤ F + 1 := hF
      rw [pp_0]
      refine okr_b (ih 2 D i x (by omega) hi (by show 12 * (N - i) + 2 ≤ F; omega)) (fun e j _ h1 h2 h3 => ?_)
      have h3 := h3 rfl
      exact okr_w (ih 1 D j e (by omega) h2 (by show 12 * (N - j) + 1 ≤ F; omega)) h1 (fun _ => Or.inr h3)
    · have hF : 12 * (N - i) + 1 ≤ F + 1 := hF
      rw [pp_1]
      by_cases c : K i = 31 ∨ K i = 32
      · rw [if_pos c]
        have i1 := nx i _ hi rfl (by omega)
        refine okr_b (ih 2 D (i + 1) x (by omega) i1 (by show 12 * (N - (i + 1)) + 2 ≤ F; omega)) (fun e j _ h1 h2 h3 => ?_)
        exact okr_w (ih 1 D j _ (by omega) h2 (by show 12 * (N - j) + 1 ≤ F; omega)) (by omega) (fun z => by cases z)
      · rw [if_neg c]
        exact okr_l (Nat.le_refl _) hi (fun z => by cases z)
    · have hF : 12 * (N - i) + 2 ≤ F + 1 := hF
      rw [pp_2]
      refine okr_b (ih 4 D i x (by omega) hi (by show 12 * (N - i) + 1 ≤ F; omega)) (fun e j _ h1 h2 h3 => ?_)
      have h3 := h3 rfl
      exact okr_w (ih 3 D j e (by omega) h2 (by show 12 * (N - j) + 1 ≤ F; omega)) h1 (fun _ => Or.inr h3)
    · have hF : 12 * (N - i) + 1 ≤ F + 1 := hF
      rw [pp_3]
      by_cases c : K i = 33 ∨ K i = 34
      · rw [if_pos c]
        have i1 := nx i _ hi rfl (by omega)
        refine okr_b (ih 4 D (i + 1) x (by omega) i1 (by show 12 * (N - (i + 1)) + 1 ≤ F; omega)) (fun e j _ h1 h2 h3 => ?_)
        exact okr_w (ih 3 D j _ (by omega) h2 (by show 12 * (N - j) + 1 ≤ F; omega)) (by omega) (fun z => by cases z)
      · rw [if_neg c]
        exact okr_l (Nat.le_refl _) hi (fun z => by cases z)
    · have hF : 12 * (N - i) + 1 ≤ F + 1 := hF
      rw [pp_4]
      by_cases c1 : K i = 38
      · rw [if_pos c1]
        have i1 := nx i _ hi c1 (by omega)
        by_cases v : V i ≤ 9999
        · rw [if_pos v]; exact okr_l (by omega) i1 (fun _ => by omega)
        · rw [if_neg v]; exact okr_r (by omega)
      rw [if_neg c1]
      by_cases c2 : K i = 35
      · rw [if_pos c2]
        have i1 := nx i _ hi c2 (by omega)
        by_cases v : 8 ≤ D
        · rw [if_pos v]; exact okr_r (by omega)
        · rw [if_neg v]
          refine okr_b (ih 0 (D + 1) (i + 1) x (by omega) i1 (by show 12 * (N - (i + 1)) + 3 ≤ F; omega)) (fun e j _ h1 h2 h3 => ?_)
          by_cases c : K j = 36
          · rw [if_pos c]; exact okr_l (by omega) (nx j _ h2 c (by omega)) (fun _ => by omega)
          · rw [if_neg c]; exact okr_r (by omega)
      rw [if_neg c2]
      by_cases c3 : K i = 11
      · rw [if_pos c3]
        have i1 := nx i _ hi c3 (by omega)
        by_cases v : 8 ≤ D
        · rw [if_pos v]; exact okr_r (by omega)
        · rw [if_neg v]
          exact okr_w (ih 10 (D + 1) (i + 1) x (by omega) i1 (by show 12 * (N - (i + 1)) + 7 ≤ F; omega)) (by omega) (fun _ => Or.inr (by omega))
      rw [if_neg c3]
      by_cases c4 : K i = 32 ∨ K i = 9 ∨ K i = 10
      · rw [if_pos c4]
        have i1 := nx i _ hi rfl (by omega)
        by_cases v : 8 ≤ D
        · rw [if_pos v]; exact okr_r (by omega)
        · rw [if_neg v]
          refine okr_b (ih 4 (D + 1) (i + 1) x (by omega) i1 (by show 12 * (N - (i + 1)) + 1 ≤ F; omega)) (fun e j _ h1 h2 h3 => ?_)
          exact okr_l (by omega) h2 (fun _ => by omega)
      rw [if_neg c4]
      by_cases c5 : 18 ≤ K i ∧ K i ≤ 24
      · rw [if_pos c5]
        have i1 := nx i _ hi rfl (by omega)
        by_cases v : K i = (if law = 0 then 24 else 23)
        · rw [if_pos v]; exact okr_r (by omega)
        · rw [if_neg v]; exact okr_l (by omega) i1 (fun _ => by omega)
      · rw [if_neg c5]; exact okr_r (by omega)
    · have hF : 12 * (N - i) + 6 ≤ F + 1 := hF
      rw [pp_5]
      refine okr_b (ih 7 D i x (by omega) hi (by show 12 * (N - i) + 5 ≤ F; omega)) (fun e j _ h1 h2 h3 => ?_)
      have h3 := h3 rfl
      exact okr_w (ih 6 D j e (by omega) h2 (by show 12 * (N - j) + 1 ≤ F; omega)) h1 (fun _ => Or.inr h3)
    · have hF : 12 * (N - i) + 1 ≤ F + 1 := hF
      rw [pp_6]
      by_cases c : K i = 17
      · rw [if_pos c]
        have i1 := nx i _ hi rfl (by omega)
        refine okr_b (ih 7 D (i + 1) x (by omega) i1 (by show 12 * (N - (i + 1)) + 5 ≤ F; omega)) (fun e j _ h1 h2 h3 => ?_)
        exact okr_w (ih 6 D j _ (by omega) h2 (by show 12 * (N - j) + 1 ≤ F; omega)) (by omega) (fun z => by cases z)
      · rw [if_neg c]
        exact okr_l (Nat.le_refl _) hi (fun z => by cases z)
    · have hF : 12 * (N - i) + 5 ≤ F + 1 := hF
      rw [pp_7]
      refine okr_b (ih 9 D i x (by omega) hi (by show 12 * (N - i) + 4 ≤ F; omega)) (fun e j _ h1 h2 h3 => ?_)
      have h3 := h3 rfl
      exact okr_w (ih 8 D j e (by omega) h2 (by show 12 * (N - j) + 1 ≤ F; omega)) h1 (fun _ => Or.inr h3)
    · have hF : 12 * (N - i) + 1 ≤ F + 1 := hF
      rw [pp_8]
      by_cases c : K i = 16
      · rw [if_pos c]
        have i1 := nx i _ hi rfl (by omega)
        refine okr_b (ih 9 D (i + 1) x (by omega) i1 (by show 12 * (N - (i + 1)) + 4 ≤ F; omega)) (fun e j _ h1 h2 h3 => ?_)
        exact okr_w (ih 8 D j _ (by omega) h2 (by show 12 * (N - j) + 1 ≤ F; omega)) (by omega) (fun z => by cases z)
      · rw [if_neg c]
        exact okr_l (Nat.le_refl _) hi (fun z => by cases z)
    · have hF : 12 * (N - i) + 4 ≤ F + 1 := hF
      rw [pp_9]
      by_cases c : K i = 15
      · rw [if_pos c]
        have i1 := nx i _ hi rfl (by omega)
        by_cases v : 8 ≤ D
        · rw [if_pos v]; exact okr_r (by omega)
        · rw [if_neg v]
          refine okr_b (ih 9 (D + 1) (i + 1) x (by omega) i1 (by show 12 * (N - (i + 1)) + 4 ≤ F; omega)) (fun e j _ h1 h2 h3 => ?_)
          exact okr_l (by omega) h2 (fun _ => by omega)
      · rw [if_neg c]
        refine okr_b (ih 0 D i x (by omega) hi (by show 12 * (N - i) + 3 ≤ F; omega)) (fun e j _ h1 h2 h3 => ?_)
        have h3 := h3 rfl
        by_cases v : 25 ≤ K j ∧ K j ≤ 30
        · rw [if_pos v]
          have j1 := nx j _ h2 rfl (by omega)
          refine okr_b (ih 0 D (j + 1) x (by omega) j1 (by show 12 * (N - (j + 1)) + 3 ≤ F; omega)) (fun e2 k _ k1 k2 k3 => ?_)
          exact okr_l (by omega) k2 (fun _ => by omega)
        · rw [if_neg v]; exact okr_r (by omega)
    · have hF : 12 * (N - i) + 7 ≤ F + 1 := hF
      rw [pp_10]
      refine okr_b (ih 5 D i x (by omega) hi (by show 12 * (N - i) + 6 ≤ F; omega)) (fun e j _ h1 h2 h3 => ?_)
      have h3 := h3 rfl
      by_cases v1 : K j = 12
      · rw [if_pos v1]
        have j1 := nx j _ h2 v1 (by omega)
        refine okr_b (ih 0 D (j + 1) x (by omega) j1 (by show 12 * (N - (j + 1)) + 3 ≤ F; omega)) (fun a k _ k1 k2 k3 => ?_)
        by_cases v2 : K k = 13
        · rw [if_pos v2]
          have k4 := nx k _ k2 v2 (by omega)
          refine okr_b (ih 0 D (k + 1) x (by omega) k4 (by show 12 * (N - (k + 1)) + 3 ≤ F; omega)) (fun b l _ l1 l2 l3 => ?_)
          by_cases v3 : K l = 14
          · rw [if_pos v3]; exact okr_l (by omega) (nx l _ l2 v3 (by omega)) (fun _ => by omega)
          · rw [if_neg v3]; exact okr_r (by omega)
        · rw [if_neg v2]; exact okr_r (by omega)
      · rw [if_neg v1]; exact okr_r (by omega)
theorem pp_some {N F i D : Nat} {x : ee_T} (hN : ∀ i, i ≤ N → (K i = 39 ↔ i = N)) (hN3 : N ≤ 300) (hi : i ≤ N) (hF : 3700 ≤ F) : ∃ r, pp K V law F 0 D i x = some r ∧ ∀ y, r = .inr y → 1 ≤ y.1 ∧ y.1 ≤ 5 := by
  rcases pp_fu (K := K) (V := V) (law := law) hN F 0 D i x (by omega) hi (by show 12 * (N - i) + 3 ≤ F; omega) with ⟨y, h, y1, y2⟩ | ⟨e, j, h, -⟩
  · exact ⟨_, h, fun z hz => by cases hz; exact ⟨y1, y2⟩⟩
  · exact ⟨_, h, fun z hz => by cases hz⟩
end PFU
