/-! rows in their order; the next one -/
section LXR
variable {g q h s : Nat → Nat} {n i k : Nat}
def ll (n : Nat) (q g : Nat → Nat) : Prop := ∃ p, p < n ∧ (∀ j, j < p → q j = g j) ∧ q p < g p
def eqn (n : Nat) (q g : Nat → Nat) : Prop := ∀ j, j < n → q j = g j
theorem ll_tri (q g : Nat → Nat) : ∀ n, ll n q g ∨ eqn n q g ∨ ll n g q := by
  intro n
  induction n with
  | zero => exact Or.inr (Or.inl (fun j hj => by omega))
  | succ n ih =>
    rcases ih with ⟨p, p1, p2, p3⟩ | h | ⟨p, p1, p2, p3⟩
    · exact Or.inl ⟨p, by omega, p2, p3⟩
    · by_cases a : q n < g n
      · exact Or.inl ⟨n, by omega, h, a⟩
      · by_cases b : g n < q n
        · exact Or.inr (Or.inr ⟨n, by omega, fun j hj => (h j hj).symm, b⟩)
        · refine Or.inr (Or.inl (fun j hj => ?_))
          by_cases y : j = n
          · rw [y]; omega
          · exact h j (by omega)
    · exact Or.inr (Or.inr ⟨p, by omega, p2, p3⟩)
theorem ll_tr (h1 : ll n q g) (h2 : ll n g h) : ll n q h := by
  obtain ⟨p, p1, p2, p3⟩ := h1
  obtain ⟨r, r1, r2, r3⟩ := h2
  by_cases a : p < r
  · exact ⟨p, p1, fun j hj => (p2 j hj).trans (r2 j (by omega)), by rw [← r2 p a]; exact p3⟩
  · by_cases b : r < p
    · exact ⟨r, r1, fun j hj => (p2 j (by omega)).trans (r2 j hj), by rw [p2 r b]; exact r3⟩
    · have e : p = r := by omega
      subst e
      exact ⟨p, p1, fun j hj => (p2 j hj).trans (r2 j hj), by omega⟩
theorem ll_ir (h : ll n q q) : False := by
  obtain ⟨p, -, -, h⟩ := h
  omega
theorem ll_eq (h1 : eqn n q g) (h2 : ll n g h) : ll n q h := by
  obtain ⟨r, r1, r2, r3⟩ := h2
  exact ⟨r, r1, fun j hj => (h1 j (by omega)).trans (r2 j hj), by rw [h1 r r1]; exact r3⟩
theorem ll_eq2 (h1 : ll n q g) (h2 : eqn n g h) : ll n q h := by
  obtain ⟨r, r1, r2, r3⟩ := h1
  exact ⟨r, r1, fun j hj => (r2 j hj).trans (h2 j (by omega)), by rw [← h2 r r1]; exact r3⟩
theorem eqn_sy (h : eqn n q g) : eqn n g q := fun j hj => (h j hj).symm
theorem eqn_tr (h1 : eqn n q g) (h2 : eqn n g h) : eqn n q h := fun j hj => (h1 j hj).trans (h2 j hj)
def vv (g : Nat → Nat) : Nat → Nat
  | 0 => 0
  | k + 1 => vv g k * 64 + g k
theorem vv_s (g : Nat → Nat) (k : Nat) : vv g (k + 1) = vv g k * 64 + g k := rfl
theorem vv_eq : ∀ n, eqn n q g → vv q n = vv g n := by
  intro n
  induction n with
  | zero => intro _; rfl
  | succ n ih => intro h; rw [vv_s, vv_s, ih (fun j hj => h j (by omega)), h n (by omega)]
theorem vv_lt : ∀ n, ll n q g → (∀ j, j < n → q j < 64) → vv q n < vv g n := by
  intro n
  induction n with
  | zero => rintro ⟨p, hp, -⟩; omega
  | succ n ih =>
    rintro ⟨p, p1, p2, p3⟩ hq
    rw [vv_s, vv_s]
    by_cases y : p = n
    · subst y
      have := vv_eq (q := q) (g := g) p p2
      omega
    · have a := ih ⟨p, by omega, p2, p3⟩ (fun j hj => hq j (by omega))
      have := hq n (by omega)
      omega
theorem vv_b : ∀ n, (∀ j, j < n → g j < 64) → vv g n < 64 ^ n := by
  intro n
  induction n with
  | zero => intro _; exact Nat.zero_lt_one
  | succ n ih =>
    intro h
    have a := ih (fun j hj => h j (by omega))
    have b := h n (by omega)
    rw [vv_s, Nat.pow_succ]
    omega
theorem vv_6 (hn : n ≤ 6) (h : ∀ j, j < n → g j < 64) : vv g n < 68719476736 := by
  refine Nat.lt_of_lt_of_le (vv_b n h) ?_
  have : n = 0 ∨ n = 1 ∨ n = 2 ∨ n = 3 ∨ n = 4 ∨ n = 5 ∨ n = 6 := by omega
  rcases this with rfl | rfl | rfl | rfl | rfl | rfl | rfl <;> decide
theorem cn_split (P : Nat → Bool) (p : Nat) : ∀ n, cn P n = cn (fun i => decide (i < p) && P i) n + cn (fun i => decide (p ≤ i) && P i) n := by
  intro n
  induction n with
  | zero => rfl
  | succ n ih =>
    rw [cn_s, cn_s, cn_s, ih]
    by_cases y : n < p
    · rw [decide_eq_true y, decide_eq_false (show ¬ p ≤ n by omega)]
      simp only [Bool.true_and, Bool.false_and]
      rw [if_neg (show ¬ (false = true) by decide)]
      omega
    · rw [decide_eq_false y, decide_eq_true (show p ≤ n by omega)]
      simp only [Bool.true_and, Bool.false_and]
      rw [if_neg (show ¬ (false = true) by decide)]
      omega
theorem oc_suf (e : ∀ t, oc q n t = oc g n t) {p y : Nat} (hp : ∀ j, j < p → q j = g j) (h1 : p ≤ y) (h2 : y < n) : ∃ x, p ≤ x ∧ x < n ∧ g x = q y := by
  have a := e (q y)
  unfold oc at a
  rw [cn_split (fun i => decide (q i = q y)) p n, cn_split (fun i => decide (g i = q y)) p n] at a
  have b : cn (fun i => decide (i < p) && decide (q i = q y)) n = cn (fun i => decide (i < p) && decide (g i = q y)) n := by
    refine cn_congr n (fun i _ => ?_)
    by_cases z : i < p
    · rw [hp i z]
    · rw [decide_eq_false z]; rfl
  have c : 0 < cn (fun i => decide (p ≤ i) && decide (q i = q y)) n := (cn_pos n).2 ⟨y, h2, by rw [decide_eq_true h1, decide_eq_true rfl]; rfl⟩
  obtain ⟨x, x1, x2⟩ := (cn_pos n).1 (show 0 < cn (fun i => decide (p ≤ i) && decide (g i = q y)) n by omega)
  rw [Bool.and_eq_true] at x2
  exact ⟨x, of_decide_eq_true x2.1, x1, of_decide_eq_true x2.2⟩
/-- nothing is ahead of a rising row -/
theorem lx_first (hs : ∀ x y, x < y → y < n → g x ≤ g y) (e : ∀ t, oc q n t = oc g n t) : ¬ ll n q g := by
  rintro ⟨p, p1, p2, p3⟩
  obtain ⟨x, x1, x2, x3⟩ := oc_suf e p2 (Nat.le_refl p) p1
  by_cases y : x = p
  · rw [y] at x3; omega
  · have := hs p x (by omega) x2
    omega
theorem lx_down {j : Nat} (hs : ∀ x, j ≤ x → x + 1 < n → g (x + 1) ≤ g x) : ∀ m x, j ≤ x → x + m < n → g (x + m) ≤ g x := by
  intro m
  induction m with
  | zero => intro x _ _; exact Nat.le_refl _
  | succ m ih =>
    intro x hx hm
    have a := ih x hx (by omega)
    have b := hs (x + m) (by omega) (by omega)
    exact Nat.le_trans b a
theorem lx_dn {j x y : Nat} (hs : ∀ x, j ≤ x → x + 1 < n → g (x + 1) ≤ g x) (h1 : j ≤ x) (h2 : x ≤ y) (h3 : y < n) : g y ≤ g x := by
  have := lx_down hs (y - x) x h1 (by omega)
  rw [show x + (y - x) = y by omega] at this
  exact this
/-- nothing is behind a falling row -/
theorem lx_last (hs : ∀ x, 0 ≤ x → x + 1 < n → g (x + 1) ≤ g x) (e : ∀ t, oc q n t = oc g n t) : ¬ ll n g q := by
  rintro ⟨p, p1, p2, p3⟩
  obtain ⟨x, x1, x2, x3⟩ := oc_suf e (fun j hj => (p2 j hj).symm) (Nat.le_refl p) p1
  have := lx_dn hs (Nat.zero_le p) x1 x2
  omega
/-- the row behind g: k is put at i, what is behind is turned -/
def nxr (g : Nat → Nat) (n i k : Nat) : Nat → Nat := fun x => if i < x then (if x < n then sw g i k (n + i - x) else g x) else sw g i k x
theorem nxr_lo {x : Nat} (hik : i < k) (h : x < i) : nxr g n i k x = g x := by
  unfold nxr sw
  rw [if_neg (by omega), if_neg (by omega), if_neg (by omega)]
theorem nxr_i (hik : i < k) : nxr g n i k i = g k := by
  unfold nxr sw
  rw [if_neg (by omega), if_neg (by omega), if_pos rfl]
theorem sw_dn (hs : ∀ x, i + 1 ≤ x → x + 1 < n → g (x + 1) ≤ g x) (hik : i < k) (hk : k < n) (h1 : g i < g k) (h2 : ∀ x, k < x → x < n → g x ≤ g i) {x y : Nat} (hx : i < x) (hxy : x ≤ y) (hy : y < n) : sw g i k y ≤ sw g i k x := by
  unfold sw
  have a := lx_dn hs (show i + 1 ≤ x by omega) hxy hy
  by_cases c : y = k
  · rw [if_pos c]
    by_cases e : x = k
    · rw [if_pos e]; omega
    · rw [if_neg e, if_neg (by omega)]
      rw [c] at a
      omega
  · rw [if_neg c, if_neg (by omega)]
    by_cases e : x = k
    · rw [if_pos e]; exact h2 y (by omega) hy
    · rw [if_neg e, if_neg (by omega)]; exact a
theorem nxr_up (hs : ∀ x, i + 1 ≤ x → x + 1 < n → g (x + 1) ≤ g x) (hik : i < k) (hk : k < n) (h1 : g i < g k) (h2 : ∀ x, k < x → x < n → g x ≤ g i) {x y : Nat} (hx : i < x) (hxy : x ≤ y) (hy : y < n) : nxr g n i k x ≤ nxr g n i k y := by
  unfold nxr
  rw [if_pos hx, if_pos (by omega), if_pos (by omega), if_pos hy]
  exact sw_dn hs hik hk h1 h2 (by omega) (by omega) (by omega)
theorem nxr_ll (hik : i < k) (hk : k < n) (h1 : g i < g k) : ll n g (nxr g n i k) := ⟨i, by omega, fun j hj => (nxr_lo hik hj).symm, by rw [nxr_i hik]; exact h1⟩
/-- nothing stands between -/
theorem nxr_no (hs : ∀ x, i + 1 ≤ x → x + 1 < n → g (x + 1) ≤ g x) (hik : i < k) (hk : k < n) (h1 : g i < g k) (h2 : ∀ x, k < x → x < n → g x ≤ g i) (eg : ∀ t, oc (nxr g n i k) n t = oc g n t) (e : ∀ t, oc q n t = oc g n t) (hl : ll n g q) : ¬ ll n q (nxr g n i k) := by
  obtain ⟨p, p1, p2, p3⟩ := hl
  rintro ⟨r, r1, r2, r3⟩
  by_cases a : r < i
  · rw [nxr_lo hik a] at r3
    by_cases b : p < r
    · have := r2 p b
      rw [nxr_lo hik (by omega)] at this
      omega
    · by_cases c : p = r
      · subst c; omega
      · have := p2 r (by omega)
        omega
  · by_cases b : r = i
    · subst b
      rw [nxr_i hik] at r3
      have pi : r ≤ p := by
        by_cases c : r ≤ p
        · exact c
        · have := r2 p (by omega)
          rw [nxr_lo hik (by omega)] at this
          omega
      obtain ⟨x, x1, x2, x3⟩ := oc_suf e (fun j hj => (p2 j hj).symm) (Nat.le_refl p) p1
      by_cases c : p = r
      · subst c
        by_cases d1 : x = p
        · rw [d1] at x3; omega
        · by_cases d2 : x ≤ k
          · have := lx_dn hs (show p + 1 ≤ x by omega) d2 hk
            omega
          · have := h2 x (by omega) x2
            omega
      · have := lx_dn hs (show r + 1 ≤ p by omega) x1 x2
        omega
    · obtain ⟨x, x1, x2, x3⟩ := oc_suf (fun t => (e t).trans (eg t).symm) r2 (Nat.le_refl r) r1
      have := nxr_up hs hik hk h1 h2 (show i < r by omega) x1 x2
      omega
end LXR
