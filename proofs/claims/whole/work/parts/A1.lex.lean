/-! bytes cut into tokens, as a function -/
section LXA
def isLi (x : Int32) : Bool := (decide (97 ≤ x) && decide (x ≤ 122)) || (decide (65 ≤ x) && decide (x ≤ 90))
def isDi (x : Int32) : Bool := decide (48 ≤ x) && decide (x ≤ 57)
def isBi (x : Int32) : Bool := decide (x = 32) || decide (x = 10)
variable {q : Int32 → Bool} {f : Nat → Int32} {n p e : Nat}
def run1 (q : Int32 → Bool) (f : Nat → Int32) (n : Nat) : Nat → Nat → Nat
  | 0, p => p
  | m + 1, p => if p < n ∧ q (f p) = true then run1 q f n m (p + 1) else p
/-- where a run ends -/
def rnq (q : Int32 → Bool) (f : Nat → Int32) (n p : Nat) : Nat := run1 q f n (n - p) p
theorem run1_spec : ∀ m p, n - p = m → p ≤ run1 q f n m p ∧ run1 q f n m p ≤ max n p ∧ (∀ j, p ≤ j → j < run1 q f n m p → q (f j) = true) ∧ (run1 q f n m p < n → q (f (run1 q f n m p)) = false) := by
  intro m
  induction m with
  | zero =>
    intro p h
    show p ≤ p ∧ p ≤ max n p ∧ (∀ j, p ≤ j → j < p → q (f j) = true) ∧ (p < n → q (f p) = false)
    exact ⟨Nat.le_refl _, by omega, fun j h1 h2 => by omega, fun h1 => by omega⟩
  | succ m ih =>
    intro p h
    show p ≤ (if p < n ∧ q (f p) = true then run1 q f n m (p + 1) else p) ∧ (if p < n ∧ q (f p) = true then run1 q f n m (p + 1) else p) ≤ max n p ∧ (∀ j, p ≤ j → j < (if p < n ∧ q (f p) = true then run1 q f n m (p + 1) else p) → q (f j) = true) ∧ ((if p < n ∧ q (f p) = true then run1 q f n m (p + 1) else p) < n → q (f (if p < n ∧ q (f p) = true then run1 q f n m (p + 1) else p)) = false)
    by_cases c : p < n ∧ q (f p) = true
    · rw [if_pos c]
      obtain ⟨i1, i2, i3, i4⟩ := ih (p + 1) (by omega)
      refine ⟨by omega, by omega, fun j h1 h2 => ?_, i4⟩
      by_cases y : j = p
      · rw [y]; exact c.2
      · exact i3 j (by omega) h2
    · rw [if_neg c]
      refine ⟨Nat.le_refl _, by omega, fun j h1 h2 => by omega, fun h1 => ?_⟩
      exact bf (fun z => c ⟨h1, z⟩)
theorem rnq_spec (q : Int32 → Bool) (f : Nat → Int32) (hp : p ≤ n) : p ≤ rnq q f n p ∧ rnq q f n p ≤ n ∧ (∀ j, p ≤ j → j < rnq q f n p → q (f j) = true) ∧ (rnq q f n p < n → q (f (rnq q f n p)) = false) := by
  obtain ⟨h1, h2, h3, h4⟩ := run1_spec (q := q) (f := f) (n := n) (n - p) p rfl
  exact ⟨h1, by unfold rnq; omega, h3, h4⟩
theorem rnq_un (h1 : p ≤ e) (h2 : e ≤ n) (h3 : ∀ j, p ≤ j → j < e → q (f j) = true) (h4 : e < n → q (f e) = false) : rnq q f n p = e := by
  obtain ⟨a1, a2, a3, a4⟩ := rnq_spec q f (show p ≤ n by omega)
  by_cases x : rnq q f n p < e
  · have := h3 _ a1 x
    rw [a4 (by omega)] at this
    cases this
  · by_cases y : e < rnq q f n p
    · have := a3 e h1 y
      rw [h4 (by omega)] at this
      cases this
    · omega
theorem rnq_s (h : p < n) (hq : q (f p) = true) : rnq q f n (p + 1) = rnq q f n p := by
  obtain ⟨a1, a2, a3, a4⟩ := rnq_spec q f (show p ≤ n by omega)
  have : p < rnq q f n p := by
    by_cases y : rnq q f n p = p
    · rw [y] at a4
      rw [a4 h] at hq
      cases hq
    · omega
  exact rnq_un this a2 (fun j h1 h2 => a3 j (by omega) h2) a4
theorem rnq_0 (h : p ≤ n) (hq : p < n → q (f p) = false) : rnq q f n p = p := rnq_un (Nat.le_refl _) h (fun j h1 h2 => by omega) hq
/-- the words -/
def wdl : Nat → List Nat
  | 0 => [112, 117, 108, 108, 115]
  | 1 => [108, 101, 97, 114, 110, 115]
  | 2 => [119, 111, 98, 98, 108, 101]
  | 3 => [108, 111, 115, 101]
  | 4 => [115, 101, 101, 107]
  | 5 => [115, 104, 97, 107, 101]
  | 6 => [119, 114, 105, 116, 101]
  | 7 => [100, 97, 121]
  | 8 => [98, 121]
  | 9 => [99, 117, 114, 118, 101]
  | 10 => [108, 101, 97, 114, 110, 116]
  | 11 => [105, 102]
  | 12 => [116, 104, 101, 110]
  | 13 => [101, 108, 115, 101]
  | 14 => [101, 110, 100]
  | 15 => [110, 111, 116]
  | 16 => [97, 110, 100]
  | 17 => [111, 114]
  | 18 => [99, 108, 111, 99, 107]
  | 19 => [115, 101, 99, 116, 111, 114]
  | 20 => [115, 112, 101, 101, 100]
  | 21 => [101, 114, 114, 111, 114]
  | 22 => [116, 97, 114, 103, 101, 116]
  | 23 => [115, 101, 116, 116, 108, 101, 100]
  | 24 => [111, 102, 102]
  | _ => []
def smq (f : Nat → Int32) (p e : Nat) (l : List Nat) : Nat → Bool
  | 0 => true
  | o + 1 => smq f p e l o && (decide (p + o < e) && decide (f (p + o) = Int32.ofNat (l.getD o 0)))
def wmat (f : Nat → Int32) (p e : Nat) (l : List Nat) : Bool := smq f p e l l.length && decide (p + l.length = e)
def wfd (f : Nat → Int32) (p e : Nat) : Nat → Nat → Nat
  | 0, _ => 40
  | m + 1, k => if wmat f p e (wdl k) = true then k else wfd f p e m (k + 1)
theorem smq_t {l : List Nat} : ∀ o, smq f p e l o = true ↔ ∀ j, j < o → p + j < e ∧ f (p + j) = Int32.ofNat (l.getD j 0) := by
  intro o
  induction o with
  | zero => exact ⟨fun _ j hj => by omega, fun _ => rfl⟩
  | succ o ih =>
    show (smq f p e l o && (decide (p + o < e) && decide (f (p + o) = Int32.ofNat (l.getD o 0)))) = true ↔ _
    rw [Bool.and_eq_true, Bool.and_eq_true, decide_eq_true_eq, decide_eq_true_eq, ih]
    refine ⟨fun ⟨h1, h2⟩ j hj => ?_, fun h => ⟨fun j hj => h j (by omega), h o (by omega)⟩⟩
    by_cases y : j = o
    · rw [y]; exact h2
    · exact h1 j (by omega)
theorem wmat_t {l : List Nat} : wmat f p e l = true ↔ p + l.length = e ∧ ∀ j, j < l.length → f (p + j) = Int32.ofNat (l.getD j 0) := by
  unfold wmat
  rw [Bool.and_eq_true, decide_eq_true_eq, smq_t]
  exact ⟨fun ⟨h1, h2⟩ => ⟨h2, fun j hj => (h1 j hj).2⟩, fun ⟨h1, h2⟩ => ⟨fun j hj => ⟨by omega, h2 j hj⟩, h1⟩⟩
theorem wfd_spec : ∀ m k, k + m = 25 → (wfd f p e m k < 25 ∧ wmat f p e (wdl (wfd f p e m k)) = true) ∨ (wfd f p e m k = 40 ∧ ∀ j, k ≤ j → j < 25 → wmat f p e (wdl j) = false) := by
  intro m
  induction m with
  | zero => intro k h; exact Or.inr ⟨rfl, fun j h1 h2 => by omega⟩
  | succ m ih =>
    intro k h
    show ((if wmat f p e (wdl k) = true then k else wfd f p e m (k + 1)) < 25 ∧ wmat f p e (wdl (if wmat f p e (wdl k) = true then k else wfd f p e m (k + 1))) = true) ∨ ((if wmat f p e (wdl k) = true then k else wfd f p e m (k + 1)) = 40 ∧ _)
    by_cases c : wmat f p e (wdl k) = true
    · rw [if_pos c]; exact Or.inl ⟨by omega, c⟩
    · rw [if_neg c]
      rcases ih (k + 1) (by omega) with i | ⟨i1, i2⟩
      · exact Or.inl i
      · refine Or.inr ⟨i1, fun j h1 h2 => ?_⟩
        by_cases y : j = k
        · rw [y]; exact bf c
        · exact i2 j (by omega) h2
theorem wdl_inj : ∀ a, a < 25 → ∀ b, b < 25 → wdl a = wdl b → a = b := by decide +kernel
theorem wdl_pos : ∀ a, a < 25 → 1 < (wdl a).length ∧ (wdl a).length < 8 := by decide +kernel
theorem wdl_byte : ∀ a, a < 25 → ∀ j, j < (wdl a).length → 65 ≤ (wdl a).getD j 0 ∧ (wdl a).getD j 0 ≤ 122 := by decide +kernel
theorem wmat_un {a b : Nat} (ha : a < 25) (hb : b < 25) (h1 : wmat f p e (wdl a) = true) (h2 : wmat f p e (wdl b) = true) : a = b := by
  obtain ⟨a1, a2⟩ := wmat_t.1 h1
  obtain ⟨b1, b2⟩ := wmat_t.1 h2
  refine wdl_inj a ha b hb (List.ext_getElem (by omega) (fun j j1 j2 => ?_))
  have x := (a2 j j1).symm.trans (b2 j j2)
  have y1 := wdl_byte a ha j j1
  have y2 := wdl_byte b hb j j2
  rw [i32_eq, nI_t (by omega), nI_t (by omega)] at x
  rw [List.getD_eq_getElem?_getD, List.getD_eq_getElem?_getD, List.getElem?_eq_getElem j1, List.getElem?_eq_getElem j2] at x
  simp only [Option.getD_some] at x
  omega
def wnum (f : Nat → Int32) (p e : Nat) : Nat := wfd f p e 25 0
theorem wnum_iff {a : Nat} (ha : a < 25) : wmat f p e (wdl a) = true ↔ wnum f p e = a := by
  rcases wfd_spec (f := f) (p := p) (e := e) 25 0 (by omega) with ⟨h1, h2⟩ | ⟨h1, h2⟩
  · refine ⟨fun h => wmat_un h1 ha h2 h, fun h => ?_⟩
    have h : wfd f p e 25 0 = a := h
    rw [h] at h2
    exact h2
  · refine ⟨fun h => ?_, fun h => ?_⟩
    · rw [h2 a (Nat.zero_le _) ha] at h; cases h
    · have h : wfd f p e 25 0 = a := h
      omega
theorem wnum_b (f : Nat → Int32) (p e : Nat) : wnum f p e < 25 ∨ wnum f p e = 40 := by
  rcases wfd_spec (f := f) (p := p) (e := e) 25 0 (by omega) with ⟨h1, -⟩ | ⟨h1, -⟩
  · exact Or.inl h1
  · exact Or.inr h1
/-- numbers, held at 10000 -/
def dg (x : Int32) : Nat := x.toInt.toNat - 48
def nvk (f : Nat → Int32) (p : Nat) : Nat → Nat
  | 0 => 0
  | k + 1 => min (nvk f p k * 10 + dg (f (p + k))) 10000
theorem nvk_b (f : Nat → Int32) (p : Nat) : ∀ k, nvk f p k ≤ 10000 := by
  intro k
  cases k with
  | zero => exact Nat.zero_le _
  | succ k => exact Nat.min_le_right _ _
/-- signs -/
def sgk (x : Int32) : Nat := if x = 60 then 25 else if x = 62 then 27 else if x = 61 then 29 else if x = 35 then 30 else if x = 43 then 31 else if x = 45 then 32 else if x = 42 then 33 else if x = 47 then 34 else if x = 40 then 35 else if x = 41 then 36 else if x = 59 then 37 else 40
/-- a token: kind, value, start, where it ends -/
abbrev TK : Type := Nat × Nat × Nat × Nat
def tok (f : Nat → Int32) (n p : Nat) : TK :=
  if n ≤ p then (39, 0, n, n)
  else if isLi (f p) = true then (wnum f p (rnq isLi f n p), 0, p, rnq isLi f n p)
  else if isDi (f p) = true then (38, nvk f p (rnq isDi f n p - p), p, rnq isDi f n p)
  else if (f p = 60 ∨ f p = 62) ∧ p + 1 < n ∧ f (p + 1) = 61 then ((if f p = 60 then 26 else 28), 0, p, p + 2)
  else (sgk (f p), 0, p, p + 1)
def tokB (f : Nat → Int32) (n p : Nat) : TK := tok f n (rnq isBi f n p)
def tpos (f : Nat → Int32) (n : Nat) : Nat → Nat
  | 0 => 0
  | i + 1 => (tokB f n (tpos f n i)).2.2.2
def tkn (f : Nat → Int32) (n i : Nat) : TK := tokB f n (tpos f n i)
theorem tpos_s (f : Nat → Int32) (n i : Nat) : tpos f n (i + 1) = (tkn f n i).2.2.2 := rfl
theorem tok_e (hp : p ≤ n) : p ≤ (tok f n p).2.2.1 ∧ (tok f n p).2.2.2 ≤ n ∧ (p < n → p < (tok f n p).2.2.2) ∧ (tok f n p).2.2.1 = p := by
  unfold tok
  by_cases c1 : n ≤ p
  · rw [if_pos c1]; exact ⟨by show p ≤ n; exact hp, Nat.le_refl _, fun h => by omega, by show n = p; omega⟩
  · rw [if_neg c1]
    by_cases c2 : isLi (f p) = true
    · rw [if_pos c2]
      obtain ⟨a1, a2, a3, a4⟩ := rnq_spec isLi f hp
      have a5 := rnq_s (n := n) (by omega) c2
      obtain ⟨b1, -⟩ := rnq_spec isLi f (show p + 1 ≤ n by omega)
      exact ⟨Nat.le_refl _, a2, fun _ => by show p < rnq isLi f n p; omega, rfl⟩
    · rw [if_neg c2]
      by_cases c3 : isDi (f p) = true
      · rw [if_pos c3]
        obtain ⟨a1, a2, a3, a4⟩ := rnq_spec isDi f hp
        have a5 := rnq_s (n := n) (by omega) c3
        obtain ⟨b1, -⟩ := rnq_spec isDi f (show p + 1 ≤ n by omega)
        exact ⟨Nat.le_refl _, a2, fun _ => by show p < rnq isDi f n p; omega, rfl⟩
      · rw [if_neg c3]
        by_cases c4 : (f p = 60 ∨ f p = 62) ∧ p + 1 < n ∧ f (p + 1) = 61
        · rw [if_pos c4]; exact ⟨Nat.le_refl _, by show p + 2 ≤ n; omega, fun _ => by show p < p + 2; omega, rfl⟩
        · rw [if_neg c4]; exact ⟨Nat.le_refl _, by show p + 1 ≤ n; omega, fun _ => by show p < p + 1; omega, rfl⟩
theorem tokB_e (hp : p ≤ n) : p ≤ (tokB f n p).2.2.1 ∧ (tokB f n p).2.2.2 ≤ n ∧ p ≤ (tokB f n p).2.2.2 ∧ (tokB f n p).2.2.1 ≤ n := by
  obtain ⟨a1, a2, -, -⟩ := rnq_spec isBi f hp
  obtain ⟨b1, b2, b3, b4⟩ := tok_e (f := f) a2
  unfold tokB
  refine ⟨by omega, b2, ?_, by omega⟩
  by_cases c : rnq isBi f n p < n
  · have := b3 c; omega
  · have e : rnq isBi f n p = n := by omega
    have : (tok f n (rnq isBi f n p)).2.2.2 = n := by
      rw [e]
      unfold tok
      rw [if_pos (Nat.le_refl _)]
    omega
theorem tpos_b (f : Nat → Int32) (n : Nat) : ∀ i, tpos f n i ≤ n := by
  intro i
  induction i with
  | zero => exact Nat.zero_le _
  | succ i ih => exact (tokB_e ih).2.1
theorem sgk_b (x : Int32) : (25 ≤ sgk x ∧ sgk x ≤ 37) ∨ sgk x = 40 := by
  unfold sgk
  repeat' split
  all_goals first | exact Or.inl ⟨by omega, by omega⟩ | exact Or.inr rfl
theorem tok_b (f : Nat → Int32) (n p : Nat) : (tok f n p).1 ≤ 40 ∧ (tok f n p).2.1 ≤ 10000 ∧ ((tok f n p).1 = 39 ↔ n ≤ p) := by
  unfold tok
  by_cases c1 : n ≤ p
  · rw [if_pos c1]; exact ⟨by show 39 ≤ 40; omega, Nat.zero_le _, fun _ => c1, fun _ => rfl⟩
  · rw [if_neg c1]
    by_cases c2 : isLi (f p) = true
    · rw [if_pos c2]
      have h := wnum_b f p (rnq isLi f n p)
      exact ⟨by show wnum f p (rnq isLi f n p) ≤ 40; omega, Nat.zero_le _, fun h2 => by have h2 : wnum f p (rnq isLi f n p) = 39 := h2; omega, fun h2 => absurd h2 c1⟩
    · rw [if_neg c2]
      by_cases c3 : isDi (f p) = true
      · rw [if_pos c3]; exact ⟨by show 38 ≤ 40; omega, nvk_b _ _ _, fun h2 => by have h2 : 38 = 39 := h2; omega, fun h2 => absurd h2 c1⟩
      · rw [if_neg c3]
        by_cases c4 : (f p = 60 ∨ f p = 62) ∧ p + 1 < n ∧ f (p + 1) = 61
        · rw [if_pos c4]
          refine ⟨by show (if f p = 60 then 26 else 28) ≤ 40; split <;> omega, Nat.zero_le _, fun h2 => ?_, fun h2 => absurd h2 c1⟩
          have h2 : (if f p = 60 then 26 else 28) = 39 := h2
          split at h2 <;> omega
        · rw [if_neg c4]
          have h := sgk_b (f p)
          exact ⟨by show sgk (f p) ≤ 40; omega, Nat.zero_le _, fun h2 => by have h2 : sgk (f p) = 39 := h2; omega, fun h2 => absurd h2 c1⟩
end LXA
