/-! counting; loops with a state -/
section CNT
theorem for_a {A : Type} {x : ee_S} {b : ee_Z} (emb : Nat → A → ee_E × ee_W) (n : Nat) (Inv : Nat → A → Prop)
    (ht : ∀ k a, k < n → Inv k a → ∃ a', ee_turn x b (emb k a) = some (.inl (emb (k + 1) a')) ∧ Inv (k + 1) a')
    (he : ∀ a, Inv n a → ee_turn x b (emb n a) = some (.inr (.inl (emb n a)))) : ∀ m k a, k + m = n → Inv k a → ∃ a', ee_wh (ee_turn x b) (emb k a) = some (.inl (emb n a')) ∧ Inv n a' := by
  intro m
  induction m with
  | zero =>
    intro k a hk hi
    have e : k = n := by omega
    subst e
    refine ⟨a, ?_, hi⟩
    rw [ee_wh_eq, he a hi]
  | succ m ih =>
    intro k a hk hi
    obtain ⟨a1, h1, h2⟩ := ht k a (by omega) hi
    obtain ⟨a2, h3, h4⟩ := ih (k + 1) a1 (by omega) h2
    refine ⟨a2, ?_, h4⟩
    rw [ee_wh_eq, h1]
    exact h3
def cn (p : Nat → Bool) : Nat → Nat
  | 0 => 0
  | n + 1 => cn p n + (if p n = true then 1 else 0)
theorem cn_s (p : Nat → Bool) (n : Nat) : cn p (n + 1) = cn p n + (if p n = true then 1 else 0) := rfl
theorem cn_congr {p q : Nat → Bool} : ∀ n, (∀ i, i < n → p i = q i) → cn p n = cn q n := by
  intro n
  induction n with
  | zero => intro _; rfl
  | succ n ih =>
    intro h
    rw [cn_s, cn_s, ih (fun i hi => h i (by omega)), h n (by omega)]
theorem cn_at {p : Nat → Bool} {j : Nat} : ∀ n, j < n → cn p n = cn (fun i => !decide (i = j) && p i) n + (if p j = true then 1 else 0) := by
  intro n
  induction n with
  | zero => intro h; omega
  | succ n ih =>
    intro h
    rw [cn_s, cn_s]
    by_cases y : j = n
    · subst y
      have e : cn (fun i => !decide (i = j) && p i) j = cn p j := cn_congr j (fun i hi => by rw [decide_eq_false (by omega)]; simp)
      rw [e]
      simp
    · rw [ih (by omega)]
      rw [decide_eq_false (show ¬ n = j by omega)]
      simp only [Bool.not_false, Bool.true_and]
      omega
theorem cn_pos {p : Nat → Bool} : ∀ n, 0 < cn p n ↔ ∃ i, i < n ∧ p i = true := by
  intro n
  induction n with
  | zero =>
    refine ⟨fun h => ?_, fun ⟨i, hi, _⟩ => by omega⟩
    have h : 0 < 0 := h
    omega
  | succ n ih =>
    rw [cn_s]
    refine ⟨fun h => ?_, fun ⟨i, hi, hp⟩ => ?_⟩
    · by_cases y : p n = true
      · exact ⟨n, by omega, y⟩
      · rw [if_neg y] at h
        obtain ⟨i, hi, hp⟩ := ih.1 (by omega)
        exact ⟨i, by omega, hp⟩
    · by_cases y : i = n
      · subst y; rw [if_pos hp]; omega
      · have := ih.2 ⟨i, by omega, hp⟩
        omega
theorem cn_all {p : Nat → Bool} : ∀ n, (∀ i, i < n → p i = true) → cn p n = n := by
  intro n
  induction n with
  | zero => intro _; rfl
  | succ n ih => intro h; rw [cn_s, ih (fun i hi => h i (by omega)), if_pos (h n (by omega))]
/-- how often -/
def oc (g : Nat → Nat) (n t : Nat) : Nat := cn (fun i => decide (g i = t)) n
def sw (g : Nat → Nat) (i k : Nat) : Nat → Nat := fun x => if x = k then g i else if x = i then g k else g x
theorem oc_sw {g : Nat → Nat} {i k n : Nat} (hi : i < n) (hk : k < n) (t : Nat) : oc (sw g i k) n t = oc g n t := by
  unfold oc
  by_cases y : i = k
  · subst y
    refine cn_congr n (fun x _ => ?_)
    unfold sw
    by_cases z : x = i
    · subst z; simp
    · simp [z]
  · rw [cn_at (p := fun x => decide (sw g i k x = t)) n hi, cn_at (p := fun x => !decide (x = i) && decide (sw g i k x = t)) n hk,
      cn_at (p := fun x => decide (g x = t)) n hi, cn_at (p := fun x => !decide (x = i) && decide (g x = t)) n hk]
    have e : cn (fun x => !decide (x = k) && (!decide (x = i) && decide (sw g i k x = t))) n = cn (fun x => !decide (x = k) && (!decide (x = i) && decide (g x = t))) n := by
      refine cn_congr n (fun x _ => ?_)
      unfold sw
      by_cases z1 : x = k
      · simp [z1]
      · by_cases z2 : x = i
        · simp [z2]
        · simp [z1, z2]
    rw [e]
    have y2 : ¬ k = i := fun z => y z.symm
    have e1 : sw g i k k = g i := by unfold sw; simp
    have e2 : sw g i k i = g k := by unfold sw; simp [y]
    rw [e1, e2, decide_eq_false y2]
    simp only [Bool.not_false, Bool.true_and]
    omega
theorem oc_in {g h : Nat → Nat} {n : Nat} (e : ∀ t, oc g n t = oc h n t) {i : Nat} (hi : i < n) : ∃ j, j < n ∧ h j = g i := by
  have : 0 < oc g n (g i) := (cn_pos n).2 ⟨i, hi, decide_eq_true rfl⟩
  rw [e] at this
  obtain ⟨j, hj, h⟩ := (cn_pos n).1 this
  exact ⟨j, hj, of_decide_eq_true h⟩
/-- the nearest first -/
def ndi (a b : Nat) : Nat := if a < b then b - a else a - b
def nle (a t u : Nat) : Prop := ndi a t < ndi a u ∨ (ndi a t = ndi a u ∧ t ≤ u)
def nlt (a t u : Nat) : Bool := decide (ndi a t < ndi a u) || (decide (ndi a t = ndi a u) && decide (t < u))
theorem nlt_t {a t u : Nat} : nlt a t u = true ↔ ndi a t < ndi a u ∨ (ndi a t = ndi a u ∧ t < u) := by
  unfold nlt
  simp
theorem nlt_f {a t u : Nat} (h : nlt a t u = false) : nle a u t := by
  have : ¬ nlt a t u = true := by rw [h]; decide
  rw [nlt_t] at this
  unfold nle
  omega
theorem nle_tr {a t u v : Nat} (h : nle a t u) (h2 : nle a u v) : nle a t v := by
  unfold nle at *
  omega
theorem nle_rf (a t : Nat) : nle a t t := Or.inr ⟨rfl, Nat.le_refl _⟩
theorem nle_as {a t u : Nat} (h : nle a t u) (h2 : nle a u t) : t = u := by
  unfold nle at *
  omega
def off1 (c : Nat → Nat) (t : Nat) : Nat → Nat := fun u => if u = t then c u - 1 else c u
def NW : Nat → Nat → (Nat → Nat) → Nat → Prop
  | 0, _, _, s => s = 0
  | m + 1, a, c, s => ∃ t s', 0 < c t ∧ (∀ u, 0 < c u → nle a t u) ∧ s = ndi a t + s' ∧ NW m t (off1 c t) s'
theorem NW_un : ∀ m a c s s', NW m a c s → NW m a c s' → s = s' := by
  intro m
  induction m with
  | zero =>
    intro a c s s' h h'
    have h : s = 0 := h
    have h' : s' = 0 := h'
    omega
  | succ m ih =>
    rintro a c s s' ⟨t, q, t1, t2, t3, t4⟩ ⟨u, r, u1, u2, u3, u4⟩
    have e : t = u := nle_as (t2 u u1) (u2 t t1)
    subst e
    rw [t3, u3, ih _ _ _ _ t4 u4]
theorem ndi_c : ∀ a, a < 64 → ∀ t, t < 64 → (if Int32.ofNat t - Int32.ofNat a < 0 then -(Int32.ofNat t - Int32.ofNat a) else Int32.ofNat t - Int32.ofNat a) = Int32.ofNat (ndi a t) := by decide +kernel
theorem ndi_m : ∀ a, a < 64 → ∀ t, t < 64 → (if Int32.ofNat a < Int32.ofNat t then Int32.ofNat t - Int32.ofNat a else Int32.ofNat a - Int32.ofNat t) = Int32.ofNat (ndi a t) := by decide +kernel
theorem ndi_b {a t : Nat} (ha : a < 64) (ht : t < 64) : ndi a t < 64 := by
  unfold ndi
  split <;> omega
theorem bit_c : ∀ m, m < 64 → ∀ i, i < 6 → (((Int32.ofNat m >>> (Int32.ofNat i &&& 31)) &&& 1 = 0) ↔ m.testBit i = false) := by decide +kernel
theorem bit_o : ∀ m, m < 64 → ∀ i, i < 6 → Int32.ofNat m ||| ((1 : Int32) <<< (Int32.ofNat i &&& 31)) = Int32.ofNat (m ||| 2 ^ i) := by decide +kernel
theorem bit_l : ∀ m, m < 64 → ∀ i, i < 6 → m ||| 2 ^ i < 64 := by decide +kernel
theorem bit_t (m i k : Nat) : (m ||| 2 ^ i).testBit k = (m.testBit k || decide (i = k)) := by
  rw [Nat.testBit_or, Nat.testBit_two_pow]
end CNT
