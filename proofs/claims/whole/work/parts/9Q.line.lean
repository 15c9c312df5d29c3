/-! ways on a line -/
section LNE
variable {g q : Nat → Nat} {n k m a : Nat} {c : Nat → Nat}
theorem ndi_or (a b : Nat) : (a ≤ b ∧ ndi a b = b - a) ∨ (b ≤ a ∧ ndi a b = a - b) := by
  unfold ndi
  split <;> omega
theorem ndi_sy (a b : Nat) : ndi a b = ndi b a := by
  rcases ndi_or a b with h | h <;> rcases ndi_or b a with h2 | h2 <;> omega
/-- the way of the rest of a row -/
def wl : Nat → Nat → (Nat → Nat) → Nat → Nat
  | 0, _, _, _ => 0
  | m + 1, a, g, k => ndi a (g k) + wl m (g k) g (k + 1)
theorem wl_s (m a : Nat) (g : Nat → Nat) (k : Nat) : wl (m + 1) a g k = ndi a (g k) + wl m (g k) g (k + 1) := rfl
theorem wl_eq : ∀ m a k, (∀ j, k ≤ j → j < k + m → q j = g j) → wl m a q k = wl m a g k := by
  intro m
  induction m with
  | zero => intro a k _; rfl
  | succ m ih =>
    intro a k h
    rw [wl_s, wl_s, h k (by omega) (by omega), ih (g k) (k + 1) (fun j h1 h2 => h j (by omega) (by omega))]
/-- the least way through what is left -/
def LB (c : Nat → Nat) (a v : Nat) : Prop := ((∀ t, c t = 0) ∧ v = 0) ∨ ∃ lo hi, 0 < c lo ∧ 0 < c hi ∧ (∀ t, 0 < c t → lo ≤ t ∧ t ≤ hi) ∧ v = hi - lo + min (ndi a lo) (ndi a hi)
theorem LB_un {v v' : Nat} (h : LB c a v) (h' : LB c a v') : v = v' := by
  rcases h with ⟨h1, h2⟩ | ⟨lo, hi, h1, h2, h3, h4⟩
  · rcases h' with ⟨g1, g2⟩ | ⟨lo', hi', g1, g2, g3, g4⟩
    · omega
    · have := h1 lo'; omega
  · rcases h' with ⟨g1, g2⟩ | ⟨lo', hi', g1, g2, g3, g4⟩
    · have := g1 lo; omega
    · have a1 := h3 lo' g1
      have a2 := h3 hi' g2
      have a3 := g3 lo h1
      have a4 := g3 hi h2
      have e1 : lo = lo' := by omega
      have e2 : hi = hi' := by omega
      subst e1 e2
      omega
theorem off1_at (c : Nat → Nat) (t u : Nat) : off1 c t u = if u = t then c u - 1 else c u := rfl
/-- one step never makes it less -/
theorem LB_step {t v v' : Nat} (ht : 0 < c t) (h : LB c a v) (h' : LB (off1 c t) t v') : v ≤ ndi a t + v' := by
  rcases h with ⟨h1, h2⟩ | ⟨lo, hi, h1, h2, h3, h4⟩
  · omega
  · have tb := h3 t ht
    have low : ∀ u, 0 < c u → u = t ∨ 0 < off1 c t u := by
      intro u hu
      by_cases y : u = t
      · exact Or.inl y
      · exact Or.inr (by rw [off1_at, if_neg y]; exact hu)
    rcases h' with ⟨g1, g2⟩ | ⟨lo', hi', g1, g2, g3, g4⟩
    · have e1 : lo = t := by
        rcases low lo h1 with y | y
        · exact y
        · have := g1 lo; omega
      have e2 : hi = t := by
        rcases low hi h2 with y | y
        · exact y
        · have := g1 hi; omega
      subst e1
      omega
    · have cl : 0 < c lo' := by
        rw [off1_at] at g1
        split at g1
        · rename_i y; rw [y]; exact ht
        · exact g1
      have ch : 0 < c hi' := by
        rw [off1_at] at g2
        split at g2
        · rename_i y; rw [y]; exact ht
        · exact g2
      have b1 := h3 lo' cl
      have b2 := h3 hi' ch
      have e1 : lo = t ∨ lo = lo' := by
        rcases low lo h1 with y | y
        · exact Or.inl y
        · have := g3 lo y; exact Or.inr (by omega)
      have e2 : hi = t ∨ hi = hi' := by
        rcases low hi h2 with y | y
        · exact Or.inl y
        · have := g3 hi y; exact Or.inr (by omega)
      have b3 := (g3 hi' g2).1
      rcases ndi_or a lo with n1 | n1 <;> rcases ndi_or a hi with n2 | n2 <;> rcases ndi_or a t with n3 | n3 <;> rcases ndi_or t lo' with n4 | n4 <;> rcases ndi_or t hi' with n5 | n5 <;> omega
theorem ol_0 (g : Nat → Nat) (n : Nat) : ol g n 0 = oc g n := by
  funext t
  unfold ol oc
  exact cn_congr n (fun i _ => by rw [decide_eq_true (Nat.zero_le i)]; rfl)
theorem sw_id (g : Nat → Nat) (k : Nat) : sw g k k = g := by
  funext x
  unfold sw
  by_cases y : x = k
  · rw [if_pos y, y]
  · rw [if_neg y, if_neg y]
theorem ol_s (hk : k < n) : ol g n (k + 1) = off1 (ol g n k) (g k) := by
  have := ol_off (g := g) hk (Nat.le_refl k) hk
  rw [sw_id] at this
  exact this
theorem ol_pos {t : Nat} : 0 < ol g n k t ↔ ∃ i, k ≤ i ∧ i < n ∧ g i = t := by
  unfold ol
  rw [cn_pos]
  refine ⟨fun ⟨i, h1, h2⟩ => ?_, fun ⟨i, h1, h2, h3⟩ => ⟨i, h2, by rw [decide_eq_true h1, decide_eq_true h3]; rfl⟩⟩
  rw [Bool.and_eq_true] at h2
  exact ⟨i, of_decide_eq_true h2.1, h1, of_decide_eq_true h2.2⟩
theorem ol_n (g : Nat → Nat) (n t : Nat) : ol g n n t = 0 := by
  by_cases h : 0 < ol g n n t
  · obtain ⟨i, h1, h2, -⟩ := ol_pos.1 h
    omega
  · omega
theorem LB_ex (g : Nat → Nat) (n : Nat) : ∀ m k, k + m = n → ∀ a, ∃ v, LB (ol g n k) a v := by
  have ex : ∀ m k, k + (m + 1) = n → ∃ lo hi, 0 < ol g n k lo ∧ 0 < ol g n k hi ∧ ∀ t, 0 < ol g n k t → lo ≤ t ∧ t ≤ hi := by
    intro m
    induction m with
    | zero =>
      intro k hk
      refine ⟨g k, g k, ol_pos.2 ⟨k, by omega, by omega, rfl⟩, ol_pos.2 ⟨k, by omega, by omega, rfl⟩, fun t ht => ?_⟩
      obtain ⟨i, h1, h2, h3⟩ := ol_pos.1 ht
      rw [show i = k by omega] at h3
      omega
    | succ m ih =>
      intro k hk
      obtain ⟨lo, hi, h1, h2, h3⟩ := ih (k + 1) (by omega)
      obtain ⟨x, x1, x2, x3⟩ := ol_pos.1 h1
      obtain ⟨y, y1, y2, y3⟩ := ol_pos.1 h2
      have a1 : 0 < ol g n k lo := ol_pos.2 ⟨x, by omega, x2, x3⟩
      have a2 : 0 < ol g n k hi := ol_pos.2 ⟨y, by omega, y2, y3⟩
      have a3 : 0 < ol g n k (g k) := ol_pos.2 ⟨k, by omega, by omega, rfl⟩
      have a4 : ∀ t, 0 < ol g n k t → t = g k ∨ (lo ≤ t ∧ t ≤ hi) := by
        intro t ht
        obtain ⟨i, i1, i2, i3⟩ := ol_pos.1 ht
        by_cases z : i = k
        · exact Or.inl (by rw [← z]; exact i3.symm)
        · exact Or.inr (h3 t (ol_pos.2 ⟨i, by omega, i2, i3⟩))
      have a5 := (h3 lo h1).2
      by_cases z1 : g k < lo
      · refine ⟨g k, hi, a3, a2, fun t ht => ?_⟩
        rcases a4 t ht with e | e <;> omega
      · by_cases z2 : hi < g k
        · refine ⟨lo, g k, a1, a3, fun t ht => ?_⟩
          rcases a4 t ht with e | e <;> omega
        · refine ⟨lo, hi, a1, a2, fun t ht => ?_⟩
          rcases a4 t ht with e | e <;> omega
  intro m k hk a
  cases m with
  | zero => exact ⟨0, Or.inl ⟨fun t => by rw [show k = n by omega]; exact ol_n g n t, rfl⟩⟩
  | succ m =>
    obtain ⟨lo, hi, h1, h2, h3⟩ := ex m k hk
    exact ⟨_, Or.inr ⟨lo, hi, h1, h2, h3, rfl⟩⟩
/-- no row is shorter -/
theorem LB_le : ∀ m k a v, k + m = n → LB (ol g n k) a v → v ≤ wl m a g k := by
  intro m
  induction m with
  | zero =>
    intro k a v hk h
    rcases h with ⟨-, h⟩ | ⟨lo, hi, h1, -⟩
    · omega
    · rw [show k = n by omega, ol_n] at h1
      omega
  | succ m ih =>
    intro k a v hk h
    obtain ⟨v', hv'⟩ := LB_ex g n m (k + 1) (by omega) (g k)
    have b := ih (k + 1) (g k) v' (by omega) hv'
    rw [ol_s (by omega)] at hv'
    have := LB_step (ol_pos.2 ⟨k, by omega, by omega, rfl⟩) h hv'
    rw [wl_s]
    omega
/-- the row that takes the lowest one by which it stays the least -/
def GR : Nat → Nat → (Nat → Nat) → (Nat → Nat) → Nat → Prop
  | 0, _, c, _, _ => ∀ t, c t = 0
  | m + 1, a, c, r, k => ∃ v v', 0 < c (r k) ∧ LB c a v ∧ LB (off1 c (r k)) (r k) v' ∧ ndi a (r k) + v' = v ∧ (∀ u u', 0 < c u → u < r k → LB (off1 c u) u u' → ndi a u + u' ≠ v) ∧ GR m (r k) (off1 c (r k)) r (k + 1)
theorem GR_ol {r : Nat → Nat} : ∀ m k a c, k + m = n → GR m a c r k → ol r n k = c := by
  intro m
  induction m with
  | zero =>
    intro k a c hk h
    funext t
    rw [show k = n by omega, ol_n, h t]
  | succ m ih =>
    rintro k a c hk ⟨v, v', h1, h2, h3, h4, h5, h6⟩
    have e := ih (k + 1) (r k) _ (by omega) h6
    rw [ol_s (by omega)] at e
    funext t
    have e2 := congrFun e t
    rw [off1_at, off1_at] at e2
    have p : 0 < ol r n k (r k) := ol_pos.2 ⟨k, by omega, by omega, rfl⟩
    by_cases y : t = r k
    · rw [if_pos y, if_pos y] at e2
      rw [y] at e2 ⊢
      omega
    · rw [if_neg y, if_neg y] at e2
      exact e2
theorem GR_wl {r : Nat → Nat} : ∀ m k a c v, GR m a c r k → LB c a v → wl m a r k = v := by
  intro m
  induction m with
  | zero =>
    intro k a c v h hv
    rcases hv with ⟨-, hv⟩ | ⟨lo, hi, h1, -⟩
    · rw [hv]; rfl
    · have := h lo; omega
  | succ m ih =>
    rintro k a c v ⟨w, v', h1, h2, h3, h4, h5, h6⟩ hv
    rw [wl_s, ih (k + 1) (r k) _ v' h6 h3, LB_un hv h2]
    exact h4
/-- and it is the first one of the shortest -/
theorem GR_lex {r b : Nat → Nat} : ∀ m k a c v, k + m = n → GR m a c r k → LB c a v → ol b n k = c → wl m a b k = v → (∀ j, k ≤ j → j < n → r j = b j) ∨ ∃ p, k ≤ p ∧ p < n ∧ (∀ j, k ≤ j → j < p → r j = b j) ∧ r p < b p := by
  intro m
  induction m with
  | zero => intro k a c v hk _ _ _ _; exact Or.inl (fun j h1 h2 => by omega)
  | succ m ih =>
    rintro k a c v hk ⟨w, v', h1, h2, h3, h4, h5, h6⟩ hv hb hw
    have ew := LB_un hv h2
    subst ew
    rw [wl_s] at hw
    obtain ⟨u', hu'⟩ := LB_ex b n m (k + 1) (by omega) (b k)
    have l1 := LB_le m (k + 1) (b k) u' (by omega) hu'
    have cb : 0 < c (b k) := by rw [← hb]; exact ol_pos.2 ⟨k, by omega, by omega, rfl⟩
    have hu2 := hu'
    rw [ol_s (by omega), hb] at hu2
    have l2 := LB_step cb hv hu2
    have eq : ndi a (b k) + u' = v := by omega
    have ge : ¬ b k < r k := fun z => h5 (b k) u' cb z hu2 eq
    by_cases y : r k = b k
    · have hrec := ih (k + 1) (r k) (off1 c (r k)) v' (by omega) h6 h3 (by rw [ol_s (by omega), hb, y]) (by
        rw [y] at h3 ⊢
        have := LB_un h3 hu2
        omega)
      rcases hrec with h | ⟨p, p1, p2, p3, p4⟩
      · refine Or.inl (fun j j1 j2 => ?_)
        by_cases z : j = k
        · rw [z]; exact y
        · exact h j (by omega) j2
      · refine Or.inr ⟨p, by omega, p2, fun j j1 j2 => ?_, p4⟩
        by_cases z : j = k
        · rw [z]; exact y
        · exact p3 j (by omega) j2
    · exact Or.inr ⟨k, Nat.le_refl _, by omega, fun j j1 j2 => by omega, by omega⟩
/-- one end is always best -/
theorem LB_best {v : Nat} (h : LB c a v) (h0 : ∃ t, 0 < c t) (hv : ∀ t, 0 < c t → ∃ v', LB (off1 c t) t v') : ∃ t v', 0 < c t ∧ LB (off1 c t) t v' ∧ ndi a t + v' = v := by
  rcases h with ⟨h1, -⟩ | ⟨lo, hi, h1, h2, h3, h4⟩
  · obtain ⟨t, ht⟩ := h0
    have := h1 t
    omega
  · have tb := (h3 lo h1).2
    obtain ⟨t, ht, hmin⟩ : ∃ t, (t = lo ∨ t = hi) ∧ ndi a t = min (ndi a lo) (ndi a hi) := by
      by_cases y : ndi a lo ≤ ndi a hi
      · exact ⟨lo, Or.inl rfl, by omega⟩
      · exact ⟨hi, Or.inr rfl, by omega⟩
    have ct : 0 < c t := by rcases ht with rfl | rfl <;> assumption
    obtain ⟨v', hv'⟩ := hv t ct
    refine ⟨t, v', ct, hv', ?_⟩
    have low : ∀ u, 0 < c u → u = t ∨ 0 < off1 c t u := by
      intro u hu
      by_cases y : u = t
      · exact Or.inl y
      · exact Or.inr (by rw [off1_at, if_neg y]; exact hu)
    rcases hv' with ⟨g1, g2⟩ | ⟨lo', hi', g1, g2, g3, g4⟩
    · have e1 : lo = t := by
        rcases low lo h1 with y | y
        · exact y
        · have := g1 lo; omega
      have e2 : hi = t := by
        rcases low hi h2 with y | y
        · exact y
        · have := g1 hi; omega
      subst e1
      omega
    · have cl : 0 < c lo' := by
        rw [off1_at] at g1
        split at g1
        · rename_i y; rw [y]; exact ct
        · exact g1
      have ch : 0 < c hi' := by
        rw [off1_at] at g2
        split at g2
        · rename_i y; rw [y]; exact ct
        · exact g2
      have b1 := h3 lo' cl
      have b2 := h3 hi' ch
      have e1 : lo = t ∨ lo = lo' := by
        rcases low lo h1 with y | y
        · exact Or.inl y
        · have := g3 lo y; exact Or.inr (by omega)
      have e2 : hi = t ∨ hi = hi' := by
        rcases low hi h2 with y | y
        · exact Or.inl y
        · have := g3 hi y; exact Or.inr (by omega)
      have b3 := (g3 hi' g2).1
      rcases ndi_or t lo' with n4 | n4 <;> rcases ndi_or t hi' with n5 | n5 <;> rcases ht with rfl | rfl <;> omega
end LNE
