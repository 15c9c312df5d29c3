section RE
variable {P : Nat → Nat → List Value → ee_W → Option (List Value × ee_W)} {d : Nat} {w : ee_W} {h : Nat}
/-- a loop whose end is known -/
theorem ee_wh_end {σ : Type} {x : ee_S} {b : ee_Z} (emb : σ → ee_E × ee_W) (cond : σ → Bool) (next : σ → σ)
    (hs : ∀ s, ee_turn x b (emb s) = if cond s then some (.inl (emb (next s))) else some (.inr (.inl (emb s)))) :
    ∀ (n : Nat) (s : σ), cond (lp cond next n s) = false → ee_wh (ee_turn x b) (emb s) = some (.inl (emb (lp cond next n s))) := by
  intro n
  induction n with
  | zero =>
    intro s h
    simp only [lp] at h
    rw [ee_wh_eq, hs s, h]
    rfl
  | succ n ih =>
    intro s h
    cases hc : cond s with
    | false =>
      rw [ee_wh_eq, hs s, hc]
      simp only [lp, hc]
      rfl
    | true =>
      rw [ee_wh_eq, hs s, hc]
      simp only [lp, hc, if_true] at h ⊢
      exact ih _ h
def r_c (o g : Int32) (s : Nat × Int32) : Bool := !decide (l_add o g s.2 = 0)
def r_t (o g : Int32) : Nat × Int32 := lp (r_c o g) (l_n o g) 120 (0, 0)
set_option maxRecDepth 100000 in
theorem re_all : ∀ a, a < 199 → ∀ g, g < 17 → r_c (Int32.ofNat a - 99) (Int32.ofNat g) (r_t (Int32.ofNat a - 99) (Int32.ofNat g)) = false := by decide +kernel
end RE
