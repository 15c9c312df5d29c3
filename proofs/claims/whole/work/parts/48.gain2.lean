section GB
theorem lp_ge (o g : Int32) : ∀ n (s : Nat × Int32), s.1 ≤ (lp (r_c o g) (l_n o g) n s).1 := by
  intro n
  induction n with
  | zero => intro s; exact Nat.le_refl _
  | succ n ih =>
    intro s
    simp only [lp]
    split
    · have := ih (l_n o g s)
      have e : (l_n o g s).1 = s.1 + 1 := rfl
      omega
    · exact Nat.le_refl _
theorem lp_t0 (o g : Int32) (T : Nat) : ∀ m (s : Nat × Int32), T ≤ s.1 → lp (fun s => decide (s.1 < T)) (l_n o g) m s = s := by
  intro m s h
  cases m with
  | zero => rfl
  | succ m =>
    simp only [lp]
    rw [if_neg (by simpa using h)]
theorem rt_run (o g : Int32) : ∀ n (s : Nat × Int32) m, n ≤ m → lp (fun t => decide (t.1 < (lp (r_c o g) (l_n o g) n s).1)) (l_n o g) m s = lp (r_c o g) (l_n o g) n s := by
  intro n
  induction n with
  | zero => intro s m h; exact lp_t0 o g _ m s (Nat.le_refl _)
  | succ n ih =>
    intro s m h
    cases hc : r_c o g s with
    | false =>
      have e : lp (r_c o g) (l_n o g) (n + 1) s = s := by simp only [lp, hc, if_false, Bool.false_eq_true]
      rw [e]
      exact lp_t0 o g _ m s (Nat.le_refl _)
    | true =>
      have e : lp (r_c o g) (l_n o g) (n + 1) s = lp (r_c o g) (l_n o g) n (l_n o g s) := by simp only [lp, hc, if_true]
      obtain ⟨m, rfl⟩ : ∃ k, m = k + 1 := ⟨m - 1, by omega⟩
      have g1 := lp_ge o g n (l_n o g s)
      have g2 : (l_n o g s).1 = s.1 + 1 := rfl
      rw [e]
      simp only [lp]
      rw [if_pos (decide_eq_true (by omega))]
      exact ih (l_n o g s) m (by omega)
theorem by_rt (o g : Int32) : l_by o g (r_t o g).1 = (r_t o g).2 := by
  unfold l_by r_t
  rw [rt_run o g 120 (0, 0) 1000 (by omega)]
end GB
