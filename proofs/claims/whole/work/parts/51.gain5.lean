section GE
variable {P : Nat → Nat → List Value → ee_W → Option (List Value × ee_W)} {d : Nat} {w : ee_W} {h : Nat}
def gp_n (o : Int32) (s : Nat × Nat) : Nat × Nat := (s.1 + 1, if ga_b o s.1 s.2 = true then s.1 else s.2)
theorem ga_gp (o : Int32) : ∀ n (s : Nat × Nat × Option Value × Option Value), (lp (fun s => decide (s.1 ≤ 16)) (ga_n o) n s).2.1 = (lp (fun s => decide (s.1 ≤ 16)) (gp_n o) n (s.1, s.2.1)).2 := by
  intro n
  induction n with
  | zero => intro s; rfl
  | succ n ih =>
    intro s
    simp only [lp]
    by_cases q : s.1 ≤ 16
    · rw [if_pos (decide_eq_true q), if_pos (decide_eq_true q), ih]
      rfl
    · rw [if_neg (by simpa using q), if_neg (by simpa using q)]
def mg_n (o : Int32) (s : Nat × Nat × Option Value × Option Value) : Nat × Nat × Option Value × Option Value := (s.1 + 1, if s.1 = 0 then 0 else if ga_b o s.1 s.2.1 = true then s.1 else s.2.1, some (.int (x_rest o (Int32.ofNat s.1))), some (.int (x_cost o (Int32.ofNat s.1))))
theorem mg_gp (o : Int32) : ∀ n (s : Nat × Nat × Option Value × Option Value), 1 ≤ s.1 → (lp (fun s => decide (s.1 ≤ 16)) (mg_n o) n s).2.1 = (lp (fun s => decide (s.1 ≤ 16)) (gp_n o) n (s.1, s.2.1)).2 := by
  intro n
  induction n with
  | zero => intro s h; rfl
  | succ n ih =>
    intro s h
    simp only [lp]
    by_cases q : s.1 ≤ 16
    · rw [if_pos (decide_eq_true q), if_pos (decide_eq_true q), ih _ (by show 1 ≤ s.1 + 1; omega)]
      simp only [mg_n, gp_n]
      rw [if_neg (show ¬ s.1 = 0 by omega)]
    · rw [if_neg (by simpa using q), if_neg (by simpa using q)]
end GE
