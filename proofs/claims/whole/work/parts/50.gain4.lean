section GD
variable {P : Nat → Nat → List Value → ee_W → Option (List Value × ee_W)} {d : Nat} {w : ee_W} {h : Nat}
/-- bounds of what is learnt at rest -/
theorem rb_of {o g : Int32} (h : okO o g = true) : -99 ≤ (r_t o g).2.toInt ∧ (r_t o g).2.toInt ≤ 99 := by
  unfold okO at h
  rw [Bool.and_eq_true] at h
  obtain ⟨h1, h2⟩ := h
  obtain ⟨m, hm, rfl⟩ := in_nat 16 (by omega) h2
  have h3 := (in_iff o (-99) 99).1 h1
  have a1 : -99 ≤ o.toInt := h3.1
  have a2 : o.toInt ≤ 99 := h3.2
  have n99 : (99 : Int32).toInt = 99 := rfl
  have e : (o + 99).toInt = o.toInt + 99 := by rw [i32_add (by omega) (by omega)]; rfl
  obtain ⟨k, q1, q2, q3⟩ := j_of (s := o + 99) (by omega)
  have e2 : o = Int32.ofNat k - 99 := by
    rw [← q2, i32_eq, i32_sub (by omega) (by omega)]
    omega
  rw [e2]
  exact (in_iff _ (-99) 99).1 (rb_all k (by omega) m (by omega))
def x_ap (o g : Int32) : Int32 := if o < (r_t o g).2 then (r_t o g).2 - o else o - (r_t o g).2
def x_cost (o g : Int32) : Int32 := 1000 * x_ap o g + x_rest o g
theorem cost_of {o g : Int32} (h : okO o g = true) : (x_left o g).toInt = (x_ap o g).toInt ∧ 0 ≤ (x_ap o g).toInt ∧ (x_ap o g).toInt ≤ 198 ∧ (x_rest o g).toInt ≤ 120 ∧ 0 ≤ (x_rest o g).toInt ∧ (x_cost o g).toInt = 1000 * (x_ap o g).toInt + (x_rest o g).toInt := by
  obtain ⟨b1, b2⟩ := rb_of h
  unfold okO at h
  rw [Bool.and_eq_true] at h
  have h3 := (in_iff o (-99) 99).1 h.1
  have a1 : -99 ≤ o.toInt := h3.1
  have a2 : o.toInt ≤ 99 := h3.2
  have r1 := rt_le o g
  have r2 : (x_rest o g).toInt = ((r_t o g).1 : Int) := nI_t (by omega)
  have s1 : (o - (r_t o g).2).toInt = o.toInt - (r_t o g).2.toInt := i32_sub (by omega) (by omega)
  have s2 : ((r_t o g).2 - o).toInt = (r_t o g).2.toInt - o.toInt := i32_sub (by omega) (by omega)
  have z0 : (0 : Int32).toInt = 0 := rfl
  have ap : (x_ap o g).toInt = if o.toInt < (r_t o g).2.toInt then (r_t o g).2.toInt - o.toInt else o.toInt - (r_t o g).2.toInt := by
    unfold x_ap
    by_cases q : o < (r_t o g).2
    · rw [if_pos q, if_pos (i32_lt.1 q), s2]
    · rw [if_neg q, if_neg (fun z => q (i32_lt.2 z)), s1]
  have ap1 : 0 ≤ (x_ap o g).toInt ∧ (x_ap o g).toInt ≤ 198 := by rw [ap]; split <;> omega
  have lf : (x_left o g).toInt = (x_ap o g).toInt := by
    rw [ap]
    unfold x_left
    rw [by_rt]
    by_cases q : o - (r_t o g).2 < 0
    · have q2 := i32_lt.1 q
      rw [if_pos q, if_pos (by omega), Int32.toInt_neg, s1]
      rw [i32_bm (by omega) (by omega)]
      omega
    · have q2 : ¬ (o - (r_t o g).2).toInt < (0 : Int32).toInt := fun z => q (i32_lt.2 z)
      rw [if_neg q, s1]
      split <;> omega
  have n1000 : (1000 : Int32).toInt = 1000 := rfl
  have m1 : (1000 * x_ap o g).toInt = 1000 * (x_ap o g).toInt := by
    rw [i32_mul (by rw [n1000]; omega) (by rw [n1000]; omega), n1000]
  refine ⟨lf, ap1.1, ap1.2, by omega, by omega, ?_⟩
  unfold x_cost
  rw [i32_add (by omega) (by omega), m1]
theorem cost_lt {o g b : Int32} (h : okO o g = true) (h2 : okO o b = true) : (x_cost o g < x_cost o b) ↔ (x_left o g < x_left o b ∨ (x_left o g = x_left o b ∧ x_rest o g < x_rest o b)) := by
  obtain ⟨a1, a2, a3, a4, a5, a6⟩ := cost_of h
  obtain ⟨b1, b2, b3, b4, b5, b6⟩ := cost_of h2
  rw [i32_lt, i32_lt, i32_lt, i32_eq]
  omega
end GD
