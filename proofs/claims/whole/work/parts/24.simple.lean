/-! specs of the small methods -/
section SM
variable {P : Nat → Nat → List Value → ee_W → Option (List Value × ee_W)} {d : Nat} {w : ee_W}
theorem r_within (hd : 1 ≤ d) (a b c : Int32) : ee_run ee_B P d 10 [.int a, .int b, .int c] w = some ([.int (ee_b (decide (b ≤ a) && decide (a ≤ c)))], w) := by
  obtain ⟨d, rfl⟩ : ∃ k, d = k + 1 := ⟨d - 1, by omega⟩
  rw [rn_10]
  simp only [bd_10, w_ret, v_mat, v_and, v_cmp, v_loc, List.getElem?_cons_zero, List.getElem?_cons_succ, ee_cmp3, ee_cmp5, ee_tru_eb, decide_eq_true_eq]
  by_cases h : b ≤ a
  · simp [h, ee_tru_eb, ee_fin]
    trace_state
    sorry
  · sorry
end SM
