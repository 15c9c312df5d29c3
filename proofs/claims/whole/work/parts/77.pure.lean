/-! calls that only work out -/
section BP
variable {P : Nat → Nat → List Value → ee_W → Option (List Value × ee_W)} {d : Nat} {w : ee_W}
theorem b_gray (hd : 3 ≤ d) (hS : Sim w) (a : Int32) : Both P d 114 285 [.int a] w := by
  obtain ⟨Z, h1, h2, h3⟩ := hS
  have e := r_grayM (P := P) (w := w) hd 236 mz_0 a
  rw [i63] at e
  exact both_q h1 h2 h3 (r_gray (by omega) 0 cz_0 a) e
theorem b_track (hd : 3 ≤ d) (hS : Sim w) (a : Int32) : Both P d 116 287 [.int a] w := by
  obtain ⟨Z, h1, h2, h3⟩ := hS
  exact both_q h1 h2 h3 (q_track (by omega) cz_0 a) (m_track (by omega) mz_0 a)
theorem b_burst (hd : 3 ≤ d) (hS : Sim w) (a b : Int32) : Both P d 118 288 [.int a, .int b] w := by
  obtain ⟨Z, h1, h2, h3⟩ := hS
  exact both_q h1 h2 h3 (q_burst (by omega) cz_0 a b) (m_burst (by omega) mz_0 a b)
theorem b_reads (hd : 3 ≤ d) (hS : Sim w) (a b : Int32) : Both P d 120 292 [.int a, .int b] w := by
  obtain ⟨Z, h1, h2, h3⟩ := hS
  exact both_q h1 h2 h3 (q_reads (by omega) cz_0 a b) (m_reads (by omega) mz_0 a b)
theorem b_fit (hd : 5 ≤ d) (hS : Sim w) (x a b c e : Int32) : Both P d 122 294 [.int x, .int a, .int b, .int c, .int e] w := by
  obtain ⟨Z, h1, h2, h3⟩ := hS
  exact both_q h1 h2 h3 (q_fit (by omega) cz_0 x a b c e) (m_fit (by omega) mz_0 x a b c e)
theorem b_fits (hd : 5 ≤ d) (hS : Sim w) (x a b c e : Int32) : Both P d 127 300 [.int x, .int a, .int b, .int c, .int e] w := by
  obtain ⟨Z, h1, h2, h3⟩ := hS
  exact both_q h1 h2 h3 (q_fits (by omega) cz_0 x a b c e) (m_fits (by omega) mz_0 x a b c e)
theorem b_unlike (hd : 3 ≤ d) (hS : Sim w) (a b : Int32) : Both P d 129 301 [.int a, .int b] w := by
  obtain ⟨Z, h1, h2, h3⟩ := hS
  exact both_q h1 h2 h3 (q_unlike (by omega) cz_0 a b) (m_unlike (by omega) mz_0 a b)
theorem b_rim (hd : 3 ≤ d) (hS : Sim w) (a b : Int32) : Both P d 131 302 [.int a, .int b] w := by
  obtain ⟨Z, h1, h2, h3⟩ := hS
  exact both_q h1 h2 h3 (q_rim (by omega) cz_0 a b) (m_rim (by omega) mz_0 a b)
theorem b_blind (hd : 5 ≤ d) (hS : Sim w) (a b c e : Int32) : Both P d 132 303 [.int a, .int b, .int c, .int e] w := by
  obtain ⟨Z, h1, h2, h3⟩ := hS
  exact both_q h1 h2 h3 (q_blind (by omega) cz_0 a b c e) (m_blind (by omega) mz_0 a b c e)
theorem b_curve (hd : 3 ≤ d) (hS : Sim w) (a b : Int32) : Both P d 133 304 [.int a, .int b] w := by
  obtain ⟨Z, h1, h2, h3⟩ := hS
  exact both_q h1 h2 h3 (q_curve (by omega) cz_0 a b) (m_curve (by omega) mz_0 a b)
theorem b_stop (hd : 3 ≤ d) (hS : Sim w) (a b : Int32) : Both P d 134 306 [.int a, .int b] w := by
  obtain ⟨Z, h1, h2, h3⟩ := hS
  exact both_q h1 h2 h3 (q_stop (by omega) cz_0 a b) (m_stop (by omega) mz_0 a b)
theorem b_needs (hd : 3 ≤ d) (hS : Sim w) (a b : Int32) : Both P d 135 307 [.int a, .int b] w := by
  obtain ⟨Z, h1, h2, h3⟩ := hS
  exact both_q h1 h2 h3 (q_needs (by omega) cz_0 a b) (m_needs (by omega) mz_0 a b)
theorem b_learn (hd : 3 ≤ d) (hS : Sim w) (a b c : Int32) : Both P d 143 314 [.int a, .int b, .int c] w := by
  obtain ⟨Z, h1, h2, h3⟩ := hS
  exact both_q h1 h2 h3 (q_learn (by omega) cz_0 a b c) (m_learn (by omega) mz_0 a b c)
theorem b_rests (hd : 3 ≤ d) (hS : Sim w) (a b : Int32) : Both P d 146 318 [.int a, .int b] w := by
  obtain ⟨Z, h1, h2, h3⟩ := hS
  exact both_q h1 h2 h3 (q_rests (by omega) cz_0 a b) (m_rests (by omega) mz_0 a b)
theorem b_gain (hd : 4 ≤ d) (hS : Sim w) (a : Int32) : Both P d 148 320 [.int a] w := by
  obtain ⟨Z, h1, h2, h3⟩ := hS
  exact both_q h1 h2 h3 (q_gain (by omega) cz_0 a) (m_gain (by omega) mz_0 a)
end BP
