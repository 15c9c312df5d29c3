/-! the law's loop -/
section LAW
variable {P : Nat → Nat → List Value → ee_W → Option (List Value × ee_W)} {d : Nat} {sc : Nat × (Nat → Int32)} {i : Nat} {C : Nat → List Value → ee_W → Option (List Value × ee_W)}
def lenv (i : Nat) : ee_E := [some (.ref 250), some (.ref 0), some (.ref 236), some (.int (Int32.ofNat i))]
def la (C : Nat → List Value → ee_W → Option (List Value × ee_W)) (sc : Nat × (Nat → Int32)) (i : Nat) (xs : ee_T) (vs : List Value) : Prop := ∀ w : ee_W, w.2.2 = sc → ee_ev es_sh es_rf C xs (lenv i) w = some (vs, w)
theorem le_0 : (lenv i)[0]? = some (some (.ref 250)) := rfl
theorem le_1 : (lenv i)[1]? = some (some (.ref 0)) := rfl
theorem le_2 : (lenv i)[2]? = some (some (.ref 236)) := rfl
theorem le_3 : (lenv i)[3]? = some (some (.int (Int32.ofNat i))) := rfl
theorem sh250 : (es_sh 250).1 = 8 := rfl
theorem la_nil : la C sc i n_nil [] := fun _ _ => rfl
theorem la_cons {e xs : ee_T} {v : Value} {vs : List Value} (h1 : la C sc i e [v]) (h2 : la C sc i xs vs) : la C sc i (n_cons e xs) (v :: vs) := by
  intro w hw
  simp only [v_cons, h1 w hw, h2 w hw]
theorem la_s {k : Nat} (hi : i + 6 ≤ sc.1 ∧ sc.1 ≤ 3072) (hk : k < 6) : la C sc i (n_sld (n_loc 0 2) (n_bin 0 (n_loc 3 0) (n_int k))) [.int (sc.2 (i + k))] := by
  intro w hw
  have x : ee_ix (Int32.ofNat (i + k)) sc.1 = true := by rw [ixn (by omega)]; exact decide_eq_true (by omega)
  simp only [v_sld, v_loc, v_bin, v_int, le_0, le_3, bi_0, j_a, hw, sh250, x, tnc (show i + k < 2147483648 by omega), and_self, if_true]
theorem la_z {e : ee_T} {x : Int32} (h : la C sc i e [.int x]) : la C sc i (n_mat (n_z 1 e)) [.int (ee_b (decide (¬ x = 0)))] := by
  intro w hw
  simp only [v_mat, v_z, h w hw, ee_cmp1, ee_tru_eb]
def LC (P : Nat → Nat → List Value → ee_W → Option (List Value × ee_W)) (d : Nat) (sc : Nat × (Nat → Int32)) (i : Nat) (b : ee_T) : Prop := ∀ w : ee_W, Sim w → w.2.2 = sc → ∃ w', ee_evS es_sh es_rf (ee_run ee_B P d) b 0 (lenv i) w = some (.inl (lenv i, w')) ∧ Sim w' ∧ w'.2.2 = sc
def LR (P : Nat → Nat → List Value → ee_W → Option (List Value × ee_W)) (d : Nat) (sc : Nat × (Nat → Int32)) (i n : Nat) (b : ee_T) : Prop := ∀ (v : Int32) (w : ee_W), (∀ k, k < n → v ≠ Int32.ofNat k) → Sim w → w.2.2 = sc → ∃ w', ee_evS es_sh es_rf (ee_run ee_B P d) b v (lenv i) w = some (.inl (lenv i, w')) ∧ Sim w' ∧ w'.2.2 = sc
theorem bo_ret {mc : Nat} {vs : List Value} {w w1 : ee_W} {r : Value} (hB : (ee_B mc).isSome = true) (h : ee_run ee_B P d mc vs w = some ([r], w1)) : ee_retok (es_m mc).2.2.1 [r] = true := by
  cases d with
  | zero => cases h
  | succ d =>
    unfold ee_run at h
    split at h
    · split at h
      · split at h
        · split at h
          · rename_i hret
            cases h
            exact hret
          · cases h
        · cases h
      · cases h
    · rename_i hn
      rw [hn] at hB
      cases hB
theorem bo_int {mc : Nat} {vs : List Value} {w w1 : ee_W} {r : Value} (hr : (es_m mc).2.2.1 = some .int ∨ (es_m mc).2.2.1 = some .boolean) (hB : (ee_B mc).isSome = true) (h : ee_run ee_B P d mc vs w = some ([r], w1)) : ∃ x, r = .int x := by
  have h2 := bo_ret hB h
  rcases hr with e | e
  · rw [e] at h2
    cases r <;> first | exact ⟨_, rfl⟩ | (simp [ee_retok] at h2)
  · rw [e] at h2
    cases r <;> first | exact ⟨_, rfl⟩ | (simp [ee_retok] at h2)
theorem bo_long {mc : Nat} {vs : List Value} {w w1 : ee_W} {r : Value} (hr : (es_m mc).2.2.1 = some .long) (hB : (ee_B mc).isSome = true) (h : ee_run ee_B P d mc vs w = some ([r], w1)) : ∃ x, r = .long x := by
  have h2 := bo_ret hB h
  rw [hr] at h2
  cases r <;> first | exact ⟨_, rfl⟩ | (simp [ee_retok] at h2)
theorem lc_i {p1 p2 mc mm : Nat} {xs : ee_T} {vs : List Value} (hr : (es_m mc).2.2.1 = some .int ∨ (es_m mc).2.2.1 = some .boolean) (hB : (ee_B mc).isSome = true) (hx : la (ee_run ee_B P d) sc i xs vs) (hb : ∀ w, Sim w → Both P d mc mm vs w) : LC P d sc i (s_if p1 p2 (n_cmp 1 (n_call mc (n_cons (n_loc 1 2) xs)) (n_call mm (n_cons (n_loc 2 2) xs))) (s_ret 0 (n_int 0)) s_skip) := by
  intro w hS hw
  obtain ⟨r, w1, w2, h1, h2, h3, h4, h5⟩ := hb w hS
  obtain ⟨x, rfl⟩ := bo_int hr hB h1
  refine ⟨w2, ?_, h3, h4.trans hw⟩
  simp only [w_if, v_cmp, v_call, v_cons, v_loc, le_1, le_2, hx w hw, hx w1 (h5.trans hw), h1, h2, ee_cmp1, ee_tru_eb, not_true_eq_false, decide_false, Bool.false_eq_true, if_false, w_skip]
theorem lc_l {p1 p2 mc mm : Nat} {xs : ee_T} {vs : List Value} (hr : (es_m mc).2.2.1 = some .long) (hB : (ee_B mc).isSome = true) (hx : la (ee_run ee_B P d) sc i xs vs) (hb : ∀ w, Sim w → Both P d mc mm vs w) : LC P d sc i (s_if p1 p2 (n_cmpL 1 (n_call mc (n_cons (n_loc 1 2) xs)) (n_call mm (n_cons (n_loc 2 2) xs))) (s_ret 0 (n_int 0)) s_skip) := by
  intro w hS hw
  obtain ⟨r, w1, w2, h1, h2, h3, h4, h5⟩ := hb w hS
  obtain ⟨x, rfl⟩ := bo_long hr hB h1
  refine ⟨w2, ?_, h3, h4.trans hw⟩
  simp only [w_if, v_cmpL, v_call, v_cons, v_loc, le_1, le_2, hx w hw, hx w1 (h5.trans hw), h1, h2, ee_cmpL1, ee_tru_eb, not_true_eq_false, decide_false, Bool.false_eq_true, if_false, w_skip]
theorem lr_case {p n m : Nat} {b rest : ee_T} (hb : LC P d sc i b) (hr : LR P d sc i (n + 1) rest) : LR P d sc i n (s_case p (n_p (n_n n) (n_n m)) b rest) := by
  intro v w hv hS hw
  rw [w_case, show (ee_list (n_p (n_n n) (n_n m))).map Int32.ofNat = [Int32.ofNat n] from rfl]
  by_cases q : v = Int32.ofNat n
  · rw [if_pos (by rw [q]; exact List.mem_cons_self)]
    exact hb w hS hw
  · rw [if_neg (fun z => q (List.mem_singleton.mp z))]
    refine hr v w (fun k hk => ?_) hS hw
    by_cases e : k = n
    · rw [e]
      exact q
    · exact hv k (by omega)
theorem lr_dflt {pd : Nat} {keys : ee_T} (hk : ee_list keys = List.range 56) : LR P d sc i 56 (s_dflt pd keys s_skip) := by
  intro v w hv hS hw
  refine ⟨w, ?_, hS, hw⟩
  rw [w_dflt, hk, if_neg (fun z => ?_), w_skip]
  obtain ⟨k, hk2, e⟩ := List.mem_map.mp z
  exact hv k (List.mem_range.mp hk2) e.symm
theorem lc_0 (hP : SP P) (hd : 83 ≤ d) (hi : i + 6 ≤ sc.1 ∧ sc.1 ≤ 3072) : LC P d sc i bd_lawb_0 := lc_i (mc := 9) (mm := 186) (by decide) (by rfl) (la_cons (la_s hi (by decide)) (la_cons (la_s hi (by decide)) (la_nil))) (fun w hS => b_wobble (by omega) hS _ _)
theorem lc_1 (hP : SP P) (hd : 83 ≤ d) (hi : i + 6 ≤ sc.1 ∧ sc.1 ≤ 3072) : LC P d sc i bd_lawb_1 := lc_i (mc := 11) (mm := 189) (by decide) (by rfl) (la_cons (la_s hi (by decide)) (la_nil)) (fun w hS => b_lose (by omega) hS _)
theorem lc_2 (hP : SP P) (hd : 83 ≤ d) (hi : i + 6 ≤ sc.1 ∧ sc.1 ≤ 3072) : LC P d sc i bd_lawb_2 := lc_i (mc := 12) (mm := 190) (by decide) (by rfl) (la_cons (la_s hi (by decide)) (la_cons (la_s hi (by decide)) (la_cons (la_s hi (by decide)) (la_cons (la_s hi (by decide)) (la_cons (la_s hi (by decide)) (la_nil)))))) (fun w hS => b_feed (by omega) hS _ _ _ _ _)
theorem lc_3 (hP : SP P) (hd : 83 ≤ d) (hi : i + 6 ≤ sc.1 ∧ sc.1 ≤ 3072) : LC P d sc i bd_lawb_3 := lc_i (mc := 14) (mm := 192) (by decide) (by rfl) (la_cons (la_s hi (by decide)) (la_nil)) (fun w hS => b_end (by omega) hS _)
theorem lc_4 (hP : SP P) (hd : 83 ≤ d) (hi : i + 6 ≤ sc.1 ∧ sc.1 ≤ 3072) : LC P d sc i bd_lawb_4 := lc_i (mc := 15) (mm := 193) (by decide) (by rfl) (la_nil) (fun w hS => b_text hP (by omega) hS)
theorem lc_5 (hP : SP P) (hd : 83 ≤ d) (hi : i + 6 ≤ sc.1 ∧ sc.1 ≤ 3072) : LC P d sc i bd_lawb_5 := lc_i (mc := 60) (mm := 230) (by decide) (by rfl) (la_cons (la_s hi (by decide)) (la_nil)) (fun w hS => b_fault (by omega) hS _)
theorem lc_6 (hP : SP P) (hd : 83 ≤ d) (hi : i + 6 ≤ sc.1 ∧ sc.1 ≤ 3072) : LC P d sc i bd_lawb_6 := lc_i (mc := 61) (mm := 231) (by decide) (by rfl) (la_cons (la_s hi (by decide)) (la_nil)) (fun w hS => b_by (by omega) hS _)
theorem lc_7 (hP : SP P) (hd : 83 ≤ d) (hi : i + 6 ≤ sc.1 ∧ sc.1 ≤ 3072) : LC P d sc i bd_lawb_7 := lc_i (mc := 63) (mm := 233) (by decide) (by rfl) (la_cons (la_s hi (by decide)) (la_nil)) (fun w hS => b_seek (by omega) hS _)
theorem lc_8 (hP : SP P) (hd : 83 ≤ d) (hi : i + 6 ≤ sc.1 ∧ sc.1 ≤ 3072) : LC P d sc i bd_lawb_8 := lc_i (mc := 71) (mm := 239) (by decide) (by rfl) (la_cons (la_s hi (by decide)) (la_nil)) (fun w hS => b_shake (by omega) hS _)
theorem lc_9 (hP : SP P) (hd : 83 ≤ d) (hi : i + 6 ≤ sc.1 ∧ sc.1 ≤ 3072) : LC P d sc i bd_lawb_9 := lc_i (mc := 75) (mm := 242) (by decide) (by rfl) (la_nil) (fun w hS => b_write (by omega) hS)
theorem lc_10 (hP : SP P) (hd : 83 ≤ d) (hi : i + 6 ≤ sc.1 ∧ sc.1 ≤ 3072) : LC P d sc i bd_lawb_10 := lc_i (mc := 78) (mm := 245) (by decide) (by rfl) (la_cons (la_s hi (by decide)) (la_nil)) (fun w hS => b_day (by omega) hS _)
theorem lc_11 (hP : SP P) (hd : 83 ≤ d) (hi : i + 6 ≤ sc.1 ∧ sc.1 ≤ 3072) : LC P d sc i bd_lawb_11 := lc_i (mc := 101) (mm := 266) (by decide) (by rfl) (la_cons (la_s hi (by decide)) (la_nil)) (fun w hS => b_played (by omega) hS _)
theorem lc_12 (hP : SP P) (hd : 83 ≤ d) (hi : i + 6 ≤ sc.1 ∧ sc.1 ≤ 3072) : LC P d sc i bd_lawb_12 := lc_i (mc := 103) (mm := 268) (by decide) (by rfl) (la_cons (la_s hi (by decide)) (la_cons (la_s hi (by decide)) (la_nil))) (fun w hS => b_years (by omega) hS _ _)
theorem lc_13 (hP : SP P) (hd : 83 ≤ d) (hi : i + 6 ≤ sc.1 ∧ sc.1 ≤ 3072) : LC P d sc i bd_lawb_13 := lc_i (mc := 105) (mm := 232) (by decide) (by rfl) (la_nil) (fun w hS => b_undo (by omega) hS)
theorem lc_14 (hP : SP P) (hd : 83 ≤ d) (hi : i + 6 ≤ sc.1 ∧ sc.1 ≤ 3072) : LC P d sc i bd_lawb_14 := lc_i (mc := 107) (mm := 270) (by decide) (by rfl) (la_cons (la_s hi (by decide)) (la_cons (la_s hi (by decide)) (la_nil))) (fun w hS => b_of (by omega) hS _ _)
theorem lc_15 (hP : SP P) (hd : 83 ≤ d) (hi : i + 6 ≤ sc.1 ∧ sc.1 ≤ 3072) : LC P d sc i bd_lawb_15 := lc_i (mc := 108) (mm := 271) (by decide) (by rfl) (la_cons (la_s hi (by decide)) (la_nil)) (fun w hS => b_is (by omega) hS _)
theorem lc_16 (hP : SP P) (hd : 83 ≤ d) (hi : i + 6 ≤ sc.1 ∧ sc.1 ≤ 3072) : LC P d sc i bd_lawb_16 := lc_i (mc := 109) (mm := 274) (by decide) (by rfl) (la_nil) (fun w hS => b_pulls (by omega) hS)
theorem lc_17 (hP : SP P) (hd : 83 ≤ d) (hi : i + 6 ≤ sc.1 ∧ sc.1 ≤ 3072) : LC P d sc i bd_lawb_17 := lc_i (mc := 110) (mm := 275) (by decide) (by rfl) (la_cons (la_s hi (by decide)) (la_cons (la_s hi (by decide)) (la_nil))) (fun w hS => b_book (by omega) hS _ _)
theorem lc_18 (hP : SP P) (hd : 83 ≤ d) (hi : i + 6 ≤ sc.1 ∧ sc.1 ≤ 3072) : LC P d sc i bd_lawb_18 := lc_i (mc := 112) (mm := 281) (by decide) (by rfl) (la_cons (la_s hi (by decide)) (la_cons (la_s hi (by decide)) (la_nil))) (fun w hS => b_foretold (by omega) hS _ _)
theorem lc_19 (hP : SP P) (hd : 83 ≤ d) (hi : i + 6 ≤ sc.1 ∧ sc.1 ≤ 3072) : LC P d sc i bd_lawb_19 := lc_i (mc := 113) (mm := 284) (by decide) (by rfl) (la_cons (la_s hi (by decide)) (la_nil)) (fun w hS => b_till (by omega) hS _)
theorem lc_20 (hP : SP P) (hd : 83 ≤ d) (hi : i + 6 ≤ sc.1 ∧ sc.1 ≤ 3072) : LC P d sc i bd_lawb_20 := lc_i (mc := 114) (mm := 285) (by decide) (by rfl) (la_cons (la_s hi (by decide)) (la_nil)) (fun w hS => b_gray (by omega) hS _)
theorem lc_21 (hP : SP P) (hd : 83 ≤ d) (hi : i + 6 ≤ sc.1 ∧ sc.1 ≤ 3072) : LC P d sc i bd_lawb_21 := lc_i (mc := 116) (mm := 287) (by decide) (by rfl) (la_cons (la_s hi (by decide)) (la_nil)) (fun w hS => b_track (by omega) hS _)
theorem lc_22 (hP : SP P) (hd : 83 ≤ d) (hi : i + 6 ≤ sc.1 ∧ sc.1 ≤ 3072) : LC P d sc i bd_lawb_22 := lc_i (mc := 118) (mm := 288) (by decide) (by rfl) (la_cons (la_s hi (by decide)) (la_cons (la_s hi (by decide)) (la_nil))) (fun w hS => b_burst (by omega) hS _ _)
theorem lc_23 (hP : SP P) (hd : 83 ≤ d) (hi : i + 6 ≤ sc.1 ∧ sc.1 ≤ 3072) : LC P d sc i bd_lawb_23 := lc_i (mc := 120) (mm := 292) (by decide) (by rfl) (la_cons (la_s hi (by decide)) (la_cons (la_z (la_s hi (by decide))) (la_nil))) (fun w hS => b_reads (by omega) hS _ _)
theorem lc_24 (hP : SP P) (hd : 83 ≤ d) (hi : i + 6 ≤ sc.1 ∧ sc.1 ≤ 3072) : LC P d sc i bd_lawb_24 := lc_i (mc := 122) (mm := 294) (by decide) (by rfl) (la_cons (la_s hi (by decide)) (la_cons (la_s hi (by decide)) (la_cons (la_s hi (by decide)) (la_cons (la_s hi (by decide)) (la_cons (la_s hi (by decide)) (la_nil)))))) (fun w hS => b_fit (by omega) hS _ _ _ _ _)
theorem lc_25 (hP : SP P) (hd : 83 ≤ d) (hi : i + 6 ≤ sc.1 ∧ sc.1 ≤ 3072) : LC P d sc i bd_lawb_25 := lc_i (mc := 127) (mm := 300) (by decide) (by rfl) (la_cons (la_s hi (by decide)) (la_cons (la_s hi (by decide)) (la_cons (la_s hi (by decide)) (la_cons (la_s hi (by decide)) (la_cons (la_s hi (by decide)) (la_nil)))))) (fun w hS => b_fits (by omega) hS _ _ _ _ _)
theorem lc_26 (hP : SP P) (hd : 83 ≤ d) (hi : i + 6 ≤ sc.1 ∧ sc.1 ≤ 3072) : LC P d sc i bd_lawb_26 := lc_i (mc := 129) (mm := 301) (by decide) (by rfl) (la_cons (la_s hi (by decide)) (la_cons (la_s hi (by decide)) (la_nil))) (fun w hS => b_unlike (by omega) hS _ _)
theorem lc_27 (hP : SP P) (hd : 83 ≤ d) (hi : i + 6 ≤ sc.1 ∧ sc.1 ≤ 3072) : LC P d sc i bd_lawb_27 := lc_i (mc := 131) (mm := 302) (by decide) (by rfl) (la_cons (la_s hi (by decide)) (la_cons (la_z (la_s hi (by decide))) (la_nil))) (fun w hS => b_rim (by omega) hS _ _)
theorem lc_28 (hP : SP P) (hd : 83 ≤ d) (hi : i + 6 ≤ sc.1 ∧ sc.1 ≤ 3072) : LC P d sc i bd_lawb_28 := lc_i (mc := 132) (mm := 303) (by decide) (by rfl) (la_cons (la_s hi (by decide)) (la_cons (la_s hi (by decide)) (la_cons (la_s hi (by decide)) (la_cons (la_s hi (by decide)) (la_nil))))) (fun w hS => b_blind (by omega) hS _ _ _ _)
theorem lc_29 (hP : SP P) (hd : 83 ≤ d) (hi : i + 6 ≤ sc.1 ∧ sc.1 ≤ 3072) : LC P d sc i bd_lawb_29 := lc_i (mc := 133) (mm := 304) (by decide) (by rfl) (la_cons (la_s hi (by decide)) (la_cons (la_s hi (by decide)) (la_nil))) (fun w hS => b_curve (by omega) hS _ _)
theorem lc_30 (hP : SP P) (hd : 83 ≤ d) (hi : i + 6 ≤ sc.1 ∧ sc.1 ≤ 3072) : LC P d sc i bd_lawb_30 := lc_i (mc := 134) (mm := 306) (by decide) (by rfl) (la_cons (la_s hi (by decide)) (la_cons (la_s hi (by decide)) (la_nil))) (fun w hS => b_stop (by omega) hS _ _)
theorem lc_31 (hP : SP P) (hd : 83 ≤ d) (hi : i + 6 ≤ sc.1 ∧ sc.1 ≤ 3072) : LC P d sc i bd_lawb_31 := lc_i (mc := 135) (mm := 307) (by decide) (by rfl) (la_cons (la_s hi (by decide)) (la_cons (la_s hi (by decide)) (la_nil))) (fun w hS => b_needs (by omega) hS _ _)
theorem lc_32 (hP : SP P) (hd : 83 ≤ d) (hi : i + 6 ≤ sc.1 ∧ sc.1 ≤ 3072) : LC P d sc i bd_lawb_32 := lc_i (mc := 136) (mm := 308) (by decide) (by rfl) (la_cons (la_s hi (by decide)) (la_cons (la_s hi (by decide)) (la_nil))) (fun w hS => b_fewest (by omega) hS _ _)
theorem lc_33 (hP : SP P) (hd : 83 ≤ d) (hi : i + 6 ≤ sc.1 ∧ sc.1 ≤ 3072) : LC P d sc i bd_lawb_33 := lc_i (mc := 141) (mm := 313) (by decide) (by rfl) (la_cons (la_s hi (by decide)) (la_cons (la_s hi (by decide)) (la_cons (la_s hi (by decide)) (la_nil)))) (fun w hS => b_plan (by omega) hS _ _ _)
theorem lc_34 (hP : SP P) (hd : 83 ≤ d) (hi : i + 6 ≤ sc.1 ∧ sc.1 ≤ 3072) : LC P d sc i bd_lawb_34 := lc_i (mc := 143) (mm := 314) (by decide) (by rfl) (la_cons (la_s hi (by decide)) (la_cons (la_s hi (by decide)) (la_cons (la_s hi (by decide)) (la_nil)))) (fun w hS => b_learn (by omega) hS _ _ _)
theorem lc_35 (hP : SP P) (hd : 83 ≤ d) (hi : i + 6 ≤ sc.1 ∧ sc.1 ≤ 3072) : LC P d sc i bd_lawb_35 := lc_i (mc := 146) (mm := 318) (by decide) (by rfl) (la_cons (la_s hi (by decide)) (la_cons (la_s hi (by decide)) (la_nil))) (fun w hS => b_rests (by omega) hS _ _)
theorem lc_36 (hP : SP P) (hd : 83 ≤ d) (hi : i + 6 ≤ sc.1 ∧ sc.1 ≤ 3072) : LC P d sc i bd_lawb_36 := lc_i (mc := 148) (mm := 320) (by decide) (by rfl) (la_cons (la_s hi (by decide)) (la_nil)) (fun w hS => b_gain (by omega) hS _)
theorem lc_37 (hP : SP P) (hd : 83 ≤ d) (hi : i + 6 ≤ sc.1 ∧ sc.1 ≤ 3072) : LC P d sc i bd_lawb_37 := lc_i (mc := 150) (mm := 321) (by decide) (by rfl) (la_cons (la_s hi (by decide)) (la_nil)) (fun w hS => b_request (by omega) hS _)
theorem lc_38 (hP : SP P) (hd : 83 ≤ d) (hi : i + 6 ≤ sc.1 ∧ sc.1 ≤ 3072) : LC P d sc i bd_lawb_38 := lc_i (mc := 151) (mm := 322) (by decide) (by rfl) (la_cons (la_s hi (by decide)) (la_nil)) (fun w hS => b_order (by omega) hS _)
theorem lc_39 (hP : SP P) (hd : 83 ≤ d) (hi : i + 6 ≤ sc.1 ∧ sc.1 ≤ 3072) : LC P d sc i bd_lawb_39 := lc_i (mc := 157) (mm := 328) (by decide) (by rfl) (la_cons (la_z (la_s hi (by decide))) (la_nil)) (fun w hS => b_sweep (by omega) hS _)
theorem lc_40 (hP : SP P) (hd : 83 ≤ d) (hi : i + 6 ≤ sc.1 ∧ sc.1 ≤ 3072) : LC P d sc i bd_lawb_40 := lc_i (mc := 158) (mm := 329) (by decide) (by rfl) (la_nil) (fun w hS => b_nearest (by omega) hS)
theorem lc_41 (hP : SP P) (hd : 83 ≤ d) (hi : i + 6 ≤ sc.1 ∧ sc.1 ≤ 3072) : LC P d sc i bd_lawb_41 := lc_i (mc := 161) (mm := 330) (by decide) (by rfl) (la_nil) (fun w hS => b_steady (by omega) hS)
theorem lc_42 (hP : SP P) (hd : 83 ≤ d) (hi : i + 6 ≤ sc.1 ∧ sc.1 ≤ 3072) : LC P d sc i bd_lawb_42 := lc_i (mc := 164) (mm := 332) (by decide) (by rfl) (la_cons (la_z (la_s hi (by decide))) (la_nil)) (fun w hS => b_spread (by omega) hS _)
theorem lc_43 (hP : SP P) (hd : 83 ≤ d) (hi : i + 6 ≤ sc.1 ∧ sc.1 ≤ 3072) : LC P d sc i bd_lawb_43 := lc_l (mc := 165) (mm := 334) rfl (by rfl) (la_cons (la_z (la_s hi (by decide))) (la_nil)) (fun w hS => b_mean (by omega) hS _)
theorem lc_44 (hP : SP P) (hd : 83 ≤ d) (hi : i + 6 ≤ sc.1 ∧ sc.1 ≤ 3072) : LC P d sc i bd_lawb_44 := lc_i (mc := 167) (mm := 336) (by decide) (by rfl) (la_cons (la_s hi (by decide)) (la_nil)) (fun w hS => b_window (by omega) hS _)
theorem lc_45 (hP : SP P) (hd : 83 ≤ d) (hi : i + 6 ≤ sc.1 ∧ sc.1 ≤ 3072) : LC P d sc i bd_lawb_45 := lc_i (mc := 169) (mm := 338) (by decide) (by rfl) (la_nil) (fun w hS => b_longest (by omega) hS)
theorem lc_46 (hP : SP P) (hd : 83 ≤ d) (hi : i + 6 ≤ sc.1 ∧ sc.1 ≤ 3072) : LC P d sc i bd_lawb_46 := lc_i (mc := 173) (mm := 339) (by decide) (by rfl) (la_cons (la_s hi (by decide)) (la_cons (la_s hi (by decide)) (la_nil))) (fun w hS => b_said (by omega) hS _ _)
theorem lc_47 (hP : SP P) (hd : 83 ≤ d) (hi : i + 6 ≤ sc.1 ∧ sc.1 ≤ 3072) : LC P d sc i bd_lawb_47 := lc_i (mc := 174) (mm := 340) (by decide) (by rfl) (la_nil) (fun w hS => b_whose (by omega) hS)
theorem lc_48 (hP : SP P) (hd : 83 ≤ d) (hi : i + 6 ≤ sc.1 ∧ sc.1 ≤ 3072) : LC P d sc i bd_lawb_48 := lc_i (mc := 170) (mm := 272) (by decide) (by rfl) (la_nil) (fun w hS => b_lost (by omega) hS)
theorem lc_49 (hP : SP P) (hd : 83 ≤ d) (hi : i + 6 ≤ sc.1 ∧ sc.1 ≤ 3072) : LC P d sc i bd_lawb_49 := lc_i (mc := 171) (mm := 273) (by decide) (by rfl) (la_cons (la_s hi (by decide)) (la_nil)) (fun w hS => b_far (by omega) hS _)
theorem lc_50 (hP : SP P) (hd : 83 ≤ d) (hi : i + 6 ≤ sc.1 ∧ sc.1 ≤ 3072) : LC P d sc i bd_lawb_50 := lc_i (mc := 172) (mm := 333) (by decide) (by rfl) (la_nil) (fun w hS => b_worst (by omega) hS)
theorem lc_51 (hP : SP P) (hd : 83 ≤ d) (hi : i + 6 ≤ sc.1 ∧ sc.1 ≤ 3072) : LC P d sc i bd_lawb_51 := lc_i (mc := 176) (mm := 279) (by decide) (by rfl) (la_cons (la_s hi (by decide)) (la_nil)) (fun w hS => b_most (by omega) hS _)
theorem lc_52 (hP : SP P) (hd : 83 ≤ d) (hi : i + 6 ≤ sc.1 ∧ sc.1 ≤ 3072) : LC P d sc i bd_lawb_52 := lc_i (mc := 178) (mm := 277) (by decide) (by rfl) (la_cons (la_s hi (by decide)) (la_nil)) (fun w hS => b_ledger (by omega) hS _)
theorem lc_53 (hP : SP P) (hd : 83 ≤ d) (hi : i + 6 ≤ sc.1 ∧ sc.1 ≤ 3072) : LC P d sc i bd_lawb_53 := lc_i (mc := 179) (mm := 341) (by decide) (by rfl) (la_nil) (fun w hS => b_image (by omega) hS)
theorem lc_54 (hP : SP P) (hd : 83 ≤ d) (hi : i + 6 ≤ sc.1 ∧ sc.1 ≤ 3072) : LC P d sc i bd_lawb_54 := lc_i (mc := 182) (mm := 342) (by decide) (by rfl) (la_nil) (fun w hS => b_back (by omega) hS)
theorem lc_55 (hP : SP P) (hd : 83 ≤ d) (hi : i + 6 ≤ sc.1 ∧ sc.1 ≤ 3072) : LC P d sc i bd_lawb_55 := lc_i (mc := 183) (mm := 343) (by decide) (by rfl) (la_cons (la_s hi (by decide)) (la_nil)) (fun w hS => b_about (by omega) hS _)
theorem lr_56 : LR P d sc i 56 bd_lawc_56 := lr_dflt (by decide)
theorem lr_55 (hP : SP P) (hd : 83 ≤ d) (hi : i + 6 ≤ sc.1 ∧ sc.1 ≤ 3072) : LR P d sc i 55 bd_lawc_55 := lr_case (lc_55 hP hd hi) lr_56
theorem lr_54 (hP : SP P) (hd : 83 ≤ d) (hi : i + 6 ≤ sc.1 ∧ sc.1 ≤ 3072) : LR P d sc i 54 bd_lawc_54 := lr_case (lc_54 hP hd hi) (lr_55 hP hd hi)
theorem lr_53 (hP : SP P) (hd : 83 ≤ d) (hi : i + 6 ≤ sc.1 ∧ sc.1 ≤ 3072) : LR P d sc i 53 bd_lawc_53 := lr_case (lc_53 hP hd hi) (lr_54 hP hd hi)
theorem lr_52 (hP : SP P) (hd : 83 ≤ d) (hi : i + 6 ≤ sc.1 ∧ sc.1 ≤ 3072) : LR P d sc i 52 bd_lawc_52 := lr_case (lc_52 hP hd hi) (lr_53 hP hd hi)
theorem lr_51 (hP : SP P) (hd : 83 ≤ d) (hi : i + 6 ≤ sc.1 ∧ sc.1 ≤ 3072) : LR P d sc i 51 bd_lawc_51 := lr_case (lc_51 hP hd hi) (lr_52 hP hd hi)
theorem lr_50 (hP : SP P) (hd : 83 ≤ d) (hi : i + 6 ≤ sc.1 ∧ sc.1 ≤ 3072) : LR P d sc i 50 bd_lawc_50 := lr_case (lc_50 hP hd hi) (lr_51 hP hd hi)
theorem lr_49 (hP : SP P) (hd : 83 ≤ d) (hi : i + 6 ≤ sc.1 ∧ sc.1 ≤ 3072) : LR P d sc i 49 bd_lawc_49 := lr_case (lc_49 hP hd hi) (lr_50 hP hd hi)
theorem lr_48 (hP : SP P) (hd : 83 ≤ d) (hi : i + 6 ≤ sc.1 ∧ sc.1 ≤ 3072) : LR P d sc i 48 bd_lawc_48 := lr_case (lc_48 hP hd hi) (lr_49 hP hd hi)
theorem lr_47 (hP : SP P) (hd : 83 ≤ d) (hi : i + 6 ≤ sc.1 ∧ sc.1 ≤ 3072) : LR P d sc i 47 bd_lawc_47 := lr_case (lc_47 hP hd hi) (lr_48 hP hd hi)
theorem lr_46 (hP : SP P) (hd : 83 ≤ d) (hi : i + 6 ≤ sc.1 ∧ sc.1 ≤ 3072) : LR P d sc i 46 bd_lawc_46 := lr_case (lc_46 hP hd hi) (lr_47 hP hd hi)
theorem lr_45 (hP : SP P) (hd : 83 ≤ d) (hi : i + 6 ≤ sc.1 ∧ sc.1 ≤ 3072) : LR P d sc i 45 bd_lawc_45 := lr_case (lc_45 hP hd hi) (lr_46 hP hd hi)
theorem lr_44 (hP : SP P) (hd : 83 ≤ d) (hi : i + 6 ≤ sc.1 ∧ sc.1 ≤ 3072) : LR P d sc i 44 bd_lawc_44 := lr_case (lc_44 hP hd hi) (lr_45 hP hd hi)
theorem lr_43 (hP : SP P) (hd : 83 ≤ d) (hi : i + 6 ≤ sc.1 ∧ sc.1 ≤ 3072) : LR P d sc i 43 bd_lawc_43 := lr_case (lc_43 hP hd hi) (lr_44 hP hd hi)
theorem lr_42 (hP : SP P) (hd : 83 ≤ d) (hi : i + 6 ≤ sc.1 ∧ sc.1 ≤ 3072) : LR P d sc i 42 bd_lawc_42 := lr_case (lc_42 hP hd hi) (lr_43 hP hd hi)
theorem lr_41 (hP : SP P) (hd : 83 ≤ d) (hi : i + 6 ≤ sc.1 ∧ sc.1 ≤ 3072) : LR P d sc i 41 bd_lawc_41 := lr_case (lc_41 hP hd hi) (lr_42 hP hd hi)
theorem lr_40 (hP : SP P) (hd : 83 ≤ d) (hi : i + 6 ≤ sc.1 ∧ sc.1 ≤ 3072) : LR P d sc i 40 bd_lawc_40 := lr_case (lc_40 hP hd hi) (lr_41 hP hd hi)
theorem lr_39 (hP : SP P) (hd : 83 ≤ d) (hi : i + 6 ≤ sc.1 ∧ sc.1 ≤ 3072) : LR P d sc i 39 bd_lawc_39 := lr_case (lc_39 hP hd hi) (lr_40 hP hd hi)
theorem lr_38 (hP : SP P) (hd : 83 ≤ d) (hi : i + 6 ≤ sc.1 ∧ sc.1 ≤ 3072) : LR P d sc i 38 bd_lawc_38 := lr_case (lc_38 hP hd hi) (lr_39 hP hd hi)
theorem lr_37 (hP : SP P) (hd : 83 ≤ d) (hi : i + 6 ≤ sc.1 ∧ sc.1 ≤ 3072) : LR P d sc i 37 bd_lawc_37 := lr_case (lc_37 hP hd hi) (lr_38 hP hd hi)
theorem lr_36 (hP : SP P) (hd : 83 ≤ d) (hi : i + 6 ≤ sc.1 ∧ sc.1 ≤ 3072) : LR P d sc i 36 bd_lawc_36 := lr_case (lc_36 hP hd hi) (lr_37 hP hd hi)
theorem lr_35 (hP : SP P) (hd : 83 ≤ d) (hi : i + 6 ≤ sc.1 ∧ sc.1 ≤ 3072) : LR P d sc i 35 bd_lawc_35 := lr_case (lc_35 hP hd hi) (lr_36 hP hd hi)
theorem lr_34 (hP : SP P) (hd : 83 ≤ d) (hi : i + 6 ≤ sc.1 ∧ sc.1 ≤ 3072) : LR P d sc i 34 bd_lawc_34 := lr_case (lc_34 hP hd hi) (lr_35 hP hd hi)
theorem lr_33 (hP : SP P) (hd : 83 ≤ d) (hi : i + 6 ≤ sc.1 ∧ sc.1 ≤ 3072) : LR P d sc i 33 bd_lawc_33 := lr_case (lc_33 hP hd hi) (lr_34 hP hd hi)
theorem lr_32 (hP : SP P) (hd : 83 ≤ d) (hi : i + 6 ≤ sc.1 ∧ sc.1 ≤ 3072) : LR P d sc i 32 bd_lawc_32 := lr_case (lc_32 hP hd hi) (lr_33 hP hd hi)
theorem lr_31 (hP : SP P) (hd : 83 ≤ d) (hi : i + 6 ≤ sc.1 ∧ sc.1 ≤ 3072) : LR P d sc i 31 bd_lawc_31 := lr_case (lc_31 hP hd hi) (lr_32 hP hd hi)
theorem lr_30 (hP : SP P) (hd : 83 ≤ d) (hi : i + 6 ≤ sc.1 ∧ sc.1 ≤ 3072) : LR P d sc i 30 bd_lawc_30 := lr_case (lc_30 hP hd hi) (lr_31 hP hd hi)
theorem lr_29 (hP : SP P) (hd : 83 ≤ d) (hi : i + 6 ≤ sc.1 ∧ sc.1 ≤ 3072) : LR P d sc i 29 bd_lawc_29 := lr_case (lc_29 hP hd hi) (lr_30 hP hd hi)
theorem lr_28 (hP : SP P) (hd : 83 ≤ d) (hi : i + 6 ≤ sc.1 ∧ sc.1 ≤ 3072) : LR P d sc i 28 bd_lawc_28 := lr_case (lc_28 hP hd hi) (lr_29 hP hd hi)
theorem lr_27 (hP : SP P) (hd : 83 ≤ d) (hi : i + 6 ≤ sc.1 ∧ sc.1 ≤ 3072) : LR P d sc i 27 bd_lawc_27 := lr_case (lc_27 hP hd hi) (lr_28 hP hd hi)
theorem lr_26 (hP : SP P) (hd : 83 ≤ d) (hi : i + 6 ≤ sc.1 ∧ sc.1 ≤ 3072) : LR P d sc i 26 bd_lawc_26 := lr_case (lc_26 hP hd hi) (lr_27 hP hd hi)
theorem lr_25 (hP : SP P) (hd : 83 ≤ d) (hi : i + 6 ≤ sc.1 ∧ sc.1 ≤ 3072) : LR P d sc i 25 bd_lawc_25 := lr_case (lc_25 hP hd hi) (lr_26 hP hd hi)
theorem lr_24 (hP : SP P) (hd : 83 ≤ d) (hi : i + 6 ≤ sc.1 ∧ sc.1 ≤ 3072) : LR P d sc i 24 bd_lawc_24 := lr_case (lc_24 hP hd hi) (lr_25 hP hd hi)
theorem lr_23 (hP : SP P) (hd : 83 ≤ d) (hi : i + 6 ≤ sc.1 ∧ sc.1 ≤ 3072) : LR P d sc i 23 bd_lawc_23 := lr_case (lc_23 hP hd hi) (lr_24 hP hd hi)
theorem lr_22 (hP : SP P) (hd : 83 ≤ d) (hi : i + 6 ≤ sc.1 ∧ sc.1 ≤ 3072) : LR P d sc i 22 bd_lawc_22 := lr_case (lc_22 hP hd hi) (lr_23 hP hd hi)
theorem lr_21 (hP : SP P) (hd : 83 ≤ d) (hi : i + 6 ≤ sc.1 ∧ sc.1 ≤ 3072) : LR P d sc i 21 bd_lawc_21 := lr_case (lc_21 hP hd hi) (lr_22 hP hd hi)
theorem lr_20 (hP : SP P) (hd : 83 ≤ d) (hi : i + 6 ≤ sc.1 ∧ sc.1 ≤ 3072) : LR P d sc i 20 bd_lawc_20 := lr_case (lc_20 hP hd hi) (lr_21 hP hd hi)
theorem lr_19 (hP : SP P) (hd : 83 ≤ d) (hi : i + 6 ≤ sc.1 ∧ sc.1 ≤ 3072) : LR P d sc i 19 bd_lawc_19 := lr_case (lc_19 hP hd hi) (lr_20 hP hd hi)
theorem lr_18 (hP : SP P) (hd : 83 ≤ d) (hi : i + 6 ≤ sc.1 ∧ sc.1 ≤ 3072) : LR P d sc i 18 bd_lawc_18 := lr_case (lc_18 hP hd hi) (lr_19 hP hd hi)
theorem lr_17 (hP : SP P) (hd : 83 ≤ d) (hi : i + 6 ≤ sc.1 ∧ sc.1 ≤ 3072) : LR P d sc i 17 bd_lawc_17 := lr_case (lc_17 hP hd hi) (lr_18 hP hd hi)
theorem lr_16 (hP : SP P) (hd : 83 ≤ d) (hi : i + 6 ≤ sc.1 ∧ sc.1 ≤ 3072) : LR P d sc i 16 bd_lawc_16 := lr_case (lc_16 hP hd hi) (lr_17 hP hd hi)
theorem lr_15 (hP : SP P) (hd : 83 ≤ d) (hi : i + 6 ≤ sc.1 ∧ sc.1 ≤ 3072) : LR P d sc i 15 bd_lawc_15 := lr_case (lc_15 hP hd hi) (lr_16 hP hd hi)
theorem lr_14 (hP : SP P) (hd : 83 ≤ d) (hi : i + 6 ≤ sc.1 ∧ sc.1 ≤ 3072) : LR P d sc i 14 bd_lawc_14 := lr_case (lc_14 hP hd hi) (lr_15 hP hd hi)
theorem lr_13 (hP : SP P) (hd : 83 ≤ d) (hi : i + 6 ≤ sc.1 ∧ sc.1 ≤ 3072) : LR P d sc i 13 bd_lawc_13 := lr_case (lc_13 hP hd hi) (lr_14 hP hd hi)
theorem lr_12 (hP : SP P) (hd : 83 ≤ d) (hi : i + 6 ≤ sc.1 ∧ sc.1 ≤ 3072) : LR P d sc i 12 bd_lawc_12 := lr_case (lc_12 hP hd hi) (lr_13 hP hd hi)
theorem lr_11 (hP : SP P) (hd : 83 ≤ d) (hi : i + 6 ≤ sc.1 ∧ sc.1 ≤ 3072) : LR P d sc i 11 bd_lawc_11 := lr_case (lc_11 hP hd hi) (lr_12 hP hd hi)
theorem lr_10 (hP : SP P) (hd : 83 ≤ d) (hi : i + 6 ≤ sc.1 ∧ sc.1 ≤ 3072) : LR P d sc i 10 bd_lawc_10 := lr_case (lc_10 hP hd hi) (lr_11 hP hd hi)
theorem lr_9 (hP : SP P) (hd : 83 ≤ d) (hi : i + 6 ≤ sc.1 ∧ sc.1 ≤ 3072) : LR P d sc i 9 bd_lawc_9 := lr_case (lc_9 hP hd hi) (lr_10 hP hd hi)
theorem lr_8 (hP : SP P) (hd : 83 ≤ d) (hi : i + 6 ≤ sc.1 ∧ sc.1 ≤ 3072) : LR P d sc i 8 bd_lawc_8 := lr_case (lc_8 hP hd hi) (lr_9 hP hd hi)
theorem lr_7 (hP : SP P) (hd : 83 ≤ d) (hi : i + 6 ≤ sc.1 ∧ sc.1 ≤ 3072) : LR P d sc i 7 bd_lawc_7 := lr_case (lc_7 hP hd hi) (lr_8 hP hd hi)
theorem lr_6 (hP : SP P) (hd : 83 ≤ d) (hi : i + 6 ≤ sc.1 ∧ sc.1 ≤ 3072) : LR P d sc i 6 bd_lawc_6 := lr_case (lc_6 hP hd hi) (lr_7 hP hd hi)
theorem lr_5 (hP : SP P) (hd : 83 ≤ d) (hi : i + 6 ≤ sc.1 ∧ sc.1 ≤ 3072) : LR P d sc i 5 bd_lawc_5 := lr_case (lc_5 hP hd hi) (lr_6 hP hd hi)
theorem lr_4 (hP : SP P) (hd : 83 ≤ d) (hi : i + 6 ≤ sc.1 ∧ sc.1 ≤ 3072) : LR P d sc i 4 bd_lawc_4 := lr_case (lc_4 hP hd hi) (lr_5 hP hd hi)
theorem lr_3 (hP : SP P) (hd : 83 ≤ d) (hi : i + 6 ≤ sc.1 ∧ sc.1 ≤ 3072) : LR P d sc i 3 bd_lawc_3 := lr_case (lc_3 hP hd hi) (lr_4 hP hd hi)
theorem lr_2 (hP : SP P) (hd : 83 ≤ d) (hi : i + 6 ≤ sc.1 ∧ sc.1 ≤ 3072) : LR P d sc i 2 bd_lawc_2 := lr_case (lc_2 hP hd hi) (lr_3 hP hd hi)
theorem lr_1 (hP : SP P) (hd : 83 ≤ d) (hi : i + 6 ≤ sc.1 ∧ sc.1 ≤ 3072) : LR P d sc i 1 bd_lawc_1 := lr_case (lc_1 hP hd hi) (lr_2 hP hd hi)
theorem lr_0 (hP : SP P) (hd : 83 ≤ d) (hi : i + 6 ≤ sc.1 ∧ sc.1 ≤ 3072) : LR P d sc i 0 bd_lawc_0 := lr_case (lc_0 hP hd hi) (lr_1 hP hd hi)
theorem law_run (hP : SP P) (hd : 83 ≤ d) (hL : sc.1 ≤ 3072) {w : ee_W} (hS : Sim w) (hw : w.2.2 = sc) : ∃ w', ee_evS es_sh es_rf (ee_run ee_B P d) bd_law 0 [some (.ref 250), some (.ref 0), some (.ref 236), none] w = some (.inr ([.int 1], w')) ∧ w'.2.2 = sc := by
  have hx : (Int32.ofNat sc.1 - Int32.ofNat 6).toInt = (sc.1 : Int) - 6 := by
    rw [Int32.toInt_sub, nI_t (by omega), nI_t (by omega)]
    exact i32_bm (by omega) (by omega)
  obtain ⟨r, hr, hq⟩ := wh_n (f := ee_turn (ee_ev es_sh es_rf (ee_run ee_B P d) (n_cmp 5 (n_loc 3 0) (n_bin 1 (n_slen (n_loc 0 2)) (n_int 6)))) (ee_evS es_sh es_rf (ee_run ee_B P d) bd_lawl))
    (I := fun n s => ∃ i, s.1 = lenv i ∧ Sim s.2 ∧ s.2.2.2 = sc ∧ i ≤ 3072 ∧ n = 4000 - i) (Q := fun r => ∃ env' w', r = .inl (env', w') ∧ w'.2.2 = sc)
    (by
      intro n s hI
      obtain ⟨env, w⟩ := s
      obtain ⟨i, rfl, hS, hw, hi, rfl⟩ := hI
      have hS : Sim w := hS
      have hw : w.2.2 = sc := hw
      have hc : ee_ev es_sh es_rf (ee_run ee_B P d) (n_cmp 5 (n_loc 3 0) (n_bin 1 (n_slen (n_loc 0 2)) (n_int 6))) (lenv i) w = some ([.int (ee_b (decide (i + 6 ≤ sc.1)))], w) := by
        have e : (Int32.ofNat i ≤ Int32.ofNat sc.1 - Int32.ofNat 6) = (i + 6 ≤ sc.1) := by
          rw [i32_le, hx, nI_t (by omega)]
          exact propext (by omega)
        simp only [v_cmp, v_loc, v_bin, v_slen, v_int, le_0, le_3, sh250, bi_1, hw, ee_cmp5, e, if_true]
      by_cases q : i + 6 ≤ sc.1
      · left
        have he : ee_ev es_sh es_rf (ee_run ee_B P d) bd_lawe (lenv i) w = some ([.int (sc.2 i &&& 63)], w) := by
          have x : ee_ix (Int32.ofNat i) sc.1 = true := by rw [ixn (by omega)]; exact decide_eq_true (by omega)
          unfold bd_lawe
          simp only [v_sld, v_loc, v_bin, v_int, le_0, le_3, bi_5, hw, sh250, x, tnc (show i < 2147483648 by omega), and_self, if_true]
          rfl
        obtain ⟨w', g1, g2, g3⟩ := lr_0 hP hd ⟨q, hL⟩ (sc.2 i &&& 63) w (fun k hk => absurd hk (Nat.not_lt_zero k)) hS hw
        refine ⟨(lenv (i + 6), w'), 4000 - (i + 6), ?_, by omega, i + 6, rfl, g2, g3, by omega, rfl⟩
        have hb : ee_evS es_sh es_rf (ee_run ee_B P d) bd_lawl 0 (lenv i) w = some (.inl (lenv (i + 6), w')) := by
          unfold bd_lawl
          have hn : ee_noL (lenv i) 3 = true := rfl
          simp only [w_seq, w_switch, he, g1, w_inc, le_3, hn, if_true, j_a]
          rfl
        unfold ee_turn
        simp only [hc, hb, decide_eq_true q, ee_tru_eb]
      · right
        refine ⟨.inl (lenv i, w), ?_, _, _, rfl, hw⟩
        unfold ee_turn
        simp only [hc, decide_eq_false q, ee_tru_eb])
    4000 (lenv 0, w) ⟨0, rfl, hS, hw, by omega, rfl⟩
  obtain ⟨env', w', rfl, hq⟩ := hq
  refine ⟨w', ?_, hq⟩
  unfold bd_law
  have h0 : ee_set [some (.ref 250), some (.ref 0), some (.ref 236), none] 3 0 (.int (Int32.ofNat 0)) = some (lenv 0) := rfl
  simp only [w_seq, w_set, v_int, h0, w_while, hr, w_ret]
  rfl
end LAW
