section ES1
variable {C : Nat → List Value → ee_W → Option (List Value × ee_W)} {cc : ByteArray} {oc : Nat} {G : ee_G}
theorem ee_Q1 (X : ee_X C cc oc G) (t : Nat) (raw : ee_T) (x : ee_S) (y : ee_Y) (hP : ee_P G x y) : ee_Q cc G (ee_s1 t raw x) (ee_k1 cc t raw y) := by
  intro pc k env w o h hk ho
  unfold ee_k1 at hk
  split at hk
  · rename_i q hy
    unfold ee_s1 at h
    split at h
    · cases h
    rename_i vs w1 hxe
    have hp := (hP pc 0 env w vs w1 [] hxe (Nat.le_refl _)).1 q hy
    split at hk
    -- a local
    · simp only at h
      split at h
      · rename_i v
        split at h
        · rename_i env' hset
          cases h
          unfold ee_set at hset
          split at hset
          · rename_i hc
            split at hset
            · rename_i hty
              cases hset
              rw [hty] at hk
              split at hk
              all_goals first
                | (rename_i hz hd; cases hz; done)
                | (rename_i i hz hd
                   rw [Bool.and_eq_true, decide_eq_true_eq] at hk
                   first
                   | exact hp (en_istore_n X hd hk.1 hc.1 hc.2 (en_arr X 3 hk.2 ho))
                   | (obtain ⟨h1, h2⟩ := hk; subst h1; exact hp (en_istore X hd hc.1 hc.2 (en_arr X 3 h2 ho))))
                | (cases hk; done)
            · rename_i hty
              split at hset
              · rename_i hc2
                cases hset
                rw [hty] at hk
                split at hk
                all_goals first
                  | (rename_i hz hd; cases hz; done)
                  | (rename_i i hz hd
                     rw [Bool.and_eq_true, decide_eq_true_eq] at hk
                     first
                     | exact hp (en_lstore_n X hd hk.1 hc.1 hc2 (en_arr X 3 hk.2 ho))
                     | (obtain ⟨h1, h2⟩ := hk; subst h1; exact hp (en_lstore X hd hc.1 hc2 (en_arr X 3 h2 ho))))
                  | (cases hk; done)
              · cases hset
            · rename_i hty
              cases hset
              rw [hty] at hk
              split at hk
              all_goals first
                | (rename_i hz hd; cases hz; done)
                | (rename_i i hz hd
                   rw [Bool.and_eq_true, decide_eq_true_eq] at hk
                   first
                   | exact hp (en_astore_n X hd hk.1 hc.1 hc.2 (en_arr X 3 hk.2 ho))
                   | (obtain ⟨h1, h2⟩ := hk; subst h1; exact hp (en_astore X hd hc.1 hc.2 (en_arr X 3 h2 ho))))
                | (cases hk; done)
            · rename_i hty
              cases hset
              rw [hty] at hk
              split at hk
              all_goals first
                | (rename_i hz hd; cases hz; done)
                | (rename_i i hz hd
                   rw [Bool.and_eq_true, decide_eq_true_eq] at hk
                   first
                   | exact hp (en_astore0_n X hd hk.1 hc.1 hc.2 (en_arr X 3 hk.2 ho))
                   | (obtain ⟨h1, h2⟩ := hk; subst h1; exact hp (en_astore0 X hd hc.1 hc.2 (en_arr X 3 h2 ho))))
                | (cases hk; done)
            · cases hset
          · cases hset
        · cases h
      · cases h
    -- an expression's own sake
    · simp only at h
      split at h
      · rename_i hr
        cases h
        rw [hr] at hk
        simp only at hk
        exact hp (en_arr X 3 hk ho)
      · rename_i v hr
        split at h
        · rename_i hcat
          cases h
          rw [hr] at hk
          simp only at hk
          split at hk
          · rename_i hd
            exact hp (en_pop X hd hcat (en_arr X 3 hk ho))
          · cases hk
        · cases h
      · cases h
    -- return
    · simp only at h
      split at h
      · rename_i v hr
        cases h
        rw [hr] at hk
        split at hk
        all_goals first
          | (rename_i hz hd; cases hz; done)
          | (rename_i hz hd; exact hp (en_ret [.int v] (by rw [hd]; rfl) ho (by simp)))
          | (cases hk; done)
      · rename_i v hr
        cases h
        rw [hr] at hk
        split at hk
        all_goals first
          | (rename_i hz hd; cases hz; done)
          | (rename_i hz hd; exact hp (en_ret [.long v] (by rw [hd]; rfl) ho (by simp)))
          | (cases hk; done)
      · rename_i v hr
        cases h
        rw [hr] at hk
        split at hk
        all_goals first
          | (rename_i hz hd; cases hz; done)
          | (rename_i hz hd; exact hp (en_ret [.ref v] (by rw [hd]; rfl) ho (by simp)))
          | (cases hk; done)
      · rename_i hr
        cases h
        rw [hr] at hk
        split at hk
        all_goals first
          | (rename_i hz hd; cases hz; done)
          | (rename_i hz hd; exact hp (en_ret [.null] (by rw [hd]; rfl) ho (by simp)))
          | (cases hk; done)
      · cases h
    · cases hk
  · cases hk
theorem ee_opi_ok (X : ee_X C cc oc G) {o q : Nat} {a b r : Value} {env : ee_E} {st : List Value} {w : ee_W} (hb : ee_bin o a b = some r) (hq : ee_opi o (ee_dec cc q) = true) : ee_Wn G (q + 1) env (r :: st) w → ee_Wn G q env (b :: a :: st) w := by
  have : ee_opk o (ee_dec cc q) q = some [q + 1] := by
    unfold ee_opi at hq
    split at hq
    all_goals first
      | (rename_i hd; rw [hd]; rfl)
      | (cases hq; done)
  exact (ee_bin_ok X hb this).2
theorem ee_fld_cat {w : ee_W} {h k ty : Nat} {v : Value} {o : Nat} {r : Value} (_ : ee_bin o (ee_fld es_rf w h k ty) v = some r) : True := trivial
theorem ee_Q2 (X : ee_X C cc oc G) (t : Nat) (raw : ee_T) (x1 x2 : ee_S) (y1 y2 : ee_Y) (hP : ee_P G x1 y1) (hR : ee_P G x2 y2) : ee_Q cc G (ee_s2 es_sh es_rf t raw x1 x2) (ee_k2 cc oc t raw y1 y2) := by
  intro pc k env w o h hk ho
  unfold ee_k2 at hk
  split at hk
  · rename_i q1 hy1
    unfold ee_s2 at h
    split at h
    · rename_i hh w1 hxe
      have hp := (hP pc 0 env w _ w1 [] hxe (Nat.le_refl _)).1 q1 hy1
      split at h
      · rename_i hsh
        split at h
        · rename_i v w2 hye
          split at hk
          · simp only at h
            split at h
            · rename_i w3 hput
              cases h
              split at hk
              · rename_i q2 hy2
                split at hk
                · rename_i idx hd
                  split at hk
                  · rename_i f hf
                    simp only [Bool.and_eq_true, decide_eq_true_eq] at hk
                    obtain ⟨hfe, harr⟩ := hk
                    refine hp ((hR q1 1 env w1 _ w2 [.ref hh] hye (by simp)).1 q2 hy2 ?_)
                    exact en_put X hd hf (by rw [hfe]; exact hsh) (by rw [hfe]; exact hput) (en_arr X 3 harr ho)
                  · cases hk
                · cases hk
              · cases hk
            · cases h
          · simp only at h
            split at h
            · rename_i u hu
              split at h
              · rename_i w3 hput
                cases h
                split at hk
                · rename_i id1 hd1 hd2
                  split at hk
                  · rename_i q2 hy2
                    rw [Bool.and_eq_true] at hk
                    obtain ⟨hop, hk⟩ := hk
                    split at hk
                    · rename_i idx hd
                      split at hk
                      · rename_i f g hf hg
                        simp only [Bool.and_eq_true, decide_eq_true_eq] at hk
                        obtain ⟨⟨hfe, hge⟩, harr⟩ := hk
                        refine hp (en_dup X hd1 rfl (en_get X hd2 hg (by rw [hge]; exact hsh) ?_))
                        rw [hge]
                        refine (hR (q1 + 1 + 3) 2 env w1 _ w2 [_, .ref hh] hye (by simp)).1 q2 hy2 ?_
                        refine ee_opi_ok X hu hop ?_
                        exact en_put X hd hf (by rw [hfe]; exact hsh) (by rw [hfe]; exact hput) (en_arr X 3 harr ho)
                      · cases hk
                    · cases hk
                  · cases hk
                · cases hk
              · cases h
            · cases h
          · cases hk
        · cases h
      · cases h
    · cases h
  · cases hk
theorem ee_sti_ok {ty : Nat} {i : Option (Instr × Nat)} (h : ee_sti ty i = true) : (ty = 0 ∧ i = some (.iastore, 1)) ∨ (ty = 1 ∧ i = some (.bastore, 1)) ∨ (ty = 2 ∧ i = some (.lastore, 1)) := by
  unfold ee_sti at h
  split at h
  · exact Or.inl ⟨rfl, rfl⟩
  · exact Or.inr (Or.inl ⟨rfl, rfl⟩)
  · exact Or.inr (Or.inr ⟨rfl, rfl⟩)
  · cases h
theorem ee_ldi_ok {ty : Nat} {i : Option (Instr × Nat)} (h : ee_ldi ty i = true) : (ty = 0 ∧ i = some (.iaload, 1)) ∨ (ty = 1 ∧ i = some (.baload, 1)) ∨ (ty = 2 ∧ i = some (.laload, 1)) ∨ ((ty = 3 ∨ ty = 4) ∧ i = some (.aaload, 1)) := by
  unfold ee_ldi at h
  split at h
  · exact Or.inl ⟨rfl, rfl⟩
  · exact Or.inr (Or.inl ⟨rfl, rfl⟩)
  · exact Or.inr (Or.inr (Or.inl ⟨rfl, rfl⟩))
  · cases h
theorem ee_Q3 (X : ee_X C cc oc G) (t : Nat) (raw : ee_T) (x1 x2 x3 : ee_S) (y1 y2 y3 : ee_Y) (hP : ee_P G x1 y1) (hR : ee_P G x2 y2) (hS : ee_P G x3 y3) : ee_Q cc G (ee_s3 es_sh es_rf t raw x1 x2 x3) (ee_k3 cc t raw y1 y2 y3) := by
  intro pc k env w o h hk ho
  unfold ee_k3 at hk
  split at hk
  · rename_i q1 hy1
    split at hk
    · rename_i q2 hy2
      unfold ee_s3 at h
      split at h
      · rename_i hh w1 hxe
        have hp := (hP pc 0 env w _ w1 [] hxe (Nat.le_refl _)).1 q1 hy1
        split at h
        · rename_i i w2 hye
          have hp2 := (hR q1 1 env w1 _ w2 [.ref hh] hye (by simp)).1 q2 hy2
          split at hk
          · simp only at h
            split at h
            · rename_i v w3 hze
              split at h
              · rename_i w4 hsto
                cases h
                split at hk
                · rename_i q3 hy3
                  rw [Bool.and_eq_true] at hk
                  refine hp (hp2 ((hS q2 2 env w2 _ w3 [.int i, .ref hh] hze (by simp)).1 q3 hy3 ?_))
                  exact en_sto X hsto (ee_sti_ok hk.1) (en_arr X 3 hk.2 ho)
                · cases hk
              · cases h
            · cases h
          · simp only at h
            split at h
            · rename_i hc
              split at h
              · rename_i v w3 hze
                split at h
                · rename_i u hu
                  split at h
                  · rename_i w4 hsto
                    cases h
                    split at hk
                    · rename_i hd1
                      rw [Bool.and_eq_true] at hk
                      obtain ⟨hld, hk⟩ := hk
                      split at hk
                      · rename_i q3 hy3
                        simp only [Bool.and_eq_true] at hk
                        obtain ⟨⟨hop, hst⟩, harr⟩ := hk
                        refine hp (hp2 (en_dup2 X hd1 rfl rfl (en_elt X hc.1 hc.2.2 (ee_ldi_ok hld) ?_)))
                        refine (hS (q2 + 1 + 1) 3 env w2 _ w3 [_, .int i, .ref hh] hze (by simp)).1 q3 hy3 ?_
                        refine ee_opi_ok X hu hop ?_
                        exact en_sto X hsto (ee_sti_ok hst) (en_arr X 3 harr ho)
                      · cases hk
                    · cases hk
                  · cases h
                · cases h
              · cases h
            · cases h
          · cases hk
        · cases h
      · cases h
    · cases hk
  · cases hk
end ES1
