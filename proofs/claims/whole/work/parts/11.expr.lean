/-! soundness of expressions: what the evaluator says of a tree, the machine does, where the checker says yes -/
section EP
variable (C : Nat → List Value → ee_W → Option (List Value × ee_W)) (cc : ByteArray) (oc : Nat) (G : ee_G)
def ee_P (x : ee_S) (y : ee_Y) : Prop := ∀ (pc sd : Nat) (env : ee_E) (w : ee_W) (vs : List Value) (w' : ee_W) (st : List Value), x env w = some (vs, w') → st.length ≤ sd →
  (∀ q, y pc sd = some [q] → ee_Wn G q env (vs.reverse ++ st) w' → ee_Wn G pc env st w) ∧
  (∀ t f en, y pc sd = some [t, f, en] → ∃ b, ee_tru vs = some b ∧ (ee_Wn G (if b then t else f) env st w' → ee_Wn G pc env st w)) ∧
  (∀ q g, y pc sd = some [q, g] → ee_Wn G q env (vs.reverse ++ st) w' → ee_Wn G g env (vs.reverse ++ st) w' → ee_Wn G pc env st w)
end EP
section EP2
variable {C : Nat → List Value → ee_W → Option (List Value × ee_W)} {cc : ByteArray} {oc : Nat} {G : ee_G}
theorem ee_P0 (X : ee_X C cc oc G) (t : Nat) (raw : ee_T) : ee_P G (ee_ev0 t raw) (ee_ok0 cc oc t raw) := by
  intro pc sd env w vs w' st h hsd
  unfold ee_ev0 at h
  refine ⟨fun q hq k => ?_, fun t f en hq => ?_, fun q g hq => ?_⟩
  · unfold ee_ok0 at hq
    split at h
    · cases h
      simp only at hq
      split at hq
      · rename_i n hd
        split at hq
        · rename_i hv
          cases hq
          exact en_iconst X hd hv k
        · cases hq
      · rename_i n hd
        split at hq
        · rename_i hv
          cases hq
          exact en_bipush X hd hv k
        · cases hq
      · rename_i n hd
        split at hq
        · rename_i hv
          cases hq
          exact en_sipush X hd hv k
        · cases hq
      · rename_i n hd
        split at hq
        · rename_i hv
          cases hq
          exact en_ldc X hd hv k
        · cases hq
      · rename_i n hd
        split at hq
        · rename_i hv
          cases hq
          exact en_ldcw X hd hv k
        · cases hq
      · cases hq
    · cases h
      simp only at hq
      split at hq
      · rename_i n hd
        split at hq
        · rename_i hv
          cases hq
          exact en_lconst X hd hv k
        · cases hq
      · rename_i n hd
        split at hq
        · rename_i hv
          cases hq
          exact en_ldc2 X hd hv k
        · cases hq
      · cases hq
    · simp only at hq
      split at h
      · rename_i v hv
        split at h
        · rename_i x hty
          cases h
          rw [hty] at hq
          split at hq
          all_goals first
            | (rename_i n hz hd; split at hq
               · rename_i hi
                 cases hq
                 first
                 | exact en_iload_n X hd hi hv k
                 | (subst hi; exact en_iload X hd hv k)
               · cases hq)
            | (rename_i hz hd; cases hz)
            | cases hq
        · rename_i x hty
          cases h
          rw [hty] at hq
          split at hq
          all_goals first
            | (rename_i n hz hd; split at hq
               · rename_i hi
                 cases hq
                 first
                 | exact en_lload_n X hd hi hv k
                 | (subst hi; exact en_lload X hd hv k)
               · cases hq)
            | (rename_i hz hd; cases hz)
            | cases hq
        · rename_i x hty
          cases h
          rw [hty] at hq
          split at hq
          all_goals first
            | (rename_i n hz hd; split at hq
               · rename_i hi
                 cases hq
                 first
                 | exact en_aload_n X hd hi hv k
                 | (subst hi; exact en_aload X hd hv k)
               · cases hq)
            | (rename_i hz hd; cases hz)
            | cases hq
        · rename_i hty
          cases h
          rw [hty] at hq
          split at hq
          all_goals first
            | (rename_i n hz hd; split at hq
               · rename_i hi
                 cases hq
                 first
                 | exact en_aload_n0 X hd hi hv k
                 | (subst hi; exact en_aload0 X hd hv k)
               · cases hq)
            | (rename_i hz hd; cases hz)
            | cases hq
        · cases h
      · cases h
    · cases h
      simp only at hq
      split at hq
      · rename_i hd
        cases hq
        exact en_null X hd k
      · cases hq
    · cases h
      simp only at hq
      cases hq
      exact k
    · cases h
      simp only at hq
      split at hq
      · rename_i i hd
        split at hq
        · rename_i hv
          cases hq
          rw [hv.2.2] at k
          exact en_str X hd ⟨hv.1, hv.2.1⟩ k
        · cases hq
      · cases hq
    · cases h
  · exfalso
    unfold ee_ok0 at hq
    repeat' split at hq
    all_goals simp at hq
  · exfalso
    unfold ee_ok0 at hq
    repeat' split at hq
    all_goals simp at hq
end EP2
