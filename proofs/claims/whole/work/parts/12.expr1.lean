section EP3
variable {C : Nat → List Value → ee_W → Option (List Value × ee_W)} {cc : ByteArray} {oc : Nat} {G : ee_G}
theorem ee_br3 {q o : Nat} {r : Jvm.ClassFile.Cond} {off : Int} {z : List Nat} (h : ee_br q r off o = some z) : ∃ t f, z = [t, f, q + 3] := by
  unfold ee_br at h
  split at h
  · cases h
  · split at h
    · cases h; exact ⟨_, _, rfl⟩
    · split at h
      · cases h; exact ⟨_, _, rfl⟩
      · cases h
theorem ee_tru_b (b : Bool) : ee_tru [.int (ee_b b)] = some b := by cases b <;> rfl
theorem ee_no1 {t : Nat} {raw : ee_T} {y : ee_Y} {pc sd q g : Nat} (ht : t ≠ 4) : ¬ ee_ok1 cc oc t raw y pc sd = some [q, g] := by
  intro hq
  unfold ee_ok1 at hq
  split at hq
  case h_5 => exact ht rfl
  case h_7 =>
    split at hq
    · split at hq
      · obtain ⟨_, _, e⟩ := ee_br3 hq
        cases e
      · cases hq
    · cases hq
  all_goals (repeat' split at hq)
  all_goals first
    | (cases hq; done)
    | (rw [Option.map_eq_some_iff] at hq; obtain ⟨_, _, e⟩ := hq; cases e)
theorem ee_P1 (X : ee_X C cc oc G) (t : Nat) (raw : ee_T) (x : ee_S) (y : ee_Y) (hP : ee_P G x y) : ee_P G (ee_ev1 es_sh es_rf C t raw x) (ee_ok1 cc oc t raw y) := by
  intro pc sd env w vs w' st h hsd
  unfold ee_ev1 at h
  split at h
  · cases h
  rename_i us w1 hxe
  have hp := hP pc sd env w us w1 st hxe hsd
  split at h
  -- 0: a field
  · split at h
    · rename_i hh
      split at h
      · rename_i hsh
        cases h
        refine ⟨fun q hq k => ?_, fun a b en hq => ?_, fun q g hq => absurd hq (ee_no1 (by decide))⟩
        · simp only [ee_ok1] at hq
          split at hq
          · rename_i q1 hy
            split at hq
            · rename_i idx hd
              split at hq
              · rename_i f hf
                split at hq
                · rename_i hfe
                  cases hq
                  refine hp.1 q1 hy ?_
                  refine en_get X hd hf (by rw [hfe]; exact hsh) ?_
                  rw [hfe]
                  exact k
                · cases hq
              · cases hq
            · cases hq
          · cases hq
        · exfalso
          simp only [ee_ok1] at hq
          repeat' split at hq
          all_goals simp at hq
      · cases h
    · cases h
  -- 1: length
  · split at h
    · rename_i hh
      split at h
      · rename_i hsh
        cases h
        refine ⟨fun q hq k => ?_, fun a b en hq => ?_, fun q g hq => absurd hq (ee_no1 (by decide))⟩
        · simp only [ee_ok1] at hq
          split at hq
          · rename_i q1 hy
            split at hq
            · rename_i hd
              cases hq
              exact hp.1 q1 hy (en_alen X hsh hd k)
            · cases hq
          · cases hq
        · exfalso
          simp only [ee_ok1] at hq
          repeat' split at hq
          all_goals simp at hq
      · cases h
    · cases h
  -- 2: unary
  · split at h
    · rename_i v
      split at h
      · rename_i r hr
        cases h
        refine ⟨fun q hq k => ?_, fun a b en hq => ?_, fun q g hq => absurd hq (ee_no1 (by decide))⟩
        · simp only [ee_ok1] at hq
          split at hq
          · rename_i q1 hy
            refine hp.1 q1 hy ?_
            unfold ee_un at hr
            split at hr
            · split at hr
              · rename_i x hz
                cases hr
                rw [hz] at hq
                split at hq
                all_goals first
                  | (rename_i hz1 hd; cases hz1; done)
                  | (rename_i hz1 hd; cases hq; exact en_ineg X hd k)
                  | cases hq
              · rename_i x hz
                cases hr
                rw [hz] at hq
                split at hq
                all_goals first
                  | (rename_i hz1 hd; cases hz1; done)
                  | (rename_i hz1 hd; cases hq; exact en_i2l X hd k)
                  | cases hq
              · cases hr
            · split at hr
              · rename_i x hz
                cases hr
                rw [hz] at hq
                split at hq
                all_goals first
                  | (rename_i hz1 hd; cases hz1; done)
                  | (rename_i hz1 hd; cases hq; exact en_lneg X hd k)
                  | cases hq
              · rename_i x hz
                cases hr
                rw [hz] at hq
                split at hq
                all_goals first
                  | (rename_i hz1 hd; cases hz1; done)
                  | (rename_i hz1 hd; cases hq; exact en_l2i X hd k)
                  | cases hq
              · cases hr
            · cases hr
          · cases hq
        · exfalso
          simp only [ee_ok1] at hq
          repeat' split at hq
          all_goals simp at hq
      · cases h
    · cases h
  -- 3: a call
  · refine ⟨fun q hq k => ?_, fun a b en hq => ?_, fun q g hq => absurd hq (ee_no1 (by decide))⟩
    · simp only [ee_ok1] at hq
      split at hq
      · rename_i q1 hy
        split at hq
        · rename_i h4
          split at hq
          · rename_i idx hd
            split at hq
            · rename_i f hf
              split at hq
              · rename_i hc
                cases hq
                refine hp.1 q1 hy ?_
                have hm := hc.1
                rw [hc.1] at hc
                exact en_call X h hc.2.2 hf hm (Or.inl ⟨hc.2.1, hd⟩) (Nat.le_trans hsd h4) k
              · cases hq
            · cases hq
          · rename_i idx hd
            split at hq
            · rename_i f hf
              split at hq
              · rename_i hc
                cases hq
                refine hp.1 q1 hy ?_
                have hm := hc.1
                rw [hc.1] at hc
                exact en_call X h hc.2.2 hf hm (Or.inr ⟨hc.2.1, hd⟩) (Nat.le_trans hsd h4) k
              · cases hq
            · cases hq
          · cases hq
        · cases hq
      · cases hq
    · exfalso
      simp only [ee_ok1] at hq
      repeat' split at hq
      all_goals simp at hq
  -- 4: a condition as a value
  · split at h
    · rename_i b hb
      cases h
      refine ⟨fun q hq k => ?_, fun a b en hq => ?_, fun q g hq k kg => ?_⟩
      · simp only [ee_ok1] at hq
        split at hq
        · rename_i ta fa en hy
          split at hq
          · rename_i off hd1 hd2 hd3
            split at hq
            · rename_i hc
              simp only [Bool.and_eq_true] at hc
              split at hq
              · rename_i tg htg
                split at hq
                · rename_i hg
                  cases hq
                  obtain ⟨b2, hb2, hk2⟩ := hp.2.1 ta fa en hy
                  rw [hb] at hb2
                  cases hb2
                  refine hk2 ?_
                  subst hg
                  cases b with
                  | true => exact en_arr X 3 hc.1 (en_iconst X hd1 rfl (en_goto X hd2 htg k))
                  | false => exact en_arr X 3 hc.2 (en_iconst X hd3 rfl k)
                · cases hq
              · cases hq
            · cases hq
          · cases hq
        · cases hq
      · exfalso
        simp only [ee_ok1] at hq
        repeat' split at hq
        all_goals simp at hq
      · simp only [ee_ok1] at hq
        split at hq
        · rename_i ta fa en hy
          split at hq
          · rename_i off hd1 hd2 hd3
            split at hq
            · rename_i hc
              simp only [Bool.and_eq_true] at hc
              split at hq
              · rename_i tg htg
                split at hq
                · cases hq
                · cases hq
                  obtain ⟨b2, hb2, hk2⟩ := hp.2.1 ta fa en hy
                  rw [hb] at hb2
                  cases hb2
                  refine hk2 ?_
                  cases b with
                  | true => exact en_arr X 3 hc.1 (en_iconst X hd1 rfl (en_goto X hd2 htg kg))
                  | false => exact en_arr X 3 hc.2 (en_iconst X hd3 rfl k)
              · cases hq
            · cases hq
          · cases hq
        · cases hq
    · cases h
  -- 5: not
  · split at h
    · rename_i b hb
      cases h
      refine ⟨fun q hq k => ?_, fun a b2 en hq => ?_, fun q g hq => absurd hq (ee_no1 (by decide))⟩
      · exfalso
        simp only [ee_ok1] at hq
        repeat' split at hq
        all_goals simp at hq
      · simp only [ee_ok1] at hq
        split at hq
        · rename_i ta fa en hy
          cases hq
          obtain ⟨b2, hb2, hk2⟩ := hp.2.1 _ _ _ hy
          rw [hb] at hb2
          cases hb2
          refine ⟨!b, ee_tru_b _, fun k => hk2 ?_⟩
          cases b with
          | true => exact k
          | false => exact k
        · cases hq
    · cases h
  -- 6: against 0
  · split at h
    · rename_i v
      split at h
      · rename_i b hb
        cases h
        refine ⟨fun q hq k => ?_, fun a b2 en hq => ?_, fun q g hq => absurd hq (ee_no1 (by decide))⟩
        · exfalso
          simp only [ee_ok1] at hq
          split at hq
          · split at hq
            · obtain ⟨_, _, e⟩ := ee_br3 hq
              cases e
            · cases hq
          · cases hq
        · simp only [ee_ok1] at hq
          split at hq
          · rename_i q1 hy
            split at hq
            · rename_i r off hd
              refine ⟨b, ee_tru_b _, fun k => hp.1 q1 hy (en_if X hd hq hb k)⟩
            · cases hq
          · cases hq
      · cases h
    · cases h
  -- 7: null
  · have key : ∀ (v : Value) (b : Bool), us = [v] → vs = [.int (ee_b b)] → w' = w1 → ((v = .null ∧ b = true) ∨ ∃ h, v = .ref h ∧ b = false) → (∀ q, ee_ok1 cc oc 7 raw y pc sd = some [q] → ee_Wn G q env (vs.reverse ++ st) w' → ee_Wn G pc env st w) ∧
        (∀ t f en, ee_ok1 cc oc 7 raw y pc sd = some [t, f, en] → ∃ b, ee_tru vs = some b ∧ (ee_Wn G (if b then t else f) env st w' → ee_Wn G pc env st w)) ∧
        (∀ q g, ee_ok1 cc oc 7 raw y pc sd = some [q, g] → ee_Wn G q env (vs.reverse ++ st) w' → ee_Wn G g env (vs.reverse ++ st) w' → ee_Wn G pc env st w) := by
      intro v b e1 e2 e3 hv
      subst e1 e2 e3
      refine ⟨fun q hq k => ?_, fun a b2 en hq => ?_, fun q g hq => absurd hq (ee_no1 (by decide))⟩
      · exfalso
        simp only [ee_ok1] at hq
        repeat' split at hq
        all_goals simp at hq
      · simp only [ee_ok1] at hq
        split at hq
        · rename_i q1 hy
          split at hq
          · rename_i off hd
            rw [Option.map_eq_some_iff] at hq
            obtain ⟨tg, ht, e⟩ := hq
            cases e
            exact ⟨b, ee_tru_b _, fun k => hp.1 q1 hy (en_ifnull X hd ht hv k)⟩
          · rename_i off hd
            rw [Option.map_eq_some_iff] at hq
            obtain ⟨tg, ht, e⟩ := hq
            cases e
            exact ⟨b, ee_tru_b _, fun k => hp.1 q1 hy (en_ifnonnull X hd ht hv k)⟩
          · cases hq
        · cases hq
    split at h
    · cases h
      exact key .null true rfl rfl rfl (Or.inl ⟨rfl, rfl⟩)
    · rename_i hh
      cases h
      exact key (.ref hh) false rfl rfl rfl (Or.inr ⟨hh, rfl, rfl⟩)
    · cases h
  -- 8: a copy
  · split at h
    · split at h
      · rename_i hc
        cases h
        refine ⟨fun q hq k => ?_, fun a b en hq => ?_, fun q g hq => absurd hq (ee_no1 (by decide))⟩
        · simp only [ee_ok1] at hq
          split at hq
          · rename_i q1 hy
            split at hq
            · rename_i h0
              split at hq
              · rename_i idx hd
                split at hq
                · rename_i hl0
                  cases hq
                  refine hp.1 q1 hy ?_
                  have hst : st = [] := List.eq_nil_of_length_eq_zero (by omega)
                  subst hst
                  exact en_copy X hd hl0 hc.1 hc.2.1 hc.2.2.1 hc.2.2.2.1 hc.2.2.2.2.1 hc.2.2.2.2.2.1 hc.2.2.2.2.2.2 k
                · cases hq
              · cases hq
            · cases hq
          · cases hq
        · exfalso
          simp only [ee_ok1] at hq
          repeat' split at hq
          all_goals simp at hq
      · cases h
    · cases h
  -- 9: the script's length
  · split at h
    · rename_i hh
      split at h
      · rename_i hsh
        cases h
        refine ⟨fun q hq k => ?_, fun a b en hq => ?_, fun q g hq => absurd hq (ee_no1 (by decide))⟩
        · simp only [ee_ok1] at hq
          split at hq
          · rename_i q1 hy
            split at hq
            · rename_i hd
              cases hq
              exact hp.1 q1 hy (en_slen X hsh hd k)
            · cases hq
          · cases hq
        · exfalso
          simp only [ee_ok1] at hq
          repeat' split at hq
          all_goals simp at hq
      · cases h
    · cases h
  · cases h
end EP3
