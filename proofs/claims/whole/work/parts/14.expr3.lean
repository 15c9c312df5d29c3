section EP5
variable {C : Nat → List Value → ee_W → Option (List Value × ee_W)} {cc : ByteArray} {oc : Nat} {G : ee_G}
def ee_ok2r (cc : ByteArray) (t : Nat) (raw : ee_T) (q2 : Nat) : Option (List Nat) := match t with
  | 0 => some [q2]
  | 1 => ee_opk (ee_n raw) (ee_dec cc q2) q2
  | 2 => match ee_n raw, ee_dec cc q2 with
    | 0, some (.iaload, 1) => some [q2 + 1]
    | 1, some (.baload, 1) => some [q2 + 1]
    | 2, some (.laload, 1) => some [q2 + 1]
    | 3, some (.aaload, 1) => some [q2 + 1]
    | 4, some (.aaload, 1) => some [q2 + 1]
    | _, _ => none
  | 3 => match ee_dec cc q2 with
    | some (.if_icmp r off, 3) => ee_br q2 r off (ee_n raw)
    | _ => none
  | 6 => match ee_dec cc q2, ee_dec cc (q2 + 1) with
    | some (.lcmp, 1), some (.ifCond r off, 3) => ee_br (q2 + 1) r off (ee_n raw)
    | _, _ => none
  | 7 => match ee_dec cc q2 with
    | some (.iaload, 1) => some [q2 + 1]
    | _ => none
  | _ => none
theorem ee_no2 {t : Nat} {raw : ee_T} {y1 y2 : ee_Y} {pc sd q g : Nat} : ¬ ee_ok2 cc t raw y1 y2 pc sd = some [q, g] := by
  intro hq
  unfold ee_ok2 at hq
  split at hq
  · repeat' split at hq
    all_goals first
      | (cases hq; done)
      | (rw [Option.map_eq_some_iff] at hq; obtain ⟨_, _, e⟩ := hq; cases e)
  · repeat' split at hq
    all_goals first
      | (cases hq; done)
      | (rw [Option.map_eq_some_iff] at hq; obtain ⟨_, _, e⟩ := hq; cases e)
  · split at hq
    · split at hq
      · split at hq
        · cases hq
        · split at hq <;> cases hq
        · split at hq <;> cases hq
        · split at hq
          · obtain ⟨_, _, e⟩ := ee_br3 hq
            cases e
          · cases hq
        · split at hq
          · obtain ⟨_, _, e⟩ := ee_br3 hq
            cases e
          · cases hq
        · split at hq <;> cases hq
        · cases hq
      · cases hq
    · cases hq
theorem ee_P2 (X : ee_X C cc oc G) (t : Nat) (raw : ee_T) (x1 x2 : ee_S) (y1 y2 : ee_Y) (hP : ee_P G x1 y1) (hQ : ee_P G x2 y2) : ee_P G (ee_ev2 es_sh es_rf t raw x1 x2) (ee_ok2 cc t raw y1 y2) := by
  intro pc sd env w vs w' st h hsd
  unfold ee_ev2 at h
  split at h
  · cases h
  rename_i us w1 hxe
  have hp := hP pc sd env w us w1 st hxe hsd
  split at h
  -- and
  · refine ⟨fun q hq k => ?_, fun a b2 en hq => ?_, fun q g hq => absurd hq ee_no2⟩
    · exfalso
      simp only [ee_ok2] at hq
      repeat' split at hq
      all_goals first
        | (cases hq; done)
        | (rw [Option.map_eq_some_iff] at hq; obtain ⟨_, _, e⟩ := hq; cases e)
    · simp only [ee_ok2] at hq
      split at hq
      · rename_i ta fa ea hy1
        split at hq
        · rename_i tb fb eb hy2
          split at hq
          · rename_i harr
            rw [Option.map_eq_some_iff] at hq
            obtain ⟨f, hf, e⟩ := hq
            cases e
            obtain ⟨b, hb, hk⟩ := hp.2.1 _ _ _ hy1
            rw [hb] at h
            cases b with
            | true =>
              simp only at h
              have hp2 := hQ ea sd env w1 vs w' st h hsd
              obtain ⟨b2, hb2, hk2⟩ := hp2.2.1 _ _ _ hy2
              refine ⟨b2, hb2, fun k => hk (en_arr X 3 harr (hk2 ?_))⟩
              cases b2 with
              | true => exact k
              | false => exact (ee_mrg_ok X hf k).2
            | false =>
              simp only at h
              cases h
              exact ⟨false, ee_tru_b _, fun k => hk (ee_mrg_ok X hf k).1⟩
          · cases hq
        · cases hq
      · cases hq
  -- or
  · refine ⟨fun q hq k => ?_, fun a b2 en hq => ?_, fun q g hq => absurd hq ee_no2⟩
    · exfalso
      simp only [ee_ok2] at hq
      repeat' split at hq
      all_goals first
        | (cases hq; done)
        | (rw [Option.map_eq_some_iff] at hq; obtain ⟨_, _, e⟩ := hq; cases e)
    · simp only [ee_ok2] at hq
      split at hq
      · rename_i ta fa ea hy1
        split at hq
        · rename_i tb fb eb hy2
          split at hq
          · rename_i harr
            rw [Option.map_eq_some_iff] at hq
            obtain ⟨f, hf, e⟩ := hq
            cases e
            obtain ⟨b, hb, hk⟩ := hp.2.1 _ _ _ hy1
            rw [hb] at h
            cases b with
            | false =>
              simp only at h
              have hp2 := hQ ea sd env w1 vs w' st h hsd
              obtain ⟨b2, hb2, hk2⟩ := hp2.2.1 _ _ _ hy2
              refine ⟨b2, hb2, fun k => hk (en_arr X 3 harr (hk2 ?_))⟩
              cases b2 with
              | true => exact (ee_mrg_ok X hf k).2
              | false => exact k
            | true =>
              simp only at h
              cases h
              exact ⟨true, ee_tru_b _, fun k => hk (ee_mrg_ok X hf k).1⟩
          · cases hq
        · cases hq
      · cases hq
  · rename_i t0 hn4 hn5
    have hok : ∀ z, ee_ok2 cc t raw y1 y2 pc sd = some z → ∃ q, y1 pc sd = some [q] ∧ ∃ q2, y2 q (sd + 1) = some [q2] ∧ ee_ok2r cc t raw q2 = some z := by
      intro z hz
      unfold ee_ok2 at hz
      split at hz
      · exact absurd rfl hn4
      · exact absurd rfl hn5
      · split at hz
        · rename_i q hy1
          split at hz
          · rename_i q2 hy2
            exact ⟨q, hy1, q2, hy2, hz⟩
          · cases hz
        · cases hz
    split at h
    · cases h
    rename_i us2 w2 hye
    have single : ∀ (a : Value) (q : Nat), us = [a] → y1 pc sd = some [q] → ∀ q2, y2 q (sd + 1) = some [q2] → (ee_Wn G q2 env (us2.reverse ++ (a :: st)) w2 → ee_Wn G pc env st w) := by
      intro a q ha hy1 q2 hy2 k
      refine hp.1 q hy1 ?_
      rw [ha]
      exact (hQ q (sd + 1) env w1 us2 w2 (a :: st) hye (by simp only [List.length_cons]; omega)).1 q2 hy2 k
    split at h
    -- 0: a list
    · split at h
      · cases h
        refine ⟨fun q hq k => ?_, fun a b2 en hq => ?_, fun q g hq => absurd hq ee_no2⟩
        · obtain ⟨q1, hy1, q2, hy2, hz⟩ := hok _ hq
          simp only [ee_ok2r] at hz
          cases hz
          refine single _ q1 rfl hy1 _ hy2 ?_
          rw [List.reverse_cons, List.append_assoc] at k
          exact k
        · obtain ⟨q1, hy1, q2, hy2, hz⟩ := hok _ hq
          simp only [ee_ok2r] at hz
          cases hz
      · cases h
    -- 1: binary
    · split at h
      · split at h
        · rename_i r hr
          cases h
          refine ⟨fun q hq k => ?_, fun a b2 en hq => ?_, fun q g hq => absurd hq ee_no2⟩
          · obtain ⟨q1, hy1, q2, hy2, hz⟩ := hok _ hq
            simp only [ee_ok2r] at hz
            obtain ⟨e, hk⟩ := ee_bin_ok X (w := w') (env := env) (st := st) hr hz
            cases e
            exact single _ q1 rfl hy1 _ hy2 (hk k)
          · obtain ⟨q1, hy1, q2, hy2, hz⟩ := hok _ hq
            simp only [ee_ok2r] at hz
            obtain ⟨e, hk⟩ := ee_bin_ok X (w := w') (env := env) (st := st) hr hz
            cases e
        · cases h
      · cases h
    -- 2: an element
    · split at h
      · split at h
        · rename_i hc
          cases h
          refine ⟨fun q hq k => ?_, fun a b2 en hq => ?_, fun q g hq => absurd hq ee_no2⟩
          · obtain ⟨q1, hy1, q2, hy2, hz⟩ := hok _ hq
            simp only [ee_ok2r] at hz
            refine single _ q1 rfl hy1 _ hy2 ?_
            have hi := hc.2.2
            split at hz
            · rename_i hd e; cases hz; exact en_elt X hc.1 hi (Or.inl ⟨hd, e⟩) k
            · rename_i hd e; cases hz; exact en_elt X hc.1 hi (Or.inr (Or.inl ⟨hd, e⟩)) k
            · rename_i hd e; cases hz; exact en_elt X hc.1 hi (Or.inr (Or.inr (Or.inl ⟨hd, e⟩))) k
            · rename_i hd e; cases hz; exact en_elt X hc.1 hi (Or.inr (Or.inr (Or.inr ⟨Or.inl hd, e⟩))) k
            · rename_i hd e; cases hz; exact en_elt X hc.1 hi (Or.inr (Or.inr (Or.inr ⟨Or.inr hd, e⟩))) k
            · cases hz
          · obtain ⟨q1, hy1, q2, hy2, hz⟩ := hok _ hq
            simp only [ee_ok2r] at hz
            split at hz <;> cases hz
        · cases h
      · cases h
    -- 3: a comparison
    · split at h
      · split at h
        · rename_i r hr
          cases h
          refine ⟨fun q hq k => ?_, fun t2 f2 en hq => ?_, fun q g hq => absurd hq ee_no2⟩
          · obtain ⟨q1, hy1, q2, hy2, hz⟩ := hok _ hq
            simp only [ee_ok2r] at hz
            split at hz
            · obtain ⟨_, _, e⟩ := ee_br3 hz
              cases e
            · cases hz
          · obtain ⟨q1, hy1, q2, hy2, hz⟩ := hok _ hq
            simp only [ee_ok2r] at hz
            split at hz
            · rename_i rr off hd
              exact ⟨r, ee_tru_b _, fun k => single _ q1 rfl hy1 _ hy2 (en_icmp X hd hz hr k)⟩
            · cases hz
        · cases h
      · cases h
    -- 7: the script
    · split at h
      · split at h
        · rename_i hc
          cases h
          refine ⟨fun q hq k => ?_, fun a b2 en hq => ?_, fun q g hq => absurd hq ee_no2⟩
          · obtain ⟨q1, hy1, q2, hy2, hz⟩ := hok _ hq
            simp only [ee_ok2r] at hz
            split at hz
            · rename_i hd
              cases hz
              exact single _ q1 rfl hy1 _ hy2 (en_sld X hc.1 hc.2 hd k)
            · cases hz
          · obtain ⟨q1, hy1, q2, hy2, hz⟩ := hok _ hq
            simp only [ee_ok2r] at hz
            split at hz <;> cases hz
        · cases h
      · cases h
    -- 6: a comparison of longs
    · split at h
      · split at h
        · rename_i r hr
          cases h
          refine ⟨fun q hq k => ?_, fun t2 f2 en hq => ?_, fun q g hq => absurd hq ee_no2⟩
          · obtain ⟨q1, hy1, q2, hy2, hz⟩ := hok _ hq
            simp only [ee_ok2r] at hz
            split at hz
            · obtain ⟨_, _, e⟩ := ee_br3 hz
              cases e
            · cases hz
          · obtain ⟨q1, hy1, q2, hy2, hz⟩ := hok _ hq
            simp only [ee_ok2r] at hz
            split at hz
            · rename_i rr off hd1 hd2
              exact ⟨r, ee_tru_b _, fun k => single _ q1 rfl hy1 _ hy2 (en_lcmp X hd1 (en_if X hd2 hz (ee_cmp_l hr) k))⟩
            · cases hz
        · cases h
      · cases h
    · cases h
theorem ee_exit {x : ee_S} {y : ee_Y} (hP : ee_P G x y) {pc sd q g : Nat} {xs : List Nat} {env : ee_E} {w w' : ee_W} {vs st : List Value} (h : x env w = some (vs, w')) (hsd : st.length ≤ sd) (hy : y pc sd = some (q :: xs)) (hlen : xs.length ≤ 1) (hxs : xs.all (fun x => x == g) = true) (kq : ee_Wn G q env (vs.reverse ++ st) w') (kg : ee_Wn G g env (vs.reverse ++ st) w') : ee_Wn G pc env st w := by
  match xs, hlen, hxs, hy with
  | [], _, _, hy => exact (hP pc sd env w vs w' st h hsd).1 q hy kq
  | [x1], _, hxs, hy =>
    simp only [List.all_cons, List.all_nil, Bool.and_true, beq_iff_eq] at hxs
    subst hxs
    exact (hP pc sd env w vs w' st h hsd).2.2 q x1 hy kq kg
theorem ee_tv_r {t f en q q2 : Nat} {xs zs : List Nat} {r : List Nat} (h : ee_tv cc t f en q xs q2 zs = some r) : ∃ off g, ee_dec cc q = some (.goto off, 3) ∧ ee_tgt q off = some g ∧ ee_arr cc 3 t en = true ∧ ee_arr cc 3 f (q + 3) = true ∧ xs.all (fun x => x == g) = true ∧ zs.all (fun x => x == g) = true ∧ ((r = [q2] ∧ g = q2) ∨ r = [q2, g]) := by
  unfold ee_tv at h
  split at h
  · rename_i off hd
    split at h
    · rename_i g hg
      split at h
      · rename_i hc
        simp only [Bool.and_eq_true] at hc
        refine ⟨off, g, hd, hg, hc.1, hc.2.1, hc.2.2.1, hc.2.2.2, ?_⟩
        split at h
        · rename_i h2
          cases h
          exact Or.inl ⟨rfl, h2.1⟩
        · cases h
          exact Or.inr rfl
      · cases h
    · cases h
  · cases h
theorem ee_ok3_v {y1 y2 y3 : ee_Y} {pc sd : Nat} {r : List Nat} (h : ee_ok3 cc 0 y1 y2 y3 pc sd = some r) (hr : r.length ≤ 2) : ∃ t f en q xs q2 zs, y1 pc sd = some [t, f, en] ∧ y2 en sd = some (q :: xs) ∧ xs.length ≤ 1 ∧ y3 (q + 3) sd = some (q2 :: zs) ∧ zs.length ≤ 1 ∧ ee_tv cc t f en q xs q2 zs = some r := by
  simp only [ee_ok3] at h
  split at h
  · rename_i t f en hy1
    split at h
    · rename_i q hy2
      split at h
      · rename_i q2 hy3
        exact ⟨t, f, en, q, [], q2, [], hy1, hy2, by simp, hy3, by simp, h⟩
      · rename_i q2 x2 hy3
        exact ⟨t, f, en, q, [], q2, [x2], hy1, hy2, by simp, hy3, by simp, h⟩
      · cases h
    · rename_i q x1 hy2
      split at h
      · rename_i q2 hy3
        exact ⟨t, f, en, q, [x1], q2, [], hy1, hy2, by simp, hy3, by simp, h⟩
      · rename_i q2 x2 hy3
        exact ⟨t, f, en, q, [x1], q2, [x2], hy1, hy2, by simp, hy3, by simp, h⟩
      · cases h
    · exfalso
      split at h
      · split at h
        · split at h
          · split at h
            · cases h
              simp at hr
            · cases h
          · cases h
        · cases h
      · cases h
    · cases h
  · cases h
theorem ee_P3 (X : ee_X C cc oc G) (t : Nat) (x1 x2 x3 : ee_S) (y1 y2 y3 : ee_Y) (hP : ee_P G x1 y1) (hQ : ee_P G x2 y2) (hR : ee_P G x3 y3) : ee_P G (ee_ev3 t x1 x2 x3) (ee_ok3 cc t y1 y2 y3) := by
  intro pc sd env w vs w' st h hsd
  unfold ee_ev3 at h
  split at h
  · split at h
    · cases h
    rename_i us w1 hxe
    have hp := hP pc sd env w us w1 st hxe hsd
    have value : ∀ (r : List Nat) (q2 g : Nat), ee_ok3 cc 0 y1 y2 y3 pc sd = some r → ((r = [q2] ∧ g = q2) ∨ r = [q2, g]) → ee_Wn G q2 env (vs.reverse ++ st) w' → ee_Wn G g env (vs.reverse ++ st) w' → ee_Wn G pc env st w := by
      intro r q2 g hq hr kq kg
      obtain ⟨t, f, en, q, xs, q2', zs, hy1, hy2, hl1, hy3, hl2, htv⟩ := ee_ok3_v hq (by rcases hr with ⟨rfl, -⟩ | rfl <;> simp)
      obtain ⟨off, g', hd, hg, a1, a2, hxs, hzs, hr2⟩ := ee_tv_r htv
      have e : q2' = q2 ∧ g' = g := by
        rcases hr with ⟨rfl, e1⟩ | rfl
        · rcases hr2 with ⟨e2, e3⟩ | e2
          · cases e2
            exact ⟨rfl, e3.trans e1.symm⟩
          · cases e2
        · rcases hr2 with ⟨e2, e3⟩ | e2
          · cases e2
          · cases e2
            exact ⟨rfl, rfl⟩
      obtain ⟨rfl, rfl⟩ := e
      obtain ⟨b, hb, hk⟩ := hp.2.1 _ _ _ hy1
      rw [hb] at h
      refine hk ?_
      cases b with
      | true =>
        simp only at h
        exact en_arr X 3 a1 (ee_exit hQ h hsd hy2 hl1 hxs (en_goto X hd hg kg) kg)
      | false =>
        simp only at h
        exact en_arr X 3 a2 (ee_exit hR h hsd hy3 hl2 hzs kq kg)
    refine ⟨fun q hq k => value _ q q hq (Or.inl ⟨rfl, rfl⟩) k k, fun tt ff en hq => ?_, fun q g hq kq kg => value _ q g hq (Or.inr rfl) kq kg⟩
    simp only [ee_ok3] at hq
    split at hq
    · rename_i ta fa ea hy1
      obtain ⟨b, hb, hk⟩ := hp.2.1 _ _ _ hy1
      rw [hb] at h
      split at hq
      · exfalso
        split at hq
        · obtain ⟨_, _, _, _, _, _, _, _, hr⟩ := ee_tv_r hq
          rcases hr with ⟨e, -⟩ | e <;> cases e
        · obtain ⟨_, _, _, _, _, _, _, _, hr⟩ := ee_tv_r hq
          rcases hr with ⟨e, -⟩ | e <;> cases e
        · cases hq
      · exfalso
        split at hq
        · obtain ⟨_, _, _, _, _, _, _, _, hr⟩ := ee_tv_r hq
          rcases hr with ⟨e, -⟩ | e <;> cases e
        · obtain ⟨_, _, _, _, _, _, _, _, hr⟩ := ee_tv_r hq
          rcases hr with ⟨e, -⟩ | e <;> cases e
        · cases hq
      · rename_i t2 f2 e2 hy2
        split at hq
        · rename_i off t3 f3 e3 hd hy3
          split at hq
          · rename_i tg htg
            split at hq
            · rename_i hc
              simp only [Bool.and_eq_true] at hc
              split at hq
              · rename_i ra rb hra hrb
                cases hq
                cases b with
                | true =>
                  simp only at h
                  obtain ⟨b2, hb2, hk2⟩ := (hQ ea sd env w1 vs w' st h hsd).2.1 _ _ _ hy2
                  refine ⟨b2, hb2, fun k => hk (en_arr X 3 hc.1.1 (hk2 ?_))⟩
                  cases b2 with
                  | true => exact en_arr X 3 hc.2 (en_goto X hd htg (ee_mrg_ok X hra k).1)
                  | false => exact (ee_mrg_ok X hrb k).1
                | false =>
                  simp only at h
                  obtain ⟨b2, hb2, hk2⟩ := (hR (e2 + 3) sd env w1 vs w' st h hsd).2.1 _ _ _ hy3
                  refine ⟨b2, hb2, fun k => hk (en_arr X 3 hc.1.2 (hk2 ?_))⟩
                  cases b2 with
                  | true => exact (ee_mrg_ok X hra k).2
                  | false => exact (ee_mrg_ok X hrb k).2
              · cases hq
            · cases hq
          · cases hq
        · cases hq
      · cases hq
    · cases hq
  · cases h
/-- expressions -/
theorem ee_PE (X : ee_X C cc oc G) : ∀ t : ee_T, ee_P G (ee_ev es_sh es_rf C t) (ee_ok cc oc t)
  | .var _ => by intro pc sd env w vs w' st h; cases h
  | .op (.var t) raw => ee_P0 X t raw
  | .op (.op (.var t) raw) x => ee_P1 X t raw _ _ (ee_PE X x)
  | .op (.op (.op (.var t) raw) x) y => ee_P2 X t raw _ _ _ _ (ee_PE X x) (ee_PE X y)
  | .op (.op (.op (.op (.var t) _) x) y) z => ee_P3 X t _ _ _ _ _ _ (ee_PE X x) (ee_PE X y) (ee_PE X z)
  | .op (.op (.op (.op (.op _ _) _) _) _) _ => by intro pc sd env w vs w' st h; cases h
end EP5
