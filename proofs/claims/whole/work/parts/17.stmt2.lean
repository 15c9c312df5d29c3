section ES2
variable {C : Nat → List Value → ee_W → Option (List Value × ee_W)} {cc : ByteArray} {oc : Nat} {G : ee_G}
theorem ee_loop (X : ee_X C cc oc G) {x : ee_S} {b : ee_Z} {y : ee_Y} {k4 : ee_X4} (hP : ee_P G x y) (hB : ee_Q cc G b k4) {pc t f en pb k : Nat} (hy : y pc 0 = some [t, f, en]) (ht : ee_arr cc 3 t pb = true) (hf : ee_arr cc 3 f k = true) (hb : k4 pb pc = true) {o : ee_O} (ho : ee_out cc G k o) : ∀ (n : Nat) (env : ee_E) (w : ee_W), ee_it (ee_turn x b) n (env, w) = some o → ee_Wn G pc env [] w := by
  intro n
  induction n with
  | zero => intro env w h; cases h
  | succ n ih =>
    intro env w h
    unfold ee_it at h
    split at h
    · cases h
    · rename_i s' hs
      unfold ee_turn at hs
      split at hs
      · cases hs
      rename_i vs w1 hxe
      obtain ⟨b1, hb1, hk1⟩ := (hP pc 0 env w vs w1 [] hxe (Nat.le_refl _)).2.1 _ _ _ hy
      rw [hb1] at hs
      cases b1 with
      | true =>
        simp only at hs
        split at hs
        · rename_i s2 hbe
          cases hs
          exact hk1 (en_arr X 3 ht (hB pb pc env w1 _ hbe hb (ih _ _ h)))
        · cases hs
        · cases hs
      | false =>
        simp only at hs
        cases hs
    · rename_i r hs
      cases h
      unfold ee_turn at hs
      split at hs
      · cases hs
      rename_i vs w1 hxe
      obtain ⟨b1, hb1, hk1⟩ := (hP pc 0 env w vs w1 [] hxe (Nat.le_refl _)).2.1 _ _ _ hy
      rw [hb1] at hs
      cases b1 with
      | true =>
        simp only at hs
        split at hs
        · cases hs
        · rename_i r2 hbe
          cases hs
          exact hk1 (en_arr X 3 ht (hB pb pc env w1 _ hbe hb ho))
        · cases hs
      | false =>
        simp only at hs
        cases hs
        exact hk1 (en_arr X 3 hf ho)
theorem ee_loopF (X : ee_X C cc oc G) {b : ee_Z} {k4 : ee_X4} (hB : ee_Q cc G b k4) {pc k : Nat} (hb : k4 pc pc = true) {o : ee_O} (ho : ee_out cc G k o) : ∀ (n : Nat) (env : ee_E) (w : ee_W), ee_it (ee_turn (fun _ w => some ([.int 1], w)) b) n (env, w) = some o → ee_Wn G pc env [] w := by
  intro n
  induction n with
  | zero => intro env w h; cases h
  | succ n ih =>
    intro env w h
    unfold ee_it at h
    split at h
    · cases h
    · rename_i s' hs
      unfold ee_turn at hs
      simp only [show ee_tru [Value.int 1] = some true from rfl] at hs
      split at hs
      · rename_i s2 hbe
        cases hs
        exact hB pc pc env w _ hbe hb (ih _ _ h)
      · cases hs
      · cases hs
    · rename_i r hs
      cases h
      unfold ee_turn at hs
      simp only [show ee_tru [Value.int 1] = some true from rfl] at hs
      split at hs
      · cases hs
      · rename_i r2 hbe
        cases hs
        exact hB pc pc env w _ hbe hb ho
      · cases hs
theorem ee_m3 {z : Option (List Nat)} {F : Nat → Nat → Bool} (h : (match z with
    | some [t, f, _] => F t f
    | _ => false) = true) : ∃ t f en, z = some [t, f, en] ∧ F t f = true := by
  split at h
  · exact ⟨_, _, _, rfl, h⟩
  · cases h
theorem ee_m1 {z : Option (List Nat)} {F : Nat → Bool} (h : (match z with
    | some [q] => F q
    | _ => false) = true) : ∃ q, z = some [q] ∧ F q = true := by
  split at h
  · exact ⟨_, rfl, h⟩
  · cases h
def ee_swo (cc : ByteArray) (q : Nat) : Bool := match ee_dec cc q with
  | some (.tableswitch _ _ _ _, _) => true
  | some (.lookupswitch _ ps, _) => (ps.toList.zip (ps.toList.drop 1)).all (fun (a, next) => a.1 < next.1)
  | _ => false
theorem en_switch (X : ee_X C cc oc G) {q t : Nat} {x : Int32} {env : ee_E} {st : List Value} {w : ee_W} (hs : ee_swo cc q = true) (ht : ee_swt cc q x.toInt = some t) (k : ee_Wn G t env st w) : ee_Wn G q env (.int x :: st) w := by
  obtain ⟨p, l, e, R, s, m, args, below, meth, c, cells, slots, Q, D, ad, ca, adV, A, nL, sc, d, rfl, hx, hb, hml, hown, hts, hK, hinj, hadA, hAs, hStr, hSc, hHM, hR1, hR2, hc1, hc2⟩ := X
  intro H locs ls hP hS hl hw
  have k := k H locs ls hP hS hl hw
  unfold ee_swt at ht
  unfold ee_swo at hs
  split at ht
  · rename_i dflt lo hi offs len hd
    split at ht
    · rename_i hout
      exact lv_tableOut hx hb (ee_dec_ok hd) hout (ee_tgt_ok ht) k
    · rename_i hin
      split at ht
      · rename_i off ho
        exact lv_tableIn hx hb (ee_dec_ok hd) (fun z => hin (Or.inl z)) (fun z => hin (Or.inr z)) ho (ee_tgt_ok ht) k
      · cases ht
  · rename_i dflt ps len hd
    rw [hd] at hs
    exact lv_lookup hx hb (ee_dec_ok hd) hs rfl (ee_tgt_ok ht) k
  · cases ht
theorem ee_swd_o {q pd : Nat} {keys : List Nat} (h : ee_swd cc q keys pd = true) : ee_swo cc q = true := by
  unfold ee_swd at h
  unfold ee_swo
  split at h
  · rename_i hd
    rw [hd]
  · rename_i hd
    rw [hd]
    rw [Bool.and_eq_true] at h
    exact h.2
  · cases h
theorem ee_keys_in {keys : List Nat} {x : Int32} (h : (keys.map (fun n => (Int32.ofNat n).toInt)).contains x.toInt = true) : x ∈ keys.map Int32.ofNat := by
  rw [List.contains_iff_mem] at h
  obtain ⟨n, hn, e⟩ := List.mem_map.mp h
  exact List.mem_map.mpr ⟨n, hn, Int32.toInt_inj.mp e⟩
theorem ee_off_none : ∀ (ps : List (Int × Int)) (dflt x : Int), (∀ a ∈ ps, a.1 ≠ x) → Op.lookupswitch.offset ps dflt x = dflt := by
  intro ps dflt x
  induction ps with
  | nil => intro _; rfl
  | cons a ps ih =>
    intro h
    obtain ⟨a1, a2⟩ := a
    rw [Op.lookupswitch.offset_cons, if_neg (h (a1, a2) List.mem_cons_self)]
    exact ih (fun b hb => h b (List.mem_cons_of_mem _ hb))
theorem ee_swd_t {q pd : Nat} {keys : List Nat} {x : Int32} (h : ee_swd cc q keys pd = true) (hx : ¬ x ∈ keys.map Int32.ofNat) : ∃ t, ee_swt cc q x.toInt = some t ∧ ee_arr cc 3 t pd = true := by
  unfold ee_swd at h
  unfold ee_swt
  split at h
  · rename_i dflt lo hi offs len hd
    simp only [Bool.and_eq_true, decide_eq_true_eq] at h
    obtain ⟨⟨⟨h1, h2⟩, h3⟩, h4⟩ := h
    split
    · split at h1
      · rename_i t ht
        exact ⟨t, ht, h1⟩
      · cases h1
    · rename_i hin
      have hj : (x.toInt - lo).toNat < (hi - lo + 1).toNat := by omega
      have h5 := List.all_eq_true.mp h4 _ (List.mem_range.mpr hj)
      rw [Bool.or_eq_true] at h5
      rcases h5 with h5 | h5
      · exfalso
        have e : lo + ((x.toInt - lo).toNat : Int) = x.toInt := by omega
        rw [e] at h5
        exact hx (ee_keys_in h5)
      · split at h5
        · rename_i off ho
          split at h5
          · rename_i t ht
            exact ⟨t, ht, h5⟩
          · cases h5
        · cases h5
  · rename_i dflt ps len hd
    simp only [Bool.and_eq_true] at h
    obtain ⟨⟨h1, h2⟩, h3⟩ := h
    rw [ee_off_none]
    · split at h1
      · rename_i t ht
        exact ⟨t, ht, h1⟩
      · cases h1
    · intro a ha e
      have h4 := List.all_eq_true.mp h2 a ha
      rw [e] at h4
      exact hx (ee_keys_in h4)
  · cases h
theorem ee_isC_swo : ∀ (t : ee_T) (q k : Nat), ee_isC t = true → ee_okS cc oc t q k = true → ee_swo cc q = true
  | .op (.op (.var t) raw) x, q, k, hc, h => by
    simp only [ee_isC, beq_iff_eq] at hc
    subst hc
    simp only [ee_okS, Bool.and_eq_true] at h
    exact ee_swd_o h.1.2
  | .op (.op (.op (.var t) raw) x) y, q, k, hc, h => by
    simp only [ee_isC, beq_iff_eq] at hc
    subst hc
    simp only [ee_okS, Bool.and_eq_true] at h
    exact ee_isC_swo y q k h.1.1.1.2 h.2
  | .var _, _, _, hc, _ => by simp [ee_isC] at hc
  | .op (.var _) _, _, _, hc, _ => by simp [ee_isC] at hc
  | .op (.op (.op (.op _ _) _) _) _, _, _, hc, _ => by simp [ee_isC] at hc
/-- statements, and cases of a switch -/
theorem ee_QS (X : ee_X C cc oc G) : ∀ t : ee_T, (ee_isC t = false → ee_Q cc G (ee_evS es_sh es_rf C t) (ee_okS cc oc t)) ∧ (ee_isC t = true → ee_QC cc G (ee_evS es_sh es_rf C t) (ee_okS cc oc t))
  | .var _ => ⟨fun _ pc k env w o h => (by cases h), fun hc => (by simp [ee_isC] at hc)⟩
  | .op (.var t) raw => ⟨fun _ => by
      have := ee_Q0 X t raw
      intro pc k env w o h hk ho
      exact this pc k env w o (by simpa only [ee_evS] using h) (by simpa only [ee_okS] using hk) ho, fun hc => (by simp [ee_isC] at hc)⟩
  | .op (.op (.var t) raw) x => by
    have ih := ee_QS X x
    refine ⟨fun hc pc k env w o h hk ho => ?_, fun hc q k v env w o h hk ho => ?_⟩
    · simp only [ee_evS] at h
      simp only [ee_okS] at hk
      split at h
      · simp only [Bool.and_eq_true, Bool.not_eq_true'] at hk
        obtain ⟨n, hn⟩ := ee_wh_ex h
        exact ee_loopF X (ih.1 hk.1) hk.2 ho n env w hn
      · simp [ee_isC] at hc
      · rename_i h3 h4
        split at hk
        · exact absurd rfl h3
        · exact absurd rfl h4
        · exact ee_Q1 X t raw _ _ (ee_PE X x) pc k env w o h hk ho
    · simp only [ee_isC, beq_iff_eq] at hc
      subst hc
      simp only [ee_evS] at h
      simp only [ee_okS, Bool.and_eq_true, Bool.not_eq_true'] at hk
      split at h
      · cases h
      · rename_i hv
        obtain ⟨t, ht, harr⟩ := ee_swd_t hk.1.2 hv
        exact ⟨t, ht, en_arr X 3 harr (ih.1 hk.1.1 _ k env w o h hk.2 ho)⟩
  | .op (.op (.op (.var t) raw) x) y => by
    have ihx := ee_QS X x
    have ihy := ee_QS X y
    refine ⟨fun hc pc k env w o h hk ho => ?_, fun hc q k v env w o h hk ho => ?_⟩
    · by_cases e2 : t = 2
      · subst e2
        simp only [ee_evS] at h
        simp only [ee_okS, Bool.and_eq_true, Bool.not_eq_true'] at hk
        obtain ⟨⟨⟨c1, c2⟩, k1⟩, k2⟩ := hk
        split at h
        · rename_i s hs
          exact ihx.1 c1 pc _ env w _ hs k1 (ihy.1 c2 _ k _ _ o h k2 ho)
        · rename_i r hs
          cases h
          exact ihx.1 c1 pc _ env w _ hs k1 ho
        · cases h
      by_cases e3 : t = 3
      · subst e3
        simp only [ee_evS] at h
        obtain ⟨t1, f1, e1, hy1, hk⟩ : ∃ t f en, ee_ok cc oc x pc 0 = some [t, f, en] ∧ (!ee_isC y && ee_arr cc 3 t (ee_n raw) && ee_arr cc 3 f k && ee_okS cc oc y (ee_n raw) pc) = true := by
          simp only [ee_okS] at hk
          exact ee_m3 (F := fun t f => !ee_isC y && ee_arr cc 3 t (ee_n raw) && ee_arr cc 3 f k && ee_okS cc oc y (ee_n raw) pc) hk
        simp only [Bool.and_eq_true, Bool.not_eq_true'] at hk
        obtain ⟨⟨⟨c1, a1⟩, a2⟩, k1⟩ := hk
        obtain ⟨n, hn⟩ := ee_wh_ex h
        exact ee_loop X (ee_PE X x) (ihy.1 c1) hy1 a1 a2 k1 ho n env w hn
      by_cases e4 : t = 4
      · subst e4
        simp only [ee_evS] at h
        obtain ⟨q1, hy1, hk⟩ : ∃ q, ee_ok cc oc x pc 0 = some [q] ∧ (ee_isC y && ee_okS cc oc y q k) = true := by
          simp only [ee_okS] at hk
          exact ee_m1 (F := fun q => ee_isC y && ee_okS cc oc y q k) hk
        rw [Bool.and_eq_true] at hk
        split at h
        · rename_i v w1 hxe
          obtain ⟨t1, ht1, k1⟩ := ihy.2 hk.1 q1 k v env w1 o h hk.2 ho
          exact (ee_PE X x pc 0 env w _ w1 [] hxe (Nat.le_refl _)).1 q1 hy1 (en_switch X (ee_isC_swo y q1 k hk.1 hk.2) ht1 k1)
        · cases h
      by_cases e5 : t = 5
      · subst e5
        simp [ee_isC] at hc
      · have h1 : ee_evS es_sh es_rf C (.op (.op (.op (.var t) raw) x) y) = ee_s2 es_sh es_rf t raw (ee_ev es_sh es_rf C x) (ee_ev es_sh es_rf C y) := by
          simp only [ee_evS]
        have h2 : ee_okS cc oc (.op (.op (.op (.var t) raw) x) y) = ee_k2 cc oc t raw (ee_ok cc oc x) (ee_ok cc oc y) := by
          simp only [ee_okS]
        rw [h1] at h
        rw [h2] at hk
        exact ee_Q2 X t raw _ _ _ _ (ee_PE X x) (ee_PE X y) pc k env w o h hk ho
    · simp only [ee_isC, beq_iff_eq] at hc
      subst hc
      simp only [ee_evS] at h
      simp only [ee_okS, Bool.and_eq_true, Bool.not_eq_true'] at hk
      obtain ⟨⟨⟨⟨c1, c2⟩, ks⟩, k1⟩, k2⟩ := hk
      split at h
      · rename_i hv
        obtain ⟨n, hn, e⟩ := List.mem_map.mp hv
        have hkey := List.all_eq_true.mp ks n hn
        rw [e] at hkey
        split at hkey
        · rename_i t1 ht1
          exact ⟨t1, ht1, en_arr X 3 hkey (ihx.1 c1 _ k env w o h k1 ho)⟩
        · cases hkey
      · exact ihy.2 c2 q k v env w o h k2 ho
  | .op (.op (.op (.op (.var t) raw) x) y) z => by
    have ihy := ee_QS X y
    have ihz := ee_QS X z
    refine ⟨fun hc pc k env w o h hk ho => ?_, fun hc => (by simp [ee_isC] at hc)⟩
    by_cases e2 : t = 2
    · subst e2
      simp only [ee_evS] at h
      obtain ⟨t1, f1, e1, hy1, hk⟩ : ∃ t f en, ee_ok cc oc x pc 0 = some [t, f, en] ∧ (!ee_isC y && !ee_isC z && ee_arr cc 3 t (ee_n (ee_l raw)) && ee_arr cc 3 f (ee_n (ee_r raw)) && ee_okS cc oc y (ee_n (ee_l raw)) k && ee_okS cc oc z (ee_n (ee_r raw)) k) = true := by
        simp only [ee_okS] at hk
        exact ee_m3 (F := fun t f => !ee_isC y && !ee_isC z && ee_arr cc 3 t (ee_n (ee_l raw)) && ee_arr cc 3 f (ee_n (ee_r raw)) && ee_okS cc oc y (ee_n (ee_l raw)) k && ee_okS cc oc z (ee_n (ee_r raw)) k) hk
      simp only [Bool.and_eq_true, Bool.not_eq_true'] at hk
      obtain ⟨⟨⟨⟨⟨c1, c2⟩, a1⟩, a2⟩, k1⟩, k2⟩ := hk
      split at h
      · cases h
      · rename_i vs w1 hxe
        obtain ⟨b, hb, hkb⟩ := (ee_PE X x pc 0 env w vs w1 [] hxe (Nat.le_refl _)).2.1 _ _ _ hy1
        rw [hb] at h
        cases b with
        | true => exact hkb (en_arr X 3 a1 (ihy.1 c1 _ k env w1 o h k1 ho))
        | false => exact hkb (en_arr X 3 a2 (ihz.1 c2 _ k env w1 o h k2 ho))
    · have h1 : ee_evS es_sh es_rf C (.op (.op (.op (.op (.var t) raw) x) y) z) = ee_s3 es_sh es_rf t raw (ee_ev es_sh es_rf C x) (ee_ev es_sh es_rf C y) (ee_ev es_sh es_rf C z) := by
        simp only [ee_evS]
      have h2 : ee_okS cc oc (.op (.op (.op (.op (.var t) raw) x) y) z) = ee_k3 cc t raw (ee_ok cc oc x) (ee_ok cc oc y) (ee_ok cc oc z) := by
        simp only [ee_okS]
      rw [h1] at h
      rw [h2] at hk
      exact ee_Q3 X t raw _ _ _ _ _ _ (ee_PE X x) (ee_PE X y) (ee_PE X z) pc k env w o h hk ho
  | .op (.op (.op (.op (.op _ _) _) _) _) _ => ⟨fun _ pc k env w o h => (by cases h), fun hc => (by simp [ee_isC] at hc)⟩
end ES2
