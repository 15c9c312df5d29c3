/-! the world that constructors made is the abstract world -/
section CONV
variable {sz : Nat} {ca ad : Nat → Nat} {w : ee_W}
theorem cn_got : ∃ (r fcs : List cn_C) (n1 s1 pc n2 s2 : Nat), cn_c1 = some (r, n1, s1) ∧ r.length = 236 ∧ n1 ≤ 1000 ∧ s1 ≤ 100000 ∧ cn_m0 r = some (pc, [some (.ref 236)], [], fcs, n2, s2) ∧ fcs.length = 249 ∧ n2 ≤ 1000 ∧ s2 ≤ 100000 ∧ ∀ h, h < 249 → cn_ck fcs h = true := by
  have h := cn_isgood
  unfold cn_good at h
  generalize e1 : cn_c1 = c1 at h ⊢
  generalize e0 : cn_m0 = m0 at h ⊢
  clear e1 e0
  split at h
  · cases h
  · rename_i r
    obtain ⟨r, n1, s1⟩ := r
    simp only [Bool.and_eq_true, beq_iff_eq, decide_eq_true_eq] at h
    obtain ⟨h1, h2, h3, h4⟩ := h
    split at h4
    · cases h4
    · rename_i z hz
      obtain ⟨pc, env, st, fcs, n2, s2⟩ := z
      simp only [Bool.and_eq_true, beq_iff_eq, decide_eq_true_eq, List.all_eq_true, List.mem_range] at h4
      obtain ⟨g1, g2, g3, g4, g5⟩ := h4
      split at g1
      · rename_i q
        rw [beq_iff_eq] at g1
        subst g1
        exact ⟨r, fcs, n1, s1, pc, n2, s2, rfl, h1, h2, h3, hz, g2, g3, g4, g5⟩
      · cases g1
set_option maxRecDepth 100000 in
theorem cn_rfL : es_rfL.all (fun l => l.all (fun q => decide (q.2 < 249))) = true := by decide +kernel
set_option maxRecDepth 100000 in
theorem cn_rfA : (List.range 249).all (fun h => if 3 ≤ (es_sh h).1 ∧ (es_sh h).1 < 8 then (es_rfL.getD h []).all (fun q => decide (q.1 < (es_sh h).2)) else true) = true := by decide +kernel
theorem cn_rf_lt {h k g : Nat} (e : es_rf h k = some g) : g < 249 := by
  unfold es_rf at e
  obtain ⟨q, hq, rfl⟩ := Option.map_eq_some_iff.mp e
  have h1 := List.mem_of_find?_eq_some hq
  have h2 : es_rfL.getD h [] ∈ es_rfL ∨ es_rfL.getD h [] = [] := by
    rw [List.getD_eq_getElem?_getD]
    cases e2 : es_rfL[h]? with
    | none => right; rfl
    | some x => left; exact List.mem_of_getElem? e2
  rcases h2 with h2 | h2
  · have := List.all_eq_true.mp (List.all_eq_true.mp cn_rfL _ h2) q h1
    exact of_decide_eq_true this
  · rw [h2] at h1
    cases h1
theorem cn_rf_no {h k : Nat} (hh : h < 249) (h3 : 3 ≤ (es_sh h).1 ∧ (es_sh h).1 < 8) (hk : (es_sh h).2 ≤ k) : es_rf h k = none := by
  have h1 := List.all_eq_true.mp cn_rfA h (List.mem_range.mpr hh)
  rw [if_pos h3] at h1
  unfold es_rf
  rw [Option.map_eq_none_iff, List.find?_eq_none]
  intro q hq e
  have h2 := of_decide_eq_true (List.all_eq_true.mp h1 q hq)
  rw [beq_iff_eq] at e
  omega
theorem cn_cell {h k0 n0 : Nat} {fs : List Value} (hh : h < 249) (had : ∀ g, g < 249 → ad g = sz + cn_p g) (w1 : ∀ k, w.1 h k = cn_i0 h k) (w2 : ∀ k, w.2.1 h k = 0)
    (hc : (if (es_sh h).1 < 3 then k0 == (es_sh h).1 && n0 == (es_sh h).2
    else if (es_sh h).1 < 8 then k0 == (es_sh h).1 && (n0 == (es_sh h).2 && (fs.length == n0 && (List.range n0).all (fun i => match fs[i]?, es_rf h i with
      | some (.ref p), some g => p == cn_p g
      | _, _ => false)))
    else k0 == (es_sh h).1 && (fs.length == es_nf (k0 - 10) && (List.range (es_nf (k0 - 10))).all (fun j => match es_fty (k0 - 10) j, fs[j]? with
      | 0, some (.int x) => x == cn_i0 h j
      | 3, some (.int x) => x == cn_i0 h j
      | 1, some (.long x) => x == 0
      | 2, some (.ref p) => (match es_rf h j with
        | some g => p == cn_p g
        | none => false)
      | _, _ => false))) = true) : cn_v sz ca (k0, n0, fs) = ee_cell ad ca w h := by
  unfold ee_cell
  by_cases h8 : (es_sh h).1 < 8
  · rw [if_pos h8]
    by_cases h3 : (es_sh h).1 < 3
    · rw [if_pos h3, Bool.and_eq_true, beq_iff_eq, beq_iff_eq] at hc
      obtain ⟨rfl, rfl⟩ := hc
      unfold cn_v
      rw [if_pos h8]
      have e1 : w.1 h = fun _ => 0 := by
        funext k
        rw [w1 k]
        unfold cn_i0
        have : (es_sh h).1 = 0 ∨ (es_sh h).1 = 1 ∨ (es_sh h).1 = 2 := by omega
        rcases this with e | e | e <;> rw [e] <;> rfl
      have e2 : w.2.1 h = fun _ => 0 := funext w2
      rw [e1, e2]
      have : (es_sh h).1 = 0 ∨ (es_sh h).1 = 1 ∨ (es_sh h).1 = 2 := by omega
      rcases this with e | e | e <;> simp only [e]
    · rw [if_neg h3, if_pos h8, Bool.and_eq_true, Bool.and_eq_true, Bool.and_eq_true, beq_iff_eq, beq_iff_eq, beq_iff_eq] at hc
      obtain ⟨rfl, rfl, hl, ha⟩ := hc
      unfold cn_v
      rw [if_pos h8]
      have key : (fun k => match fs[k]? with
          | some (.ref i) => some (sz + i)
          | _ => none) = (fun k => (es_rf h k).map ad) := by
        funext k
        by_cases hk : k < (es_sh h).2
        · have := List.all_eq_true.mp ha k (List.mem_range.mpr hk)
          split at this
          · rename_i p g e1 e2
            rw [beq_iff_eq] at this
            rw [e1, e2, this]
            show some (sz + cn_p g) = some (ad g)
            rw [had g (cn_rf_lt e2)]
          · cases this
        · rw [List.getElem?_eq_none (by omega), cn_rf_no hh ⟨by omega, h8⟩ (by omega)]
          rfl
      have : (es_sh h).1 = 3 ∨ (es_sh h).1 = 4 ∨ (es_sh h).1 = 5 ∨ (es_sh h).1 = 6 ∨ (es_sh h).1 = 7 := by omega
      rcases this with e | e | e | e | e <;> simp only [e] <;> exact congrArg (fun f => Sum.inl (_, _, Sum.inr (Sum.inr (Sum.inr (Sum.inr f))))) key
  · rw [if_neg h8]
    rw [if_neg (by omega), if_neg h8, Bool.and_eq_true, Bool.and_eq_true, beq_iff_eq, beq_iff_eq] at hc
    obtain ⟨rfl, hl, ha⟩ := hc
    unfold cn_v
    rw [if_neg h8]
    refine congrArg (fun x => Sum.inr (_, x)) ?_
    apply List.ext_getElem?
    intro j
    by_cases hj : j < es_nf ((es_sh h).1 - 10)
    · have h1 := List.all_eq_true.mp ha j (List.mem_range.mpr hj)
      rw [List.getElem?_map, List.getElem?_map, List.getElem?_range hj, Option.map_some]
      split at h1
      · rename_i x e1 e2
        rw [beq_iff_eq] at h1
        rw [e2, e1, h1, ← w1 j]
        rfl
      · rename_i x e1 e2
        rw [beq_iff_eq] at h1
        rw [e2, e1, h1, ← w1 j]
        rfl
      · rename_i x e1 e2
        rw [beq_iff_eq] at h1
        rw [e2, e1, h1, ← w2 j]
        rfl
      · rename_i p e1 e2
        split at h1
        · rename_i g e3
          rw [beq_iff_eq] at h1
          rw [e2, e1]
          show some (Value.ref (sz + p)) = some (ee_tr ad (ee_rv (es_rf h j)))
          rw [e3, h1, ← had g (cn_rf_lt e3)]
          rfl
        · cases h1
      · cases h1
    · rw [List.getElem?_eq_none (by rw [List.length_map]; show fs.length ≤ j; omega), List.getElem?_eq_none (by rw [List.length_map, List.length_range]; omega)]
theorem cn_conv {D : va_G} {H : Heap} {fcs : List cn_C} (hck : ∀ h, h < 249 → cn_ck fcs h = true) (had : ∀ g, g < 249 → ad g = sz + cn_p g) (w1 : ∀ h k, w.1 h k = cn_i0 h k) (w2 : ∀ h k, w.2.1 h k = 0) (hP : va_P D es_cl (cn_w sz ca fcs) H) : va_P D es_cl (ee_ws ad ca w) H := by
  intro k q hk
  obtain ⟨hk2, rfl⟩ := ee_ws_in hk
  have hc := hck k hk2
  unfold cn_ck at hc
  split at hc
  · cases hc
  · rename_i k0 n0 fs hat
    have he := cn_w_at (sz := sz) (ca := ca) hat
    rw [cn_cell (ad := ad) (w := w) hk2 had (w1 k) (w2 k) hc, ← had k hk2] at he
    exact hP _ _ he
end CONV
