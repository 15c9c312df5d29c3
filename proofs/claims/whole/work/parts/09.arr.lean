/-! rows of arrays, constants, copies -/
section EA
variable {C : Nat → List Value → ee_W → Option (List Value × ee_W)} {cc : ByteArray} {oc : Nat} {G : ee_G} {pc : Nat} {env : ee_E} {st : List Value} {w : ee_W}
theorem ee_ix_in {i : Int32} {n : Nat} (h : ee_ix i n = true) : vp_in i n := by
  unfold ee_ix at h
  simp only [Bool.and_eq_true, decide_eq_true_eq] at h
  exact vp_in_iff.mpr h
theorem ee_tr_rv (ad : Nat → Nat) (r : Option Nat) : ee_tr ad (ee_rv r) = va_rf (r.map ad) := by cases r <;> rfl
def ee_acon (ad : Nat → Nat) (w : ee_W) (h k : Nat) : ((Nat → Int32) ⊕ (Nat → Int64) ⊕ (Nat → UInt32) ⊕ (Nat → UInt64) ⊕ (Nat → Option Nat)) := match k with
    | 0 => .inl (w.1 h)
    | 1 => .inl (w.1 h)
    | 2 => .inr (.inl (w.2.1 h))
    | _ => .inr (.inr (.inr (.inr (fun k => (es_rf h k).map ad))))
theorem ee_cell_a {ad ca : Nat → Nat} {w : ee_W} {h k : Nat} (hk : (es_sh h).1 = k) (h8 : k < 8) : ee_cell ad ca w h = .inl (ca k, (es_sh h).2, ee_acon ad w h k) := by
  subst hk
  unfold ee_cell
  rw [if_pos h8]
  rfl
theorem en_elt (X : ee_X C cc oc G) {h ty : Nat} {i : Int32} (hsh : (es_sh h).1 = ty) (hi : ee_ix i (es_sh h).2 = true) (hd : (ty = 0 ∧ ee_dec cc pc = some (.iaload, 1)) ∨ (ty = 1 ∧ ee_dec cc pc = some (.baload, 1)) ∨ (ty = 2 ∧ ee_dec cc pc = some (.laload, 1)) ∨ ((ty = 3 ∨ ty = 4) ∧ ee_dec cc pc = some (.aaload, 1))) (k : ee_Wn G (pc + 1) env (ee_elt es_rf w h ty i :: st) w) : ee_Wn G pc env (.int i :: .ref h :: st) w := by
  obtain ⟨p, l, e, R, s, m, args, below, meth, c, cells, slots, Q, D, ad, ca, adV, A, nL, sc, d, rfl, hx, hb, hml, hown, hts, hK, hinj, hadA, hAs, hStr, hSc, hHM, hR1, hR2, hc1, hc2⟩ := X
  intro H locs ls hP hS hl hw
  have hP : va_P D es_cl (ee_ws ad ca w) H := hP
  have hk := k H locs ls hP hS hl hw
  have h5 : ty < 8 := by rcases hd with ⟨q, -⟩ | ⟨q, -⟩ | ⟨q, -⟩ | ⟨q, -⟩ <;> omega
  have hh : h < es_NC := es_sh_in (Or.inl (by omega))
  have he := ee_ws_at (ad := ad) (ca := ca) (w := w) hh
  rw [ee_cell_a hsh h5] at he
  rcases hd with ⟨rfl, hd⟩ | ⟨rfl, hd⟩ | ⟨rfl, hd⟩ | ⟨q, hd⟩
  · exact va_iald hx hb hK hP h 0 he rfl (ee_ix_in hi) (ee_dec_ok hd) hk
  · exact va_zald hx hb hK hP h 1 he rfl (ee_ix_in hi) (ee_dec_ok hd) hk
  · exact va_lald hx hb hK hP h 2 he rfl (ee_ix_in hi) (ee_dec_ok hd) hk
  · rcases q with rfl | rfl
    · refine va_aldq hx hb hK hP h 3 he rfl (ee_ix_in hi) (ee_dec_ok hd) ?_
      rw [← ee_tr_rv]
      exact hk
    · refine va_aldq hx hb hK hP h 4 he rfl (ee_ix_in hi) (ee_dec_ok hd) ?_
      rw [← ee_tr_rv]
      exact hk
theorem en_alen (X : ee_X C cc oc G) {h : Nat} (hsh : (es_sh h).1 < 8) (hd : ee_dec cc pc = some (.arraylength, 1)) (k : ee_Wn G (pc + 1) env (.int (Int32.ofNat (es_sh h).2) :: st) w) : ee_Wn G pc env (.ref h :: st) w := by
  obtain ⟨p, l, e, R, s, m, args, below, meth, c, cells, slots, Q, D, ad, ca, adV, A, nL, sc, d, rfl, hx, hb, hml, hown, hts, hK, hinj, hadA, hAs, hStr, hSc, hHM, hR1, hR2, hc1, hc2⟩ := X
  intro H locs ls hP hS hl hw
  have hP : va_P D es_cl (ee_ws ad ca w) H := hP
  have hk := k H locs ls hP hS hl hw
  have hh : h < es_NC := es_sh_in (Or.inl hsh)
  have he := ee_ws_at (ad := ad) (ca := ca) (w := w) hh
  have h5 : (es_sh h).1 < 5 := by rcases es_sh_arr h hh with q | q <;> omega
  rw [ee_cell_a rfl hsh] at he
  rcases (by omega : (es_sh h).1 = 0 ∨ (es_sh h).1 = 1 ∨ (es_sh h).1 = 2 ∨ (es_sh h).1 = 3 ∨ (es_sh h).1 = 4) with q | q | q | q | q
  · exact va_alen hx hb hK hP h 0 he (by rw [q]; rfl) rfl (ee_dec_ok hd) hk
  · exact va_alen hx hb hK hP h 1 he (by rw [q]; rfl) rfl (ee_dec_ok hd) hk
  · exact va_alen hx hb hK hP h 2 he (by rw [q]; rfl) rfl (ee_dec_ok hd) hk
  · exact va_alen hx hb hK hP h 3 he (by rw [q]; rfl) rfl (ee_dec_ok hd) hk
  · exact va_alen hx hb hK hP h 4 he (by rw [q]; rfl) rfl (ee_dec_ok hd) hk
theorem ee_cell_eq {ad ca : Nat → Nat} {w w' : ee_W} {h : Nat} (h1 : w'.1 h = w.1 h) (h2 : w'.2.1 h = w.2.1 h) : ee_cell ad ca w' h = ee_cell ad ca w h := by
  have k3 : ∀ j ty, ee_fld es_rf w' h j ty = ee_fld es_rf w h j ty := by
    intro j ty
    unfold ee_fld
    rw [h1, h2]
  unfold ee_cell
  rw [h1, h2]
  simp only [k3]
theorem en_sto (X : ee_X C cc oc G) {h ty : Nat} {i : Int32} {v : Value} {w' : ee_W} (hs : ee_sto es_sh w h ty i v = some w') (hd : (ty = 0 ∧ ee_dec cc pc = some (.iastore, 1)) ∨ (ty = 1 ∧ ee_dec cc pc = some (.bastore, 1)) ∨ (ty = 2 ∧ ee_dec cc pc = some (.lastore, 1))) (k : ee_Wn G (pc + 1) env st w') : ee_Wn G pc env (v :: .int i :: .ref h :: st) w := by
  obtain ⟨p, l, e, R, s, m, args, below, meth, c, cells, slots, Q, D, ad, ca, adV, A, nL, sc, d, rfl, hx, hb, hml, hown, hts, hK, hinj, hadA, hAs, hStr, hSc, hHM, hR1, hR2, hc1, hc2⟩ := X
  intro H locs ls hP hS hl hw
  have hP : va_P D es_cl (ee_ws ad ca w) H := hP
  have hS : va_S A s.heap H locs := hS
  have hw : w.2.2 = sc := hw
  unfold ee_sto at hs
  split at hs
  · rename_i hcond
    obtain ⟨hsh, hi⟩ := hcond
    have h5 : ty < 8 := by rcases hd with ⟨q, -⟩ | ⟨q, -⟩ | ⟨q, -⟩ <;> omega
    have hh : h < es_NC := es_sh_in (Or.inl (by omega))
    have he := ee_ws_at (ad := ad) (ca := ca) (w := w) hh
    rw [ee_cell_a hsh h5] at he
    have hD := ee_va_D (ca := ca) (w := w) hinj hadA
    split at hs
    · rename_i x
      cases hs
      rcases hd with ⟨-, hd⟩ | ⟨q, -⟩ | ⟨q, -⟩
      · refine va_iast hx hb hK hP hD hS h 0 he rfl (ee_ix_in hi) (ee_dec_ok hd) (fun H1 locs1 q1 q2 q3 => ?_)
        rw [ee_ws_set (w' := ee_wI w h i.toNatClampNeg x)] at q1
        · exact k H1 locs1 ls q1 q3 hl hw
        · rw [ee_cell_a hsh h5]
          have : (ee_wI w h i.toNatClampNeg x).1 h = upd (w.1 h) i.toNatClampNeg x := by
            funext j
            simp [ee_wI, ee_up, upd]
          simp only [ee_acon, this]
        · intro h' e'
          exact ee_cell_eq (by funext j; simp [ee_wI, ee_up, e']) rfl
      · cases q
      · cases q
    · rename_i x
      split at hs
      · rename_i hx01
        cases hs
        rcases hd with ⟨q, -⟩ | ⟨-, hd⟩ | ⟨q, -⟩
        · cases q
        · refine va_zast hx hb hK hP hD hS h 1 he rfl (ee_ix_in hi) (ee_dec_ok hd) (fun H1 locs1 q1 q2 q3 => ?_)
          have hnar : vp_nar .boolean x = x := by rcases hx01 with rfl | rfl <;> rfl
          rw [hnar, ee_ws_set (w' := ee_wI w h i.toNatClampNeg x)] at q1
          · exact k H1 locs1 ls q1 q3 hl hw
          · rw [ee_cell_a hsh h5]
            have : (ee_wI w h i.toNatClampNeg x).1 h = upd (w.1 h) i.toNatClampNeg x := by
              funext j
              simp [ee_wI, ee_up, upd]
            simp only [ee_acon, this]
          · intro h' e'
            exact ee_cell_eq (by funext j; simp [ee_wI, ee_up, e']) rfl
        · cases q
      · cases hs
    · rename_i x
      cases hs
      rcases hd with ⟨q, -⟩ | ⟨q, -⟩ | ⟨-, hd⟩
      · cases q
      · cases q
      · refine va_last hx hb hK hP hD hS h 2 he rfl (ee_ix_in hi) (ee_dec_ok hd) (fun H1 locs1 q1 q2 q3 => ?_)
        rw [ee_ws_set (w' := ee_wJ w h i.toNatClampNeg x)] at q1
        · exact k H1 locs1 ls q1 q3 hl hw
        · rw [ee_cell_a hsh h5]
          have : (ee_wJ w h i.toNatClampNeg x).2.1 h = vp_updL (w.2.1 h) i.toNatClampNeg x := by
            funext j
            simp [ee_wJ, ee_up, vp_updL]
          simp only [ee_acon, this]
        · intro h' e'
          exact ee_cell_eq rfl (by funext j; simp [ee_wJ, ee_up, e'])
    · cases hs
  · cases hs
theorem ee_Int32_nn {z : Int32} (h : 0 ≤ z.toInt) : ¬ z < 0 := by
  rw [Int32.lt_iff_toInt_lt]
  exact Int.not_lt.mpr h
theorem ee_clamp {z : Int32} (h : 0 ≤ z.toInt) : (z.toNatClampNeg : Int) = z.toInt := by
  show ((z.toInt.toNat : Nat) : Int) = _
  exact Int.toNat_of_nonneg h
theorem en_copy (X : ee_X C cc oc G) {a b : Nat} {sp dp n : Int32} {idx : Nat} (hd : ee_dec cc pc = some (.invokestatic idx, 3)) (hl0 : es_AC.any (fun r => r.1 == oc && r.2.1 == idx) = true) (ha : (es_sh a).1 = 0) (hb0 : (es_sh b).1 = 0) (h1 : 0 ≤ sp.toInt) (h2 : 0 ≤ dp.toInt) (h3 : 0 ≤ n.toInt) (h4 : sp.toInt + n.toInt ≤ (es_sh a).2) (h5 : dp.toInt + n.toInt ≤ (es_sh b).2) (k : ee_Wn G (pc + 3) env [] (fun c k => if c = b ∧ dp.toNatClampNeg ≤ k ∧ k < dp.toNatClampNeg + n.toNatClampNeg then w.1 a (sp.toNatClampNeg + (k - dp.toNatClampNeg)) else w.1 c k, w.2)) : ee_Wn G pc env [.int n, .int dp, .ref b, .int sp, .ref a] w := by
  obtain ⟨p, l, e, R, s, m, args, below, meth, c, cells, slots, Q, D, ad, ca, adV, A, nL, sc, d, rfl, hx, hb, hml, hown, hts, hK, hinj, hadA, hAs, hStr, hSc, hHM, hR1, hR2, hc1, hc2⟩ := X
  intro H locs ls hP hS hl hw
  have hP : va_P D es_cl (ee_ws ad ca w) H := hP
  have hS : va_S A s.heap H locs := hS
  have hw : w.2.2 = sc := hw
  have hha : a < es_NC := es_sh_in (Or.inl (by omega))
  have hhb : b < es_NC := es_sh_in (Or.inl (by omega))
  have ea := ee_ws_at (ad := ad) (ca := ca) (w := w) hha
  have eb := ee_ws_at (ad := ad) (ca := ca) (w := w) hhb
  rw [ee_cell_a ha (by omega)] at ea
  rw [ee_cell_a hb0 (by omega)] at eb
  have hD := ee_va_D (ca := ca) (w := w) hinj hadA
  obtain ⟨r, hr, hr2⟩ := List.any_eq_true.mp hl0
  simp only [Bool.and_eq_true, beq_iff_eq] at hr2
  have hlk := hts _ (es_big_a (List.all_eq_true.mp es_AC_ok r hr) (by
    have := es_K_good
    simp only [Bool.and_eq_true] at this
    exact List.all_eq_true.mp this.2 r hr))
  rw [hr2.1, hr2.2] at hlk
  have hroom : ((([] : List Value).map (ee_tr ad)).map fun v => v.category).sum + (nativeFrameWords "java/lang/System" "arraycopy" 5 + 11) ≤ R.locals := by
    have h0 : ((([] : List Value).map (ee_tr ad)).map fun v => v.category).sum = 0 := rfl
    have h7 : nativeFrameWords "java/lang/System" "arraycopy" 5 = 7 := by decide
    rw [h0, h7]
    omega
  refine va_copyi (rest := ([] : List Value).map (ee_tr ad)) hx hb (hml.trans (show nL = ls.size from hl.1.symm)) hown hlk (hts _ es_cp_1) (hts _ es_cp_2) (hts _ es_cp_3) hK hP hD hS a b 0 0 ea eb rfl rfl rfl (ee_Int32_nn h1) (ee_Int32_nn h2) (ee_Int32_nn h3) (by have := ee_clamp h1; have := ee_clamp h3; omega) (by have := ee_clamp h2; have := ee_clamp h3; omega) (fun _ _ => rfl) (by omega) hroom (ee_dec_ok hd) (fun H1 locs1 q1 q2 q3 => ?_)
  rw [ee_ws_set (w' := (fun c k => if c = b ∧ dp.toNatClampNeg ≤ k ∧ k < dp.toNatClampNeg + n.toNatClampNeg then w.1 a (sp.toNatClampNeg + (k - dp.toNatClampNeg)) else w.1 c k, w.2))] at q1
  · exact k H1 locs1 ls q1 q3 hl hw
  · rw [ee_cell_a hb0 (by omega)]
    have : (fun k => if b = b ∧ dp.toNatClampNeg ≤ k ∧ k < dp.toNatClampNeg + n.toNatClampNeg then w.1 a (sp.toNatClampNeg + (k - dp.toNatClampNeg)) else w.1 b k) = va_cpy (w.1 a) (w.1 b) sp.toNatClampNeg dp.toNatClampNeg n.toNatClampNeg := by
      funext j
      simp [va_cpy]
    exact congrArg (fun f => (Sum.inl (ca 0, (es_sh b).2, Sum.inl f) : va_E)) this
  · intro h' e'
    exact ee_cell_eq (by funext j; simp [e']) rfl
theorem en_ldc (X : ee_X C cc oc G) {i : Nat} {v : Int32} (hd : ee_dec cc pc = some (.ldc i, 2)) (hv : ee_ki oc i v = true) (k : ee_Wn G (pc + 2) env (.int v :: st) w) : ee_Wn G pc env st w := by
  obtain ⟨p, l, e, R, s, m, args, below, meth, c, cells, slots, Q, D, ad, ca, adV, A, nL, sc, d, rfl, hx, hb, hml, hown, hts, hK, hinj, hadA, hAs, hStr, hSc, hHM, hR1, hR2, hc1, hc2⟩ := X
  intro H locs ls hP hS hl hw
  obtain ⟨r, hr, hr2⟩ := List.any_eq_true.mp hv
  simp only [Bool.and_eq_true, beq_iff_eq, decide_eq_true_eq] at hr2
  have hlk := hts _ (es_big_a (List.all_eq_true.mp es_KI_ok r hr) (by
    have := es_K_good
    simp only [Bool.and_eq_true] at this
    exact List.all_eq_true.mp this.1.1 r hr))
  rw [hr2.1, hr2.2.1, hr2.2.2] at hlk
  exact lv_ldc hx hb hown hlk (ee_dec_ok hd) (k H locs ls hP hS hl hw)
theorem en_ldcw (X : ee_X C cc oc G) {i : Nat} {v : Int32} (hd : ee_dec cc pc = some (.ldc_w i, 3)) (hv : ee_ki oc i v = true) (k : ee_Wn G (pc + 3) env (.int v :: st) w) : ee_Wn G pc env st w := by
  obtain ⟨p, l, e, R, s, m, args, below, meth, c, cells, slots, Q, D, ad, ca, adV, A, nL, sc, d, rfl, hx, hb, hml, hown, hts, hK, hinj, hadA, hAs, hStr, hSc, hHM, hR1, hR2, hc1, hc2⟩ := X
  intro H locs ls hP hS hl hw
  obtain ⟨r, hr, hr2⟩ := List.any_eq_true.mp hv
  simp only [Bool.and_eq_true, beq_iff_eq, decide_eq_true_eq] at hr2
  have hlk := hts _ (es_big_a (List.all_eq_true.mp es_KI_ok r hr) (by
    have := es_K_good
    simp only [Bool.and_eq_true] at this
    exact List.all_eq_true.mp this.1.1 r hr))
  rw [hr2.1, hr2.2.1, hr2.2.2] at hlk
  exact em_ldcw hx hb hown hlk (ee_dec_ok hd) (k H locs ls hP hS hl hw)
theorem en_ldc2 (X : ee_X C cc oc G) {i : Nat} {v : Int64} (hd : ee_dec cc pc = some (.ldc2_w i, 3)) (hv : ee_kl oc i v = true) (k : ee_Wn G (pc + 3) env (.long v :: st) w) : ee_Wn G pc env st w := by
  obtain ⟨p, l, e, R, s, m, args, below, meth, c, cells, slots, Q, D, ad, ca, adV, A, nL, sc, d, rfl, hx, hb, hml, hown, hts, hK, hinj, hadA, hAs, hStr, hSc, hHM, hR1, hR2, hc1, hc2⟩ := X
  intro H locs ls hP hS hl hw
  obtain ⟨r, hr, hr2⟩ := List.any_eq_true.mp hv
  simp only [Bool.and_eq_true, beq_iff_eq, decide_eq_true_eq] at hr2
  have hlk := hts _ (es_big_a (List.all_eq_true.mp es_KL_ok r hr) (by
    have := es_K_good
    simp only [Bool.and_eq_true] at this
    exact List.all_eq_true.mp this.1.2 r hr))
  rw [hr2.1, hr2.2.1, hr2.2.2] at hlk
  exact lv_ldc2 hx hb hown hlk (ee_dec_ok hd) (k H locs ls hP hS hl hw)
theorem en_str (X : ee_X C cc oc G) {i : Nat} (hd : ee_dec cc pc = some (.ldc i, 2)) (hv : oc = es_str.1 ∧ i = es_str.2.1) (k : ee_Wn G (pc + 2) env (.ref es_NC :: st) w) : ee_Wn G pc env st w := by
  obtain ⟨p, l, e, R, s, m, args, below, meth, c, cells, slots, Q, D, ad, ca, adV, A, nL, sc, d, rfl, hx, hb, hml, hown, hts, hK, hinj, hadA, hAs, hStr, hSc, hHM, hR1, hR2, hc1, hc2⟩ := X
  intro H locs ls hP hS hl hw
  obtain ⟨rfl, rfl⟩ := hv
  exact va_ldcS hx hb hown hStr.2.1 (ee_dec_ok hd) (k H locs ls hP hS hl hw)
theorem en_slen (X : ee_X C cc oc G) {h : Nat} (hsh : (es_sh h).1 = 8) (hd : ee_dec cc pc = some (.arraylength, 1)) (k : ee_Wn G (pc + 1) env (.int (Int32.ofNat w.2.2.1) :: st) w) : ee_Wn G pc env (.ref h :: st) w := by
  obtain ⟨p, l, e, R, s, m, args, below, meth, c, cells, slots, Q, D, ad, ca, adV, A, nL, sc, d, rfl, hx, hb, hml, hown, hts, hK, hinj, hadA, hAs, hStr, hSc, hHM, hR1, hR2, hc1, hc2⟩ := X
  intro H locs ls hP hS hl hw
  have hw2 : w.2.2 = sc := hw
  have hk := k H locs ls hP hS hl hw
  have hS : va_S A s.heap H locs := hS
  rw [hw2] at hk
  rw [es_sh_scr hsh]
  exact va_slen hx hb hSc.1 hSc.2.1 hSc.2.2 hS (ee_dec_ok hd) hk
theorem en_sld (X : ee_X C cc oc G) {h : Nat} {i : Int32} (hsh : (es_sh h).1 = 8) (hi : ee_ix i w.2.2.1 = true) (hd : ee_dec cc pc = some (.iaload, 1)) (k : ee_Wn G (pc + 1) env (.int (w.2.2.2 i.toNatClampNeg) :: st) w) : ee_Wn G pc env (.int i :: .ref h :: st) w := by
  obtain ⟨p, l, e, R, s, m, args, below, meth, c, cells, slots, Q, D, ad, ca, adV, A, nL, sc, d, rfl, hx, hb, hml, hown, hts, hK, hinj, hadA, hAs, hStr, hSc, hHM, hR1, hR2, hc1, hc2⟩ := X
  intro H locs ls hP hS hl hw
  have hw2 : w.2.2 = sc := hw
  have hk := k H locs ls hP hS hl hw
  have hS : va_S A s.heap H locs := hS
  rw [hw2] at hk hi
  rw [es_sh_scr hsh]
  exact va_sld hx hb hSc.1 hSc.2.1 hSc.2.2 hS (ee_ix_in hi) (ee_dec_ok hd) hk
end EA
