/-! a call -/
theorem es_ml_mem {oc idx : Nat} {f : Nat × Nat × Nat × Bool × Nat} (h : ee_ml oc idx = some f) : f.1 = oc ∧ f.2.1 = idx ∧ f ∈ es_ML ∧ (f.2.2.2.1 = false → es_mlw f ∈ es_big) := by
  unfold ee_ml at h
  have h1 := List.find?_some h
  have h2 := List.mem_of_find?_eq_some h
  have h3 := List.all_eq_true.mp es_ML_ok f h2
  simp only [Bool.and_eq_true, beq_iff_eq] at h1
  exact ⟨h1.1, h1.2, h2, fun hn => es_big_a h3 (by have := List.all_eq_true.mp es_ML_good f h2; rw [hn] at this; exact this)⟩
theorem es_cm_mem {mi : Nat} (h : es_CM.any (fun r => r.1 == mi) = true) : (Cond.initialized (es_m mi).1.cls) ∈ es_big ∧ ((es_m mi).2.2.2.1 = true → Cond.static (es_m mi).1 ∈ es_big) ∧ ((es_m mi).2.2.2.1 = false → Cond.instanceMethod (es_m mi).1 ∈ es_big ∧ Cond.selects (es_m mi).1.cls (es_m mi).1 (es_m mi).1 ∈ es_big) ∧ (es_m mi).2.1 ≤ 40 ∧ (es_m mi).1.cls ≠ "java/lang/invoke/MethodHandle" ∧ (es_m mi).1.cls ≠ "java/lang/invoke/VarHandle" := by
  obtain ⟨r, hr, hr2⟩ := List.any_eq_true.mp h
  rw [beq_iff_eq] at hr2
  have h3 := List.all_eq_true.mp es_CM_ok r hr
  have h4 := List.all_eq_true.mp es_CM_good r hr
  subst hr2
  simp only [es_cmw, Bool.and_eq_true, decide_eq_true_eq] at h3 h4
  refine ⟨es_big_a h3.1.1.1.1 h4.1.1.1, fun hs => ?_, fun hs => ?_, h3.1.1.2, h3.1.2, h3.2⟩
  · have := h3.1.1.1.2
    rw [hs, if_pos rfl] at this
    exact es_big_a this h4.1.1.2
  · have := h3.1.1.1.2
    rw [hs, if_neg (by decide), Bool.and_eq_true] at this
    exact ⟨es_big_a this.1 h4.1.2, es_big_of (es_sel_mem this.2) h4.2⟩
set_option maxRecDepth 100000 in
theorem es_CM_lt : es_CM.all (fun q => decide (q.1 < es_M.length)) = true := by decide +kernel
theorem es_m_code {mi : Nat} (h : es_CM.any (fun r => r.1 == mi) = true) : Cond.code (es_m mi).1 (es_bytes (es_m mi).2.2.2.2) (es_m mi).2.1 (es_m mi).2.2.1 ∈ es_big := by
  have hlt : mi < es_M.length := by
    obtain ⟨r, hr, hr2⟩ := List.any_eq_true.mp h
    rw [beq_iff_eq] at hr2
    have := List.all_eq_true.mp es_CM_lt r hr
    rw [decide_eq_true_eq, hr2] at this
    exact this
  have hm : es_m mi ∈ es_M := by
    unfold es_m
    rw [List.getD_eq_getElem?_getD, List.getElem?_eq_getElem hlt]
    exact List.getElem_mem hlt
  have h1 := List.all_eq_true.mp es_M_ok _ hm
  have h2 := List.all_eq_true.mp es_M_good _ hm
  simp only [Bool.and_eq_true] at h1
  have h3 := h1.1
  unfold es_isCode at h3
  unfold es_bytes
  split at h3
  · rename_i x b n r hv
    simp only [Bool.and_eq_true, decide_eq_true_eq] at h3
    obtain ⟨⟨e1, e2⟩, e3⟩ := h3
    rw [hv] at h2
    simp only at h2
    rw [← e1, ← e2, ← e3]
    exact es_big_of (List.mem_append_right _ (es_tb_mem (List.mem_of_getElem? hv))) h2
  · cases h3
section EC
variable {C : Nat → List Value → ee_W → Option (List Value × ee_W)} {cc : ByteArray} {oc : Nat} {G : ee_G} {pc : Nat} {env : ee_E} {st : List Value} {w : ee_W}
theorem ee_Nw.warm {s U : State} (hW : s.WarmedH U.vm) (h : ee_Nw s) : ee_Nw U := by
  refine ⟨fun q hq hn => ?_, fun q hq hn => ?_⟩
  · have := h.1 q hq hn
    unfold es_flw at this ⊢
    dsimp only at this ⊢
    rw [hn, if_pos rfl] at this ⊢
    exact va_Nw.warmF hW this
  · have := h.2 q hq hn
    unfold es_mlw at this ⊢
    rw [hn, if_pos rfl] at this ⊢
    exact va_Nw.warmM hW this
theorem ee_Nw.same {u U : State} (hv : u.vm = U.vm) (h : ee_Nw u) : ee_Nw U := by
  refine ⟨fun q hq hn => va_Nw.same ?_ hv (h.1 q hq hn), fun q hq hn => va_Nw.same ?_ hv (h.2 q hq hn)⟩
  · unfold es_flw
    dsimp only
    rw [hn, if_pos rfl]
    rfl
  · unfold es_mlw
    rw [hn, if_pos rfl]
    rfl
theorem ee_blind {D : va_G} {ad ca adV : Nat → Nat} {sc : Nat × (Nat → Int32)} {sz : Nat} {vs : List Value} {w : ee_W} : FrameBlind (ee_Pc D ad ca adV sc sz vs w) := by
  intro a U g mk h
  obtain ⟨h0, h1, h2, h3, h4, h5, h6⟩ := h
  refine ⟨h0, h1, h2, va_K.moved (u := U) (U := U.calling g mk a) (Vm.Alike.refl U.vm) h3, ⟨vk_S.moved (u := U) (U := U.calling g mk a) (Vm.Alike.refl U.vm) h4.1, vk_R.same (u := U) (U := U.calling g mk a) rfl h4.2.1, ee_Nw.same (u := U) (U := U.calling g mk a) rfl h4.2.2.1, va_Z.moved (u := U) (U := U.calling g mk a) (Vm.Alike.refl U.vm) h4.2.2.2.1, va_Zq.moved (u := U) (U := U.calling g mk a) (Vm.Alike.refl U.vm) h4.2.2.2.2⟩, ⟨va_X.moved (u := U) (U := U.calling g mk a) (Vm.Alike.refl U.vm) h5.1, h5.2⟩, h6⟩
theorem ee_AA_sub {ad : Nat → Nat} {A : Nat → Prop} {H0 H : Heap} {locs : List Loc} (hadA : ∀ h, h < es_NC → A (ad h)) (hAs : ∀ q, H0.size ≤ q → A q) (hS : va_S A H0 H locs) : ∀ q, ee_AA ad H.size q → A q := by
  intro q h
  rcases h with ⟨k, hk, rfl⟩ | h
  · exact hadA k hk
  · exact hAs q (Nat.le_trans hS.1 h)
theorem ee_pre {D : va_G} {ad ca adV : Nat → Nat} {sc : Nat × (Nat → Int32)} {A : Nat → Prop} {s : State} {H : Heap} {locs : List Loc} {vs : List Value} {w : ee_W} (hK : va_K D es_cl (ee_tys ca) s) (hadA : ∀ h, h < es_NC → A (ad h)) (hAs : ∀ q, s.heap.size ≤ q → A q) (hStr : ee_St ad adV A s s.heap) (hSc : ee_Sc ad sc A s s.heap) (hP : va_P D es_cl (ee_ws ad ca w) H) (hS : va_S A s.heap H locs) (hw : w.2.2 = sc) :
    ∀ U : State, U.heap = H → s.WarmedH U.vm → ee_Pc D ad ca adV sc H.size vs w (vs.map (ee_tr ad)).toArray U := by
  intro U hU hW
  have hsub := ee_AA_sub hadA hAs hS
  refine ⟨rfl, by rw [hU], by rw [hU]; exact hP, va_K.moved hW.alike hK, ⟨?_, vk_R.warm hW hStr.2.1, ee_Nw.warm hW hStr.2.2.1, ?_, ?_⟩, ?_, hw⟩
  · rw [hU]
    exact vk_S.narrow (vk_S.kept (vk_S.moved hW.alike hStr.1) hS.2.1) hsub
  · rw [hU]
    exact va_Z.narrow (va_Z.kept (va_Z.moved hW.alike hStr.2.2.2.1) hS.2.1) hsub
  · rw [hU]
    exact va_Zq.narrow (va_Zq.kept (va_Zq.moved hW.alike hStr.2.2.2.2) hS.2.1) hsub
  · rw [hU]
    exact ⟨va_X.kept (va_X.moved hW.alike hSc.1) (hS.2.1 _ hSc.2.1 hSc.2.2), Nat.lt_of_lt_of_le hSc.2.1 hS.1, fun z => hSc.2.2 (hsub _ z)⟩
theorem ee_goes {p : Program} {l : Launch} {e : Env} {R : Room} {s : State} {m : MethodId} {args : Array Value} {below : List Frame} {meth : Method} {c : Code} {cells slots : Nat} {Q : State → Prop} {D : va_G} {ad ca : Nat → Nat} {sc : Nat × (Nat → Int32)} {A : Nat → Prop} {H : Heap} {locs : List Loc} {ls : Array Slot} {st0 rest : List Value} {a : Array Value} {r : List Value} {w' : ee_W}
    (hadA : ∀ h, h < es_NC → A (ad h)) (hAs : ∀ q, s.heap.size ≤ q → A q) (hS : va_S A s.heap H locs)
    (hr : va_Run p l e R s m args below meth c H locs cells slots 0 0 (F0 m pc ls st0) rest (ee_Qc D ad ca sc H.size r w' a) (ee_AA ad H.size))
    (k : ∀ (H1 : Heap) (locs1 : List Loc), va_P D es_cl (ee_ws ad ca w') H1 → va_S A s.heap H1 locs1 → w'.2.2 = sc → W p l e R s m args below meth c H1 locs1 cells slots Q (F0 m (pc + 3) ls (((r.map (ee_tr ad)).head?).toList ++ rest))) : W p l e R s m args below meth c H locs cells slots Q (F0 m pc ls st0) := by
  intro T hT X
  obtain ⟨v, st₀, t, T', L, h0, X', hL, e1, e2, ⟨hv, hPw, hsc, hz, hk⟩, st⟩ := hr T hT X
  have hsub := ee_AA_sub hadA hAs hS
  have hv : v = (r.map (ee_tr ad)).head? := by cases hv; rfl
  rw [h0] at hz hk
  obtain ⟨t2, a1, b1⟩ := k T'.heap (locs ++ L) (by rw [e1]; exact hPw) ⟨Nat.le_trans hS.1 (by rw [e1]; exact hz), fun q h1 h2 => by rw [e1, hk q (Nat.lt_of_lt_of_le h1 hS.1) (fun z => h2 (hsub q z))]; exact hS.2.1 q h1 h2, fun q hq => by
      rcases List.mem_append.mp hq with h | h
      · exact hS.2.2 q h
      · exact hsub _ (hL q h)⟩ hsc T' rfl X'
  rw [hv] at st
  exact ⟨t2, st t2 a1, b1⟩
theorem ee_cats : ∀ (st : List Value) (ad : Nat → Nat), ((st.map (ee_tr ad)).map fun v => v.category).sum ≤ 2 * st.length := by
  intro st ad
  induction st with
  | nil => exact Nat.le_refl _
  | cons v st ih =>
    simp only [List.map_cons, List.sum_cons, List.length_cons]
    have : (ee_tr ad v).category ≤ 2 := by rw [ee_tr_cat]; rcases lv_cat v with h | h <;> omega
    omega
theorem ee_goodm {mi : Nat} (h : es_CM.any (fun r => r.1 == mi) = true) : GoodIn es_big (ee_mws mi) := by
  intro w hw
  unfold ee_mws at hw
  rcases List.mem_cons.mp hw with rfl | hw
  · exact es_big_good _ (es_m_code h)
  · exact es_big_good _ hw
theorem en_call (X : ee_X C cc oc G) {mi idx : Nat} {vs r : List Value} {w' : ee_W} {f : Nat × Nat × Nat × Bool × Nat} (hC : C mi vs w = some (r, w')) (hcm : es_CM.any (fun q => q.1 == mi) = true) (hf : ee_ml oc idx = some f) (hm : f.2.2.1 = mi)
    (hd : ((es_m mi).2.2.2.1 = true ∧ ee_dec cc pc = some (.invokestatic idx, 3)) ∨ ((es_m mi).2.2.2.1 = false ∧ ee_dec cc pc = some (.invokevirtual idx, 3))) (hst : st.length ≤ 4) (k : ee_Wn G (pc + 3) env (r.reverse ++ st) w') : ee_Wn G pc env (vs.reverse ++ st) w := by
  obtain ⟨p, l, e, R, s, m, args, below, meth, c, cells, slots, Q, D, ad, ca, adV, A, nL, sc, d, rfl, hx, hb, hml, hown, hts, hK, hinj, hadA, hAs, hStr, hSc, hHM, hR1, hR2, hc1, hc2⟩ := X
  intro H locs ls hP hS hl hw
  have hP : va_P D es_cl (ee_ws ad ca w) H := hP
  have hS : va_S A s.heap H locs := hS
  have hw : w.2.2 = sc := hw
  have hl : ee_lv ad ls nL env := hl
  obtain ⟨m1, m2, m3, m4⟩ := es_ml_mem hf
  obtain ⟨n1, n2, n3, n4, n5, n6⟩ := es_cm_mem hcm
  obtain ⟨g1, g2, g3, g4⟩ := hHM mi vs w r w' hC
  have hpre := ee_pre (vs := vs) hK hadA hAs hStr hSc hP hS hw
  have hroom : 2 * (F0 m pc ls ((vs.reverse ++ st).map (ee_tr ad))).monitorRoom + ((st.map (ee_tr ad)).map fun v => v.category).sum ≤ 8 := lv_room (by have := ee_cats st ad; omega)
  have hRR : (ee_room d).frames + 1 ≤ R.frames ∧ 8 + ((es_m mi).2.1 + 11) + (ee_room d).locals ≤ R.locals := ⟨hR1, by show 8 + ((es_m mi).2.1 + 11) + 64 * d ≤ R.locals; omega⟩
  have hcs : cells + 0 ≤ R.cells ∧ slots + 0 ≤ R.slots := ⟨hc1, hc2⟩
  have hkk : ∀ (H1 : Heap) (locs1 : List Loc), va_P D es_cl (ee_ws ad ca w') H1 → va_S A s.heap H1 locs1 → w'.2.2 = sc → W p l e R s m args below meth c H1 locs1 cells slots Q (F0 m (pc + 3) ls (((r.map (ee_tr ad)).head?).toList ++ st.map (ee_tr ad))) := by
    intro H1 locs1 q1 q2 q3
    have := k H1 locs1 ls q1 q2 hl q3
    have e1 : (r.reverse ++ st).map (ee_tr ad) = ((r.map (ee_tr ad)).head?).toList ++ st.map (ee_tr ad) := by
      match r, g3 with
      | [], _ => rfl
      | [x], _ => rfl
      | _ :: _ :: _, h => simp at h
    rw [e1] at this
    exact this
  have hG := ee_goodm hcm
  rcases hd with ⟨hs, hd⟩ | ⟨hs, hd⟩
  · have hsig := g1 hs
    have hstack : ((vs.reverse ++ st).map (ee_tr ad)) = (vs.map (ee_tr ad)).reverse ++ st.map (ee_tr ad) := by simp
    cases hn : f.2.2.2.1 with
    | false =>
      have hlk := hts _ (m4 hn)
      unfold es_mlw at hlk
      rw [hn, if_neg (by decide), m1, m2, hm] at hlk
      exact ee_goes hadA hAs hS (va_runS (As := vs.map (ee_tr ad)) (rest := st.map (ee_tr ad)) (Ts := es_big) (own := es_own oc) ⟨hx, hb, hml, hown, hts⟩ (g4 H.size) ⟨callB_of (ws' := es_big) vs.length hts hG rfl rfl rfl (hts _ n1) hlk ⟨n5, n6, hsig⟩ hRR, hts _ (n2 hs)⟩ ⟨ee_blind, hpre⟩ rfl (List.length_map _) hl.1 hstack hroom (ee_dec_ok hd) hcs) hkk
    | true =>
      have hlk := hStr.2.2.1.2 f m3 hn
      unfold es_mlw at hlk
      rw [hn, if_pos rfl, m1, m2, hm] at hlk
      exact ee_goes hadA hAs hS (va_runSN (As := vs.map (ee_tr ad)) (rest := st.map (ee_tr ad)) (Ts := es_big) (own := es_own oc) ⟨hx, hb, hml, hown, hts⟩ (g4 H.size) ⟨va_cnB (ws' := es_big) vs.length hts hG rfl rfl rfl hlk (hts _ n1) ⟨n5, n6, hsig⟩ hRR, hts _ (n2 hs), trivial⟩ ⟨ee_blind, hpre⟩ rfl (List.length_map _) hl.1 hstack hroom (ee_dec_ok hd) hcs) hkk
  · obtain ⟨h, us, rfl, hsig, hrcv⟩ := g2 hs
    have hstack : (((Value.ref h :: us).reverse ++ st).map (ee_tr ad)) = (us.map (ee_tr ad)).reverse ++ .ref (ad h) :: st.map (ee_tr ad) := by simp [ee_tr]
    have hcell : ∃ cellB : Cell, H[ad h]? = some cellB ∧ cellB.vm.isStatics = false ∧ s.vm.findClass (es_m mi).1.cls = some cellB.cls := by
      rcases hrcv with ⟨r1, r2, r3⟩ | ⟨r1, r2⟩
      · have he := ee_ws_at (ad := ad) (ca := ca) (w := w) r1
        rw [ee_cell_obj (c := (es_sh h).1 - 10) (by omega)] at he
        have := va_recv hK hP (es_cl_at (es_sh_obj h r1 r2)) he
        rw [← r3]
        exact this
      · rw [r1, r2]
        exact vk_recv (i := 0) hStr.1 (by decide) hS
    cases hn : f.2.2.2.1 with
    | false =>
      have hlk := hts _ (m4 hn)
      unfold es_mlw at hlk
      rw [hn, if_neg (by decide), m1, m2, hm] at hlk
      exact ee_goes hadA hAs hS (va_runV (As := us.map (ee_tr ad)) (rest := st.map (ee_tr ad)) (Ts := es_big) (own := es_own oc) ⟨hx, hb, hml, hown, hts⟩ (g4 H.size) ⟨callB_of (ws' := es_big) us.length hts hG rfl rfl rfl (hts _ n1) hlk ⟨n5, n6, hsig⟩ hRR, hts _ (n3 hs).1, hts _ (n3 hs).2⟩ ⟨ee_blind, hcell, hpre⟩ rfl (List.length_map _) hl.1 hstack hroom (ee_dec_ok hd) hcs) hkk
    | true =>
      have hlk := hStr.2.2.1.2 f m3 hn
      unfold es_mlw at hlk
      rw [hn, if_pos rfl, m1, m2, hm] at hlk
      exact ee_goes hadA hAs hS (va_runVN (As := us.map (ee_tr ad)) (rest := st.map (ee_tr ad)) (Ts := es_big) (own := es_own oc) ⟨hx, hb, hml, hown, hts⟩ (g4 H.size) ⟨va_cnB (ws' := es_big) us.length hts hG rfl rfl rfl hlk (hts _ n1) ⟨n5, n6, hsig⟩ hRR, hts _ (n3 hs).1, hts _ (n3 hs).2⟩ ⟨ee_blind, hcell, hpre⟩ rfl (List.length_map _) hl.1 hstack hroom (ee_dec_ok hd) hcs) hkk
end EC
