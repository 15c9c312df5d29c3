/-- from the entry, for every script of at most 3072 ints, the law comes to its end with true -/
theorem whole_start {p : Program} {e : Env} {s : State} {m : MethodId} {below : List Frame} {meth : Method} {c : Code} (l : Launch) (hflags : l.flags = flags0) {b L : Nat} {xs : Nat → Int32} (hL : L ≤ 3072) (C0 : lw_At p s m meth c b L xs) : W p l e room_1 s m #[Value.ref b] below meth c s.heap [] 0 0 (lw_Z below #[Value.ref b] s) (entryFrame m ([Value.ref b] : List Value).toArray 4) := by
  obtain ⟨hx, hb, hr, hml, hown, hts, hX, hbl, hlocks, hgv⟩ := C0
  have hbig : ∀ w ∈ es_big, w.before #[Value.ref b] s = true := fun w hw => hts w (List.mem_filter.mp hw).1
  have hown : s.vm.findClass (es_own 9) = some m.cls := hown
  obtain ⟨D, hD⟩ := whole_known hbig
  obtain ⟨ca, hca⟩ := whole_arrs hts
  have hK : va_K D es_cl (ee_tys ca) s := ⟨hD, hca⟩
  have hNw := whole_nw hts
  have hO1 : va_AO "HeadServo$Head" s := va_AO.of (hts _ whole_o1)
  have hO2 : va_AO "HeadServo$Text" s := va_AO.of (hts _ whole_o2)
  obtain ⟨qS, adV, t1, t2, t3, t4⟩ := whole_str hts hgv
  obtain ⟨r, fcs, n1, s1, pc, n2, s2, g1, g2, g3, g4, g5, g6, g7, g8, g9⟩ := cn_got
  obtain ⟨ad, had, h249, h250⟩ : ∃ ad : Nat → Nat, (∀ g, g < 249 → ad g = s.heap.size + cn_p g) ∧ ad 249 = qS ∧ ad 250 = b := ⟨fun g => if g < 249 then s.heap.size + cn_p g else if g = 249 then qS else b, fun g hg => if_pos hg, rfl, rfl⟩
  have hStr : ee_St ad adV (fun q => s.heap.size ≤ q) s s.heap := by
    have e : ad es_NC = qS := h249
    unfold ee_St
    rw [e]
    exact ⟨t1, t2, hNw, t3, t4⟩
  have hSc : ee_Sc ad (L, xs) (fun q => s.heap.size ≤ q) s s.heap := by
    have e : ad (es_NC + 1) = b := h250
    unfold ee_Sc
    rw [e]
    exact ⟨hX, hbl, by show ¬ s.heap.size ≤ b; omega⟩
  have hlv := ee_lv_entry ad [.ref 250] 4 (by decide)
  have e250 : ([.ref 250] : List Value).map (ee_tr ad) = [.ref b] := by
    show [Value.ref (ad 250)] = _
    rw [h250]
  rw [e250] at hlv
  rw [lg_entry_eq]
  generalize (lg_sl [Value.ref b] ++ List.replicate (4 - (lg_sl [Value.ref b]).length) Slot.unset).toArray = ls at hlv ⊢
  have hlv : ee_lv ad ls 4 [some (.ref 250), none, none, none] := hlv
  have hP0 : va_P D es_cl (cn_w s.heap.size ca []) s.heap := fun k q h => by simp [cn_w] at h
  refine cn_newR (A := fun q => s.heap.size ≤ q) (sz := s.heap.size) (ca := ca) (cs := []) (oc := 9) (i := 7) (c0 := 0) hx hb hown hbig hK (by decide +kernel) (by decide) hP0 rfl va_S.rf (by decide) (by decide) fun H1 hP1 hz1 hS1 => ?_
  refine lv_dup hx hb (ee_dec_ok (by decide +kernel)) rfl ?_
  have hMet0 := (cn_ev_ok l D ca s.heap.size 5 0 0 cn_c0 r n1 s1 g1).2
  refine cn_goesR (sz := s.heap.size) (A := fun q => s.heap.size ≤ q) (B := fun H2 => H2.size = s.heap.size + r.length ∧ va_P D es_cl (cn_w s.heap.size ca r) H2) hS1 (fun _ h => h) (cn_runR (nL := 4) (oc := 9) (i := 9) (mi := 0) (oc2 := 0) (f := (9, 9, 0, false, 1019)) hx hb hml hown hbig (by decide +kernel) (by decide +kernel) rfl rfl (by decide) hMet0 cn_blind (fun U hU hW => ⟨rfl, by rw [hU]; exact hz1, by rw [hU]; exact hP1, va_K.moved hW.alike hK, ee_Nw.warm hW hNw, va_AO.moved hW.alike hO1, va_AO.moved hW.alike hO2⟩) (by decide) (by decide) hlv.1 (show 1 ≤ 8 by decide) (by show 0 + 1 + n1 ≤ 600000; omega) (by show 0 + es_nf 0 + s1 ≤ 7302249; have : es_nf 0 = 11 := rfl; omega)) (fun st o t hq => ⟨hq.1, ⟨hq.2.1, hq.2.2.1⟩, hq.2.2.2⟩) fun H2 locs2 hB2 hS2 => ?_
  obtain ⟨hz2, hP2⟩ := hB2
  have e0 : Value.ref (s.heap.size + 0) = ee_tr ad (.ref 0) := by
    show _ = Value.ref (ad 0)
    rw [had 0 (by decide), show cn_p 0 = 0 from by decide]
  show W p l e room_1 s m #[Value.ref b] below meth c H2 locs2 (0 + 1 + n1) (0 + es_nf 0 + s1) (lw_Z below #[Value.ref b] s) (F0 m 7 ls [.ref (s.heap.size + 0)])
  refine lv_astore_n (k := 1) (i := 1) (nL := 4) hx hb (ee_dec_ok (by decide +kernel)) rfl (ee_lv_has hlv) (by decide) rfl (fun ls1 h1 => ?_)
  rw [e0] at h1
  have hlv1 := ee_lv_set1 (v := .ref 0) hlv rfl (by decide) h1
  refine cn_newR (A := fun q => s.heap.size ≤ q) (sz := s.heap.size) (ca := ca) (cs := r) (oc := 9) (i := 10) (c0 := 8) hx hb hown hbig hK (by decide +kernel) (by decide) hP2 hz2 hS2 (by show 0 + 1 + n1 + 1 ≤ 600000; omega) (by show 0 + es_nf 0 + s1 + es_nf 8 ≤ 7302249; have : es_nf 0 = 11 := rfl; have : es_nf 8 = 29 := rfl; omega) fun H3 hP3 hz3 hS3 => ?_
  refine lv_dup hx hb (ee_dec_ok (by decide +kernel)) rfl ?_
  rw [g2]
  have hMet1 := cn_mctor (l := l) (D := D) (ca := ca) (adV := adV) (sc := (L, xs)) g5 g9 had
  have hsub : ∀ U : State, U.heap = H3 → s.WarmedH U.vm → cn_mP D ad ca adV (L, xs) s.heap.size r ([.ref (s.heap.size + 236)] : List Value).toArray U := fun U hU hW =>
    ⟨rfl, by rw [hU]; exact hz3, by rw [hU]; exact hP3, va_K.moved hW.alike hK, ee_Nw.warm hW hNw, va_AO.moved hW.alike hO1, va_AO.moved hW.alike hO2, ⟨by rw [hU]; exact vk_S.kept (vk_S.moved hW.alike hStr.1) hS3.2.1, vk_R.warm hW hStr.2.1, ee_Nw.warm hW hStr.2.2.1, by rw [hU]; exact va_Z.kept (va_Z.moved hW.alike hStr.2.2.2.1) hS3.2.1, by rw [hU]; exact va_Zq.kept (va_Zq.moved hW.alike hStr.2.2.2.2) hS3.2.1⟩, by rw [hU]; exact ⟨va_X.kept (va_X.moved hW.alike hSc.1) (hS3.2.1 _ hSc.2.1 hSc.2.2), Nat.lt_of_lt_of_le hSc.2.1 hS3.1, hSc.2.2⟩⟩
  refine cn_goesR (sz := s.heap.size) (A := fun q => s.heap.size ≤ q) (B := fun H4 => ∃ w1, Sim w1 ∧ w1.2.2 = (L, xs) ∧ va_P D es_cl (ee_ws ad ca w1) H4) hS3 (fun _ h => h) (cn_runR (nL := 4) (oc := 9) (i := 12) (mi := 184) (oc2 := 8) (f := (9, 12, 184, false, 5057)) hx hb hml hown hbig (by decide +kernel) (by decide +kernel) rfl rfl (by decide) hMet1 cn_mblind hsub (by decide) (by decide) hlv1.1 (show 1 ≤ 8 by decide) (by show 0 + 1 + n1 + 1 + n2 ≤ 600000; omega) (by show 0 + es_nf 0 + s1 + es_nf 8 + s2 ≤ 7302249; have : es_nf 0 = 11 := rfl; have : es_nf 8 = 29 := rfl; omega)) (fun st o t hq => hq) fun H4 locs4 hB4 hS4 => ?_
  obtain ⟨w1, hSim, hw1, hP4⟩ := hB4
  have e236 : Value.ref (s.heap.size + 236) = ee_tr ad (.ref 236) := by
    show _ = Value.ref (ad 236)
    rw [had 236 (by decide), show cn_p 236 = 236 from by decide]
  refine lv_astore_n (k := 2) (i := 2) (nL := 4) hx hb (ee_dec_ok (by decide +kernel)) rfl (ee_lv_has hlv1) (by decide) rfl (fun ls2 h2 => ?_)
  rw [e236] at h2
  have hlv2 := ee_lv_set1 (v := .ref 236) hlv1 rfl (by decide) h2
  have hlv2 : ee_lv ad ls2 4 [some (.ref 250), some (.ref 0), some (.ref 236), none] := hlv2
  have hc1 : 0 + 1 + n1 + 1 + n2 ≤ 600000 := by omega
  have hc2 : 0 + es_nf 0 + s1 + es_nf 8 + s2 ≤ 7302249 := by
    have : es_nf 0 = 11 := rfl
    have : es_nf 8 = 29 := rfl
    omega
  have X : ee_X (ee_run ee_B st_run 100) code 9 (fun H locs g => W p l e room_1 s m #[Value.ref b] below meth c H locs (0 + 1 + n1 + 1 + n2) (0 + es_nf 0 + s1 + es_nf 8 + s2) (lw_Z below #[Value.ref b] s) g, m, s.heap, D, ad, ca, (fun q => s.heap.size ≤ q), 4, (L, xs)) :=
    ⟨p, l, e, room_1, s, m, #[Value.ref b], below, meth, c, _, _, _, D, ad, ca, adV, _, 4, (L, xs), 100, rfl, hx, hb, hml, hown, hbig, hK, cn_inj had, fun h hh => by rw [had h hh]; omega, fun _ hq => hq, hStr, hSc, ee_met (cn_inj had) ee_B_ok (fun d => st_hPr d) 100, by decide, by decide, hc1, hc2⟩
  obtain ⟨w2, hev, hw2⟩ := law_run st_SP (d := 100) (sc := (L, xs)) (by decide) hL hSim hw1
  refine (ee_QS X bd_law).1 rfl 16 0 _ w1 _ hev el_law ?_ H4 locs4 ls2 hP4 hS4 hlv2 hw1
  intro H5 locs5 ls5 q hP5 hS5 hw5 hd5
  have hS5 : va_S (fun q => s.heap.size ≤ q) s.heap H5 locs5 := hS5
  have hd5 : ee_rti [.int 1] (ee_dec code q) = true := hd5
  unfold ee_rti at hd5
  split at hd5
  all_goals first
    | (rename_i hz hd2; cases hz; done)
    | (rename_i x hz hd2; cases hz; exact va_forget hS5.2.2 (W.widen hc1 hc2 (lw_ret hx hb hr hlocks (ee_dec_ok hd2))))
    | (rename_i x hd2; exact va_forget hS5.2.2 (W.widen hc1 hc2 (lw_ret hx hb hr hlocks (ee_dec_ok hd2))))
    | (cases hd5; done)
