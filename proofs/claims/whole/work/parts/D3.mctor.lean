/-! the reference's constructor -/
section MCT
variable {sc : Nat × (Nat → Int32)} {C : Nat → List Value → ee_W → Option (List Value × ee_W)}
def cn_tail : ee_T := s_seq 132 (s_sto 0 (n_get 8 0 2 (n_loc 0 2)) (n_int 6) (n_int 467)) (s_seq 139 (s_sto 0 (n_get 8 0 2 (n_loc 0 2)) (n_int 1) (n_int 4294967295)) (s_seq 148 (s_sto 0 (n_get 8 0 2 (n_loc 0 2)) (n_int 7) (n_int 8)) (s_seq 159 (s_exp 0 (n_call 185 (n_cons (n_get 8 0 2 (n_loc 0 2)) (n_cons (n_get 8 1 2 (n_loc 0 2)) n_nil)))) s_retv)))
set_option maxRecDepth 100000 in
theorem cn_tail_ok : ee_okS (es_bytes (es_m 184).2.2.2.2) 8 cn_tail 122 0 = true := by decide +kernel
def cn_p0 : Nat → Nat → List Value → ee_W → Option (List Value × ee_W) := fun _ _ _ _ => none
def cn_w0 (sc : Nat × (Nat → Int32)) : ee_W := (cn_i0, fun _ _ => 0, sc)
def cn_wa (sc : Nat × (Nat → Int32)) : ee_W := ee_wI (ee_wI (ee_wI (cn_w0 sc) 237 6 467) 237 1 (-1)) 237 7 8
theorem ct_0 : ([some (.ref 236)] : ee_E)[0]? = some (some (.ref 236)) := rfl
theorem ct_g0 (w : ee_W) : ee_ev es_sh es_rf C (n_get 8 0 2 (n_loc 0 2)) [some (.ref 236)] w = some ([.ref 237], w) := rfl
theorem ct_g1 (w : ee_W) : ee_ev es_sh es_rf C (n_get 8 1 2 (n_loc 0 2)) [some (.ref 236)] w = some ([.ref 238], w) := rfl
theorem ct_s6 (w : ee_W) (x : Int32) : ee_sto es_sh w 237 0 (Int32.ofNat 6) (.int x) = some (ee_wI w 237 6 x) := rfl
theorem ct_s1 (w : ee_W) (x : Int32) : ee_sto es_sh w 237 0 (Int32.ofNat 1) (.int x) = some (ee_wI w 237 1 x) := rfl
theorem ct_s7 (w : ee_W) (x : Int32) : ee_sto es_sh w 237 0 (Int32.ofNat 7) (.int x) = some (ee_wI w 237 7 x) := rfl
theorem cn_wa_a (k : Nat) : (cn_wa sc).1 237 k = cn_a0 k := by
  unfold cn_wa cn_a0
  rw [wI_at, wI_at, wI_at]
  have e : (cn_w0 sc).1 237 k = 0 := i0_a (h := 237) (n := 1369) rfl k
  rw [e]
  by_cases h1 : k = 1
  · subst h1
    rfl
  · by_cases h6 : k = 6
    · subst h6
      rfl
    · by_cases h7 : k = 7
      · subst h7
        rfl
      · rw [if_neg (fun z => h7 z.2), if_neg (fun z => h1 z.2), if_neg (fun z => h6 z.2), if_neg h1, if_neg h6, if_neg h7]
theorem cn_tail_run (sc : Nat × (Nat → Int32)) : ∃ w1, ee_evS es_sh es_rf (ee_run ee_B cn_p0 1) cn_tail 0 [some (.ref 236)] (cn_w0 sc) = some (.inr ([], w1)) ∧ Sim w1 ∧ w1.2.2 = sc := by
  obtain ⟨w1, h1, h2, h3⟩ := m_copy (P := cn_p0) (d := 1) (w := cn_wa sc) (Nat.le_refl _) (A := 237) (B := 238) (by decide) (by decide) (by decide)
  refine ⟨w1, ?_, cn_sim (fun c k c1 c2 => ?_) (fun k hk => ?_) (fun k hk => ?_), h3.2⟩
  · have hm : Int32.ofNat 4294967295 = -1 := by decide
    have h4 : Int32.ofNat 467 = 467 := rfl
    have h8 : Int32.ofNat 8 = 8 := rfl
    have h1 : ee_run ee_B cn_p0 1 185 [.ref 237, .ref 238] (ee_wI (ee_wI (ee_wI (cn_w0 sc) 237 6 467) 237 1 (-1)) 237 7 8) = some ([], w1) := h1
    unfold cn_tail
    simp only [w_seq, w_sto, ct_g0, ct_g1, v_int, ct_s6, ct_s1, ct_s7, hm, h4, h8, w_exp0, v_call, v_cons, v_nil, h1, w_retv]
  · rw [h3.1 c k c2]
    unfold cn_wa
    rw [wI_at, wI_at, wI_at, if_neg (fun z => c1 z.1), if_neg (fun z => c1 z.1), if_neg (fun z => c1 z.1)]
    rfl
  · rw [h3.1 237 k (show ¬ 237 = 238 by decide), cn_wa_a]
  · rw [h2 k hk, cn_wa_a]
end MCT
section MCM
variable {l : Launch} {D : va_G} {ad ca adV : Nat → Nat} {sc : Nat × (Nat → Int32)} {sz : Nat} {r fcs : List cn_C}
def cn_mP (D : va_G) (ad ca adV : Nat → Nat) (sc : Nat × (Nat → Int32)) (sz : Nat) (r : List cn_C) : Array Value → State → Prop := va_Pc [.ref (sz + 236)] (fun U => U.heap.size = sz + (r ++ [(18, 0, cn_def 8)]).length ∧ va_P D es_cl (cn_w sz ca (r ++ [(18, 0, cn_def 8)])) U.heap ∧ va_K D es_cl (ee_tys ca) U ∧ ee_Nw U ∧ va_AO "HeadServo$Head" U ∧ va_AO "HeadServo$Text" U ∧ ee_St ad adV (fun q => sz ≤ q) U U.heap ∧ ee_Sc ad sc (fun q => sz ≤ q) U U.heap)
def cn_mQ (D : va_G) (ad ca : Nat → Nat) (sc : Nat × (Nat → Int32)) (sz : Nat) : Array Value → State → Outcome → State → Prop := fun _ st o t => o = .returned none ∧ (∃ w1, Sim w1 ∧ w1.2.2 = sc ∧ va_P D es_cl (ee_ws ad ca w1) t.heap) ∧ va_F (fun q => sz ≤ q) st t
theorem cn_mblind : FrameBlind (cn_mP D ad ca adV sc sz r) := by
  intro a U g mk h
  obtain ⟨h0, h1, h2, h3, h4, h5, h6, h7, h8⟩ := h
  exact ⟨h0, h1, h2, va_K.moved (u := U) (U := U.calling g mk a) (Vm.Alike.refl U.vm) h3, ee_Nw.same (u := U) (U := U.calling g mk a) rfl h4, va_AO.moved (u := U) (U := U.calling g mk a) (Vm.Alike.refl U.vm) h5, va_AO.moved (u := U) (U := U.calling g mk a) (Vm.Alike.refl U.vm) h6, ⟨vk_S.moved (u := U) (U := U.calling g mk a) (Vm.Alike.refl U.vm) h7.1, vk_R.same (u := U) (U := U.calling g mk a) rfl h7.2.1, ee_Nw.same (u := U) (U := U.calling g mk a) rfl h7.2.2.1, va_Z.moved (u := U) (U := U.calling g mk a) (Vm.Alike.refl U.vm) h7.2.2.2.1, va_Zq.moved (u := U) (U := U.calling g mk a) (Vm.Alike.refl U.vm) h7.2.2.2.2⟩, va_X.moved (u := U) (U := U.calling g mk a) (Vm.Alike.refl U.vm) h8.1, h8.2⟩
theorem cn_inj (had : ∀ g, g < 249 → ad g = sz + cn_p g) : ∀ i j, i < es_NC → j < es_NC → ad i = ad j → i = j := by
  intro i j hi hj e
  have hi : i < 249 := hi
  have hj : j < 249 := hj
  rw [had i hi, had j hj] at e
  exact cn_p_inj i hi j hj (by omega)
theorem cn_M184 : (184, 8) ∈ cn_M := by decide
theorem cn_mctor {pc n2 s2 : Nat} (hrun : cn_m0 r = some (pc, [some (.ref 236)], [], fcs, n2, s2)) (hck : ∀ h, h < 249 → cn_ck fcs h = true) (had : ∀ g, g < 249 → ad g = sz + cn_p g) : Met l (es_m 184).1 (ee_mws 184) (cn_R 2 n2 s2) (cn_mP D ad ca adV sc sz r) (cn_mQ D ad ca sc sz) n2 s2 (fun q => sz ≤ q) := by
  obtain ⟨c1, c2, c3, c4, c5, c6, c7, c8, c9, c10, c11⟩ := cn_M_ok _ cn_M184
  refine ee_ofW (cc := es_bytes (es_m 184).2.2.2.2) (maxL := (es_m 184).2.1) (ret := (es_m 184).2.2.1) (ws' := es_big) c3 rfl ?_
  intro p e s m args below meth c s₁ B1 hml hv
  obtain ⟨rfl, hsz, hP, hK, hNw, hO1, hO2, hStr, hSc⟩ := hv
  have hts := atoms_spec (ws := ee_mws 184) B1.pre
  have hown : s.vm.findClass (es_m 184).1.cls = some m.cls := findClass_of_methodNamed B1.named
  have hin : meth.name = "<init>" := (name_of_methodNamed B1.named B1.method).1.trans c4
  have hlocks : meth.locks = false := B1.notSynchronized
  have hret : meth.sig.returnType = none := B1.returns.trans c8
  rw [lg_entry_eq]
  have X : cn_X (cn_ev 0) (es_bytes (es_m 184).2.2.2.2) 8 (fun H locs nc ns g => W p l e (cn_R 2 n2 s2) s m ([Value.ref (sz + 236)] : List Value).toArray below meth c H locs nc ns (MQ below (cn_mQ D ad ca sc sz) ([Value.ref (sz + 236)] : List Value).toArray s n2 s2 (fun q => sz ≤ q)) g, m, s.heap, D, ca, (fun q => sz ≤ q), (es_m 184).2.1, sz, n2, s2) :=
    ⟨p, l, e, cn_R 2 n2 s2, s, m, _, below, meth, c, _, D, ca, _, (es_m 184).2.1, sz, 0, rfl, B1.exec, B1.bytes, hml, by rw [c5]; exact hown, fun w hw => hts w (List.mem_cons_of_mem _ hw), hK, fun _ h => h, by rw [hsz]; omega, hNw, hO1, hO2, cn_ev_ok l D ca sz 0, by show 0 + 1 ≤ 2; omega, by show 64 * 0 + 64 ≤ 64 * 2; omega, hin⟩
  obtain ⟨t1, t2, t3⟩ := cn_tabs cn_M184
  obtain ⟨b1, b2, b3, b4⟩ := cn_run_ok X t1 t2 t3 1000 _ _ hrun
  have b1 : pc = 122 := b1
  subst b1
  have hn1 : (es_m 184).2.1 = 1 := by decide +kernel
  have hcenv := cn_env (sz := sz) (q := 236) c7
  rw [hn1] at hcenv
  refine b4 (Nat.le_refl _) (Nat.le_refl _) ?_ s.heap [] _ hP hsz va_S.rf (by rw [hn1]; exact hcenv)
  intro H locs ls hP2 hz2 hS2 hl2
  have hS2 : va_S (fun q => sz ≤ q) s.heap H locs := hS2
  have hl2 : ee_lv (fun i => sz + i) ls (es_m 184).2.1 [some (.ref 236)] := hl2
  obtain ⟨w1, g1, g2, g3⟩ := cn_tail_run sc
  have hP3 : va_P D es_cl (ee_ws ad ca (cn_w0 sc)) H := cn_conv hck had (fun _ _ => rfl) (fun _ _ => rfl) hP2
  have h236 : ad 236 = sz + 236 := by
    rw [had 236 (by decide), show cn_p 236 = 236 from by decide]
  have hl3 : ee_lv ad ls (es_m 184).2.1 [some (.ref 236)] := ⟨hl2.1, hl2.2.1, hl2.2.2.1, fun i v hi => by
    have h1 := hl2.2.2.2 i v hi
    match i, hi with
    | 0, hi =>
      cases hi
      rw [h1]
      show some (Slot.val (.ref (sz + 236))) = some (Slot.val (.ref (ad 236)))
      rw [h236]⟩
  have X2 : ee_X (ee_run ee_B cn_p0 1) (es_bytes (es_m 184).2.2.2.2) 8 (fun H locs g => W p l e (cn_R 2 n2 s2) s m ([Value.ref (sz + 236)] : List Value).toArray below meth c H locs n2 s2 (MQ below (cn_mQ D ad ca sc sz) ([Value.ref (sz + 236)] : List Value).toArray s n2 s2 (fun q => sz ≤ q)) g, m, s.heap, D, ad, ca, (fun q => sz ≤ q), (es_m 184).2.1, sc) :=
    ⟨p, l, e, cn_R 2 n2 s2, s, m, _, below, meth, c, n2, s2, _, D, ad, ca, adV, _, (es_m 184).2.1, sc, 1, rfl, B1.exec, B1.bytes, hml, by rw [c5]; exact hown, fun w hw => hts w (List.mem_cons_of_mem _ hw), hK, cn_inj had, fun h hh => by rw [had h hh]; omega, fun q hq => by rw [hsz] at hq; omega, hStr, hSc,
      ee_met (cn_inj had) ee_B_ok (fun d mi vs w r w' h => by
        have h : (if ee_B mi = none then cn_p0 (d + 1) mi vs w else none) = some (r, w') := h
        split at h <;> cases h) 1, by show 1 + 1 ≤ 2; omega, by show 64 * 1 + 64 ≤ 64 * 2; omega, Nat.le_refl _, Nat.le_refl _⟩
  refine (ee_QS X2 cn_tail).1 rfl 122 0 [some (.ref 236)] (cn_w0 sc) _ g1 cn_tail_ok ?_ H locs ls hP3 hS2 hl3 rfl
  intro H4 locs4 ls4 q hP4 hS4 hw4 hd4
  have hP4 : va_P D es_cl (ee_ws ad ca w1) H4 := hP4
  have hS4 : va_S (fun q => sz ≤ q) s.heap H4 locs4 := hS4
  have hd4 : ee_rti [] (ee_dec (es_bytes (es_m 184).2.2.2.2) q) = true := hd4
  unfold ee_rti at hd4
  split at hd4
  all_goals first
    | (rename_i hz hd2; cases hz; done)
    | (rename_i hd2; exact W.vret B1.exec B1.bytes hret (fun t ht _ => ⟨rfl, ⟨w1, g2, g3, by rw [ht]; exact hP4⟩, va_S.F hS4 ht⟩) hS4.2.2 (ee_dec_ok hd2) hlocks)
    | (cases hd4; done)
end MCM
