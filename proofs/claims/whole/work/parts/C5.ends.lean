/-! what constructors make: fields, elements, calls -/
section CNP
variable {C : cn_F} {cc : ByteArray} {oc : Nat} {G : cn_G} {pc : Nat} {env : ee_E} {st : List Value} {cs : List cn_C} {nc ns : Nat}
def cn_rt : FieldType → Bool
  | .object _ => true
  | .array _ => true
  | _ => false
/-- what may be put into a field -/
def cn_pv (ty : FieldType) (v : Value) : Bool := match v with
  | .ref _ => cn_rt ty
  | .int x => (match ty with
    | .int => true
    | .boolean => x == 0 || x == 1
    | _ => false)
  | _ => false
theorem cn_pv_ok {ty : FieldType} {v : Value} {ad : Nat → Nat} (h : cn_pv ty v = true) : narrow ty (ee_tr ad v) = ee_tr ad v ∧ fits ty (ee_tr ad v) = true := by
  unfold cn_pv at h
  split at h
  · cases ty <;> first | (cases h; done) | exact ⟨rfl, rfl⟩
  · rename_i x
    split at h
    · exact ⟨rfl, rfl⟩
    · rw [Bool.or_eq_true, beq_iff_eq, beq_iff_eq] at h
      rcases h with rfl | rfl <;> exact ⟨rfl, rfl⟩
    · cases h
  · cases h
theorem cn_v_obj {sz : Nat} {ca : Nat → Nat} {c0 n : Nat} {fs : List Value} : cn_v sz ca (10 + c0, n, fs) = .inr (c0, fs.map (ee_tr (fun i => sz + i))) := by
  unfold cn_v
  rw [if_neg (by show ¬ 10 + c0 < 8; omega)]
  show Sum.inr (10 + c0 - 10, _) = _
  rw [Nat.add_sub_cancel_left]
theorem cn_put (X : cn_X C cc oc G) {i q n : Nat} {v : Value} {fs : List Value} {f : Nat × Nat × (Nat × Nat × Nat) × Bool × Nat} (hd : ee_dec cc pc = some (.putfield i, 3)) (hf : ee_fl oc i = some f) (hq : cs[q]? = some (10 + f.2.2.1.1, n, fs)) (ho : f.2.2.1.1 = oc) (hn : f.2.2.2.1 = false) (hl : f.2.2.1.2.1 < fs.length) (hv : cn_pv (es_ty f.2.2.1.1 f.2.2.1.2.1) v = true)
    (k : cn_Wn G (pc + 3) env st (cs.set q (10 + f.2.2.1.1, n, fs.set f.2.2.1.2.1 v)) nc ns) : cn_Wn G pc env (v :: .ref q :: st) cs nc ns := by
  obtain ⟨p, l, e, R, s, m, args, below, meth, c, Q, D, ca, A, nL, sz, d, rfl, hx, hb, hml, hown, hts, hK, hA, hsz, hNw, hO1, hO2, hHM, hR1, hR2, hin⟩ := X
  intro H locs ls hP hz hS hl0
  have hP : va_P D es_cl (cn_w sz ca cs) H := hP
  have hz : H.size = sz + cs.length := hz
  have hS : va_S A s.heap H locs := hS
  obtain ⟨f1, f2, fm, f3, f4, f5, f6⟩ := es_fl_mem hf
  have hlk := hts _ (f3 hn)
  unfold es_flw at hlk
  dsimp only at hlk
  rw [es_T_cl f6, hn, if_neg (by decide), f1, f2] at hlk
  generalize f.2.2.1.1 = c0 at *
  generalize f.2.2.1.2.1 = j0 at *
  have he := cn_w_at (sz := sz) (ca := ca) hq
  rw [cn_v_obj] at he
  obtain ⟨p1, p2⟩ := cn_pv_ok (ad := fun i => sz + i) hv
  have hcl := es_cl_at f6
  obtain ⟨r, h1, cell, q1, q2, q3, q4⟩ := hP q _ he
  have hr : r = (es_own c0, es_T c0, es_nf c0) := Option.some.inj (h1.symm.trans hcl)
  subst hr
  obtain ⟨hSl, hfc, kC, hkC, hkind⟩ := hK.1 c0 _ hcl
  obtain ⟨cf, kf, fi, fd, hi, hsl⟩ := hSl j0 f5
  have hlay := hts _ (es_lay f6 _ (u_in_lay f5))
  have hst := (u_facts hfc hkC (u_lays hts (es_lay f6) f5) hi).1
  have hap := va_apart (own := es_own oc) hts (es_lay f6) (es_ty c0) (es_ty_ok c0 f6) (es_nm_ok c0 f6) hK hcl
  have hl2 : j0 < (fs.map (ee_tr (fun i => sz + i))).length := by rw [List.length_map]; exact hl
  have fin : ∀ H' : Heap, H'[sz + q]? = some (cell.setSlot fd.slot (ee_tr (fun i => sz + i) v)) → H'.size = H.size → (∀ x, x ≠ sz + q → H'[x]? = H[x]?) → W p l e R s m args below meth c H' (locs ++ [⟨sz + q, fd.slot⟩]) nc ns Q (F0 m (pc + 3) ls (st.map (ee_tr (fun i => sz + i)))) := by
    intro H' e1 e2 e3
    rw [hsl] at e1 ⊢
    refine k H' _ ls ?_ ?_ (hS.put e2 e3 (hA _ (by omega))) hl0
    · show va_P D es_cl (cn_w sz ca (cs.set q (10 + c0, n, fs.set j0 v))) H'
      rw [← cn_w_set hq, cn_v_obj, List.map_set]
      exact hP.set (cn_D hA) he ⟨_, hcl, t_OB.to (V := updV (vp_V (fs.map (ee_tr (fun i => sz + i)))) j0 (ee_tr (fun i => sz + i) v)) ⟨_, e1, q2, q3, t_set q4 hap f5 _⟩ (fun j _ => vp_updV_set hl2 _ j)⟩ e3
    · show H'.size = sz + (cs.set q _).length
      rw [List.length_set]
      omega
  have hslot : fd.slot < cell.slots.size := by rw [hsl]; exact k2_hasslot (q4 j0 f5)
  by_cases hfin : (es_T c0 j0).2.2.2 = true
  · unfold u_lay at hlay
    rw [if_pos hfin] at hlay
    have hcf : m.cls = cf := by
      obtain ⟨_, _, c', _, _, _, -, -, hf', -, -, -, hown2, -⟩ := Cond.laysFinal_spec hlay
      have e1 : c' = cf := by have := hi.symm.trans hf'; simp at this; exact this.1.symm
      rw [cn_own c0 f6 j0 f5, ho] at hown2
      rw [← e1]
      exact Option.some.inj (hown.symm.trans hown2)
    have h6 := u_fits hfc hkC hkind (Or.inr hlay) hi (es_ty_ok c0 f6 j0 f5) p1 p2
    exact W.putFinK hx hb hown hlk hi hst hcf hin (by rw [q2]; exact h6) q1 q3 hslot rfl rfl (ee_dec_ok hd) fin
  · unfold u_lay at hlay
    rw [if_neg hfin] at hlay
    have h6 := u_store hfc hkC hkind hlay hi (es_ty_ok c0 f6 j0 f5) p1 p2
    exact W.putK hx hb (f := fd) ⟨hown, hlk, ⟨_, _, _, hi⟩, hst⟩ (by rw [q2]; exact h6) q1 q3 hslot rfl rfl (ee_dec_ok hd) fin
theorem cn_get (X : cn_X C cc oc G) {i q n : Nat} {v : Value} {fs : List Value} {f : Nat × Nat × (Nat × Nat × Nat) × Bool × Nat} (hd : ee_dec cc pc = some (.getfield i, 3)) (hf : ee_fl oc i = some f) (hq : cs[q]? = some (10 + f.2.2.1.1, n, fs)) (hn : f.2.2.2.1 = false) (hv : fs[f.2.2.1.2.1]? = some v)
    (k : cn_Wn G (pc + 3) env (v :: st) cs nc ns) : cn_Wn G pc env (.ref q :: st) cs nc ns := by
  obtain ⟨p, l, e, R, s, m, args, below, meth, c, Q, D, ca, A, nL, sz, d, rfl, hx, hb, hml, hown, hts, hK, hA, hsz, hNw, hO1, hO2, hHM, hR1, hR2, hin⟩ := X
  intro H locs ls hP hz hS hl0
  have hP : va_P D es_cl (cn_w sz ca cs) H := hP
  obtain ⟨f1, f2, fm, f3, f4, f5, f6⟩ := es_fl_mem hf
  have he := cn_w_at (sz := sz) (ca := ca) hq
  rw [cn_v_obj] at he
  have hlk := hts _ (f3 hn)
  unfold es_flw at hlk
  dsimp only at hlk
  rw [es_T_cl f6, hn, if_neg (by decide), f1, f2] at hlk
  have hv2 : (fs.map (ee_tr (fun i => sz + i)))[f.2.2.1.2.1]? = some (ee_tr (fun i => sz + i) v) := by rw [List.getElem?_map, hv]; rfl
  exact va_get (T := es_T f.2.2.1.1) hx hb hts (es_lay f6) hown hK hP q he (es_cl_at f6) f.2.2.1.2.1 f5 hlk (fun _ z => z) hv2 (ee_dec_ok hd) (k H locs ls hP hz hS hl0)
theorem cn_v_arr {sz : Nat} {ca : Nat → Nat} {a n : Nat} {fs : List Value} (h : a = 3 ∨ a = 4) : cn_v sz ca (a, n, fs) = .inl (ca a, n, .inr (.inr (.inr (.inr (fun k => match fs[k]? with
      | some (.ref i) => some (sz + i)
      | _ => none))))) := by
  rcases h with rfl | rfl <;> rfl
theorem cn_aast (X : cn_X C cc oc G) {q v n n1 a c1 : Nat} {j : Int32} {fs vs : List Value} (hd : ee_dec cc pc = some (.aastore, 1)) (hq : cs[q]? = some (a, n, fs)) (hv : cs[v]? = some (10 + c1, n1, vs)) (ha : cn_ak c1 = some a) (hfs : fs.length = n) (h0 : ¬ j < 0) (hj : j.toNatClampNeg < n)
    (k : cn_Wn G (pc + 1) env st (cs.set q (a, n, fs.set j.toNatClampNeg (.ref v))) nc ns) : cn_Wn G pc env (.ref v :: .int j :: .ref q :: st) cs nc ns := by
  obtain ⟨p, l, e, R, s, m, args, below, meth, c, Q, D, ca, A, nL, sz, d, rfl, hx, hb, hml, hown, hts, hK, hA, hsz, hNw, hO1, hO2, hHM, hR1, hR2, hin⟩ := X
  intro H locs ls hP hz hS hl0
  have hP : va_P D es_cl (cn_w sz ca cs) H := hP
  have hz : H.size = sz + cs.length := hz
  have hS : va_S A s.heap H locs := hS
  have hc9 : (c1 = 2 ∧ a = 3) ∨ (c1 = 7 ∧ a = 4) := by
    unfold cn_ak at ha
    by_cases y : c1 = 2
    · rw [if_pos y] at ha; cases ha; exact Or.inl ⟨y, rfl⟩
    · rw [if_neg y] at ha
      by_cases y2 : c1 = 7
      · rw [if_pos y2] at ha; cases ha; exact Or.inr ⟨y2, rfl⟩
      · rw [if_neg y2] at ha; cases ha
  have hRA : va_RA s (ca a) (.object (es_own c1)) ∧ c1 < 9 ∧ (a = 3 ∨ a = 4) := by
    rcases hc9 with ⟨rfl, rfl⟩ | ⟨rfl, rfl⟩
    · exact ⟨(hK.2 3 _ rfl).2, by omega, Or.inl rfl⟩
    · exact ⟨(hK.2 4 _ rfl).2, by omega, Or.inr rfl⟩
  obtain ⟨⟨kA, comp, k1, k2, k3, -⟩, c9, a34⟩ := hRA
  have he := cn_w_at (sz := sz) (ca := ca) hq
  rw [cn_v_arr a34] at he
  have hev := cn_w_at (sz := sz) (ca := ca) hv
  rw [cn_v_obj] at hev
  obtain ⟨r', hr', cellV, g1, g2, g3, -⟩ := hP v _ hev
  have hcls := (hK.1 c1 _ (es_cl_at c9)).2
  have hcomp : comp = D.1 c1 := Option.some.inj (k3.symm.trans hcls.1)
  subst hcomp
  obtain ⟨kC, hkC, -⟩ := hcls.2
  refine W.aast hx hb (hP q _ he) (fun q h => by cases h) (fun h => by cases h) k1 k2 rfl hkC ⟨h0, by show _ < (arrV _ _ _).slots.size; rw [arrV_size]; exact hj⟩ g1 (fun q h => by rw [g3] at h; cases h) (by rw [g2]; exact hkC) (by rw [g2]; exact va_assign hcls) rfl rfl (ee_dec_ok hd) fun H1 e z oq => ?_
  refine k H1 _ ls ?_ ?_ (hS.put z oq (hA _ (by omega))) hl0
  · show va_P D es_cl (cn_w sz ca (cs.set q (a, n, fs.set j.toNatClampNeg (.ref v)))) H1
    rw [← cn_w_set hq, cn_v_arr a34]
    refine hP.set (cn_D hA) he ?_ oq
    show H1[sz + q]? = some (vp_cell _ _)
    rw [e]
    rw [vp_cell_q, vp_cell_q, arrV_store]
    congr 2
    funext x
    by_cases hx : x = j.toNatClampNeg
    · subst hx
      rw [List.getElem?_set_self (by rw [hfs]; exact hj)]
      simp [updV, va_rf]
    · rw [List.getElem?_set_ne (fun z => hx z.symm)]
      simp [updV, va_rf, hx]
  · show H1.size = sz + (cs.set q _).length
    rw [List.length_set, z]
    exact hz
theorem cn_blind {D : va_G} {ca : Nat → Nat} {sz p : Nat} {cs : List cn_C} : FrameBlind (cn_Pc D ca sz p cs) := by
  intro a U g mk h
  obtain ⟨h0, h1, h2, h3, h4, h5, h6⟩ := h
  exact ⟨h0, h1, h2, va_K.moved (u := U) (U := U.calling g mk a) (Vm.Alike.refl U.vm) h3, ee_Nw.same (u := U) (U := U.calling g mk a) rfl h4, va_AO.moved (u := U) (U := U.calling g mk a) (Vm.Alike.refl U.vm) h5, va_AO.moved (u := U) (U := U.calling g mk a) (Vm.Alike.refl U.vm) h6⟩
theorem cn_call (X : cn_X C cc oc G) {i q mi mc ms : Nat} {cs' : List cn_C} {f : Nat × Nat × Nat × Bool × Nat} (hd : ee_dec cc pc = some (.invokespecial i, 3)) (hf : ee_ml oc i = some f) (hm : f.2.2.1 = mi) (hC : C mi q cs = some (cs', mc, ms)) (hst : st.length ≤ 4) (hc : nc + mc ≤ G.2.2.2.2.2.2.2.2.1) (hs : ns + ms ≤ G.2.2.2.2.2.2.2.2.2)
    (k : cn_Wn G (pc + 3) env st cs' (nc + mc) (ns + ms)) : cn_Wn G pc env (.ref q :: st) cs nc ns := by
  obtain ⟨p, l, e, R, s, m, args, below, meth, c, Q, D, ca, A, nL, sz, d, rfl, hx, hb, hml, hown, hts, hK, hA, hsz, hNw, hO1, hO2, hHM, hR1, hR2, hin⟩ := X
  intro H locs ls hP hz hS hl0
  have hP : va_P D es_cl (cn_w sz ca cs) H := hP
  have hz : H.size = sz + cs.length := hz
  have hS : va_S A s.heap H locs := hS
  have hl0 : ee_lv (fun i => sz + i) ls nL env := hl0
  obtain ⟨⟨oc2, hoc⟩, hMet⟩ := hHM mi q cs cs' mc ms hC
  obtain ⟨c1, c2, c3, c4, c5, c6, c7, c8, c9, c10, c11⟩ := cn_M_ok _ hoc
  obtain ⟨m1, m2, m3, m4⟩ := es_ml_mem hf
  have hpre : ∀ U : State, U.heap = H → s.WarmedH U.vm → cn_Pc D ca sz q cs (([.ref (sz + q)] : List Value)).toArray U := fun U hU hW => ⟨rfl, by rw [hU]; exact hz, by rw [hU]; exact hP, va_K.moved hW.alike hK, ee_Nw.warm hW hNw, va_AO.moved hW.alike hO1, va_AO.moved hW.alike hO2⟩
  have hroom : 2 * (F0 m pc ls ((Value.ref q :: st).map (ee_tr (fun i => sz + i)))).monitorRoom + ((st.map (ee_tr (fun i => sz + i))).map fun v => v.category).sum ≤ 8 := lv_room (by have := ee_cats st (fun i => sz + i); omega)
  have hRR : (cn_R d mc ms).frames + 1 ≤ R.frames ∧ 8 + ((es_m mi).2.1 + 11) + (cn_R d mc ms).locals ≤ R.locals := ⟨hR1, by have h6 : (es_m mi).2.1 ≤ 2 := c6; show 8 + ((es_m mi).2.1 + 11) + 64 * d ≤ R.locals; omega⟩
  have hG := ee_goodL c10
  have c8 : (es_m mi).2.2.1 = none := c8
  have hrun : va_Run p l e R s m args below meth c H locs nc ns mc ms (F0 m pc ls ((Value.ref q :: st).map (ee_tr (fun i => sz + i)))) (st.map (ee_tr (fun i => sz + i))) (cn_Qc D ca sz cs' (([.ref (sz + q)] : List Value)).toArray) (fun q => sz ≤ q) := by
    cases hn : f.2.2.2.1 with
    | false =>
      have hlk := hts _ (m4 hn)
      unfold es_mlw at hlk
      rw [hn, if_neg (by decide), m1, m2, hm] at hlk
      exact va_runI (As := []) (rest := st.map (ee_tr (fun i => sz + i))) (Ts := es_big) (own := es_own oc) ⟨hx, hb, hml, hown, hts⟩ hMet ⟨callB_of (bytes := es_bytes (es_m mi).2.2.2.2) (maxL := (es_m mi).2.1) (ws' := es_big) 0 hts hG (by unfold ee_mws; rw [c8]) rfl rfl (hts _ c1) hlk ⟨c11.1, c11.2, c9⟩ hRR, c4, hts _ c2⟩ ⟨cn_blind, hpre⟩ rfl rfl hl0.1 rfl hroom (ee_dec_ok hd) ⟨hc, hs⟩
    | true =>
      have hlk := hNw.2 f m3 hn
      unfold es_mlw at hlk
      rw [hn, if_pos rfl, m1, m2, hm] at hlk
      exact va_runIN (As := []) (rest := st.map (ee_tr (fun i => sz + i))) (Ts := es_big) (own := es_own oc) ⟨hx, hb, hml, hown, hts⟩ hMet ⟨va_cnB (bytes := es_bytes (es_m mi).2.2.2.2) (maxL := (es_m mi).2.1) (ws' := es_big) 0 hts hG (by unfold ee_mws; rw [c8]) rfl rfl hlk (hts _ c1) ⟨c11.1, c11.2, c9⟩ hRR, c4, hts _ c2⟩ ⟨cn_blind, hpre⟩ rfl rfl hl0.1 rfl hroom (ee_dec_ok hd) ⟨hc, hs⟩
  intro T hT X
  obtain ⟨v, st₀, t, T', L, h0, X', hL, e1, e2, ⟨hv, hz2, hP2, hF1, hF2⟩, stp⟩ := hrun T hT X
  cases hv
  rw [h0] at hF1 hF2
  obtain ⟨t2, a1, b1⟩ := k T'.heap (locs ++ L) ls (by rw [e1]; exact hP2) (by rw [e1]; exact hz2) ⟨Nat.le_trans hS.1 (by rw [e1]; exact hF1), fun x h1 h2 => by rw [e1, hF2 x (Nat.lt_of_lt_of_le h1 hS.1) (fun z => h2 (hA x z))]; exact hS.2.1 x h1 h2, fun x hx => by
      rcases List.mem_append.mp hx with h | h
      · exact hS.2.2 x h
      · exact hA _ (hL x h)⟩ hl0 T' rfl X'
  exact ⟨t2, stp t2 a1, b1⟩
end CNP
