/-! the law from its entry -/
section LOK
theorem el_sw : ee_okS code 9 (s_switch bd_lawe bd_lawc_0) 27 1861 = true := by
  show ee_okS code 9 (.op (.op (.op (.var 4) (.var 0)) bd_lawe) bd_lawc_0) 27 1861 = true
  simp only [ee_okS, el_e, el_c0]
  rfl
theorem el_l : ee_okS code 9 bd_lawl 27 18 = true := by
  have key : ∀ x : ee_T, ee_isC x = false → ee_okS code 9 x 27 1861 = true → ee_okS code 9 (s_seq 1861 x (s_inc 3 6)) 27 18 = true := by
    intro x h1 h2
    have e : ee_okS code 9 (s_inc 3 6) 1861 18 = true := by decide +kernel
    show ee_okS code 9 (.op (.op (.op (.var 2) (.var 1861)) x) (s_inc 3 6)) 27 18 = true
    simp only [ee_okS, ee_n, h1, h2, e]
    rfl
  exact key _ rfl el_sw
theorem el_law : ee_okS code 9 bd_law 16 0 = true := by
  have key : ∀ x : ee_T, ee_isC x = false → ee_okS code 9 x 27 18 = true → ee_okS code 9 (s_seq 1867 (s_seq 18 (s_set 3 0 (n_int 0)) (s_while 27 (n_cmp 5 (n_loc 3 0) (n_bin 1 (n_slen (n_loc 0 2)) (n_int 6))) x)) (s_ret 0 (n_int 1))) 16 0 = true := by
    intro x h1 h2
    have e1 : ee_okS code 9 (s_set 3 0 (n_int 0)) 16 18 = true := by decide +kernel
    have e2 : ee_okS code 9 (s_ret 0 (n_int 1)) 1867 0 = true := by decide +kernel
    have e3 : (match ee_ok code 9 (n_cmp 5 (n_loc 3 0) (n_bin 1 (n_slen (n_loc 0 2)) (n_int 6))) 18 0 with
      | some [t, f, _] => ee_arr code 3 t 27 && ee_arr code 3 f 1867
      | _ => false) = true := by decide +kernel
    have e4 : ee_okS code 9 (s_while 27 (n_cmp 5 (n_loc 3 0) (n_bin 1 (n_slen (n_loc 0 2)) (n_int 6))) x) 18 1867 = true := by
      show ee_okS code 9 (.op (.op (.op (.var 3) (.var 27)) (n_cmp 5 (n_loc 3 0) (n_bin 1 (n_slen (n_loc 0 2)) (n_int 6)))) x) 18 1867 = true
      simp only [ee_okS]
      generalize ee_ok code 9 (n_cmp 5 (n_loc 3 0) (n_bin 1 (n_slen (n_loc 0 2)) (n_int 6))) 18 0 = o at e3 ⊢
      split at e3
      · rw [Bool.and_eq_true] at e3
        simp only [ee_n, h1, h2, e3.1, e3.2]
        rfl
      · cases e3
    show ee_okS code 9 (.op (.op (.op (.var 2) (.var 1867)) (.op (.op (.op (.var 2) (.var 18)) (s_set 3 0 (n_int 0))) (s_while 27 (n_cmp 5 (n_loc 3 0) (n_bin 1 (n_slen (n_loc 0 2)) (n_int 6))) x))) (s_ret 0 (n_int 1))) 16 0 = true
    simp only [ee_okS, ee_n, e1, e2, e4]
    rfl
  exact key _ rfl el_l
end LOK
section START
variable {s : State} {args : Array Value}
theorem whole_known (hts : ∀ w ∈ es_big, w.before args s = true) : ∃ D : va_G, ∀ (c : Nat) (q : vw_C), es_cl[c]? = some q → u_Kn s q.1 q.2.1 q.2.2 (D.1 c) (D.2 c) := by
  have h0 : ∀ c : Nat, ∃ x : ClassId × (Nat → Nat), c < 9 → u_Kn s (es_own c) (es_T c) (es_nf c) x.1 x.2 := by
    intro c
    by_cases hc : c < 9
    · obtain ⟨cC, iS, h⟩ := u_known hts (es_lay hc) (hts _ (cn_I c hc).1)
      exact ⟨(cC, iS), fun _ => h⟩
    · exact ⟨((0 : Nat), fun _ => 0), fun h => absurd h hc⟩
  obtain ⟨f, hf⟩ := Classical.axiomOfChoice h0
  refine ⟨(fun c => (f c).1, fun c => (f c).2), fun c q hq => ?_⟩
  have hc : c < 9 := (List.getElem?_eq_some_iff.mp hq).1
  have h1 := es_cl_at hc
  rw [hq] at h1
  cases h1
  exact hf c hc
theorem whole_ao {C : String} (h : va_AO C s) : ∃ cA : Nat, ArrOfT s cA (.object C) ∧ va_RA s cA (.object C) := by
  obtain ⟨comp, c, k, f1, -, f3, f4, f5⟩ := Cond.arrayOver_spec h
  exact ⟨c, fun N z => ⟨(fun k h => by cases h), k, f3, comp, f4⟩, k, comp, f3, f4, f1, f5⟩
theorem whole_ac {ty : FieldType} (h : (Cond.arrayClass ty).before args s = true) : ∃ cA : Nat, ArrOfT s cA ty ∧ s.vm.findClass ("[" ++ ty.toString) = some cA := by
  obtain ⟨c, k, comp, h1, h2, h3⟩ := Cond.arrayClass_spec h
  exact ⟨c, fun N z => ⟨(fun k h => by cases h), k, h2, comp, h3⟩, h1⟩
theorem whole_tb {pos : Nat} {w : Cond} (h : es_at pos w = true) : w ∈ lw_tbl := List.mem_append_right _ (es_at_mem h)
theorem whole_o1 : Cond.arrayOver (.object "HeadServo$Head") ∈ lw_tbl := whole_tb (pos := 1097) (by decide +kernel)
theorem whole_o2 : Cond.arrayOver (.object "HeadServo$Text") ∈ lw_tbl := whole_tb (pos := 1156) (by decide +kernel)
theorem whole_arrs (hts : ∀ w ∈ lw_tbl, w.before args s = true) : ∃ ca : Nat → Nat, ∀ (k : Nat) (q : ClassId × FieldType), (ee_tys ca)[k]? = some q → ArrOfT s q.1 q.2 ∧ va_RA s q.1 q.2 := by
  have hbig : ∀ w ∈ es_big, w.before args s = true := fun w hw => hts w (List.mem_filter.mp hw).1
  obtain ⟨a0, h0, g0⟩ := whole_ac (hbig _ cn_A_0)
  obtain ⟨a1, h1, g1⟩ := whole_ac (hbig _ cn_A_1)
  obtain ⟨a2, h2, g2⟩ := whole_ac (hbig _ cn_A_2)
  obtain ⟨a3, h3, g3⟩ := whole_ao (va_AO.of (hts _ whole_o1))
  obtain ⟨a4, h4, g4⟩ := whole_ao (va_AO.of (hts _ whole_o2))
  refine ⟨fun k => match k with
    | 0 => a0
    | 1 => a1
    | 2 => a2
    | 3 => a3
    | _ => a4, fun k q hq => ?_⟩
  match k, hq with
  | 0, hq =>
    cases hq
    exact ⟨h0, g0⟩
  | 1, hq =>
    cases hq
    exact ⟨h1, g1⟩
  | 2, hq =>
    cases hq
    exact ⟨h2, g2⟩
  | 3, hq =>
    cases hq
    exact ⟨h3, g3⟩
  | 4, hq =>
    cases hq
    exact ⟨h4, g4⟩
  | k + 5, hq => cases hq
theorem whole_nw (hts : ∀ w ∈ lw_tbl, w.before args s = true) : ee_Nw s := by
  refine ⟨fun q hq hn => ?_, fun q hq hn => ?_⟩
  · have h3 := List.all_eq_true.mp es_FL_ok q hq
    simp only [Bool.and_eq_true] at h3
    refine va_Nw.of ?_ (hts _ (whole_tb h3.1.1))
    unfold es_flw
    dsimp only
    rw [hn, if_pos rfl]
    rfl
  · have h3 := List.all_eq_true.mp es_ML_ok q hq
    refine va_Nw.of ?_ (hts _ (whole_tb h3))
    unfold es_mlw
    rw [hn, if_pos rfl]
    rfl
set_option maxRecDepth 100000 in
theorem whole_el : ∀ j, j < 134 → Cond.eq (.elem (.field (.string "HeadServo$Reader" 88) "java/lang/String" "value" "[B") (.int (Int32.ofNat j))) (.int (st_by j)) ∈ flatC (Jvm.Cond.and given_1 narrow_1) := by decide +kernel
theorem whole_str {b : Nat} (hts : ∀ w ∈ lw_tbl, w.before #[Value.ref b] s = true) (hgv : (Jvm.Cond.and given_1 narrow_1).before #[Value.ref b] s = true) : ∃ (qS : Nat) (adV : Nat → Nat), vk_S 1 es_sl es_sb (fun _ => qS) adV (fun q => s.heap.size ≤ q) s s.heap ∧ vk_R (es_own es_str.1) es_str.2.1 es_str.2.2.1 qS s ∧ va_Z "java/lang/String" "COMPACT_STRINGS" "Z" (.int 1) (fun q => s.heap.size ≤ q) s s.heap ∧ va_Zq "jdk/internal/util/Preconditions" "SIOOBE_FORMATTER" "Ljava/util/function/BiFunction;" (fun q => s.heap.size ≤ q) s s.heap := by
  have hs := flat_of_before _ hgv
  have hA : ∀ a : Nat, a < s.heap.size → ¬ s.heap.size ≤ a := fun a h => by omega
  have z0 : ∀ i : Nat, i < 1 → i = 0 := fun i h => by omega
  obtain ⟨adK, adV, h1, h2⟩ := vk_Sof (args := #[Value.ref b]) (s := s) (N := 1) (tm := fun _ => .string "HeadServo$Reader" 88) (len := es_sl) (byt := es_sb) (A := fun q => s.heap.size ≤ q)
    (fun i hi => by rw [z0 i hi]; decide)
    (fun i hi => hs _ (by decide +kernel))
    (fun i hi => hs _ (by decide +kernel))
    (fun i hi => hs _ (by decide +kernel))
    (fun i hi => by rw [z0 i hi]; exact hs _ (by decide +kernel))
    (fun i hi j hj => by
      have e := z0 i hi
      subst e
      exact hs _ (whole_el j hj))
    (fun i j hi hj hij => absurd ((z0 i hi).trans (z0 j hj).symm) hij) hA
  refine ⟨adK 0, adV, ⟨fun i hi => ?_, fun i j hi hj _ => (z0 i hi).trans (z0 j hj).symm⟩, vk_R.of (A := #[Value.ref b]) (hts _ (whole_tb (pos := 2123) (by decide +kernel))) (h2 0 (by decide)), va_Zof (hts _ (whole_tb (pos := 2133) (by decide +kernel))) (hts _ (whole_tb (pos := 1011) (by decide +kernel))) (va_eqi (hs _ (by decide +kernel))) hA, va_Zqof (hts _ (whole_tb (pos := 2149) (by decide +kernel))) (hts _ (whole_tb (pos := 1013) (by decide +kernel))) (hs _ (by decide +kernel)) hA⟩
  have e := z0 i hi
  subst e
  exact h1.1 0 hi
end START
section RAW
variable {p : Program} {l : Launch} {e : Env} {R : Room} {s : State} {m : MethodId} {args : Array Value} {below : List Frame} {meth : Method} {c : Code} {Q : State → Prop} {D : va_G} {ca : Nat → Nat} {A : Nat → Prop} {nL sz d oc pc nc ns : Nat} {cc : ByteArray} {H : Heap} {locs : List Loc} {ls : Array Slot} {rest st0 : List Value} {cs : List cn_C}
theorem cn_newR (hx : p.tables.exec = Jvm.exec) (hb : c.code = cc) (hown : s.vm.findClass (es_own oc) = some m.cls) (hts : ∀ w ∈ es_big, w.before args s = true) (hK : va_K D es_cl (ee_tys ca) s) {i c0 : Nat} (hd : ee_dec cc pc = some (.new i, 3)) (hq : (oc, i, c0) ∈ cn_N) (hP : va_P D es_cl (cn_w sz ca cs) H) (hz : H.size = sz + cs.length) (hS : va_S A s.heap H locs) (hc : nc + 1 ≤ R.cells) (hs : ns + es_nf c0 ≤ R.slots)
    (k : ∀ H1 : Heap, va_P D es_cl (cn_w sz ca (cs ++ [(10 + c0, 0, cn_def c0)])) H1 → H1.size = sz + (cs ++ [(10 + c0, 0, cn_def c0)]).length → va_S A s.heap H1 locs → W p l e R s m args below meth c H1 locs (nc + 1) (ns + es_nf c0) Q (F0 m (pc + 3) ls (.ref (sz + cs.length) :: rest))) : W p l e R s m args below meth c H locs nc ns Q (F0 m pc ls rest) := by
  obtain ⟨n1, n2⟩ := cn_N_ok _ hq
  obtain ⟨n3, n4⟩ := cn_I c0 n2
  have hcl := es_cl_at n2
  have hKn := hK.1 c0 _ hcl
  refine W.newcK hx hb hown (hts _ n1) (hts _ n3) (hts _ n4) rfl (ee_dec_ok hd) hc hs hKn.2.1 hz fun H1 kC hkC e1 z1 o1 => ?_
  have hk : ∀ (k : Nat) (x : Nat × va_E), (cn_w sz ca cs)[k]? = some x → H1[x.1]? = H[x.1]? := fun k x hx => o1 x.1 (by have := ((hP k x hx).lt); omega)
  refine k H1 ?_ ?_ ⟨Nat.le_trans hS.1 (by omega), fun x h1 h2 => (o1 x (by have := hS.1; have := Nat.lt_of_lt_of_le h1 hS.1; omega)).trans (hS.2.1 x h1 h2), hS.2.2⟩
  · rw [cn_w_push]
    refine (hP.kept hk).app (fun k x hx => ?_)
    have hz : k < 1 := (List.getElem?_eq_some_iff.mp hx).1
    rw [show k = 0 by omega] at hx
    cases hx
    have ev : cn_v sz ca (10 + c0, 0, cn_def c0) = .inr (c0, cn_def c0) := by
      unfold cn_v
      rw [if_neg (by show ¬ 10 + c0 < 8; omega)]
      show Sum.inr (10 + c0 - 10, (cn_def c0).map (ee_tr (fun i => sz + i))) = _
      rw [Nat.add_sub_cancel_left]
      congr 2
      refine (List.map_congr_left (g := id) (fun v hv => ?_)).trans (List.map_id _)
      unfold cn_def at hv
      obtain ⟨j, -, rfl⟩ := List.mem_map.mp hv
      split <;> rfl
    rw [ev]
    exact ⟨_, hcl, (u_born (es_ty c0) hts (es_lay n2) hKn hkC e1 (es_ty_ok c0 n2)).to (cn_def_ok c0 n2)⟩
  · rw [z1, List.length_append]
    rfl
theorem cn_runR (hx : p.tables.exec = Jvm.exec) (hb : c.code = cc) (hml : c.maxLocals = nL) (hown : s.vm.findClass (es_own oc) = some m.cls) (hts : ∀ w ∈ es_big, w.before args s = true) {i mi mc ms oc2 a : Nat} {f : Nat × Nat × Nat × Bool × Nat} {Pc : Array Value → State → Prop} {Qc : Array Value → State → Outcome → State → Prop} {free : Nat → Prop} (hd : ee_dec cc pc = some (.invokespecial i, 3)) (hf : ee_ml oc i = some f) (hm : f.2.2.1 = mi) (hn : f.2.2.2.1 = false) (hoc : (mi, oc2) ∈ cn_M)
    (hMet : Met l (es_m mi).1 (ee_mws mi) (cn_R d mc ms) Pc Qc mc ms free) (hbl : FrameBlind Pc) (hpre : ∀ U : State, U.heap = H → s.WarmedH U.vm → Pc ([.ref a] : List Value).toArray U) (hR1 : d + 1 ≤ R.frames) (hR2 : 64 * d + 64 ≤ R.locals) (hl0 : ls.size = nL) (hst : (rest.map fun v => v.category).sum ≤ 8) (hc : nc + mc ≤ R.cells) (hs : ns + ms ≤ R.slots) :
    va_Run p l e R s m args below meth c H locs nc ns mc ms (F0 m pc ls (.ref a :: rest)) rest (Qc ([.ref a] : List Value).toArray) free := by
  obtain ⟨c1, c2, c3, c4, c5, c6, c7, c8, c9, c10, c11⟩ := cn_M_ok _ hoc
  obtain ⟨m1, m2, m3, m4⟩ := es_ml_mem hf
  have hRR : (cn_R d mc ms).frames + 1 ≤ R.frames ∧ 8 + ((es_m mi).2.1 + 11) + (cn_R d mc ms).locals ≤ R.locals := ⟨hR1, by have h6 : (es_m mi).2.1 ≤ 2 := c6; show 8 + ((es_m mi).2.1 + 11) + 64 * d ≤ R.locals; omega⟩
  have hroom : 2 * (F0 m pc ls (.ref a :: rest)).monitorRoom + (rest.map fun v => v.category).sum ≤ 8 := lv_room hst
  have hG := ee_goodL c10
  have c8 : (es_m mi).2.2.1 = none := c8
  have hlk := hts _ (m4 hn)
  unfold es_mlw at hlk
  rw [hn, if_neg (by decide), m1, m2, hm] at hlk
  exact va_runI (As := []) (rest := rest) (Ts := es_big) (own := es_own oc) ⟨hx, hb, hml, hown, hts⟩ hMet ⟨callB_of (bytes := es_bytes (es_m mi).2.2.2.2) (maxL := (es_m mi).2.1) (ws' := es_big) 0 hts hG (by unfold ee_mws; rw [c8]) rfl rfl (hts _ c1) hlk ⟨c11.1, c11.2, c9⟩ hRR, c4, hts _ c2⟩ ⟨hbl, hpre⟩ rfl rfl hl0 rfl hroom (ee_dec_ok hd) ⟨hc, hs⟩
theorem cn_goesR {mc ms : Nat} {B : Heap → Prop} {Qa : State → Outcome → State → Prop} (hS : va_S A s.heap H locs) (hA : ∀ q, sz ≤ q → A q) (hr : va_Run p l e R s m args below meth c H locs nc ns mc ms (F0 m pc ls st0) rest Qa (fun q => sz ≤ q)) (hQ : ∀ (st : State) (o : Outcome) (t : State), Qa st o t → o = .returned none ∧ B t.heap ∧ va_F (fun q => sz ≤ q) st t)
    (k : ∀ (H1 : Heap) (locs1 : List Loc), B H1 → va_S A s.heap H1 locs1 → W p l e R s m args below meth c H1 locs1 (nc + mc) (ns + ms) Q (F0 m (pc + 3) ls rest)) : W p l e R s m args below meth c H locs nc ns Q (F0 m pc ls st0) := by
  intro T hT X
  obtain ⟨v, st₀, t, T', L, h0, X', hL, e1, e2, hq, stp⟩ := hr T hT X
  obtain ⟨hv, hB, hF1, hF2⟩ := hQ _ _ _ hq
  cases hv
  rw [h0] at hF1 hF2
  obtain ⟨t2, a1, b1⟩ := k T'.heap (locs ++ L) (by rw [e1]; exact hB) ⟨Nat.le_trans hS.1 (by rw [e1]; exact hF1), fun x h1 h2 => by rw [e1, hF2 x (Nat.lt_of_lt_of_le h1 hS.1) (fun z => h2 (hA x z))]; exact hS.2.1 x h1 h2, fun x hx => by
      rcases List.mem_append.mp hx with h | h
      · exact hS.2.2 x h
      · exact hA _ (hL x h)⟩ T' rfl X'
  exact ⟨t2, stp t2 a1, b1⟩
end RAW
