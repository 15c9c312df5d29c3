/-! String.length and String.charAt -/
section STR
variable {l : Launch} {q t : Nat}
def st_no : Nat → Prop := fun _ => False
def st_by (j : Nat) : Int32 := (es_sb.getD 0 []).getD j 0
def st_I (q t : Nat) (U : State) : Prop := va_O "java/lang/String" q st_no U U.heap ∧ va_OF "java/lang/String" "coder" "B" (.int 0) q st_no U U.heap ∧ va_OF "java/lang/String" "value" "[B" (.ref t) q st_no U U.heap ∧ va_T .byte t 134 (fun j => .int (st_by j)) st_no U U.heap ∧ va_Z "java/lang/String" "COMPACT_STRINGS" "Z" (.int 1) st_no U U.heap ∧ va_Zq "jdk/internal/util/Preconditions" "SIOOBE_FORMATTER" "Ljava/util/function/BiFunction;" st_no U U.heap
theorem st_I.moved {u U : State} (hvm : u.vm.Alike U.vm) (hh : U.heap = u.heap) (h : st_I q t u) : st_I q t U := by
  obtain ⟨h1, h2, h3, h4, h5, h6⟩ := h
  unfold st_I
  rw [hh]
  exact ⟨va_O.moved hvm h1, va_OF.moved hvm h2, va_OF.moved hvm h3, va_T.moved hvm h4, va_Z.moved hvm h5, va_Zq.moved hvm h6⟩
def st_P (q t : Nat) (vs : List Value) : Array Value → State → Prop := va_Pc vs (st_I q t)
def st_Q (r : Option Value) : Array Value → State → Outcome → State → Prop := fun _ st o t => o = .returned r ∧ t.heap = st.heap
theorem st_blind {vs : List Value} : FrameBlind (st_P q t vs) := by
  intro a U g mk h
  exact ⟨h.1, st_I.moved (u := U) (U := U.calling g mk a) (Vm.Alike.refl U.vm) rfl h.2⟩
theorem st_blind0 {vs : List Value} : FrameBlind (va_Pc vs (fun _ => True)) := fun _ _ _ _ h => ⟨h.1, trivial⟩
theorem st_w1 : Cond.fieldLink "java/lang/String" 38 "java/lang/String" "COMPACT_STRINGS" "Z" ∈ es_big := es_big_a (pos := 2132) (by decide +kernel) (by decide +kernel)
theorem st_w2 : Cond.fieldLink "java/lang/String" 15 "java/lang/String" "coder" "B" ∈ es_big := es_big_a (pos := 8046) (by decide +kernel) (by decide +kernel)
theorem st_w3 : Cond.fieldLink "java/lang/String" 9 "java/lang/String" "value" "[B" ∈ es_big := es_big_a (pos := 8045) (by decide +kernel) (by decide +kernel)
theorem st_w4 : Cond.fieldLink "java/lang/String" 1053 "jdk/internal/util/Preconditions" "SIOOBE_FORMATTER" "Ljava/util/function/BiFunction;" ∈ es_big := es_big_a (pos := 2148) (by decide +kernel) (by decide +kernel)
section STW
variable {p : Program} {e : Env} {R : Room} {s : State} {m : MethodId} {args : Array Value} {below : List Frame} {meth : Method} {c : Code} {H : Heap} {ls : Array Slot} {pc nL d : Nat} {cc : ByteArray} {st0 rest : List Value} {Q : State → Prop} {r : Option Value} {a : Array Value}
theorem st_goes (hr : va_Run p l e R s m args below meth c H [] 0 0 0 0 (F0 m pc ls st0) rest (st_Q r a) st_no) (k : W p l e R s m args below meth c H [] 0 0 Q (F0 m (pc + 3) ls (r.toList ++ rest))) : W p l e R s m args below meth c H [] 0 0 Q (F0 m pc ls st0) := by
  intro T hT X
  obtain ⟨v, st₀, t, T', L, h0, X', hL, e1, e2, ⟨hv, hh⟩, st⟩ := hr T hT X
  have hv : v = r := by cases hv; rfl
  subst hv
  cases L with
  | nil =>
    obtain ⟨t2, a1, b1⟩ := k T' (by rw [e1, hh, h0]) X'
    exact ⟨t2, st t2 a1, b1⟩
  | cons x L => exact absurd (hL x List.mem_cons_self) (fun z => z)
theorem st_cS {mi idx oc : Nat} {vs : List Value} {f : Nat × Nat × Nat × Bool × Nat} {Pc : Array Value → State → Prop} (CF : CallFix p m c cc nL s args es_big (es_own oc)) (hcm : es_CM.any (fun q => q.1 == mi) = true) (hf : ee_ml oc idx = some f) (hm : f.2.2.1 = mi) (hn : f.2.2.2.1 = false) (hs : (es_m mi).2.2.2.1 = true) (hsig : ee_sig mi = some vs.length)
    (hMet : Met l (es_m mi).1 (ee_mws mi) (ee_room d) Pc (st_Q r) 0 0 st_no) (hbl : FrameBlind Pc) (hpre : ∀ U : State, U.heap = H → s.WarmedH U.vm → Pc vs.toArray U) (hd : decode cc pc = .ok (.invokestatic idx, 3)) (hR : d + 1 ≤ R.frames ∧ 64 * d + 64 ≤ R.locals) (hrest : (rest.map fun v => v.category).sum ≤ 8) (hls : ls.size = nL)
    (k : W p l e R s m args below meth c H [] 0 0 Q (F0 m (pc + 3) ls (r.toList ++ rest))) : W p l e R s m args below meth c H [] 0 0 Q (F0 m pc ls (vs.reverse ++ rest)) := by
  obtain ⟨m1, m2, m3, m4⟩ := es_ml_mem hf
  obtain ⟨n1, n2, n3, n4, n5, n6⟩ := es_cm_mem hcm
  have hts := CF.2.2.2.2
  have hlk := hts _ (m4 hn)
  unfold es_mlw at hlk
  rw [hn, if_neg (by decide), m1, m2, hm] at hlk
  have hroom : 2 * (F0 m pc ls (vs.reverse ++ rest)).monitorRoom + (rest.map fun v => v.category).sum ≤ 8 := lv_room hrest
  have hRR : (ee_room d).frames + 1 ≤ R.frames ∧ 8 + ((es_m mi).2.1 + 11) + (ee_room d).locals ≤ R.locals := ⟨hR.1, by show 8 + ((es_m mi).2.1 + 11) + 64 * d ≤ R.locals; omega⟩
  exact st_goes (va_runS (As := vs) (rest := rest) (Ts := es_big) (own := es_own oc) CF hMet ⟨callB_of (ws' := es_big) vs.length hts (ee_goodm hcm) rfl rfl rfl (hts _ n1) hlk ⟨n5, n6, hsig⟩ hRR, hts _ (n2 hs)⟩ ⟨hbl, hpre⟩ rfl rfl hls rfl hroom hd ⟨Nat.zero_le _, Nat.zero_le _⟩) k
theorem st_cV {mi idx oc b : Nat} {us : List Value} {f : Nat × Nat × Nat × Bool × Nat} {Pc : Array Value → State → Prop} (CF : CallFix p m c cc nL s args es_big (es_own oc)) (hcm : es_CM.any (fun q => q.1 == mi) = true) (hf : ee_ml oc idx = some f) (hm : f.2.2.1 = mi) (hn : f.2.2.2.1 = false) (hs : (es_m mi).2.2.2.1 = false) (hsig : ee_sig mi = some us.length)
    (hMet : Met l (es_m mi).1 (ee_mws mi) (ee_room d) Pc (st_Q r) 0 0 st_no) (hbl : FrameBlind Pc) (hcell : ∃ cellB : Cell, H[b]? = some cellB ∧ cellB.vm.isStatics = false ∧ s.vm.findClass (es_m mi).1.cls = some cellB.cls) (hpre : ∀ U : State, U.heap = H → s.WarmedH U.vm → Pc (Value.ref b :: us).toArray U) (hd : decode cc pc = .ok (.invokevirtual idx, 3)) (hR : d + 1 ≤ R.frames ∧ 64 * d + 64 ≤ R.locals) (hrest : (rest.map fun v => v.category).sum ≤ 8) (hls : ls.size = nL)
    (k : W p l e R s m args below meth c H [] 0 0 Q (F0 m (pc + 3) ls (r.toList ++ rest))) : W p l e R s m args below meth c H [] 0 0 Q (F0 m pc ls (us.reverse ++ .ref b :: rest)) := by
  obtain ⟨m1, m2, m3, m4⟩ := es_ml_mem hf
  obtain ⟨n1, n2, n3, n4, n5, n6⟩ := es_cm_mem hcm
  have hts := CF.2.2.2.2
  have hlk := hts _ (m4 hn)
  unfold es_mlw at hlk
  rw [hn, if_neg (by decide), m1, m2, hm] at hlk
  have hroom : 2 * (F0 m pc ls (us.reverse ++ .ref b :: rest)).monitorRoom + (rest.map fun v => v.category).sum ≤ 8 := lv_room hrest
  have hRR : (ee_room d).frames + 1 ≤ R.frames ∧ 8 + ((es_m mi).2.1 + 11) + (ee_room d).locals ≤ R.locals := ⟨hR.1, by show 8 + ((es_m mi).2.1 + 11) + 64 * d ≤ R.locals; omega⟩
  exact st_goes (va_runV (As := us) (rest := rest) (Ts := es_big) (own := es_own oc) CF hMet ⟨callB_of (ws' := es_big) us.length hts (ee_goodm hcm) rfl rfl rfl (hts _ n1) hlk ⟨n5, n6, hsig⟩ hRR, hts _ (n3 hs).1, hts _ (n3 hs).2⟩ ⟨hbl, hcell, hpre⟩ rfl rfl hls rfl hroom hd ⟨Nat.zero_le _, Nat.zero_le _⟩) k
end STW
theorem st_coder (d : Nat) : Met l (es_m 24).1 (ee_mws 24) (ee_room (d + 1)) (st_P q t [.ref q]) (st_Q (some (.int 0))) 0 0 st_no := by
  refine ee_ofW (cc := es_bytes (es_m 24).2.2.2.2) (maxL := (es_m 24).2.1) (ret := (es_m 24).2.2.1) (ws' := es_big) (ee_plain (by decide +kernel)) rfl ?_
  intro p e s m args below meth c s₁ B1 hml hv
  obtain ⟨rfl, hO, hC, hV, hT, hZ, hF⟩ := hv
  have hts : ∀ w ∈ es_big, w.before _ s = true := fun w hw => atoms_spec (ws := ee_mws 24) B1.pre w (List.mem_cons_of_mem _ hw)
  have hown : s.vm.findClass "java/lang/String" = some m.cls := findClass_of_methodNamed B1.named
  have hl := lv_entry [.ref q] (n := (es_m 24).2.1) (show 1 ≤ (es_m 24).2.1 by decide +kernel)
  have hret : meth.sig.returnType = some .byte := B1.returns
  have hlocks : meth.locks = false := B1.notSynchronized
  rw [lg_entry_eq]
  refine va_gets B1.exec B1.bytes hZ va_S.rf hown (hts _ st_w1) (fun _ h => h) (ee_dec_ok (by decide +kernel)) ?_
  refine lv_if_eq B1.exec B1.bytes (off := 10) (tgt := 13) (ee_dec_ok (by decide +kernel)) rfl (fun h => absurd h (by decide)) (fun _ => ?_)
  refine lv_aload_n B1.exec B1.bytes (k := 0) (i := 0) (x := q) (ee_dec_ok (by decide +kernel)) rfl (lv_at hl 0 rfl) ?_
  refine vk_getf B1.exec B1.bytes hC va_S.rf hown (hts _ st_w2) (fun _ h => h) (ee_dec_ok (by decide +kernel)) ?_
  refine lv_goto B1.exec B1.bytes (off := 4) (tgt := 14) (ee_dec_ok (by decide +kernel)) rfl ?_
  exact W.zret B1.exec B1.bytes hret rfl (fun t ht _ => ⟨rfl, ht⟩) (fun _ h => by cases h) (ee_dec_ok (by decide +kernel)) hlocks
theorem st_latin (d : Nat) : Met l (es_m 26).1 (ee_mws 26) (ee_room (d + 1)) (st_P q t [.ref q]) (st_Q (some (.int 1))) 0 0 st_no := by
  refine ee_ofW (cc := es_bytes (es_m 26).2.2.2.2) (maxL := (es_m 26).2.1) (ret := (es_m 26).2.2.1) (ws' := es_big) (ee_plain (by decide +kernel)) rfl ?_
  intro p e s m args below meth c s₁ B1 hml hv
  obtain ⟨rfl, hO, hC, hV, hT, hZ, hF⟩ := hv
  have hts : ∀ w ∈ es_big, w.before _ s = true := fun w hw => atoms_spec (ws := ee_mws 26) B1.pre w (List.mem_cons_of_mem _ hw)
  have hown : s.vm.findClass "java/lang/String" = some m.cls := findClass_of_methodNamed B1.named
  have hl := lv_entry [.ref q] (n := (es_m 26).2.1) (show 1 ≤ (es_m 26).2.1 by decide +kernel)
  have hret : meth.sig.returnType = some .boolean := B1.returns
  have hlocks : meth.locks = false := B1.notSynchronized
  rw [lg_entry_eq]
  refine va_gets B1.exec B1.bytes hZ va_S.rf hown (hts _ st_w1) (fun _ h => h) (ee_dec_ok (by decide +kernel)) ?_
  refine lv_if_eq B1.exec B1.bytes (off := 14) (tgt := 17) (ee_dec_ok (by decide +kernel)) rfl (fun h => absurd h (by decide)) (fun _ => ?_)
  refine lv_aload_n B1.exec B1.bytes (k := 0) (i := 0) (x := q) (ee_dec_ok (by decide +kernel)) rfl (lv_at hl 0 rfl) ?_
  refine vk_getf B1.exec B1.bytes hC va_S.rf hown (hts _ st_w2) (fun _ h => h) (ee_dec_ok (by decide +kernel)) ?_
  refine lv_if_ne B1.exec B1.bytes (off := 7) (tgt := 17) (ee_dec_ok (by decide +kernel)) rfl (fun h => absurd rfl h) (fun _ => ?_)
  refine lv_iconst B1.exec B1.bytes (n := 1) (v := 1) (ee_dec_ok (by decide +kernel)) rfl ?_
  refine lv_goto B1.exec B1.bytes (off := 4) (tgt := 18) (ee_dec_ok (by decide +kernel)) rfl ?_
  exact W.zret B1.exec B1.bytes hret rfl (fun t ht _ => ⟨rfl, ht⟩) (fun _ h => by cases h) (ee_dec_ok (by decide +kernel)) hlocks
theorem st_pre {x n : Nat} {o : Value} (d : Nat) (hx : x < n) (hn : n < 2147483648) (ho : o = .null ∨ ∃ t, o = .ref t) : Met l (es_m 29).1 (ee_mws 29) (ee_room (d + 1)) (va_Pc [.int (Int32.ofNat x), .int (Int32.ofNat n), o] (fun _ => True)) (st_Q (some (.int (Int32.ofNat x)))) 0 0 st_no := by
  refine ee_ofW (cc := es_bytes (es_m 29).2.2.2.2) (maxL := (es_m 29).2.1) (ret := (es_m 29).2.2.1) (ws' := es_big) (ee_plain (by decide +kernel)) rfl ?_
  intro p e s m args below meth c s₁ B1 hml hv
  obtain ⟨rfl, -⟩ := hv
  have hco : o.category = 1 := by rcases ho with rfl | ⟨t, rfl⟩ <;> rfl
  have hmx : (es_m 29).2.1 = 3 := by decide +kernel
  have hl := lv_entry [.int (Int32.ofNat x), .int (Int32.ofNat n), o] (n := (es_m 29).2.1) (by rw [hmx]; rcases ho with rfl | ⟨t, rfl⟩ <;> exact Nat.le_refl _)
  have hret : meth.sig.returnType = some .int := B1.returns
  have hlocks : meth.locks = false := B1.notSynchronized
  have h0 : ¬ Int32.ofNat x < 0 := fun h => by
    have h2 := i32_lt.1 h
    rw [nI_t (by omega), show (0 : Int32).toInt = 0 from rfl] at h2
    omega
  have h1 : Int32.ofNat x < Int32.ofNat n := (j_lt (by omega) (by omega)).2 hx
  rw [lg_entry_eq]
  refine lv_iload_n B1.exec B1.bytes (k := 0) (i := 0) (x := Int32.ofNat x) (ee_dec_ok (by decide +kernel)) rfl (lv_at hl 0 rfl) ?_
  refine lv_if_lt B1.exec B1.bytes (off := 8) (tgt := 9) (ee_dec_ok (by decide +kernel)) rfl (fun h => absurd h h0) (fun _ => ?_)
  refine lv_iload_n B1.exec B1.bytes (k := 0) (i := 0) (x := Int32.ofNat x) (ee_dec_ok (by decide +kernel)) rfl (lv_at hl 0 rfl) ?_
  refine lv_iload_n B1.exec B1.bytes (k := 1) (i := 1) (x := Int32.ofNat n) (ee_dec_ok (by decide +kernel)) rfl (lv_at hl 1 rfl) ?_
  refine lv_icmp_lt B1.exec B1.bytes (off := 10) (tgt := 16) (ee_dec_ok (by decide +kernel)) rfl (fun _ => ?_) (fun h => absurd h1 h)
  refine lv_iload_n B1.exec B1.bytes (k := 0) (i := 0) (x := Int32.ofNat x) (ee_dec_ok (by decide +kernel)) rfl (lv_at hl 0 rfl) ?_
  exact W.iret B1.exec B1.bytes hret (fun t ht _ => ⟨rfl, ht⟩) (fun _ h => by cases h) (ee_dec_ok (by decide +kernel)) hlocks
theorem st_check {x n : Nat} (d : Nat) (hx : x < n) (hn : n < 2147483648) : Met l (es_m 28).1 (ee_mws 28) (ee_room (d + 2)) (st_P q t [.int (Int32.ofNat x), .int (Int32.ofNat n)]) (st_Q none) 0 0 st_no := by
  refine ee_ofW (cc := es_bytes (es_m 28).2.2.2.2) (maxL := (es_m 28).2.1) (ret := (es_m 28).2.2.1) (ws' := es_big) (ee_plain (by decide +kernel)) rfl ?_
  intro p e s m args below meth c s₁ B1 hml hv
  obtain ⟨rfl, hO, hC, hV, hT, hZ, hF⟩ := hv
  have hts : ∀ w ∈ es_big, w.before _ s = true := fun w hw => atoms_spec (ws := ee_mws 28) B1.pre w (List.mem_cons_of_mem _ hw)
  have hown : s.vm.findClass "java/lang/String" = some m.cls := findClass_of_methodNamed B1.named
  have hl := lv_entry [.int (Int32.ofNat x), .int (Int32.ofNat n)] (n := (es_m 28).2.1) (show 2 ≤ (es_m 28).2.1 by decide +kernel)
  have hret : meth.sig.returnType = none := B1.returns
  have hlocks : meth.locks = false := B1.notSynchronized
  have key : ∀ o : Value, (o = .null ∨ ∃ t, o = .ref t) → va_Z "jdk/internal/util/Preconditions" "SIOOBE_FORMATTER" "Ljava/util/function/BiFunction;" o st_no s s.heap → W p l e (ee_room (d + 2)) s m ([.int (Int32.ofNat x), .int (Int32.ofNat n)] : List Value).toArray below meth c s.heap [] 0 0 (MQ below (st_Q none) ([.int (Int32.ofNat x), .int (Int32.ofNat n)] : List Value).toArray s 0 0 st_no) (F0 m 0 (lg_sl [.int (Int32.ofNat x), .int (Int32.ofNat n)] ++ List.replicate ((es_m 28).2.1 - (lg_sl [.int (Int32.ofNat x), .int (Int32.ofNat n)]).length) Slot.unset).toArray []) := by
    intro o ho hZo
    refine lv_iload_n B1.exec B1.bytes (k := 0) (i := 0) (x := Int32.ofNat x) (ee_dec_ok (by decide +kernel)) rfl (lv_at hl 0 rfl) ?_
    refine lv_iload_n B1.exec B1.bytes (k := 1) (i := 1) (x := Int32.ofNat n) (ee_dec_ok (by decide +kernel)) rfl (lv_at hl 1 rfl) ?_
    refine va_gets B1.exec B1.bytes hZo va_S.rf hown (hts _ st_w4) (fun _ h => h) (ee_dec_ok (by decide +kernel)) ?_
    refine st_cS (mi := 29) (idx := 1059) (oc := 12) (d := d + 1) (vs := [.int (Int32.ofNat x), .int (Int32.ofNat n), o]) (rest := []) (f := (12, 1059, 29, false, 2150)) ⟨B1.exec, B1.bytes, hml, hown, hts⟩ (by decide +kernel) (by decide +kernel) rfl rfl rfl (show ee_sig 29 = some 3 by decide +kernel) (st_pre d hx hn ho) st_blind0 (fun U _ _ => ⟨rfl, trivial⟩) (ee_dec_ok (by decide +kernel)) ⟨Nat.le_refl _, by show 64 * (d + 1) + 64 ≤ 64 * (d + 2); omega⟩ (by decide) hl.1 ?_
    refine lv_pop B1.exec B1.bytes (ee_dec_ok (by decide +kernel)) rfl ?_
    exact W.vret B1.exec B1.bytes hret (fun t ht _ => ⟨rfl, ht⟩) (fun _ h => by cases h) (ee_dec_ok (by decide +kernel)) hlocks
  rw [lg_entry_eq]
  rcases hF with hF | ⟨t', hF⟩
  · exact key _ (Or.inl rfl) hF
  · exact key _ (Or.inr ⟨_, rfl⟩) hF
def st_ch (i : Nat) : Int32 := ((st_by i &&& 255).toUInt32 % 65536).toInt32
set_option maxRecDepth 100000 in
theorem st_ch_ok : ∀ i, i < 134 → st_ch i = Int32.ofNat (WCh i) ∧ narrow .char (.int (st_ch i)) = .int (st_ch i) := by decide +kernel
theorem st_in {i : Nat} (hi : i < 134) : vp_in (Int32.ofNat i) 134 := by
  intro h
  rcases h with h | h
  · have h2 := i32_lt.1 h
    rw [nI_t (by omega), show (0 : Int32).toInt = 0 from rfl] at h2
    omega
  · rw [tnc (by omega)] at h
    omega
theorem st_char (d : Nat) {i : Nat} (hi : i < 134) : Met l (es_m 27).1 (ee_mws 27) (ee_room (d + 3)) (st_P q t [.ref t, .int (Int32.ofNat i)]) (st_Q (some (.int (st_ch i)))) 0 0 st_no := by
  refine ee_ofW (cc := es_bytes (es_m 27).2.2.2.2) (maxL := (es_m 27).2.1) (ret := (es_m 27).2.2.1) (ws' := es_big) (ee_plain (by decide +kernel)) rfl ?_
  intro p e s m args below meth c s₁ B1 hml hv
  obtain ⟨rfl, hI⟩ := hv
  obtain ⟨hO, hC, hV, hT, hZ, hF⟩ := id hI
  have hts : ∀ w ∈ es_big, w.before _ s = true := fun w hw => atoms_spec (ws := ee_mws 27) B1.pre w (List.mem_cons_of_mem _ hw)
  have hown : s.vm.findClass "java/lang/StringLatin1" = some m.cls := findClass_of_methodNamed B1.named
  have hl := lv_entry [.ref t, .int (Int32.ofNat i)] (n := (es_m 27).2.1) (show 2 ≤ (es_m 27).2.1 by decide +kernel)
  have hret : meth.sig.returnType = some .char := B1.returns
  have hlocks : meth.locks = false := B1.notSynchronized
  rw [lg_entry_eq]
  refine lv_iload_n B1.exec B1.bytes (k := 1) (i := 1) (x := Int32.ofNat i) (ee_dec_ok (by decide +kernel)) rfl (lv_at hl 1 rfl) ?_
  refine lv_aload_n B1.exec B1.bytes (k := 0) (i := 0) (x := t) (ee_dec_ok (by decide +kernel)) rfl (lv_at hl 0 rfl) ?_
  refine va_tlen B1.exec B1.bytes hT va_S.rf rfl (ee_dec_ok (by decide +kernel)) ?_
  refine st_cS (mi := 28) (idx := 9) (oc := 13) (d := d + 2) (vs := [.int (Int32.ofNat i), .int (Int32.ofNat 134)]) (rest := []) (f := (13, 9, 28, false, 2145)) ⟨B1.exec, B1.bytes, hml, hown, hts⟩ (by decide +kernel) (by decide +kernel) rfl rfl rfl (show ee_sig 28 = some 2 by decide +kernel) (st_check (q := q) (t := t) d hi (by decide)) st_blind (fun U hU hW => ⟨rfl, st_I.moved hW.alike hU hI⟩) (ee_dec_ok (by decide +kernel)) ⟨Nat.le_refl _, by show 64 * (d + 2) + 64 ≤ 64 * (d + 3); omega⟩ (by decide) hl.1 ?_
  refine lv_aload_n B1.exec B1.bytes (k := 0) (i := 0) (x := t) (ee_dec_ok (by decide +kernel)) rfl (lv_at hl 0 rfl) ?_
  refine lv_iload_n B1.exec B1.bytes (k := 1) (i := 1) (x := Int32.ofNat i) (ee_dec_ok (by decide +kernel)) rfl (lv_at hl 1 rfl) ?_
  refine va_tb B1.exec B1.bytes hT va_S.rf (st_in hi) (v := .int (st_by i)) (by rw [tnc (by omega)]) (ee_dec_ok (by decide +kernel)) ?_
  refine lv_sipush B1.exec B1.bytes (n := 255) (v := 255) (ee_dec_ok (by decide +kernel)) (by decide) ?_
  refine lv_iand B1.exec B1.bytes (ee_dec_ok (by decide +kernel)) ?_
  refine lv_i2c B1.exec B1.bytes (v := st_ch i) (ee_dec_ok (by decide +kernel)) rfl ?_
  exact W.zret B1.exec B1.bytes hret (st_ch_ok i hi).2 (fun t ht _ => ⟨rfl, ht⟩) (fun _ h => by cases h) (ee_dec_ok (by decide +kernel)) hlocks
section STT
variable {D : va_G} {ad ca adV : Nat → Nat} {sc : Nat × (Nat → Int32)}
theorem st_of {U : State} {A : Nat → Prop} (h : ee_St ad adV A U U.heap) : st_I (ad es_NC) (adV 0) U := by
  obtain ⟨h1, -, -, h2, h3⟩ := h
  obtain ⟨g1, g2, g3, g4⟩ := h1.1 0 (by decide)
  exact ⟨g1.narrow (fun _ h => h.elim), g2.narrow (fun _ h => h.elim), g3.narrow (fun _ h => h.elim), g4.narrow (fun _ h => h.elim), h2.narrow (fun _ h => h.elim), h3.narrow (fun _ h => h.elim)⟩
theorem st_len (d sz : Nat) (w : ee_W) : Met l (es_m 23).1 (ee_mws 23) (ee_room (d + 8)) (ee_Pc D ad ca adV sc sz [.ref es_NC] w) (ee_Qc D ad ca sc sz [.int 134] w) 0 0 (ee_AA ad sz) := by
  refine ee_ofW (cc := es_bytes (es_m 23).2.2.2.2) (maxL := (es_m 23).2.1) (ret := (es_m 23).2.2.1) (ws' := es_big) (ee_plain (by decide +kernel)) rfl ?_
  intro p e s m args below meth c s₁ B1 hml hv
  obtain ⟨rfl, hsz, hP, hK, hStr, hSc, hw⟩ := hv
  have hI := st_of hStr
  obtain ⟨hO, hC, hV, hT, hZ, hF⟩ := id hI
  have hts : ∀ w ∈ es_big, w.before _ s = true := fun w hw => atoms_spec (ws := ee_mws 23) B1.pre w (List.mem_cons_of_mem _ hw)
  have hown : s.vm.findClass "java/lang/String" = some m.cls := findClass_of_methodNamed B1.named
  have hl := lv_entry [.ref (ad es_NC)] (n := (es_m 23).2.1) (show 1 ≤ (es_m 23).2.1 by decide +kernel)
  have hret : meth.sig.returnType = some .int := B1.returns
  have hlocks : meth.locks = false := B1.notSynchronized
  rw [lg_entry_eq]
  refine lv_aload_n B1.exec B1.bytes (k := 0) (i := 0) (x := ad es_NC) (ee_dec_ok (by decide +kernel)) rfl (lv_at hl 0 rfl) ?_
  refine vk_getf B1.exec B1.bytes hV va_S.rf hown (hts _ st_w3) (fun _ h => h) (ee_dec_ok (by decide +kernel)) ?_
  refine va_tlen B1.exec B1.bytes hT va_S.rf rfl (ee_dec_ok (by decide +kernel)) ?_
  refine lv_aload_n B1.exec B1.bytes (k := 0) (i := 0) (x := ad es_NC) (ee_dec_ok (by decide +kernel)) rfl (lv_at hl 0 rfl) ?_
  have hcell : ∃ cellB : Cell, s.heap[ad es_NC]? = some cellB ∧ cellB.vm.isStatics = false ∧ s.vm.findClass (es_m 24).1.cls = some cellB.cls := by
    obtain ⟨cell, h1, h2, h3, -⟩ := hO
    exact ⟨cell, h1, h2, h3⟩
  refine st_cV (mi := 24) (idx := 335) (oc := 12) (d := d + 1) (b := ad es_NC) (us := []) (rest := [.int (Int32.ofNat 134)]) (f := (12, 335, 24, false, 2128)) ⟨B1.exec, B1.bytes, hml, hown, hts⟩ (by decide +kernel) (by decide +kernel) rfl rfl rfl (show ee_sig 24 = some 0 by decide +kernel) (st_coder (q := ad es_NC) (t := adV 0) d) st_blind hcell (fun U hU hW => ⟨rfl, st_I.moved hW.alike hU hI⟩) (ee_dec_ok (by decide +kernel)) ⟨by show d + 1 + 1 ≤ d + 8; omega, by show 64 * (d + 1) + 64 ≤ 64 * (d + 8); omega⟩ (by decide) hl.1 ?_
  refine lv_ishr B1.exec B1.bytes (ee_dec_ok (by decide +kernel)) ?_
  exact W.iret (v := 134) B1.exec B1.bytes hret (fun t ht _ => ⟨rfl, by rw [ht]; exact hP, hw, va_S.F va_S.rf ht⟩) (fun _ h => by cases h) (ee_dec_ok (by decide +kernel)) hlocks
theorem st_at (d sz : Nat) (w : ee_W) {i : Nat} (hi : i < 134) : Met l (es_m 25).1 (ee_mws 25) (ee_room (d + 8)) (ee_Pc D ad ca adV sc sz [.ref es_NC, .int (Int32.ofNat i)] w) (ee_Qc D ad ca sc sz [.int (Int32.ofNat (WCh i))] w) 0 0 (ee_AA ad sz) := by
  refine ee_ofW (cc := es_bytes (es_m 25).2.2.2.2) (maxL := (es_m 25).2.1) (ret := (es_m 25).2.2.1) (ws' := es_big) (ee_plain (by decide +kernel)) rfl ?_
  intro p e s m args below meth c s₁ B1 hml hv
  obtain ⟨rfl, hsz, hP, hK, hStr, hSc, hw⟩ := hv
  have hI := st_of hStr
  obtain ⟨hO, hC, hV, hT, hZ, hF⟩ := id hI
  have hts : ∀ w ∈ es_big, w.before _ s = true := fun w hw => atoms_spec (ws := ee_mws 25) B1.pre w (List.mem_cons_of_mem _ hw)
  have hown : s.vm.findClass "java/lang/String" = some m.cls := findClass_of_methodNamed B1.named
  have hl := lv_entry [.ref (ad es_NC), .int (Int32.ofNat i)] (n := (es_m 25).2.1) (show 2 ≤ (es_m 25).2.1 by decide +kernel)
  have hret : meth.sig.returnType = some .char := B1.returns
  have hlocks : meth.locks = false := B1.notSynchronized
  rw [lg_entry_eq]
  refine lv_aload_n B1.exec B1.bytes (k := 0) (i := 0) (x := ad es_NC) (ee_dec_ok (by decide +kernel)) rfl (lv_at hl 0 rfl) ?_
  have hcell : ∃ cellB : Cell, s.heap[ad es_NC]? = some cellB ∧ cellB.vm.isStatics = false ∧ s.vm.findClass (es_m 26).1.cls = some cellB.cls := by
    obtain ⟨cell, h1, h2, h3, -⟩ := hO
    exact ⟨cell, h1, h2, h3⟩
  refine st_cV (mi := 26) (idx := 492) (oc := 12) (d := d + 1) (b := ad es_NC) (us := []) (rest := []) (f := (12, 492, 26, false, 2138)) ⟨B1.exec, B1.bytes, hml, hown, hts⟩ (by decide +kernel) (by decide +kernel) rfl rfl rfl (show ee_sig 26 = some 0 by decide +kernel) (st_latin (q := ad es_NC) (t := adV 0) d) st_blind hcell (fun U hU hW => ⟨rfl, st_I.moved hW.alike hU hI⟩) (ee_dec_ok (by decide +kernel)) ⟨by show d + 1 + 1 ≤ d + 8; omega, by show 64 * (d + 1) + 64 ≤ 64 * (d + 8); omega⟩ (by decide) hl.1 ?_
  refine lv_if_eq B1.exec B1.bytes (off := 12) (tgt := 16) (ee_dec_ok (by decide +kernel)) rfl (fun h => absurd h (by decide)) (fun _ => ?_)
  refine lv_aload_n B1.exec B1.bytes (k := 0) (i := 0) (x := ad es_NC) (ee_dec_ok (by decide +kernel)) rfl (lv_at hl 0 rfl) ?_
  refine vk_getf B1.exec B1.bytes hV va_S.rf hown (hts _ st_w3) (fun _ h => h) (ee_dec_ok (by decide +kernel)) ?_
  refine lv_iload_n B1.exec B1.bytes (k := 1) (i := 1) (x := Int32.ofNat i) (ee_dec_ok (by decide +kernel)) rfl (lv_at hl 1 rfl) ?_
  refine st_cS (mi := 27) (idx := 495) (oc := 12) (d := d + 3) (vs := [.ref (adV 0), .int (Int32.ofNat i)]) (rest := []) (f := (12, 495, 27, false, 2142)) ⟨B1.exec, B1.bytes, hml, hown, hts⟩ (by decide +kernel) (by decide +kernel) rfl rfl rfl (show ee_sig 27 = some 2 by decide +kernel) (st_char (q := ad es_NC) (t := adV 0) d hi) st_blind (fun U hU hW => ⟨rfl, st_I.moved hW.alike hU hI⟩) (ee_dec_ok (by decide +kernel)) ⟨by show d + 3 + 1 ≤ d + 8; omega, by show 64 * (d + 3) + 64 ≤ 64 * (d + 8); omega⟩ (by decide) hl.1 ?_
  obtain ⟨e1, e2⟩ := st_ch_ok i hi
  rw [← e1]
  exact W.zret B1.exec B1.bytes hret e2 (fun t ht _ => ⟨rfl, by rw [ht]; exact hP, hw, va_S.F va_S.rf ht⟩) (fun _ h => by cases h) (ee_dec_ok (by decide +kernel)) hlocks
def st_run (d mi : Nat) (vs : List Value) (w : ee_W) : Option (List Value × ee_W) :=
  if 8 ≤ d then (if mi = 23 then (if vs = [.ref es_NC] then some ([.int 134], w) else none)
    else if mi = 25 then (match vs with
      | [.ref h, .int x] => if h = es_NC ∧ 0 ≤ x.toInt ∧ x.toInt < 134 then some ([.int (Int32.ofNat (WCh x.toInt.toNat))], w) else none
      | _ => none)
    else none) else none
theorem st_SP : SP st_run := by
  intro d w hd
  refine ⟨?_, fun i hi => ?_⟩
  · unfold st_run
    rw [if_pos hd, if_pos rfl, if_pos rfl]
  · unfold st_run
    rw [if_pos hd, if_neg (by decide), if_pos rfl]
    have e : (Int32.ofNat i).toInt = (i : Int) := nI_t (by omega)
    show (if es_NC = es_NC ∧ 0 ≤ (Int32.ofNat i).toInt ∧ (Int32.ofNat i).toInt < 134 then some ([Value.int (Int32.ofNat (WCh (Int32.ofNat i).toInt.toNat))], w) else none) = _
    rw [e, if_pos ⟨rfl, by omega, by omega⟩]
    rfl
theorem st_hPr (d : Nat) : ee_HM l D ad ca adV sc (d + 1) (fun mi vs w => if ee_B mi = none then st_run (d + 1) mi vs w else none) := by
  intro mi vs w r w' hq
  have h : (if ee_B mi = none then st_run (d + 1) mi vs w else none) = some (r, w') := hq
  clear hq
  split at h
  · unfold st_run at h
    split at h
    · rename_i hd
      obtain ⟨k, rfl⟩ : ∃ k, d = k + 7 := ⟨d - 7, by omega⟩
      split at h
      · rename_i hm
        subst hm
        split at h
        · rename_i hv
          cases h
          subst hv
          exact ⟨fun hs => absurd hs (by decide), fun _ => ⟨es_NC, [], rfl, (show ee_sig 23 = some 0 by decide +kernel), Or.inr ⟨rfl, rfl⟩⟩, Nat.le_refl _, fun sz => st_len k sz w⟩
        · cases h
      · split at h
        · rename_i hm
          subst hm
          split at h
          · rename_i h0 x
            split at h
            · rename_i hx
              obtain ⟨rfl, x1, x2⟩ := hx
              cases h
              obtain ⟨n, hn, e⟩ : ∃ n : Nat, n < 134 ∧ x = Int32.ofNat n := ⟨x.toInt.toNat, by omega, by
                rw [← Int32.toInt_inj, nI_t (by omega)]
                omega⟩
              subst e
              have e2 : (Int32.ofNat n).toInt.toNat = n := by rw [nI_t (by omega)]; rfl
              rw [e2]
              exact ⟨fun hs => absurd hs (by decide), fun _ => ⟨es_NC, [.int (Int32.ofNat n)], rfl, (show ee_sig 25 = some 1 by decide +kernel), Or.inr ⟨rfl, rfl⟩⟩, Nat.le_refl _, fun sz => st_at k sz w hn⟩
            · cases h
          · cases h
        · cases h
    · cases h
  · cases h
end STT
end STR
