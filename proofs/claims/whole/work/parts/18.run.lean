/-! a method: what its body's evaluation answers, the machine answers -/
def ee_sl : List Value → ee_E
  | [] => []
  | v :: vs => if v.category = 2 then some v :: none :: ee_sl vs else some v :: ee_sl vs
def ee_env (vs : List Value) (n : Nat) : ee_E := ee_sl vs ++ List.replicate (n - (ee_sl vs).length) none
def ee_argok (mi : Nat) (vs : List Value) : Bool :=
  if (es_m mi).2.2.2.1 then decide (ee_sig mi = some vs.length) else match vs with
    | .ref h :: us => decide (ee_sig mi = some us.length) && decide (h < es_NC) && decide (10 ≤ (es_sh h).1) && decide (es_own ((es_sh h).1 - 10) = (es_m mi).1.cls)
    | _ => false
def ee_retok (ret : Option FieldType) (r : List Value) : Bool := match ret, r with
  | none, [] => true
  | some .int, [.int _] => true
  | some .boolean, [.int v] => v == 0 || v == 1
  | some .long, [.long _] => true
  | some (.object _), [.ref _] => true
  | some (.object _), [.null] => true
  | _, _ => false
noncomputable def ee_run (B : Nat → Option ee_T) (P : Nat → Nat → List Value → ee_W → Option (List Value × ee_W)) : Nat → Nat → List Value → ee_W → Option (List Value × ee_W)
  | 0, _, _, _ => none
  | d + 1, mi, vs, w => match B mi with
    | some body => if ee_argok mi vs = true ∧ (ee_sl vs).length ≤ (es_m mi).2.1 then
        match ee_evS es_sh es_rf (ee_run B P d) body 0 (ee_env vs (es_m mi).2.1) w with
        | some (.inr (r, w')) => if ee_retok (es_m mi).2.2.1 r then some (r, w') else none
        | _ => none
      else none
    | none => P (d + 1) mi vs w
theorem ee_sl_len (ad : Nat → Nat) : ∀ vs : List Value, (lg_sl (vs.map (ee_tr ad))).length = (ee_sl vs).length := by
  intro vs
  induction vs with
  | nil => rfl
  | cons v vs ih =>
    simp only [lg_sl, List.map_cons, List.flatMap_cons, List.length_append, ee_sl, ee_tr_cat] at ih ⊢
    split
    · simp only [List.length_cons, List.length_nil]
      rw [ih]
      omega
    · simp only [List.length_cons, List.length_nil]
      rw [ih]
      omega
theorem ee_sl_at (ad : Nat → Nat) : ∀ (vs : List Value) (i k : Nat) (v : Value), (ee_sl vs)[i]? = some (some v) → (k + i, ee_tr ad v) ∈ lv_args k (vs.map (ee_tr ad)) := by
  intro vs
  induction vs with
  | nil => intro i k v h; simp [ee_sl] at h
  | cons u vs ih =>
    intro i k v h
    simp only [List.map_cons, lv_args, ee_tr_cat]
    by_cases hc : u.category = 2
    · simp only [ee_sl, hc, if_true] at h ⊢
      match i, h with
      | 0, h => simp at h; subst h; exact List.mem_cons_self
      | 1, h => simp at h
      | i + 2, h =>
        simp only [List.getElem?_cons_succ] at h
        have := ih i (k + 2) v h
        rw [show k + (i + 2) = k + 2 + i by omega]
        exact List.mem_cons_of_mem _ this
    · simp only [ee_sl, hc, if_false] at h ⊢
      match i, h with
      | 0, h => simp at h; subst h; exact List.mem_cons_self
      | i + 1, h =>
        simp only [List.getElem?_cons_succ] at h
        have := ih i (k + 1) v h
        rw [show k + (i + 1) = k + 1 + i by omega]
        exact List.mem_cons_of_mem _ this
theorem ee_lv_entry (ad : Nat → Nat) (vs : List Value) (n : Nat) (h : (ee_sl vs).length ≤ n) : ee_lv ad ((lg_sl (vs.map (ee_tr ad)) ++ List.replicate (n - (lg_sl (vs.map (ee_tr ad))).length) Slot.unset).toArray) n (ee_env vs n) := by
  have h1 := lv_entry (vs.map (ee_tr ad)) (n := n) (by rw [ee_sl_len]; exact h)
  refine ⟨h1.1, h1.2.1, by simp [ee_env]; omega, fun i v hi => ?_⟩
  unfold ee_env at hi
  rcases Nat.lt_or_ge i (ee_sl vs).length with q | q
  · rw [List.getElem?_append_left q] at hi
    have := ee_sl_at ad vs i 0 v hi
    rw [Nat.zero_add] at this
    exact h1.2.2 _ this
  · rw [List.getElem?_append_right q, List.getElem?_replicate] at hi
    split at hi <;> cases hi
set_option maxRecDepth 100000 in
theorem es_plain : es_CM.all (fun q => plainFor (es_m q.1).1) = true := by decide +kernel
theorem ee_plain {mi : Nat} (h : es_CM.any (fun r => r.1 == mi) = true) : plainFor (es_m mi).1 = true := by
  obtain ⟨r, hr, hr2⟩ := List.any_eq_true.mp h
  rw [beq_iff_eq] at hr2
  have := List.all_eq_true.mp es_plain r hr
  rw [hr2] at this
  exact this
/-- Met.ofW for any method that no entry of the machine's overrides -/
theorem ee_ofW {l : Launch} {y : MethodName} {ws ws' : List Cond} {rm : Room} {Pc : Array Value → State → Prop} {Qc : Array Value → State → Outcome → State → Prop} {mc ms : Nat} {free : Addr → Prop} {cc : ByteArray} {maxL : Nat} {ret : Option FieldType}
    (hy : plainFor y = true) (hw : ws = Cond.code y cc maxL ret :: ws')
    (body : ∀ p e s m args below meth c s₁, BodyLoose p l y (headSpec ws rm) cc maxL ret e s m args below meth c s₁ → c.maxLocals = maxL → Pc args s →
      W p l e (headSpec ws rm).room s m args below meth c s.heap [] 0 0 (MQ below Qc args s mc ms free) (entryFrame m args maxL)) : Met l y ws rm Pc Qc mc ms free := by
  refine MetFree.of_bodySF (code := cc) (maxLocals := maxL) (ret := ret) hy ?_ ?_
  · intro args s m h hn
    obtain ⟨meth, c, h1, h2, h3, h4, h5, h6, -, -⟩ := Cond.code_spec hn (atoms_spec (ws := ws) h _ (by rw [hw]; exact List.mem_cons_self))
    exact ⟨meth, c, h1, h2, h3, h4, h5, h6⟩
  · intro p e s m args below meth c s₁ B hml hP _
    have hh0 : s₁.heap = s.heap := by rw [B.state]; rfl
    obtain ⟨t, a1, o, b1, b2, b3⟩ := body p e s m args below meth c s₁ B hml hP s₁ hh0 (Stand.of_body B)
    exact ⟨t, o, a1, b1, b2, ⟨b3.1, b3.2⟩⟩
theorem es_m_in {mi : Nat} (h : es_CM.any (fun r => r.1 == mi) = true) : es_m mi ∈ es_M := by
  have hlt : mi < es_M.length := by
    obtain ⟨r, hr, hr2⟩ := List.any_eq_true.mp h
    rw [beq_iff_eq] at hr2
    have := List.all_eq_true.mp es_CM_lt r hr
    rw [decide_eq_true_eq, hr2] at this
    exact this
  unfold es_m
  rw [List.getD_eq_getElem?_getD, List.getElem?_eq_getElem hlt]
  exact List.getElem_mem hlt
section MM
variable {l : Launch} {D : va_G} {ad ca adV : Nat → Nat} {sc : Nat × (Nat → Int32)}
/-- a body's place in the tables: its method is one that is called, the checker says yes -/
def ee_bok (mi oc : Nat) (cc : ByteArray) (body : ee_T) : Prop := es_CM.any (fun r => r.1 == mi) = true ∧ es_own oc = (es_m mi).1.cls ∧ es_bytes (es_m mi).2.2.2.2 = cc ∧ ee_isC body = false ∧ ee_okS cc oc body 0 0 = true
theorem ee_retok_ok {p : Program} {e : Env} {R : Room} {s : State} {m : MethodId} {args : Array Value} {below : List Frame} {meth : Method} {c : Code} {cc : ByteArray} {A : Nat → Prop} {sz : Nat} {H : Heap} {locs : List Loc} {ls : Array Slot} {q : Nat} {r : List Value} {w' : ee_W} {ret : Option FieldType}
    (hx : p.tables.exec = Jvm.exec) (hb : c.code = cc) (hr : meth.sig.returnType = ret) (hlocks : meth.locks = false) (hok : ee_retok ret r = true) (hd : ee_rti r (ee_dec cc q) = true)
    (hQ : ∀ t : State, t.heap = H → ee_Qc D ad ca sc sz r w' args s (.returned ((r.map (ee_tr ad)).head?)) t) (hf : ∀ q ∈ locs, A q.base) :
    W p l e R s m args below meth c H locs 0 0 (MQ below (ee_Qc D ad ca sc sz r w') args s 0 0 A) (F0 m q ls (r.map (ee_tr ad))) := by
  unfold ee_retok at hok
  split at hok
  · unfold ee_rti at hd
    split at hd
    all_goals first
      | (rename_i hz hd2; cases hz; done)
      | (rename_i hd2; exact W.vret hx hb hr (fun t ht _ => hQ t ht) hf (ee_dec_ok hd2) hlocks)
      | (cases hd; done)
  · rename_i v
    unfold ee_rti at hd
    split at hd
    all_goals first
      | (rename_i hz hd2; cases hz; done)
      | (rename_i x hz hd2; cases hz; exact W.iret hx hb hr (fun t ht _ => hQ t ht) hf (ee_dec_ok hd2) hlocks)
      | (rename_i x hd2; exact W.iret hx hb hr (fun t ht _ => hQ t ht) hf (ee_dec_ok hd2) hlocks)
      | (cases hd; done)
  · rename_i v
    have hn : narrow .boolean (.int v) = .int v := by
      rw [Bool.or_eq_true, beq_iff_eq, beq_iff_eq] at hok
      rcases hok with rfl | rfl <;> rfl
    unfold ee_rti at hd
    split at hd
    all_goals first
      | (rename_i hz hd2; cases hz; done)
      | (rename_i x hz hd2; cases hz; exact W.zret hx hb hr hn (fun t ht _ => hQ t ht) hf (ee_dec_ok hd2) hlocks)
      | (rename_i x hd2; exact W.zret hx hb hr hn (fun t ht _ => hQ t ht) hf (ee_dec_ok hd2) hlocks)
      | (cases hd; done)
  · rename_i v
    unfold ee_rti at hd
    split at hd
    all_goals first
      | (rename_i hz hd2; cases hz; done)
      | (rename_i x hz hd2; cases hz; exact W.lret hx hb hr (fun t ht _ => hQ t ht) hf (ee_dec_ok hd2) hlocks)
      | (rename_i x hd2; exact W.lret hx hb hr (fun t ht _ => hQ t ht) hf (ee_dec_ok hd2) hlocks)
      | (cases hd; done)
  · rename_i n v
    unfold ee_rti at hd
    split at hd
    all_goals first
      | (rename_i hz hd2; cases hz; done)
      | (rename_i x hz hd2; cases hz; exact W.aret hx hb hr (Or.inl ⟨_, rfl⟩) (Or.inr ⟨_, rfl⟩) (fun t ht _ => hQ t ht) hf (ee_dec_ok hd2) hlocks)
      | (rename_i x hd2; exact W.aret hx hb hr (Or.inl ⟨_, rfl⟩) (Or.inr ⟨_, rfl⟩) (fun t ht _ => hQ t ht) hf (ee_dec_ok hd2) hlocks)
      | (cases hd; done)
  · rename_i n
    unfold ee_rti at hd
    split at hd
    all_goals first
      | (rename_i hz hd2; cases hz; done)
      | (rename_i hd2; exact W.aret hx hb hr (Or.inl ⟨_, rfl⟩) (Or.inl rfl) (fun t ht _ => hQ t ht) hf (ee_dec_ok hd2) hlocks)
      | (cases hd; done)
  · cases hok
theorem ee_retok_len {ret : Option FieldType} {r : List Value} (h : ee_retok ret r = true) : r.length ≤ 1 := by
  unfold ee_retok at h
  split at h <;> first | (cases h; done) | simp
theorem ee_met {B : Nat → Option ee_T} {P : Nat → Nat → List Value → ee_W → Option (List Value × ee_W)} (hinj : ∀ i j, i < es_NC → j < es_NC → ad i = ad j → i = j)
    (hB : ∀ mi body, B mi = some body → ∃ oc cc, ee_bok mi oc cc body)
    (hPr : ∀ d, ee_HM l D ad ca adV sc (d + 1) (fun mi vs w => if B mi = none then P (d + 1) mi vs w else none)) : ∀ d, ee_HM l D ad ca adV sc d (ee_run B P d) := by
  intro d
  induction d with
  | zero => intro mi vs w r w' h; cases h
  | succ d ih =>
    intro mi vs w r w' h
    unfold ee_run at h
    split at h
    · rename_i body hbody
      obtain ⟨oc, cc, hcm, hoc, hcc, hnc, hok⟩ := hB mi body hbody
      split at h
      · rename_i hc
        obtain ⟨harg, hlen⟩ := hc
        split at h
        · rename_i r0 w0 hev
          split at h
          · rename_i hret
            cases h
            refine ⟨fun hs => ?_, fun hs => ?_, ee_retok_len hret, fun sz => ?_⟩
            · unfold ee_argok at harg
              rw [hs, if_pos rfl, decide_eq_true_eq] at harg
              exact harg
            · unfold ee_argok at harg
              rw [hs, if_neg (by decide)] at harg
              split at harg
              · rename_i hh us
                simp only [Bool.and_eq_true, decide_eq_true_eq] at harg
                exact ⟨hh, us, rfl, harg.1.1.1, Or.inl ⟨harg.1.1.2, harg.1.2, harg.2⟩⟩
              · cases harg
            · refine ee_ofW (cc := cc) (maxL := (es_m mi).2.1) (ret := (es_m mi).2.2.1) (ws' := es_big) (ee_plain hcm) (by unfold ee_mws; rw [hcc]) ?_
              intro p e s m args below meth c s₁ B1 hml hv
              obtain ⟨rfl, hsz, hP, hK, hStr, hSc, hw⟩ := hv
              have hts := atoms_spec (ws := ee_mws mi) B1.pre
              have hown : s.vm.findClass (es_m mi).1.cls = some m.cls := findClass_of_methodNamed B1.named
              rw [lg_entry_eq]
              have X : ee_X (ee_run B P d) cc oc (fun H locs g => W p l e (ee_room (d + 1)) s m (vs.map (ee_tr ad)).toArray below meth c H locs 0 0 (MQ below (ee_Qc D ad ca sc sz r w') (vs.map (ee_tr ad)).toArray s 0 0 (ee_AA ad sz)) g, m, s.heap, D, ad, ca, ee_AA ad sz, (es_m mi).2.1, sc) := by
                refine ⟨p, l, e, ee_room (d + 1), s, m, _, below, meth, c, 0, 0, _, D, ad, ca, adV, ee_AA ad sz, (es_m mi).2.1, sc, d, rfl, B1.exec, B1.bytes, hml, by rw [hoc]; exact hown, fun w hw => hts w (List.mem_cons_of_mem _ hw), hK, hinj, fun h hh => Or.inl ⟨h, hh, rfl⟩, fun q hq => Or.inr (by rw [← hsz]; exact hq), hStr, hSc, ih, Nat.le_refl _, by show 64 * d + 64 ≤ 64 * (d + 1); omega, Nat.le_refl _, Nat.le_refl _⟩
              have hQS := (ee_QS X body).1 hnc 0 0 (ee_env vs (es_m mi).2.1) w _ hev hok (by
                intro H locs ls q hP2 hS2 hw2 hd2
                exact ee_retok_ok B1.exec B1.bytes B1.returns B1.notSynchronized hret hd2 (fun t ht => ⟨rfl, by rw [ht]; exact hP2, hw2, va_S.F hS2 ht⟩) hS2.2.2)
              exact hQS s.heap [] _ hP va_S.rf (ee_lv_entry ad vs _ hlen) hw
          · cases h
        · cases h
      · cases h
    · rename_i hbody
      exact hPr d mi vs w r w' (by simp only [hbody, if_true]; exact h)
end MM
