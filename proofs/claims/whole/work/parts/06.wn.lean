/-! the machine under the abstract world: judgements and rows of single instructions -/
def ee_tr (ad : Nat → Nat) : Value → Value
  | .ref h => .ref (ad h)
  | v => v
theorem ee_tr_cat (ad : Nat → Nat) (v : Value) : (ee_tr ad v).category = v.category := by cases v <;> rfl
def ee_cell (ad ca : Nat → Nat) (w : ee_W) (h : Nat) : va_E :=
  if (es_sh h).1 < 8 then .inl (ca (es_sh h).1, (es_sh h).2, match (es_sh h).1 with
    | 0 => .inl (w.1 h)
    | 1 => .inl (w.1 h)
    | 2 => .inr (.inl (w.2.1 h))
    | _ => .inr (.inr (.inr (.inr (fun k => (es_rf h k).map ad)))))
  else .inr ((es_sh h).1 - 10, (List.range (es_nf ((es_sh h).1 - 10))).map (fun k => ee_tr ad (ee_fld es_rf w h k (es_fty ((es_sh h).1 - 10) k))))
def ee_ws (ad ca : Nat → Nat) (w : ee_W) : va_W := (List.range es_NC).map (fun h => (ad h, ee_cell ad ca w h))
theorem ee_ws_at {ad ca : Nat → Nat} {w : ee_W} {h : Nat} (hh : h < es_NC) : (ee_ws ad ca w)[h]? = some (ad h, ee_cell ad ca w h) := by
  simp [ee_ws, hh]
theorem ee_ws_in {ad ca : Nat → Nat} {w : ee_W} {k : Nat} {q : Nat × va_E} (h : (ee_ws ad ca w)[k]? = some q) : k < es_NC ∧ q = (ad k, ee_cell ad ca w k) := by
  have hk : k < es_NC := by
    have := (List.getElem?_eq_some_iff.mp h).1
    simpa [ee_ws] using this
  rw [ee_ws_at hk] at h
  exact ⟨hk, (Option.some.inj h).symm⟩
theorem ee_ws_set {ad ca : Nat → Nat} {w w' : ee_W} {h : Nat} {x : va_E} (he : ee_cell ad ca w' h = x) (ho : ∀ h', h' ≠ h → ee_cell ad ca w' h' = ee_cell ad ca w h') : (ee_ws ad ca w).set h (ad h, x) = ee_ws ad ca w' := by
  apply List.ext_getElem?
  intro k
  by_cases hk : k < es_NC
  · rw [ee_ws_at hk]
    by_cases e : k = h
    · subst e
      rw [List.getElem?_set_self (by simpa [ee_ws] using hk), he]
    · rw [List.getElem?_set_ne (fun z => e z.symm), ee_ws_at hk, ho k e]
  · rw [List.getElem?_eq_none (by simp [ee_ws]; omega), List.getElem?_eq_none (by simp [ee_ws]; omega)]
abbrev ee_tys (ca : Nat → Nat) : List (ClassId × FieldType) := [(ca 0, .int), (ca 1, .boolean), (ca 2, .long), (ca 3, .object "HeadServo$Head"), (ca 4, .object "HeadServo$Text")]
/-- the locals -/
def ee_lv (ad : Nat → Nat) (ls : Array Slot) (nL : Nat) (env : ee_E) : Prop := ls.size = nL ∧ lv_wf ls ∧ env.length = nL ∧ ∀ (i : Nat) (v : Value), env[i]? = some (some v) → ls[i]? = some (.val (ee_tr ad v))
/-- which cells a method may change -/
def ee_AA (ad : Nat → Nat) (sz : Nat) : Nat → Prop := fun q => (∃ h, h < es_NC ∧ q = ad h) ∨ sz ≤ q
/-- links of nest mates -/
def ee_Nw (U : State) : Prop := (∀ q ∈ es_FL, q.2.2.2.1 = true → va_Nw (es_flw q) U) ∧ ∀ q ∈ es_ML, q.2.2.2.1 = true → va_Nw (es_mlw q) U
def ee_St (ad adV : Nat → Nat) (A : Nat → Prop) (U : State) (H : Heap) : Prop := vk_S 1 es_sl es_sb (fun _ => ad es_NC) adV A U H ∧ vk_R (es_own es_str.1) es_str.2.1 es_str.2.2.1 (ad es_NC) U ∧ ee_Nw U ∧ va_Z "java/lang/String" "COMPACT_STRINGS" "Z" (.int 1) A U H ∧ va_Zq "jdk/internal/util/Preconditions" "SIOOBE_FORMATTER" "Ljava/util/function/BiFunction;" A U H
def ee_Sc (ad : Nat → Nat) (sc : Nat × (Nat → Int32)) (A : Nat → Prop) (U : State) (H : Heap) : Prop := va_X (ad (es_NC + 1)) sc.1 sc.2 U H ∧ ad (es_NC + 1) < H.size ∧ ¬ A (ad (es_NC + 1))
/-- F, the method, the heap at its start, classes, addresses, array classes, the cells that may change, local variables, the script -/
abbrev ee_G : Type := (Heap → List Loc → JFrame → Prop) × MethodId × Heap × va_G × (Nat → Nat) × (Nat → Nat) × (Nat → Prop) × Nat × (Nat × (Nat → Int32))
def ee_Wn (G : ee_G) (pc : Nat) (env : ee_E) (st : List Value) (w : ee_W) : Prop :=
  ∀ (H : Heap) (locs : List Loc) (ls : Array Slot), va_P G.2.2.2.1 es_cl (ee_ws G.2.2.2.2.1 G.2.2.2.2.2.1 w) H → va_S G.2.2.2.2.2.2.1 G.2.2.1 H locs → ee_lv G.2.2.2.2.1 ls G.2.2.2.2.2.2.2.1 env → w.2.2 = G.2.2.2.2.2.2.2.2 → G.1 H locs (F0 G.2.1 pc ls (st.map (ee_tr G.2.2.2.2.1)))
def ee_room (d : Nat) : Room := { frames := d, cells := 0, slots := 0, locals := 64 * d }
def ee_Pc (D : va_G) (ad ca adV : Nat → Nat) (sc : Nat × (Nat → Int32)) (sz : Nat) (vs : List Value) (w : ee_W) : Array Value → State → Prop := va_Pc (vs.map (ee_tr ad)) (fun U => U.heap.size = sz ∧ va_P D es_cl (ee_ws ad ca w) U.heap ∧ va_K D es_cl (ee_tys ca) U ∧ ee_St ad adV (ee_AA ad sz) U U.heap ∧ ee_Sc ad sc (ee_AA ad sz) U U.heap ∧ w.2.2 = sc)
def ee_Qc (D : va_G) (ad ca : Nat → Nat) (sc : Nat × (Nat → Int32)) (sz : Nat) (r : List Value) (w' : ee_W) : Array Value → State → Outcome → State → Prop := fun _ st o t => o = .returned ((r.map (ee_tr ad)).head?) ∧ va_P D es_cl (ee_ws ad ca w') t.heap ∧ w'.2.2 = sc ∧ va_F (ee_AA ad sz) st t
def ee_sig (mi : Nat) : Option Nat := (parseMethodDescriptor (es_m mi).1.desc).map (fun d => d.parameters.length)
def ee_mws (mi : Nat) : List Jvm.Cond := Cond.code (es_m mi).1 (es_bytes (es_m mi).2.2.2.2) (es_m mi).2.1 (es_m mi).2.2.1 :: es_big
/-- the calls that C answers are calls that the machine answers so, with d frames' room -/
def ee_HM (l : Launch) (D : va_G) (ad ca adV : Nat → Nat) (sc : Nat × (Nat → Int32)) (d : Nat) (C : Nat → List Value → ee_W → Option (List Value × ee_W)) : Prop :=
  ∀ mi vs w r w', C mi vs w = some (r, w') → ((es_m mi).2.2.2.1 = true → ee_sig mi = some vs.length) ∧ ((es_m mi).2.2.2.1 = false → ∃ h us, vs = .ref h :: us ∧ ee_sig mi = some us.length ∧ ((h < es_NC ∧ 10 ≤ (es_sh h).1 ∧ (es_own ((es_sh h).1 - 10)) = (es_m mi).1.cls) ∨ (h = es_NC ∧ (es_m mi).1.cls = "java/lang/String"))) ∧ r.length ≤ 1 ∧
    ∀ sz, Met l (es_m mi).1 (ee_mws mi) (ee_room d) (ee_Pc D ad ca adV sc sz vs w) (ee_Qc D ad ca sc sz r w') 0 0 (ee_AA ad sz)
def ee_X (C : Nat → List Value → ee_W → Option (List Value × ee_W)) (cc : ByteArray) (oc : Nat) (G : ee_G) : Prop :=
  ∃ (p : Program) (l : Launch) (e : Env) (R : Room) (s : State) (m : MethodId) (args : Array Value) (below : List Frame) (meth : Method) (c : Code) (cells slots : Nat) (Q : State → Prop) (D : va_G) (ad ca adV : Nat → Nat) (A : Nat → Prop) (nL : Nat) (sc : Nat × (Nat → Int32)) (d : Nat),
    G = (fun H locs g => W p l e R s m args below meth c H locs cells slots Q g, m, s.heap, D, ad, ca, A, nL, sc) ∧ p.tables.exec = Jvm.exec ∧ c.code = cc ∧ c.maxLocals = nL ∧ s.vm.findClass (es_own oc) = some m.cls ∧ (∀ w ∈ es_big, w.before args s = true) ∧ va_K D es_cl (ee_tys ca) s ∧
    (∀ i j, i < es_NC → j < es_NC → ad i = ad j → i = j) ∧ (∀ h, h < es_NC → A (ad h)) ∧ (∀ q, s.heap.size ≤ q → A q) ∧ ee_St ad adV A s s.heap ∧ ee_Sc ad sc A s s.heap ∧ ee_HM l D ad ca adV sc d C ∧ d + 1 ≤ R.frames ∧ 64 * d + 64 ≤ R.locals ∧ cells ≤ R.cells ∧ slots ≤ R.slots
section EN
variable {C : Nat → List Value → ee_W → Option (List Value × ee_W)} {cc : ByteArray} {oc : Nat} {G : ee_G} {pc : Nat} {env : ee_E} {st : List Value} {w : ee_W}
theorem en_iadd (X : ee_X C cc oc G) {x y : Int32} (hd : ee_dec cc pc = some (.iadd, 1)) (k : ee_Wn G (pc + 1) env (.int (x + y) :: st) w) : ee_Wn G pc env (.int y :: .int x :: st) w := by
  obtain ⟨p, l, e, R, s, m, args, below, meth, c, cells, slots, Q, D, ad, ca, adV, A, nL, sc, d, rfl, hx, hb, hml, hown, hts, hK, hinj, hadA, hAs, hStr, hSc, hHM, hR1, hR2, hc1, hc2⟩ := X
  intro H locs ls hP hS hl hw
  exact lv_iadd hx hb (ee_dec_ok hd) (k H locs ls hP hS hl hw)
theorem en_isub (X : ee_X C cc oc G) {x y : Int32} (hd : ee_dec cc pc = some (.isub, 1)) (k : ee_Wn G (pc + 1) env (.int (x - y) :: st) w) : ee_Wn G pc env (.int y :: .int x :: st) w := by
  obtain ⟨p, l, e, R, s, m, args, below, meth, c, cells, slots, Q, D, ad, ca, adV, A, nL, sc, d, rfl, hx, hb, hml, hown, hts, hK, hinj, hadA, hAs, hStr, hSc, hHM, hR1, hR2, hc1, hc2⟩ := X
  intro H locs ls hP hS hl hw
  exact lv_isub hx hb (ee_dec_ok hd) (k H locs ls hP hS hl hw)
theorem en_imul (X : ee_X C cc oc G) {x y : Int32} (hd : ee_dec cc pc = some (.imul, 1)) (k : ee_Wn G (pc + 1) env (.int (x * y) :: st) w) : ee_Wn G pc env (.int y :: .int x :: st) w := by
  obtain ⟨p, l, e, R, s, m, args, below, meth, c, cells, slots, Q, D, ad, ca, adV, A, nL, sc, d, rfl, hx, hb, hml, hown, hts, hK, hinj, hadA, hAs, hStr, hSc, hHM, hR1, hR2, hc1, hc2⟩ := X
  intro H locs ls hP hS hl hw
  exact lv_imul hx hb (ee_dec_ok hd) (k H locs ls hP hS hl hw)
theorem en_iand (X : ee_X C cc oc G) {x y : Int32} (hd : ee_dec cc pc = some (.iand, 1)) (k : ee_Wn G (pc + 1) env (.int (x &&& y) :: st) w) : ee_Wn G pc env (.int y :: .int x :: st) w := by
  obtain ⟨p, l, e, R, s, m, args, below, meth, c, cells, slots, Q, D, ad, ca, adV, A, nL, sc, d, rfl, hx, hb, hml, hown, hts, hK, hinj, hadA, hAs, hStr, hSc, hHM, hR1, hR2, hc1, hc2⟩ := X
  intro H locs ls hP hS hl hw
  exact lv_iand hx hb (ee_dec_ok hd) (k H locs ls hP hS hl hw)
theorem en_ior (X : ee_X C cc oc G) {x y : Int32} (hd : ee_dec cc pc = some (.ior, 1)) (k : ee_Wn G (pc + 1) env (.int (x ||| y) :: st) w) : ee_Wn G pc env (.int y :: .int x :: st) w := by
  obtain ⟨p, l, e, R, s, m, args, below, meth, c, cells, slots, Q, D, ad, ca, adV, A, nL, sc, d, rfl, hx, hb, hml, hown, hts, hK, hinj, hadA, hAs, hStr, hSc, hHM, hR1, hR2, hc1, hc2⟩ := X
  intro H locs ls hP hS hl hw
  exact lv_ior hx hb (ee_dec_ok hd) (k H locs ls hP hS hl hw)
theorem en_ixor (X : ee_X C cc oc G) {x y : Int32} (hd : ee_dec cc pc = some (.ixor, 1)) (k : ee_Wn G (pc + 1) env (.int (x ^^^ y) :: st) w) : ee_Wn G pc env (.int y :: .int x :: st) w := by
  obtain ⟨p, l, e, R, s, m, args, below, meth, c, cells, slots, Q, D, ad, ca, adV, A, nL, sc, d, rfl, hx, hb, hml, hown, hts, hK, hinj, hadA, hAs, hStr, hSc, hHM, hR1, hR2, hc1, hc2⟩ := X
  intro H locs ls hP hS hl hw
  exact lv_ixor hx hb (ee_dec_ok hd) (k H locs ls hP hS hl hw)
theorem en_ishl (X : ee_X C cc oc G) {x y : Int32} (hd : ee_dec cc pc = some (.ishl, 1)) (k : ee_Wn G (pc + 1) env (.int (x <<< (y &&& 31)) :: st) w) : ee_Wn G pc env (.int y :: .int x :: st) w := by
  obtain ⟨p, l, e, R, s, m, args, below, meth, c, cells, slots, Q, D, ad, ca, adV, A, nL, sc, d, rfl, hx, hb, hml, hown, hts, hK, hinj, hadA, hAs, hStr, hSc, hHM, hR1, hR2, hc1, hc2⟩ := X
  intro H locs ls hP hS hl hw
  exact lv_ishl hx hb (ee_dec_ok hd) (k H locs ls hP hS hl hw)
theorem en_ishr (X : ee_X C cc oc G) {x y : Int32} (hd : ee_dec cc pc = some (.ishr, 1)) (k : ee_Wn G (pc + 1) env (.int (x >>> (y &&& 31)) :: st) w) : ee_Wn G pc env (.int y :: .int x :: st) w := by
  obtain ⟨p, l, e, R, s, m, args, below, meth, c, cells, slots, Q, D, ad, ca, adV, A, nL, sc, d, rfl, hx, hb, hml, hown, hts, hK, hinj, hadA, hAs, hStr, hSc, hHM, hR1, hR2, hc1, hc2⟩ := X
  intro H locs ls hP hS hl hw
  exact lv_ishr hx hb (ee_dec_ok hd) (k H locs ls hP hS hl hw)
theorem en_idiv (X : ee_X C cc oc G) {x y : Int32} (hd : ee_dec cc pc = some (.idiv, 1)) (h0 : ¬ y = 0) (k : ee_Wn G (pc + 1) env (.int (x / y) :: st) w) : ee_Wn G pc env (.int y :: .int x :: st) w := by
  obtain ⟨p, l, e, R, s, m, args, below, meth, c, cells, slots, Q, D, ad, ca, adV, A, nL, sc, d, rfl, hx, hb, hml, hown, hts, hK, hinj, hadA, hAs, hStr, hSc, hHM, hR1, hR2, hc1, hc2⟩ := X
  intro H locs ls hP hS hl hw
  exact lv_idiv hx hb (ee_dec_ok hd) h0 (k H locs ls hP hS hl hw)
theorem en_irem (X : ee_X C cc oc G) {x y : Int32} (hd : ee_dec cc pc = some (.irem, 1)) (h0 : ¬ y = 0) (k : ee_Wn G (pc + 1) env (.int (x - x / y * y) :: st) w) : ee_Wn G pc env (.int y :: .int x :: st) w := by
  obtain ⟨p, l, e, R, s, m, args, below, meth, c, cells, slots, Q, D, ad, ca, adV, A, nL, sc, d, rfl, hx, hb, hml, hown, hts, hK, hinj, hadA, hAs, hStr, hSc, hHM, hR1, hR2, hc1, hc2⟩ := X
  intro H locs ls hP hS hl hw
  exact lv_irem hx hb (ee_dec_ok hd) h0 (k H locs ls hP hS hl hw)
theorem en_iushr (X : ee_X C cc oc G) {x y : Int32} (hd : ee_dec cc pc = some (.iushr, 1)) (k : ee_Wn G (pc + 1) env (.int (x.toUInt32 >>> (y.toUInt32 &&& Int32.toUInt32 31)).toInt32 :: st) w) : ee_Wn G pc env (.int y :: .int x :: st) w := by
  obtain ⟨p, l, e, R, s, m, args, below, meth, c, cells, slots, Q, D, ad, ca, adV, A, nL, sc, d, rfl, hx, hb, hml, hown, hts, hK, hinj, hadA, hAs, hStr, hSc, hHM, hR1, hR2, hc1, hc2⟩ := X
  intro H locs ls hP hS hl hw
  exact lv_iushr hx hb (ee_dec_ok hd) rfl (k H locs ls hP hS hl hw)
theorem en_ladd (X : ee_X C cc oc G) {x y : Int64} (hd : ee_dec cc pc = some (.ladd, 1)) (k : ee_Wn G (pc + 1) env (.long (x + y) :: st) w) : ee_Wn G pc env (.long y :: .long x :: st) w := by
  obtain ⟨p, l, e, R, s, m, args, below, meth, c, cells, slots, Q, D, ad, ca, adV, A, nL, sc, d, rfl, hx, hb, hml, hown, hts, hK, hinj, hadA, hAs, hStr, hSc, hHM, hR1, hR2, hc1, hc2⟩ := X
  intro H locs ls hP hS hl hw
  exact lv_ladd hx hb (ee_dec_ok hd) (k H locs ls hP hS hl hw)
theorem en_lsub (X : ee_X C cc oc G) {x y : Int64} (hd : ee_dec cc pc = some (.lsub, 1)) (k : ee_Wn G (pc + 1) env (.long (x - y) :: st) w) : ee_Wn G pc env (.long y :: .long x :: st) w := by
  obtain ⟨p, l, e, R, s, m, args, below, meth, c, cells, slots, Q, D, ad, ca, adV, A, nL, sc, d, rfl, hx, hb, hml, hown, hts, hK, hinj, hadA, hAs, hStr, hSc, hHM, hR1, hR2, hc1, hc2⟩ := X
  intro H locs ls hP hS hl hw
  exact lv_lsub hx hb (ee_dec_ok hd) (k H locs ls hP hS hl hw)
theorem en_lmul (X : ee_X C cc oc G) {x y : Int64} (hd : ee_dec cc pc = some (.lmul, 1)) (k : ee_Wn G (pc + 1) env (.long (x * y) :: st) w) : ee_Wn G pc env (.long y :: .long x :: st) w := by
  obtain ⟨p, l, e, R, s, m, args, below, meth, c, cells, slots, Q, D, ad, ca, adV, A, nL, sc, d, rfl, hx, hb, hml, hown, hts, hK, hinj, hadA, hAs, hStr, hSc, hHM, hR1, hR2, hc1, hc2⟩ := X
  intro H locs ls hP hS hl hw
  exact lv_lmul hx hb (ee_dec_ok hd) (k H locs ls hP hS hl hw)
theorem en_land (X : ee_X C cc oc G) {x y : Int64} (hd : ee_dec cc pc = some (.land, 1)) (k : ee_Wn G (pc + 1) env (.long (x &&& y) :: st) w) : ee_Wn G pc env (.long y :: .long x :: st) w := by
  obtain ⟨p, l, e, R, s, m, args, below, meth, c, cells, slots, Q, D, ad, ca, adV, A, nL, sc, d, rfl, hx, hb, hml, hown, hts, hK, hinj, hadA, hAs, hStr, hSc, hHM, hR1, hR2, hc1, hc2⟩ := X
  intro H locs ls hP hS hl hw
  exact lv_land hx hb (ee_dec_ok hd) (k H locs ls hP hS hl hw)
theorem en_lor (X : ee_X C cc oc G) {x y : Int64} (hd : ee_dec cc pc = some (.lor, 1)) (k : ee_Wn G (pc + 1) env (.long (x ||| y) :: st) w) : ee_Wn G pc env (.long y :: .long x :: st) w := by
  obtain ⟨p, l, e, R, s, m, args, below, meth, c, cells, slots, Q, D, ad, ca, adV, A, nL, sc, d, rfl, hx, hb, hml, hown, hts, hK, hinj, hadA, hAs, hStr, hSc, hHM, hR1, hR2, hc1, hc2⟩ := X
  intro H locs ls hP hS hl hw
  exact lv_lor hx hb (ee_dec_ok hd) (k H locs ls hP hS hl hw)
theorem en_ldiv (X : ee_X C cc oc G) {x y : Int64} (hd : ee_dec cc pc = some (.ldiv, 1)) (h0 : ¬ y = 0) (k : ee_Wn G (pc + 1) env (.long (x / y) :: st) w) : ee_Wn G pc env (.long y :: .long x :: st) w := by
  obtain ⟨p, l, e, R, s, m, args, below, meth, c, cells, slots, Q, D, ad, ca, adV, A, nL, sc, d, rfl, hx, hb, hml, hown, hts, hK, hinj, hadA, hAs, hStr, hSc, hHM, hR1, hR2, hc1, hc2⟩ := X
  intro H locs ls hP hS hl hw
  exact lv_ldiv hx hb (ee_dec_ok hd) h0 (k H locs ls hP hS hl hw)
theorem en_lrem (X : ee_X C cc oc G) {x y : Int64} (hd : ee_dec cc pc = some (.lrem, 1)) (h0 : ¬ y = 0) (k : ee_Wn G (pc + 1) env (.long (x - x / y * y) :: st) w) : ee_Wn G pc env (.long y :: .long x :: st) w := by
  obtain ⟨p, l, e, R, s, m, args, below, meth, c, cells, slots, Q, D, ad, ca, adV, A, nL, sc, d, rfl, hx, hb, hml, hown, hts, hK, hinj, hadA, hAs, hStr, hSc, hHM, hR1, hR2, hc1, hc2⟩ := X
  intro H locs ls hP hS hl hw
  exact lv_lrem hx hb (ee_dec_ok hd) h0 (k H locs ls hP hS hl hw)
theorem en_lshl (X : ee_X C cc oc G) {x : Int64} {y : Int32} (hd : ee_dec cc pc = some (.lshl, 1)) (k : ee_Wn G (pc + 1) env (.long (x <<< (y.toInt64 &&& 63)) :: st) w) : ee_Wn G pc env (.int y :: .long x :: st) w := by
  obtain ⟨p, l, e, R, s, m, args, below, meth, c, cells, slots, Q, D, ad, ca, adV, A, nL, sc, d, rfl, hx, hb, hml, hown, hts, hK, hinj, hadA, hAs, hStr, hSc, hHM, hR1, hR2, hc1, hc2⟩ := X
  intro H locs ls hP hS hl hw
  exact lv_lshl hx hb (ee_dec_ok hd) rfl (k H locs ls hP hS hl hw)
theorem en_lshr (X : ee_X C cc oc G) {x : Int64} {y : Int32} (hd : ee_dec cc pc = some (.lshr, 1)) (k : ee_Wn G (pc + 1) env (.long (x >>> (y.toInt64 &&& 63)) :: st) w) : ee_Wn G pc env (.int y :: .long x :: st) w := by
  obtain ⟨p, l, e, R, s, m, args, below, meth, c, cells, slots, Q, D, ad, ca, adV, A, nL, sc, d, rfl, hx, hb, hml, hown, hts, hK, hinj, hadA, hAs, hStr, hSc, hHM, hR1, hR2, hc1, hc2⟩ := X
  intro H locs ls hP hS hl hw
  exact lv_lshr hx hb (ee_dec_ok hd) rfl (k H locs ls hP hS hl hw)
theorem en_ineg (X : ee_X C cc oc G) {x : Int32} (hd : ee_dec cc pc = some (.ineg, 1)) (k : ee_Wn G (pc + 1) env (.int (-x) :: st) w) : ee_Wn G pc env (.int x :: st) w := by
  obtain ⟨p, l, e, R, s, m, args, below, meth, c, cells, slots, Q, D, ad, ca, adV, A, nL, sc, d, rfl, hx, hb, hml, hown, hts, hK, hinj, hadA, hAs, hStr, hSc, hHM, hR1, hR2, hc1, hc2⟩ := X
  intro H locs ls hP hS hl hw
  exact lv_ineg hx hb (ee_dec_ok hd) (k H locs ls hP hS hl hw)
theorem en_lneg (X : ee_X C cc oc G) {x : Int64} (hd : ee_dec cc pc = some (.lneg, 1)) (k : ee_Wn G (pc + 1) env (.long (-x) :: st) w) : ee_Wn G pc env (.long x :: st) w := by
  obtain ⟨p, l, e, R, s, m, args, below, meth, c, cells, slots, Q, D, ad, ca, adV, A, nL, sc, d, rfl, hx, hb, hml, hown, hts, hK, hinj, hadA, hAs, hStr, hSc, hHM, hR1, hR2, hc1, hc2⟩ := X
  intro H locs ls hP hS hl hw
  exact lv_lneg hx hb (ee_dec_ok hd) (k H locs ls hP hS hl hw)
theorem en_i2l (X : ee_X C cc oc G) {x : Int32} (hd : ee_dec cc pc = some (.i2l, 1)) (k : ee_Wn G (pc + 1) env (.long x.toInt64 :: st) w) : ee_Wn G pc env (.int x :: st) w := by
  obtain ⟨p, l, e, R, s, m, args, below, meth, c, cells, slots, Q, D, ad, ca, adV, A, nL, sc, d, rfl, hx, hb, hml, hown, hts, hK, hinj, hadA, hAs, hStr, hSc, hHM, hR1, hR2, hc1, hc2⟩ := X
  intro H locs ls hP hS hl hw
  exact lv_i2l hx hb (ee_dec_ok hd) rfl (k H locs ls hP hS hl hw)
theorem en_l2i (X : ee_X C cc oc G) {x : Int64} (hd : ee_dec cc pc = some (.l2i, 1)) (k : ee_Wn G (pc + 1) env (.int x.toInt32 :: st) w) : ee_Wn G pc env (.long x :: st) w := by
  obtain ⟨p, l, e, R, s, m, args, below, meth, c, cells, slots, Q, D, ad, ca, adV, A, nL, sc, d, rfl, hx, hb, hml, hown, hts, hK, hinj, hadA, hAs, hStr, hSc, hHM, hR1, hR2, hc1, hc2⟩ := X
  intro H locs ls hP hS hl hw
  exact lv_l2i hx hb (ee_dec_ok hd) rfl (k H locs ls hP hS hl hw)
theorem en_iconst (X : ee_X C cc oc G) {n : Int} {v : Int32} (hd : ee_dec cc pc = some (.iconst n, 1)) (hv : Int32.ofInt n = v) (k : ee_Wn G (pc + 1) env (.int v :: st) w) : ee_Wn G pc env st w := by
  obtain ⟨p, l, e, R, s, m, args, below, meth, c, cells, slots, Q, D, ad, ca, adV, A, nL, sc, d, rfl, hx, hb, hml, hown, hts, hK, hinj, hadA, hAs, hStr, hSc, hHM, hR1, hR2, hc1, hc2⟩ := X
  intro H locs ls hP hS hl hw
  exact lv_iconst hx hb (ee_dec_ok hd) hv (k H locs ls hP hS hl hw)
theorem en_bipush (X : ee_X C cc oc G) {n : Int} {v : Int32} (hd : ee_dec cc pc = some (.bipush n, 2)) (hv : (Int8.ofInt n).toInt32 = v) (k : ee_Wn G (pc + 2) env (.int v :: st) w) : ee_Wn G pc env st w := by
  obtain ⟨p, l, e, R, s, m, args, below, meth, c, cells, slots, Q, D, ad, ca, adV, A, nL, sc, d, rfl, hx, hb, hml, hown, hts, hK, hinj, hadA, hAs, hStr, hSc, hHM, hR1, hR2, hc1, hc2⟩ := X
  intro H locs ls hP hS hl hw
  exact lv_bipush hx hb (ee_dec_ok hd) hv (k H locs ls hP hS hl hw)
theorem en_sipush (X : ee_X C cc oc G) {n : Int} {v : Int32} (hd : ee_dec cc pc = some (.sipush n, 3)) (hv : (Int16.ofInt n).toInt32 = v) (k : ee_Wn G (pc + 3) env (.int v :: st) w) : ee_Wn G pc env st w := by
  obtain ⟨p, l, e, R, s, m, args, below, meth, c, cells, slots, Q, D, ad, ca, adV, A, nL, sc, d, rfl, hx, hb, hml, hown, hts, hK, hinj, hadA, hAs, hStr, hSc, hHM, hR1, hR2, hc1, hc2⟩ := X
  intro H locs ls hP hS hl hw
  exact lv_sipush hx hb (ee_dec_ok hd) hv (k H locs ls hP hS hl hw)
theorem en_lconst (X : ee_X C cc oc G) {n : Fin 2} {v : Int64} (hd : ee_dec cc pc = some (.lconst n, 1)) (hv : Int64.ofNat (n : Nat) = v) (k : ee_Wn G (pc + 1) env (.long v :: st) w) : ee_Wn G pc env st w := by
  obtain ⟨p, l, e, R, s, m, args, below, meth, c, cells, slots, Q, D, ad, ca, adV, A, nL, sc, d, rfl, hx, hb, hml, hown, hts, hK, hinj, hadA, hAs, hStr, hSc, hHM, hR1, hR2, hc1, hc2⟩ := X
  intro H locs ls hP hS hl hw
  exact lv_lconst hx hb (ee_dec_ok hd) hv (k H locs ls hP hS hl hw)
theorem en_null (X : ee_X C cc oc G) (hd : ee_dec cc pc = some (.aconst_null, 1)) (k : ee_Wn G (pc + 1) env (.null :: st) w) : ee_Wn G pc env st w := by
  obtain ⟨p, l, e, R, s, m, args, below, meth, c, cells, slots, Q, D, ad, ca, adV, A, nL, sc, d, rfl, hx, hb, hml, hown, hts, hK, hinj, hadA, hAs, hStr, hSc, hHM, hR1, hR2, hc1, hc2⟩ := X
  intro H locs ls hP hS hl hw
  exact lv_null hx hb (ee_dec_ok hd) (k H locs ls hP hS hl hw)
theorem en_goto (X : ee_X C cc oc G) {off : Int} {t : Nat} (hd : ee_dec cc pc = some (.goto off, 3)) (ht : ee_tgt pc off = some t) (k : ee_Wn G t env st w) : ee_Wn G pc env st w := by
  obtain ⟨p, l, e, R, s, m, args, below, meth, c, cells, slots, Q, D, ad, ca, adV, A, nL, sc, d, rfl, hx, hb, hml, hown, hts, hK, hinj, hadA, hAs, hStr, hSc, hHM, hR1, hR2, hc1, hc2⟩ := X
  intro H locs ls hP hS hl hw
  exact lv_goto hx hb (ee_dec_ok hd) (ee_tgt_ok ht) (k H locs ls hP hS hl hw)
theorem en_iload_n (X : ee_X C cc oc G) {n : Fin 4} {i : Nat} {x : Int32} (hd : ee_dec cc pc = some (.iload_n n, 1)) (hi : (n : Nat) = i) (he : env[i]? = some (some (.int x))) (k : ee_Wn G (pc + 1) env (.int x :: st) w) : ee_Wn G pc env st w := by
  obtain ⟨p, l, e, R, s, m, args, below, meth, c, cells, slots, Q, D, ad, ca, adV, A, nL, sc, d, rfl, hx, hb, hml, hown, hts, hK, hinj, hadA, hAs, hStr, hSc, hHM, hR1, hR2, hc1, hc2⟩ := X
  intro H locs ls hP hS hl hw
  exact lv_iload_n hx hb (ee_dec_ok hd) hi (hl.2.2.2 i _ he) (k H locs ls hP hS hl hw)
theorem en_iload (X : ee_X C cc oc G) {i : Nat} {x : Int32} (hd : ee_dec cc pc = some (.iload i, 2)) (he : env[i]? = some (some (.int x))) (k : ee_Wn G (pc + 2) env (.int x :: st) w) : ee_Wn G pc env st w := by
  obtain ⟨p, l, e, R, s, m, args, below, meth, c, cells, slots, Q, D, ad, ca, adV, A, nL, sc, d, rfl, hx, hb, hml, hown, hts, hK, hinj, hadA, hAs, hStr, hSc, hHM, hR1, hR2, hc1, hc2⟩ := X
  intro H locs ls hP hS hl hw
  exact lv_iload hx hb (ee_dec_ok hd) (hl.2.2.2 i _ he) (k H locs ls hP hS hl hw)
theorem en_lload_n (X : ee_X C cc oc G) {n : Fin 4} {i : Nat} {x : Int64} (hd : ee_dec cc pc = some (.lload_n n, 1)) (hi : (n : Nat) = i) (he : env[i]? = some (some (.long x))) (k : ee_Wn G (pc + 1) env (.long x :: st) w) : ee_Wn G pc env st w := by
  obtain ⟨p, l, e, R, s, m, args, below, meth, c, cells, slots, Q, D, ad, ca, adV, A, nL, sc, d, rfl, hx, hb, hml, hown, hts, hK, hinj, hadA, hAs, hStr, hSc, hHM, hR1, hR2, hc1, hc2⟩ := X
  intro H locs ls hP hS hl hw
  exact lv_lload_n hx hb (ee_dec_ok hd) hi (hl.2.2.2 i _ he) (k H locs ls hP hS hl hw)
theorem en_lload (X : ee_X C cc oc G) {i : Nat} {x : Int64} (hd : ee_dec cc pc = some (.lload i, 2)) (he : env[i]? = some (some (.long x))) (k : ee_Wn G (pc + 2) env (.long x :: st) w) : ee_Wn G pc env st w := by
  obtain ⟨p, l, e, R, s, m, args, below, meth, c, cells, slots, Q, D, ad, ca, adV, A, nL, sc, d, rfl, hx, hb, hml, hown, hts, hK, hinj, hadA, hAs, hStr, hSc, hHM, hR1, hR2, hc1, hc2⟩ := X
  intro H locs ls hP hS hl hw
  exact lv_lload hx hb (ee_dec_ok hd) (hl.2.2.2 i _ he) (k H locs ls hP hS hl hw)
theorem en_aload_n (X : ee_X C cc oc G) {n : Fin 4} {i x : Nat} (hd : ee_dec cc pc = some (.aload_n n, 1)) (hi : (n : Nat) = i) (he : env[i]? = some (some (.ref x))) (k : ee_Wn G (pc + 1) env (.ref x :: st) w) : ee_Wn G pc env st w := by
  obtain ⟨p, l, e, R, s, m, args, below, meth, c, cells, slots, Q, D, ad, ca, adV, A, nL, sc, d, rfl, hx, hb, hml, hown, hts, hK, hinj, hadA, hAs, hStr, hSc, hHM, hR1, hR2, hc1, hc2⟩ := X
  intro H locs ls hP hS hl hw
  exact lv_aload_n hx hb (ee_dec_ok hd) hi (hl.2.2.2 i _ he) (k H locs ls hP hS hl hw)
theorem en_aload (X : ee_X C cc oc G) {i x : Nat} (hd : ee_dec cc pc = some (.aload i, 2)) (he : env[i]? = some (some (.ref x))) (k : ee_Wn G (pc + 2) env (.ref x :: st) w) : ee_Wn G pc env st w := by
  obtain ⟨p, l, e, R, s, m, args, below, meth, c, cells, slots, Q, D, ad, ca, adV, A, nL, sc, d, rfl, hx, hb, hml, hown, hts, hK, hinj, hadA, hAs, hStr, hSc, hHM, hR1, hR2, hc1, hc2⟩ := X
  intro H locs ls hP hS hl hw
  exact lv_aload hx hb (ee_dec_ok hd) (hl.2.2.2 i _ he) (k H locs ls hP hS hl hw)
end EN
