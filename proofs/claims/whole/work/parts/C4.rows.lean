/-! what constructors make: the world as it grows, instruction by instruction -/
abbrev cn_C : Type := Nat × Nat × List Value
def cn_v (sz : Nat) (ca : Nat → Nat) (c : cn_C) : va_E :=
  if c.1 < 8 then .inl (ca c.1, c.2.1, match c.1 with
    | 0 => .inl (fun _ => 0)
    | 1 => .inl (fun _ => 0)
    | 2 => .inr (.inl (fun _ => 0))
    | _ => .inr (.inr (.inr (.inr (fun k => match c.2.2[k]? with
      | some (.ref i) => some (sz + i)
      | _ => none)))))
  else .inr (c.1 - 10, c.2.2.map (ee_tr (fun i => sz + i)))
def cn_w (sz : Nat) (ca : Nat → Nat) (cs : List cn_C) : va_W := (List.range cs.length).map (fun i => (sz + i, cn_v sz ca (cs.getD i (9, 0, []))))
section CNW
variable {sz : Nat} {ca : Nat → Nat} {cs : List cn_C} {p : Nat} {c : cn_C}
theorem cn_len : (cn_w sz ca cs).length = cs.length := by simp [cn_w]
theorem cn_w_at (h : cs[p]? = some c) : (cn_w sz ca cs)[p]? = some (sz + p, cn_v sz ca c) := by
  have hp := (List.getElem?_eq_some_iff.mp h).1
  unfold cn_w
  rw [List.getElem?_map, List.getElem?_range hp, Option.map_some, List.getD_eq_getElem?_getD, h]
  rfl
theorem cn_w_in {k : Nat} {q : Nat × va_E} (h : (cn_w sz ca cs)[k]? = some q) : k < cs.length ∧ q.1 = sz + k ∧ ∃ c, cs[k]? = some c ∧ q = (sz + k, cn_v sz ca c) := by
  have hk : k < cs.length := by
    have := (List.getElem?_eq_some_iff.mp h).1
    rwa [cn_len] at this
  have h2 := cn_w_at (sz := sz) (ca := ca) (List.getElem?_eq_getElem hk)
  rw [h] at h2
  cases h2
  exact ⟨hk, rfl, _, List.getElem?_eq_getElem hk, rfl⟩
theorem cn_w_set {c' : cn_C} (h : cs[p]? = some c) : (cn_w sz ca cs).set p (sz + p, cn_v sz ca c') = cn_w sz ca (cs.set p c') := by
  have hp := (List.getElem?_eq_some_iff.mp h).1
  apply List.ext_getElem?
  intro k
  by_cases hk : k < cs.length
  · by_cases e : k = p
    · subst e
      rw [List.getElem?_set_self (by rw [cn_len]; exact hp), cn_w_at (c := c') (List.getElem?_set_self hp)]
    · rw [List.getElem?_set_ne (fun z => e z.symm), cn_w_at (List.getElem?_eq_getElem hk), cn_w_at (c := cs[k]) (by rw [List.getElem?_set_ne (fun z => e z.symm)]; exact List.getElem?_eq_getElem hk)]
  · rw [List.getElem?_eq_none (by rw [List.length_set, cn_len]; omega), List.getElem?_eq_none (by rw [cn_len, List.length_set]; omega)]
theorem cn_w_push : cn_w sz ca (cs ++ [c]) = cn_w sz ca cs ++ [(sz + cs.length, cn_v sz ca c)] := by
  apply List.ext_getElem?
  intro k
  by_cases hk : k < cs.length
  · rw [List.getElem?_append_left (by rw [cn_len]; exact hk), cn_w_at (List.getElem?_eq_getElem hk), cn_w_at (c := cs[k]) (by rw [List.getElem?_append_left hk]; exact List.getElem?_eq_getElem hk)]
  · by_cases e : k = cs.length
    · subst e
      rw [cn_w_at (c := c) (by rw [List.getElem?_append_right (Nat.le_refl _), Nat.sub_self]; rfl), List.getElem?_append_right (by rw [cn_len]; exact Nat.le_refl _), cn_len, Nat.sub_self]
      rfl
    · rw [List.getElem?_eq_none (by rw [cn_len, List.length_append]; simp; omega), List.getElem?_eq_none (by rw [List.length_append, cn_len]; simp; omega)]
theorem cn_D {A : Nat → Prop} (hA : ∀ q, sz ≤ q → A q) : va_D A (cn_w sz ca cs) := by
  refine ⟨fun i j p q hp hq he => ?_, fun k q hk => ?_⟩
  · obtain ⟨-, h1, -⟩ := cn_w_in hp
    obtain ⟨-, h2, -⟩ := cn_w_in hq
    omega
  · obtain ⟨-, h1, -⟩ := cn_w_in hk
    rw [h1]
    exact hA _ (by omega)
end CNW
/-- F, the method, the heap at its start, classes, array classes, the cells that may change, local variables, where the cells begin, room -/
abbrev cn_G : Type := (Heap → List Loc → Nat → Nat → JFrame → Prop) × MethodId × Heap × va_G × (Nat → Nat) × (Nat → Prop) × Nat × Nat × Nat × Nat
def cn_Wn (G : cn_G) (pc : Nat) (env : ee_E) (st : List Value) (cs : List cn_C) (nc ns : Nat) : Prop :=
  ∀ (H : Heap) (locs : List Loc) (ls : Array Slot), va_P G.2.2.2.1 es_cl (cn_w G.2.2.2.2.2.2.2.1 G.2.2.2.2.1 cs) H → H.size = G.2.2.2.2.2.2.2.1 + cs.length → va_S G.2.2.2.2.2.1 G.2.2.1 H locs → ee_lv (fun i => G.2.2.2.2.2.2.2.1 + i) ls G.2.2.2.2.2.2.1 env → G.1 H locs nc ns (F0 G.2.1 pc ls (st.map (ee_tr (fun i => G.2.2.2.2.2.2.2.1 + i))))
def cn_Pc (D : va_G) (ca : Nat → Nat) (sz p : Nat) (cs : List cn_C) : Array Value → State → Prop := va_Pc [.ref (sz + p)] (fun U => U.heap.size = sz + cs.length ∧ va_P D es_cl (cn_w sz ca cs) U.heap ∧ va_K D es_cl (ee_tys ca) U ∧ ee_Nw U ∧ va_AO "HeadServo$Head" U ∧ va_AO "HeadServo$Text" U)
def cn_Qc (D : va_G) (ca : Nat → Nat) (sz : Nat) (cs' : List cn_C) : Array Value → State → Outcome → State → Prop := fun _ st o t => o = .returned none ∧ t.heap.size = sz + cs'.length ∧ va_P D es_cl (cn_w sz ca cs') t.heap ∧ va_F (fun q => sz ≤ q) st t
def cn_R (d mc ms : Nat) : Room := { frames := d, cells := mc, slots := ms, locals := 64 * d }
abbrev cn_F : Type := Nat → Nat → List cn_C → Option (List cn_C × Nat × Nat)
def cn_HM (l : Launch) (D : va_G) (ca : Nat → Nat) (sz d : Nat) (C : cn_F) : Prop :=
  ∀ mi p cs cs' mc ms, C mi p cs = some (cs', mc, ms) → (∃ oc, (mi, oc) ∈ cn_M) ∧ Met l (es_m mi).1 (ee_mws mi) (cn_R d mc ms) (cn_Pc D ca sz p cs) (cn_Qc D ca sz cs') mc ms (fun q => sz ≤ q)
def cn_X (C : cn_F) (cc : ByteArray) (oc : Nat) (G : cn_G) : Prop :=
  ∃ (p : Program) (l : Launch) (e : Env) (R : Room) (s : State) (m : MethodId) (args : Array Value) (below : List Frame) (meth : Method) (c : Code) (Q : State → Prop) (D : va_G) (ca : Nat → Nat) (A : Nat → Prop) (nL sz d : Nat),
    G = (fun H locs nc ns g => W p l e R s m args below meth c H locs nc ns Q g, m, s.heap, D, ca, A, nL, sz, R.cells, R.slots) ∧ p.tables.exec = Jvm.exec ∧ c.code = cc ∧ c.maxLocals = nL ∧ s.vm.findClass (es_own oc) = some m.cls ∧ (∀ w ∈ es_big, w.before args s = true) ∧ va_K D es_cl (ee_tys ca) s ∧
    (∀ q, sz ≤ q → A q) ∧ sz ≤ s.heap.size ∧ ee_Nw s ∧ va_AO "HeadServo$Head" s ∧ va_AO "HeadServo$Text" s ∧ cn_HM l D ca sz d C ∧ d + 1 ≤ R.frames ∧ 64 * d + 64 ≤ R.locals ∧ meth.name = "<init>"
section CNR
variable {C : cn_F} {cc : ByteArray} {oc : Nat} {G : cn_G} {pc : Nat} {env : ee_E} {st : List Value} {cs : List cn_C} {nc ns : Nat}
theorem cn_aload (X : cn_X C cc oc G) {n : Fin 4} {h : Nat} (hd : ee_dec cc pc = some (.aload_n n, 1)) (he : env[(n : Nat)]? = some (some (.ref h))) (k : cn_Wn G (pc + 1) env (.ref h :: st) cs nc ns) : cn_Wn G pc env st cs nc ns := by
  obtain ⟨p, l, e, R, s, m, args, below, meth, c, Q, D, ca, A, nL, sz, d, rfl, hx, hb, hml, hown, hts, hK, hA, hsz, hNw, hO1, hO2, hHM, hR1, hR2, hin⟩ := X
  intro H locs ls hP hz hS hl
  exact lv_aload_n hx hb (ee_dec_ok hd) rfl (hl.2.2.2 _ _ he) (k H locs ls hP hz hS hl)
theorem cn_iload (X : cn_X C cc oc G) {n : Fin 4} {x : Int32} (hd : ee_dec cc pc = some (.iload_n n, 1)) (he : env[(n : Nat)]? = some (some (.int x))) (k : cn_Wn G (pc + 1) env (.int x :: st) cs nc ns) : cn_Wn G pc env st cs nc ns := by
  obtain ⟨p, l, e, R, s, m, args, below, meth, c, Q, D, ca, A, nL, sz, d, rfl, hx, hb, hml, hown, hts, hK, hA, hsz, hNw, hO1, hO2, hHM, hR1, hR2, hin⟩ := X
  intro H locs ls hP hz hS hl
  exact lv_iload_n hx hb (ee_dec_ok hd) rfl (hl.2.2.2 _ _ he) (k H locs ls hP hz hS hl)
theorem cn_iconst (X : cn_X C cc oc G) {n : Int} (hd : ee_dec cc pc = some (.iconst n, 1)) (k : cn_Wn G (pc + 1) env (.int (Int32.ofInt n) :: st) cs nc ns) : cn_Wn G pc env st cs nc ns := by
  obtain ⟨p, l, e, R, s, m, args, below, meth, c, Q, D, ca, A, nL, sz, d, rfl, hx, hb, hml, hown, hts, hK, hA, hsz, hNw, hO1, hO2, hHM, hR1, hR2, hin⟩ := X
  intro H locs ls hP hz hS hl
  exact lv_iconst hx hb (ee_dec_ok hd) rfl (k H locs ls hP hz hS hl)
theorem cn_bipush (X : cn_X C cc oc G) {n : Int} (hd : ee_dec cc pc = some (.bipush n, 2)) (k : cn_Wn G (pc + 2) env (.int (Int8.ofInt n).toInt32 :: st) cs nc ns) : cn_Wn G pc env st cs nc ns := by
  obtain ⟨p, l, e, R, s, m, args, below, meth, c, Q, D, ca, A, nL, sz, d, rfl, hx, hb, hml, hown, hts, hK, hA, hsz, hNw, hO1, hO2, hHM, hR1, hR2, hin⟩ := X
  intro H locs ls hP hz hS hl
  exact lv_bipush hx hb (ee_dec_ok hd) rfl (k H locs ls hP hz hS hl)
theorem cn_sipush (X : cn_X C cc oc G) {n : Int} (hd : ee_dec cc pc = some (.sipush n, 3)) (k : cn_Wn G (pc + 3) env (.int (Int16.ofInt n).toInt32 :: st) cs nc ns) : cn_Wn G pc env st cs nc ns := by
  obtain ⟨p, l, e, R, s, m, args, below, meth, c, Q, D, ca, A, nL, sz, d, rfl, hx, hb, hml, hown, hts, hK, hA, hsz, hNw, hO1, hO2, hHM, hR1, hR2, hin⟩ := X
  intro H locs ls hP hz hS hl
  exact lv_sipush hx hb (ee_dec_ok hd) rfl (k H locs ls hP hz hS hl)
theorem cn_ldc (X : cn_X C cc oc G) {i : Nat} {v : Int32} (hd : ee_dec cc pc = some (.ldc i, 2)) (hv : ee_ki oc i v = true) (k : cn_Wn G (pc + 2) env (.int v :: st) cs nc ns) : cn_Wn G pc env st cs nc ns := by
  obtain ⟨p, l, e, R, s, m, args, below, meth, c, Q, D, ca, A, nL, sz, d, rfl, hx, hb, hml, hown, hts, hK, hA, hsz, hNw, hO1, hO2, hHM, hR1, hR2, hin⟩ := X
  intro H locs ls hP hz hS hl
  obtain ⟨r, hr, hr2⟩ := List.any_eq_true.mp hv
  simp only [Bool.and_eq_true, beq_iff_eq, decide_eq_true_eq] at hr2
  have hlk := hts _ (es_big_a (List.all_eq_true.mp es_KI_ok r hr) (by
    have := es_K_good
    simp only [Bool.and_eq_true] at this
    exact List.all_eq_true.mp this.1.1 r hr))
  rw [hr2.1, hr2.2.1, hr2.2.2] at hlk
  exact lv_ldc hx hb hown hlk (ee_dec_ok hd) (k H locs ls hP hz hS hl)
theorem cn_dup (X : cn_X C cc oc G) {h : Nat} (hd : ee_dec cc pc = some (.dup, 1)) (k : cn_Wn G (pc + 1) env (.ref h :: .ref h :: st) cs nc ns) : cn_Wn G pc env (.ref h :: st) cs nc ns := by
  obtain ⟨p, l, e, R, s, m, args, below, meth, c, Q, D, ca, A, nL, sz, d, rfl, hx, hb, hml, hown, hts, hK, hA, hsz, hNw, hO1, hO2, hHM, hR1, hR2, hin⟩ := X
  intro H locs ls hP hz hS hl
  exact lv_dup hx hb (ee_dec_ok hd) rfl (k H locs ls hP hz hS hl)
theorem cn_goto (X : cn_X C cc oc G) {off : Int} {t : Nat} (hd : ee_dec cc pc = some (.goto off, 3)) (ht : ee_tgt pc off = some t) (k : cn_Wn G t env st cs nc ns) : cn_Wn G pc env st cs nc ns := by
  obtain ⟨p, l, e, R, s, m, args, below, meth, c, Q, D, ca, A, nL, sz, d, rfl, hx, hb, hml, hown, hts, hK, hA, hsz, hNw, hO1, hO2, hHM, hR1, hR2, hin⟩ := X
  intro H locs ls hP hz hS hl
  exact lv_goto hx hb (ee_dec_ok hd) (ee_tgt_ok ht) (k H locs ls hP hz hS hl)
theorem cn_icmp (X : cn_X C cc oc G) {off : Int} {t : Nat} {x y : Int32} (hd : ee_dec cc pc = some (.if_icmp .ge off, 3)) (ht : ee_tgt pc off = some t) (k : cn_Wn G (if y ≤ x then t else pc + 3) env st cs nc ns) : cn_Wn G pc env (.int y :: .int x :: st) cs nc ns := by
  obtain ⟨p, l, e, R, s, m, args, below, meth, c, Q, D, ca, A, nL, sz, d, rfl, hx, hb, hml, hown, hts, hK, hA, hsz, hNw, hO1, hO2, hHM, hR1, hR2, hin⟩ := X
  intro H locs ls hP hz hS hl
  have k := k H locs ls hP hz hS hl
  exact lv_icmp_ge hx hb (ee_dec_ok hd) (ee_tgt_ok ht) (fun h => by first | (rw [if_pos h] at k; exact k) | (rw [if_neg (by simpa using h)] at k; exact k)) (fun h => by first | (rw [if_neg h] at k; exact k) | (rw [if_pos (by simpa using h)] at k; exact k))
theorem cn_istore (X : cn_X C cc oc G) {n : Fin 4} {x : Int32} (hd : ee_dec cc pc = some (.istore_n n, 1)) (hno : ee_noL env n = true) (hle : (n : Nat) < env.length) (k : cn_Wn G (pc + 1) (env.set n (some (.int x))) st cs nc ns) : cn_Wn G pc env (.int x :: st) cs nc ns := by
  obtain ⟨p, l, e, R, s, m, args, below, meth, c, Q, D, ca, A, nL, sz, d, rfl, hx, hb, hml, hown, hts, hK, hA, hsz, hNw, hO1, hO2, hHM, hR1, hR2, hin⟩ := X
  intro H locs ls hP hz hS hl
  have hl : ee_lv (fun i => sz + i) ls nL env := hl
  have hn : (n : Nat) < nL := by rw [← hl.2.2.1]; exact hle
  exact lv_istore_n hx hb (ee_dec_ok hd) rfl (ee_lv_has hl) hn rfl (fun ls' h' => k H locs ls' hP hz hS (ee_lv_set1 (v := .int x) hl hno hn h'))
theorem cn_iinc (X : cn_X C cc oc G) {i : Nat} {n : Int} {x : Int32} (hd : ee_dec cc pc = some (.iinc i n, 3)) (he : env[i]? = some (some (.int x))) (hno : ee_noL env i = true) (k : cn_Wn G (pc + 3) (env.set i (some (.int (x + Int32.ofInt n)))) st cs nc ns) : cn_Wn G pc env st cs nc ns := by
  obtain ⟨p, l, e, R, s, m, args, below, meth, c, Q, D, ca, A, nL, sz, d, rfl, hx, hb, hml, hown, hts, hK, hA, hsz, hNw, hO1, hO2, hHM, hR1, hR2, hin⟩ := X
  intro H locs ls hP hz hS hl
  have hl : ee_lv (fun i => sz + i) ls nL env := hl
  have hn : i < nL := by rw [← hl.2.2.1]; exact (List.getElem?_eq_some_iff.mp he).1
  obtain ⟨j, hj⟩ := List.getElem?_of_mem (ee_toL_mem (ad := fun i => sz + i) (q := (i, .int x)) |>.mpr ⟨.int x, he, rfl⟩)
  exact lv_iinc hx hb (ee_dec_ok hd) (ee_lv_has hl) hj rfl hn rfl (fun ls' h' => k H locs ls' hP hz hS (ee_lv_set1 (v := .int (x + Int32.ofInt n)) hl hno hn h'))
theorem cn_obj (X : cn_X C cc oc G) {i h : Nat} {f : Nat × Nat × Nat × Bool × Nat} (hd : ee_dec cc pc = some (.invokespecial i, 3)) (hf : ee_ml oc i = some f) (h1 : f.2.2.1 = 1) (hn : f.2.2.2.1 = false) (hst : st.length ≤ 4) (k : cn_Wn G (pc + 3) env st cs nc ns) : cn_Wn G pc env (.ref h :: st) cs nc ns := by
  obtain ⟨p, l, e, R, s, m, args, below, meth, c, Q, D, ca, A, nL, sz, d, rfl, hx, hb, hml, hown, hts, hK, hA, hsz, hNw, hO1, hO2, hHM, hR1, hR2, hin⟩ := X
  intro H locs ls hP hz hS hl
  have hl : ee_lv (fun i => sz + i) ls nL env := hl
  obtain ⟨m1, m2, m3, m4⟩ := es_ml_mem hf
  have hlk := hts _ (m4 hn)
  unfold es_mlw at hlk
  rw [hn, if_neg (by decide), m1, m2, h1, cn_O3] at hlk
  refine W.objInit (rest := st.map (ee_tr (fun i => sz + i))) hx hb hown hlk (hts _ cn_O1) (hts _ cn_O2) rfl (by rw [hml]; exact hl.1) rfl (ee_dec_ok hd) (by omega) ?_ (k H locs ls hP hz hS hl)
  have := ee_cats st (fun i => sz + i)
  show 2 * 0 + _ + 12 ≤ _
  omega
theorem cn_new (X : cn_X C cc oc G) {i c0 : Nat} (hd : ee_dec cc pc = some (.new i, 3)) (hq : (oc, i, c0) ∈ cn_N) (hc : nc + 1 ≤ G.2.2.2.2.2.2.2.2.1) (hs : ns + es_nf c0 ≤ G.2.2.2.2.2.2.2.2.2) (k : cn_Wn G (pc + 3) env (.ref cs.length :: st) (cs ++ [(10 + c0, 0, cn_def c0)]) (nc + 1) (ns + es_nf c0)) : cn_Wn G pc env st cs nc ns := by
  obtain ⟨p, l, e, R, s, m, args, below, meth, c, Q, D, ca, A, nL, sz, d, rfl, hx, hb, hml, hown, hts, hK, hA, hsz, hNw, hO1, hO2, hHM, hR1, hR2, hin⟩ := X
  intro H locs ls hP hz hS hl
  have hP : va_P D es_cl (cn_w sz ca cs) H := hP
  have hz : H.size = sz + cs.length := hz
  obtain ⟨n1, n2⟩ := cn_N_ok _ hq
  obtain ⟨n3, n4⟩ := cn_I c0 n2
  have hcl := es_cl_at n2
  have hKn := hK.1 c0 _ hcl
  refine W.newcK hx hb hown (hts _ n1) (hts _ n3) (hts _ n4) rfl (ee_dec_ok hd) hc hs hKn.2.1 hz fun H1 kC hkC e1 z1 o1 => ?_
  have hk : ∀ (k : Nat) (x : Nat × va_E), (cn_w sz ca cs)[k]? = some x → H1[x.1]? = H[x.1]? := fun k x hx => o1 x.1 (by have := ((hP k x hx).lt); omega)
  refine k H1 locs ls ?_ ?_ ⟨Nat.le_trans hS.1 (by omega), fun x h1 h2 => (o1 x (by have := hS.1; have := Nat.lt_of_lt_of_le h1 hS.1; omega)).trans (hS.2.1 x h1 h2), hS.2.2⟩ hl
  · show va_P D es_cl (cn_w sz ca (cs ++ [(10 + c0, 0, cn_def c0)])) H1
    rw [cn_w_push]
    refine (hP.kept hk).app (fun k x hx => ?_)
    have hz : k < 1 := (List.getElem?_eq_some_iff.mp hx).1
    rw [show k = 0 by omega] at hx
    cases hx
    have ev : cn_v sz ca (10 + c0, 0, cn_def c0) = .inr (c0, cn_def c0) := by
      unfold cn_v
      rw [if_neg (by show ¬ 10 + c0 < 8; omega)]
      show Sum.inr (10 + c0 - 10, (cn_def c0).map (ee_tr (fun i => sz + i))) = _
      rw [Nat.add_sub_cancel_left]
      congr 2
      refine (List.map_congr_left (g := id) (fun v hv => ?_)).trans (List.map_id _)
      unfold cn_def at hv
      obtain ⟨j, -, rfl⟩ := List.mem_map.mp hv
      split <;> rfl
    rw [ev]
    exact ⟨_, hcl, (u_born (es_ty c0) hts (es_lay n2) hKn hkC e1 (es_ty_ok c0 n2)).to (cn_def_ok c0 n2)⟩
  · show H1.size = sz + (cs ++ [(10 + c0, 0, cn_def c0)]).length
    rw [z1, List.length_append]
    rfl
def cn_aty (t : ArrayType) : Option Nat := match t with
  | .int => some 0
  | .boolean => some 1
  | .long => some 2
  | _ => none
theorem cn_newa (X : cn_X C cc oc G) {t : ArrayType} {a : Nat} {n : Int32} (hd : ee_dec cc pc = some (.newarray t, 2)) (ht : cn_aty t = some a) (hn : ¬ n < 0) (hb8 : n.toNatClampNeg ≤ 60000) (hc : nc + 1 ≤ G.2.2.2.2.2.2.2.2.1) (hs : ns + n.toNatClampNeg ≤ G.2.2.2.2.2.2.2.2.2) (k : cn_Wn G (pc + 2) env (.ref cs.length :: st) (cs ++ [(a, n.toNatClampNeg, [])]) (nc + 1) (ns + n.toNatClampNeg)) : cn_Wn G pc env (.int n :: st) cs nc ns := by
  obtain ⟨p, l, e, R, s, m, args, below, meth, c, Q, D, ca, A, nL, sz, d, rfl, hx, hb, hml, hown, hts, hK, hA, hsz, hNw, hO1, hO2, hHM, hR1, hR2, hin⟩ := X
  intro H locs ls hP hz hS hl
  have hP : va_P D es_cl (cn_w sz ca cs) H := hP
  have hz : H.size = sz + cs.length := hz
  have fin : ∀ (H1 : Heap) (x : va_E), x = cn_v sz ca (a, n.toNatClampNeg, []) → va_at D es_cl (sz + cs.length, x) H1 → H1.size = sz + cs.length + 1 → (∀ q, q < sz + cs.length → H1[q]? = H[q]?) → W p l e R s m args below meth c H1 locs (nc + 1) (ns + n.toNatClampNeg) Q (F0 m (pc + 2) ls (.ref (sz + cs.length) :: st.map (ee_tr (fun i => sz + i)))) := by
    intro H1 x hx1 hat z1 o1
    have hk : ∀ (k : Nat) (x : Nat × va_E), (cn_w sz ca cs)[k]? = some x → H1[x.1]? = H[x.1]? := fun k x hx => o1 x.1 (by have := ((hP k x hx).lt); omega)
    refine k H1 locs ls ?_ ?_ ⟨Nat.le_trans hS.1 (by omega), fun x h1 h2 => (o1 x (by have := hS.1; have := Nat.lt_of_lt_of_le h1 hS.1; omega)).trans (hS.2.1 x h1 h2), hS.2.2⟩ hl
    · show va_P D es_cl (cn_w sz ca (cs ++ [(a, n.toNatClampNeg, [])])) H1
      rw [cn_w_push]
      refine (hP.kept hk).app (fun k x hx => ?_)
      have hz : k < 1 := (List.getElem?_eq_some_iff.mp hx).1
      rw [show k = 0 by omega] at hx
      cases hx
      rw [← hx1]
      exact hat
    · show H1.size = sz + (cs ++ [(a, n.toNatClampNeg, [])]).length
      rw [z1, List.length_append]
      rfl
  cases t <;> first | (cases ht; done) | skip
  all_goals cases ht
  · have hca : s.vm.findClass ("[" ++ (FieldType.boolean).toString) = some (ca 1) := (hK.2 1 _ rfl).2
    refine va_newaK (atype := .boolean) hx hb (hts _ cn_A_1) rfl (ee_dec_ok hd) rfl hn rfl (by show _ * 1 ≤ _; omega) hc hs hz fun H1 cA e1 z1 o1 hAr hNm => fin H1 (.inl (ca 1, n.toNatClampNeg, .inl (fun _ => 0))) rfl ?_ z1 o1
    have ec : cA = ca 1 := Option.some.inj (hNm.symm.trans hca)
    subst ec
    exact e1
  · have hca : s.vm.findClass ("[" ++ (FieldType.int).toString) = some (ca 0) := (hK.2 0 _ rfl).2
    refine va_newaK (atype := .int) hx hb (hts _ cn_A_0) rfl (ee_dec_ok hd) rfl hn rfl (by show _ * 4 ≤ _; omega) hc hs hz fun H1 cA e1 z1 o1 hAr hNm => fin H1 (.inl (ca 0, n.toNatClampNeg, .inl (fun _ => 0))) rfl ?_ z1 o1
    have ec : cA = ca 0 := Option.some.inj (hNm.symm.trans hca)
    subst ec
    exact e1
  · have hca : s.vm.findClass ("[" ++ (FieldType.long).toString) = some (ca 2) := (hK.2 2 _ rfl).2
    refine va_newaK (atype := .long) hx hb (hts _ cn_A_2) rfl (ee_dec_ok hd) rfl hn rfl (by show _ * 8 ≤ _; omega) hc hs hz fun H1 cA e1 z1 o1 hAr hNm => fin H1 (.inl (ca 2, n.toNatClampNeg, .inr (.inl (fun _ => 0)))) rfl ?_ z1 o1
    have ec : cA = ca 2 := Option.some.inj (hNm.symm.trans hca)
    subst ec
    exact e1
/-- arrays of references: kind, class -/
def cn_ak (c0 : Nat) : Option Nat := if c0 = 2 then some 3 else if c0 = 7 then some 4 else none
theorem cn_anew (X : cn_X C cc oc G) {i c0 a : Nat} {n : Int32} (hd : ee_dec cc pc = some (.anewarray i, 3)) (hq : (oc, i, c0) ∈ cn_N) (ht : cn_ak c0 = some a) (hn : ¬ n < 0) (hb8 : n.toNatClampNeg ≤ 60000) (hc : nc + 1 ≤ G.2.2.2.2.2.2.2.2.1) (hs : ns + n.toNatClampNeg ≤ G.2.2.2.2.2.2.2.2.2) (k : cn_Wn G (pc + 3) env (.ref cs.length :: st) (cs ++ [(a, n.toNatClampNeg, List.replicate n.toNatClampNeg .null)]) (nc + 1) (ns + n.toNatClampNeg)) : cn_Wn G pc env (.int n :: st) cs nc ns := by
  obtain ⟨p, l, e, R, s, m, args, below, meth, c, Q, D, ca, A, nL, sz, d, rfl, hx, hb, hml, hown, hts, hK, hA, hsz, hNw, hO1, hO2, hHM, hR1, hR2, hin⟩ := X
  intro H locs ls hP hz hS hl
  have hP : va_P D es_cl (cn_w sz ca cs) H := hP
  have hz : H.size = sz + cs.length := hz
  obtain ⟨n1, n2⟩ := cn_N_ok _ hq
  have hao : va_AO (es_own c0) s ∧ s.vm.findClass ("[" ++ (FieldType.object (es_own c0)).toString) = some (ca a) ∧ 3 ≤ a ∧ a < 8 := by
    unfold cn_ak at ht
    by_cases y : c0 = 2
    · rw [if_pos y] at ht
      cases ht
      subst y
      obtain ⟨-, -, -, -, -, q⟩ := (hK.2 3 _ rfl).2
      exact ⟨hO1, q, by omega, by omega⟩
    · rw [if_neg y] at ht
      by_cases y2 : c0 = 7
      · rw [if_pos y2] at ht
        cases ht
        subst y2
        obtain ⟨-, -, -, -, -, q⟩ := (hK.2 4 _ rfl).2
        exact ⟨hO2, q, by omega, by omega⟩
      · rw [if_neg y2] at ht; cases ht
  obtain ⟨hov, hca, a3, a8⟩ := hao
  refine W.anew hx hb hown (hts _ n1) (va_AO.use hov) rfl (ee_dec_ok hd) rfl hn (by omega) hc hs fun cA kA comp f1 f2 f3 f4 => ?_
  have ec : cA = ca a := Option.some.inj (f1.symm.trans hca)
  subst ec
  generalize hH1 : H.push ({ cls := ca a, slots := Array.replicate n.toNatClampNeg .null, vm := .none } : Cell) = H1
  have z1 : H1.size = H.size + 1 := by rw [← hH1, Array.size_push]
  have e1 : H1[H.size]? = some (arrV (ca a) n.toNatClampNeg (fun _ => .null)) := by rw [← hH1, Array.getElem?_push_size, ← arrV_new]
  have o1 : ∀ q : Nat, q < H.size → H1[q]? = H[q]? := fun q hq => by rw [← hH1, Array.getElem?_push, if_neg (Nat.ne_of_lt hq)]
  have hk : ∀ (k : Nat) (x : Nat × va_E), (cn_w sz ca cs)[k]? = some x → H1[x.1]? = H[x.1]? := fun k x hx => o1 x.1 ((hP k x hx).lt)
  have e0 : (F0 m (pc + 3) ls (Value.ref H.size :: st.map (ee_tr (fun i => sz + i)))) = F0 m (pc + 3) ls ((Value.ref cs.length :: st).map (ee_tr (fun i => sz + i))) := by rw [hz]; rfl
  show W p l e R s m args below meth c H1 locs (nc + 1) (ns + n.toNatClampNeg) Q (F0 m (pc + 3) ls (Value.ref H.size :: st.map (ee_tr (fun i => sz + i))))
  rw [e0]
  refine k H1 locs ls ?_ ?_ ⟨Nat.le_trans hS.1 (by omega), fun x h1 h2 => (o1 x (Nat.lt_of_lt_of_le h1 hS.1)).trans (hS.2.1 x h1 h2), hS.2.2⟩ hl
  · show va_P D es_cl (cn_w sz ca (cs ++ [(a, n.toNatClampNeg, List.replicate n.toNatClampNeg .null)])) H1
    rw [cn_w_push]
    refine (hP.kept hk).app (fun k x hx => ?_)
    have hz1 : k < 1 := (List.getElem?_eq_some_iff.mp hx).1
    rw [show k = 0 by omega] at hx
    cases hx
    have ev : cn_v sz ca (a, n.toNatClampNeg, List.replicate n.toNatClampNeg .null) = .inl (ca a, n.toNatClampNeg, .inr (.inr (.inr (.inr (fun _ => none))))) := by
      unfold cn_v
      rw [if_pos (by show a < 8; omega)]
      have hf : (fun k => match (List.replicate n.toNatClampNeg Value.null)[k]? with
        | some (.ref i) => some (sz + i)
        | _ => none) = (fun _ : Nat => (none : Option Nat)) := by
        funext k
        rw [List.getElem?_replicate]
        by_cases y : k < n.toNatClampNeg
        · rw [if_pos y]
        · rw [if_neg y]
      have : a = 3 ∨ a = 4 ∨ a = 5 ∨ a = 6 ∨ a = 7 := by omega
      rcases this with rfl | rfl | rfl | rfl | rfl <;> (dsimp only; rw [hf]; rfl)
    rw [ev, ← hz]
    show H1[H.size]? = some (vp_cell _ _)
    rw [e1, vp_cell_q]
    rfl
  · show H1.size = sz + (cs ++ [(a, n.toNatClampNeg, List.replicate n.toNatClampNeg Value.null)]).length
    rw [z1, hz, List.length_append]
    rfl
end CNR
