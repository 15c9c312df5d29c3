/-! null in local variables, stores, compares -/
section EM
variable {p : Program} {l : Launch} {e : Env} {R : Room} {s : State} {m : MethodId} {args : Array Value} {below : List Frame} {meth : Method} {c : Code} {H : Heap} {locs : List Loc} {cells slots : Nat} {Q : State → Prop}
variable {cc : ByteArray} {pc : Nat} {ls : Array Slot} {rest : List Value}
theorem em_aload_n (hexec : p.tables.exec = Jvm.exec) (hb : c.code = cc) {k : Fin 4} {i : Nat} (hdg : decode cc pc = .ok (.aload_n k, 1)) (hi : (k : Nat) = i) (hl : ls[i]? = some (.val .null))
    (k : W p l e R s m args below meth c H locs cells slots Q (F0 m (pc + 1) ls (.null :: rest))) : W p l e R s m args below meth c H locs cells slots Q (F0 m pc ls (rest)) := by
  subst hi
  intro T hT X
  obtain ⟨t, a, b⟩ := k T hT X
  refine ⟨t, ?_, b⟩
  jvm_step X.here [X.here.top, hexec, hb, hdg, hl, Value.isRef]
  exact a
theorem em_aload (hexec : p.tables.exec = Jvm.exec) (hb : c.code = cc) {i : Nat} (hdg : decode cc pc = .ok (.aload i, 2)) (hl : ls[i]? = some (.val .null))
    (k : W p l e R s m args below meth c H locs cells slots Q (F0 m (pc + 2) ls (.null :: rest))) : W p l e R s m args below meth c H locs cells slots Q (F0 m pc ls (rest)) := by
  intro T hT X
  obtain ⟨t, a, b⟩ := k T hT X
  refine ⟨t, ?_, b⟩
  jvm_step X.here [X.here.top, hexec, hb, hdg, hl, Value.isRef]
  exact a
theorem em_astore_n (hexec : p.tables.exec = Jvm.exec) (hb : c.code = cc) {k : Fin 4} {i nL : Nat} {lv lv' : List (Nat × Value)} (hdg : decode cc pc = .ok (.astore_n k, 1)) (hi : (k : Nat) = i) (h : lv_has ls nL lv) (hn : i < nL) (hl : (i, Value.null) :: lv.filter (fun q => !(q.1 == i) && !(q.1 + 1 == i && q.2.category == 2)) = lv')
    (kk : ∀ ls' : Array Slot, lv_has ls' nL lv' → W p l e R s m args below meth c H locs cells slots Q (F0 m (pc + 1) ls' rest)) : W p l e R s m args below meth c H locs cells slots Q (F0 m pc ls (.null :: rest)) := by
  subst hi
  obtain ⟨ls', e', h'⟩ := lv_store1 (v := .null) h hn rfl
  intro T hT X
  obtain ⟨t, a, b⟩ := kk ls' (hl ▸ h') T hT X
  refine ⟨t, ?_, b⟩
  jvm_step X.here [X.here.top, ↓top_set X.here.top, hexec, hb, hdg, e', Value.isRef]
  exact a
theorem em_astore (hexec : p.tables.exec = Jvm.exec) (hb : c.code = cc) {i nL : Nat} {lv lv' : List (Nat × Value)} (hdg : decode cc pc = .ok (.astore i, 2)) (h : lv_has ls nL lv) (hn : i < nL) (hl : (i, Value.null) :: lv.filter (fun q => !(q.1 == i) && !(q.1 + 1 == i && q.2.category == 2)) = lv')
    (kk : ∀ ls' : Array Slot, lv_has ls' nL lv' → W p l e R s m args below meth c H locs cells slots Q (F0 m (pc + 2) ls' rest)) : W p l e R s m args below meth c H locs cells slots Q (F0 m pc ls (.null :: rest)) := by
  obtain ⟨ls', e', h'⟩ := lv_store1 (v := .null) h hn rfl
  intro T hT X
  obtain ⟨t, a, b⟩ := kk ls' (hl ▸ h') T hT X
  refine ⟨t, ?_, b⟩
  jvm_step X.here [X.here.top, ↓top_set X.here.top, hexec, hb, hdg, e', Value.isRef]
  exact a
theorem em_ldcw (hexec : p.tables.exec = Jvm.exec) (hb : c.code = cc) {own : String} {index : Nat} {v : Int32} (hown : s.vm.findClass own = some m.cls) (hconst : (Jvm.Cond.constant own index v).before args s = true) (hdg : decode cc pc = .ok (.ldc_w index, 3)) (k : W p l e R s m args below meth c H locs cells slots Q (F0 m (pc + 3) ls (.int v :: rest))) : W p l e R s m args below meth c H locs cells slots Q (F0 m pc ls rest) := by
  exact lv_ldcw hexec hb hown hconst hdg k
end EM
def ee_toL (ad : Nat → Nat) (env : ee_E) : List (Nat × Value) := (List.range env.length).filterMap (fun i => match env[i]? with
  | some (some v) => some (i, ee_tr ad v)
  | _ => none)
theorem ee_toL_mem {ad : Nat → Nat} {env : ee_E} {q : Nat × Value} : q ∈ ee_toL ad env ↔ ∃ v, env[q.1]? = some (some v) ∧ q.2 = ee_tr ad v := by
  unfold ee_toL
  rw [List.mem_filterMap]
  constructor
  · rintro ⟨i, -, h⟩
    split at h
    · rename_i v hv
      cases h
      exact ⟨v, hv, rfl⟩
    · cases h
  · rintro ⟨v, h1, h2⟩
    refine ⟨q.1, List.mem_range.mpr (List.getElem?_eq_some_iff.mp h1).1, ?_⟩
    rw [h1]
    simp only
    rw [← h2]
theorem ee_lv_has {ad : Nat → Nat} {ls : Array Slot} {nL : Nat} {env : ee_E} (hl : ee_lv ad ls nL env) : lv_has ls nL (ee_toL ad env) :=
  ⟨hl.1, hl.2.1, fun q hq => by
    obtain ⟨v, h1, h2⟩ := ee_toL_mem.mp hq
    rw [h2]
    exact hl.2.2.2 _ _ h1⟩
theorem ee_noL_cat {env : ee_E} {i : Nat} {v : Value} (h : ee_noL env (i + 1) = true) (hv : env[i]? = some (some v)) : ¬ v.category = 2 := by
  simp only [ee_noL, hv] at h
  intro hc
  cases v <;> simp [Value.category] at hc h
theorem ee_lv_set1 {ad : Nat → Nat} {ls ls' : Array Slot} {nL i : Nat} {env : ee_E} {v : Value} (hl : ee_lv ad ls nL env) (hno : ee_noL env i = true) (hi : i < nL)
    (h' : lv_has ls' nL ((i, ee_tr ad v) :: (ee_toL ad env).filter (fun q => !(q.1 == i) && !(q.1 + 1 == i && q.2.category == 2)))) : ee_lv ad ls' nL (env.set i (some v)) := by
  refine ⟨h'.1, h'.2.1, by rw [List.length_set]; exact hl.2.2.1, fun j u hj => ?_⟩
  by_cases e : j = i
  · subst e
    rw [List.getElem?_set_self (by rw [hl.2.2.1]; exact hi)] at hj
    cases hj
    exact h'.2.2 (j, ee_tr ad v) List.mem_cons_self
  · rw [List.getElem?_set_ne (fun z => e z.symm)] at hj
    refine h'.2.2 (j, ee_tr ad u) (List.mem_cons_of_mem _ (List.mem_filter.mpr ⟨ee_toL_mem.mpr ⟨u, hj, rfl⟩, ?_⟩))
    have h1 : (j == i) = false := by simpa using e
    simp only [h1, Bool.not_false, Bool.true_and]
    by_cases e2 : j + 1 = i
    · subst e2
      have := ee_noL_cat hno hj
      rw [ee_tr_cat]
      simp [this]
    · simp [e2]
theorem ee_lv_set2 {ad : Nat → Nat} {ls ls' : Array Slot} {nL i : Nat} {env : ee_E} {v : Value} (hl : ee_lv ad ls nL env) (hno : ee_noL env i = true) (hi : i + 1 < nL)
    (h' : lv_has ls' nL ((i, ee_tr ad v) :: (ee_toL ad env).filter (fun q => !(q.1 == i) && (!(q.1 == i + 1) && !(q.1 + 1 == i && q.2.category == 2))))) : ee_lv ad ls' nL ((env.set i (some v)).set (i + 1) none) := by
  refine ⟨h'.1, h'.2.1, by rw [List.length_set, List.length_set]; exact hl.2.2.1, fun j u hj => ?_⟩
  by_cases e3 : j = i + 1
  · subst e3
    rw [List.getElem?_set_self (by rw [List.length_set, hl.2.2.1]; exact hi)] at hj
    cases hj
  rw [List.getElem?_set_ne (fun z => e3 z.symm)] at hj
  by_cases e : j = i
  · subst e
    rw [List.getElem?_set_self (by rw [hl.2.2.1]; omega)] at hj
    cases hj
    exact h'.2.2 (j, ee_tr ad v) List.mem_cons_self
  · rw [List.getElem?_set_ne (fun z => e z.symm)] at hj
    refine h'.2.2 (j, ee_tr ad u) (List.mem_cons_of_mem _ (List.mem_filter.mpr ⟨ee_toL_mem.mpr ⟨u, hj, rfl⟩, ?_⟩))
    have h1 : (j == i) = false := by simpa using e
    have h3 : (j == i + 1) = false := by simpa using e3
    simp only [h1, h3, Bool.not_false, Bool.true_and]
    by_cases e2 : j + 1 = i
    · subst e2
      have := ee_noL_cat hno hj
      rw [ee_tr_cat]
      simp [this]
    · simp [e2]
def ee_holds (r : Jvm.ClassFile.Cond) (x y : Int32) : Bool := match r with
  | .eq => decide (x = y)
  | .ne => decide (¬ x = y)
  | .lt => decide (x < y)
  | .ge => decide (y ≤ x)
  | .gt => decide (y < x)
  | .le => decide (x ≤ y)
theorem ee_rel1 {r : Jvm.ClassFile.Cond} {x y : Int32} {o : Nat} {b : Bool} (h : (ee_rel r).1 = o) (hc : ee_cmp o x y = some b) : b = ee_holds r x y := by
  subst h
  cases r <;> (simp only [ee_rel, ee_cmp, Option.some.injEq] at hc; rw [← hc]; rfl)
theorem ee_rel2 {r : Jvm.ClassFile.Cond} {x y : Int32} {o : Nat} {b : Bool} (h : (ee_rel r).2 = o) (hc : ee_cmp o x y = some b) : b = !ee_holds r x y := by
  subst h
  cases r <;> (simp only [ee_rel, ee_cmp, Option.some.injEq] at hc; rw [← hc, Bool.eq_iff_iff]; simp only [ee_holds, decide_eq_true_eq, Bool.not_eq_true', decide_eq_false_iff_not, Int32.not_lt, Int32.not_le, Decidable.not_not])
theorem ee_br_ok {pc o : Nat} {r : Jvm.ClassFile.Cond} {off : Int} {t f en : Nat} {x y : Int32} {b : Bool} (h : ee_br pc r off o = some [t, f, en]) (hc : ee_cmp o x y = some b) : ∃ tg : Nat, (pc : Int) + off = (tg : Int) ∧ (if b then t else f : Nat) = (if ee_holds r x y then tg else pc + 3 : Nat) := by
  unfold ee_br at h
  split at h
  · cases h
  · rename_i tg htg
    refine ⟨tg, ee_tgt_ok htg, ?_⟩
    split at h
    · rename_i h1
      cases h
      rw [ee_rel1 h1 hc]
    · split at h
      · rename_i h1
        cases h
        rw [ee_rel2 h1 hc]
        cases ee_holds r x y <;> rfl
      · cases h
theorem ee_cmp_l {o : Nat} {x y : Int64} {b : Bool} (h : ee_cmpL o x y = some b) : ee_cmp o (lg_cmp x y) 0 = some b := by
  have e0 : (lg_cmp x y = 0) ↔ x = y := by
    unfold lg_cmp
    by_cases h1 : x > y
    · rw [if_pos h1]
      simp only [gt_iff_lt, Int64.lt_iff_toInt_lt, ← Int64.toInt_inj] at h1 ⊢
      constructor
      · intro z; exact absurd z (by decide)
      · intro z; omega
    · rw [if_neg h1]
      by_cases h2 : x = y
      · simp [h2]
      · simp [h2]
  have e1 : (0 ≤ lg_cmp x y) ↔ y ≤ x := lg_cmp_ge x y
  have e2 : (lg_cmp x y < 0) ↔ x < y := by rw [← Int32.not_le, e1, Int64.not_le]
  have e3 : (0 < lg_cmp x y) ↔ y < x := by
    unfold lg_cmp
    by_cases h1 : x > y
    · rw [if_pos h1]; exact ⟨fun _ => h1, fun _ => by decide⟩
    · rw [if_neg h1]
      constructor
      · intro z
        by_cases h2 : x = y
        · rw [if_pos h2] at z; exact absurd z (by decide)
        · rw [if_neg h2] at z; exact absurd z (by decide)
      · intro z; exact absurd z h1
  have e4 : (lg_cmp x y ≤ 0) ↔ x ≤ y := by rw [← Int32.not_lt, e3, Int64.not_lt]
  match o with
  | 0 | 1 | 2 | 3 | 4 | 5 => simpa [ee_cmp, ee_cmpL, e0, e1, e2, e3, e4] using h
  | n + 6 => simp [ee_cmpL] at h
section EN2
variable {C : Nat → List Value → ee_W → Option (List Value × ee_W)} {cc : ByteArray} {oc : Nat} {G : ee_G} {pc : Nat} {env : ee_E} {st : List Value} {w : ee_W}
theorem en_aload_n0 (X : ee_X C cc oc G) {n : Fin 4} {i : Nat} (hd : ee_dec cc pc = some (.aload_n n, 1)) (hi : (n : Nat) = i) (he : env[i]? = some (some .null)) (k : ee_Wn G (pc + 1) env (.null :: st) w) : ee_Wn G pc env st w := by
  obtain ⟨p, l, e, R, s, m, args, below, meth, c, cells, slots, Q, D, ad, ca, adV, A, nL, sc, d, rfl, hx, hb, hml, hown, hts, hK, hinj, hadA, hAs, hStr, hSc, hHM, hR1, hR2, hc1, hc2⟩ := X
  intro H locs ls hP hS hl hw
  have hP : va_P D es_cl (ee_ws ad ca w) H := hP
  have hS : va_S A s.heap H locs := hS
  have hl : ee_lv ad ls nL env := hl
  have hw : w.2.2 = sc := hw
  exact em_aload_n hx hb (ee_dec_ok hd) hi (hl.2.2.2 i _ he) (k H locs ls hP hS hl hw)
theorem en_aload0 (X : ee_X C cc oc G) {i : Nat} (hd : ee_dec cc pc = some (.aload i, 2)) (he : env[i]? = some (some .null)) (k : ee_Wn G (pc + 2) env (.null :: st) w) : ee_Wn G pc env st w := by
  obtain ⟨p, l, e, R, s, m, args, below, meth, c, cells, slots, Q, D, ad, ca, adV, A, nL, sc, d, rfl, hx, hb, hml, hown, hts, hK, hinj, hadA, hAs, hStr, hSc, hHM, hR1, hR2, hc1, hc2⟩ := X
  intro H locs ls hP hS hl hw
  have hP : va_P D es_cl (ee_ws ad ca w) H := hP
  have hS : va_S A s.heap H locs := hS
  have hl : ee_lv ad ls nL env := hl
  have hw : w.2.2 = sc := hw
  exact em_aload hx hb (ee_dec_ok hd) (hl.2.2.2 i _ he) (k H locs ls hP hS hl hw)
theorem en_istore_n (X : ee_X C cc oc G) {n : Fin 4} {i : Nat} {x : Int32} (hd : ee_dec cc pc = some (.istore_n n, 1)) (hi : (n : Nat) = i) (hno : ee_noL env i = true) (hle : i < env.length) (k : ee_Wn G (pc + 1) (env.set i (some (.int x))) st w) : ee_Wn G pc env (.int x :: st) w := by
  obtain ⟨p, l, e, R, s, m, args, below, meth, c, cells, slots, Q, D, ad, ca, adV, A, nL, sc, d, rfl, hx, hb, hml, hown, hts, hK, hinj, hadA, hAs, hStr, hSc, hHM, hR1, hR2, hc1, hc2⟩ := X
  intro H locs ls hP hS hl hw
  have hP : va_P D es_cl (ee_ws ad ca w) H := hP
  have hS : va_S A s.heap H locs := hS
  have hl : ee_lv ad ls nL env := hl
  have hw : w.2.2 = sc := hw
  have hn : i < nL := by rw [← hl.2.2.1]; exact hle
  exact lv_istore_n hx hb (ee_dec_ok hd) hi (ee_lv_has hl) hn rfl (fun ls' h' => k H locs ls' hP hS (ee_lv_set1 (v := .int x) hl hno hn h') hw)
theorem en_istore (X : ee_X C cc oc G) {i : Nat} {x : Int32} (hd : ee_dec cc pc = some (.istore i, 2)) (hno : ee_noL env i = true) (hle : i < env.length) (k : ee_Wn G (pc + 2) (env.set i (some (.int x))) st w) : ee_Wn G pc env (.int x :: st) w := by
  obtain ⟨p, l, e, R, s, m, args, below, meth, c, cells, slots, Q, D, ad, ca, adV, A, nL, sc, d, rfl, hx, hb, hml, hown, hts, hK, hinj, hadA, hAs, hStr, hSc, hHM, hR1, hR2, hc1, hc2⟩ := X
  intro H locs ls hP hS hl hw
  have hP : va_P D es_cl (ee_ws ad ca w) H := hP
  have hS : va_S A s.heap H locs := hS
  have hl : ee_lv ad ls nL env := hl
  have hw : w.2.2 = sc := hw
  have hn : i < nL := by rw [← hl.2.2.1]; exact hle
  exact lv_istore hx hb (ee_dec_ok hd) (ee_lv_has hl) hn rfl (fun ls' h' => k H locs ls' hP hS (ee_lv_set1 (v := .int x) hl hno hn h') hw)
theorem en_astore_n (X : ee_X C cc oc G) {n : Fin 4} {i : Nat} {x : Nat} (hd : ee_dec cc pc = some (.astore_n n, 1)) (hi : (n : Nat) = i) (hno : ee_noL env i = true) (hle : i < env.length) (k : ee_Wn G (pc + 1) (env.set i (some (.ref x))) st w) : ee_Wn G pc env (.ref x :: st) w := by
  obtain ⟨p, l, e, R, s, m, args, below, meth, c, cells, slots, Q, D, ad, ca, adV, A, nL, sc, d, rfl, hx, hb, hml, hown, hts, hK, hinj, hadA, hAs, hStr, hSc, hHM, hR1, hR2, hc1, hc2⟩ := X
  intro H locs ls hP hS hl hw
  have hP : va_P D es_cl (ee_ws ad ca w) H := hP
  have hS : va_S A s.heap H locs := hS
  have hl : ee_lv ad ls nL env := hl
  have hw : w.2.2 = sc := hw
  have hn : i < nL := by rw [← hl.2.2.1]; exact hle
  exact lv_astore_n hx hb (ee_dec_ok hd) hi (ee_lv_has hl) hn rfl (fun ls' h' => k H locs ls' hP hS (ee_lv_set1 (v := .ref x) hl hno hn h') hw)
theorem en_astore (X : ee_X C cc oc G) {i : Nat} {x : Nat} (hd : ee_dec cc pc = some (.astore i, 2)) (hno : ee_noL env i = true) (hle : i < env.length) (k : ee_Wn G (pc + 2) (env.set i (some (.ref x))) st w) : ee_Wn G pc env (.ref x :: st) w := by
  obtain ⟨p, l, e, R, s, m, args, below, meth, c, cells, slots, Q, D, ad, ca, adV, A, nL, sc, d, rfl, hx, hb, hml, hown, hts, hK, hinj, hadA, hAs, hStr, hSc, hHM, hR1, hR2, hc1, hc2⟩ := X
  intro H locs ls hP hS hl hw
  have hP : va_P D es_cl (ee_ws ad ca w) H := hP
  have hS : va_S A s.heap H locs := hS
  have hl : ee_lv ad ls nL env := hl
  have hw : w.2.2 = sc := hw
  have hn : i < nL := by rw [← hl.2.2.1]; exact hle
  exact lv_astore hx hb (ee_dec_ok hd) (ee_lv_has hl) hn rfl (fun ls' h' => k H locs ls' hP hS (ee_lv_set1 (v := .ref x) hl hno hn h') hw)
theorem en_astore0_n (X : ee_X C cc oc G) {n : Fin 4} {i : Nat}  (hd : ee_dec cc pc = some (.astore_n n, 1)) (hi : (n : Nat) = i) (hno : ee_noL env i = true) (hle : i < env.length) (k : ee_Wn G (pc + 1) (env.set i (some (.null))) st w) : ee_Wn G pc env (.null :: st) w := by
  obtain ⟨p, l, e, R, s, m, args, below, meth, c, cells, slots, Q, D, ad, ca, adV, A, nL, sc, d, rfl, hx, hb, hml, hown, hts, hK, hinj, hadA, hAs, hStr, hSc, hHM, hR1, hR2, hc1, hc2⟩ := X
  intro H locs ls hP hS hl hw
  have hP : va_P D es_cl (ee_ws ad ca w) H := hP
  have hS : va_S A s.heap H locs := hS
  have hl : ee_lv ad ls nL env := hl
  have hw : w.2.2 = sc := hw
  have hn : i < nL := by rw [← hl.2.2.1]; exact hle
  exact em_astore_n hx hb (ee_dec_ok hd) hi (ee_lv_has hl) hn rfl (fun ls' h' => k H locs ls' hP hS (ee_lv_set1 (v := .null) hl hno hn h') hw)
theorem en_astore0 (X : ee_X C cc oc G) {i : Nat}  (hd : ee_dec cc pc = some (.astore i, 2)) (hno : ee_noL env i = true) (hle : i < env.length) (k : ee_Wn G (pc + 2) (env.set i (some (.null))) st w) : ee_Wn G pc env (.null :: st) w := by
  obtain ⟨p, l, e, R, s, m, args, below, meth, c, cells, slots, Q, D, ad, ca, adV, A, nL, sc, d, rfl, hx, hb, hml, hown, hts, hK, hinj, hadA, hAs, hStr, hSc, hHM, hR1, hR2, hc1, hc2⟩ := X
  intro H locs ls hP hS hl hw
  have hP : va_P D es_cl (ee_ws ad ca w) H := hP
  have hS : va_S A s.heap H locs := hS
  have hl : ee_lv ad ls nL env := hl
  have hw : w.2.2 = sc := hw
  have hn : i < nL := by rw [← hl.2.2.1]; exact hle
  exact em_astore hx hb (ee_dec_ok hd) (ee_lv_has hl) hn rfl (fun ls' h' => k H locs ls' hP hS (ee_lv_set1 (v := .null) hl hno hn h') hw)
theorem en_lstore_n (X : ee_X C cc oc G) {n : Fin 4} {i : Nat} {x : Int64} (hd : ee_dec cc pc = some (.lstore_n n, 1)) (hi : (n : Nat) = i) (hno : ee_noL env i = true) (hle : i + 1 < env.length) (k : ee_Wn G (pc + 1) ((env.set i (some (.long x))).set (i + 1) none) st w) : ee_Wn G pc env (.long x :: st) w := by
  obtain ⟨p, l, e, R, s, m, args, below, meth, c, cells, slots, Q, D, ad, ca, adV, A, nL, sc, d, rfl, hx, hb, hml, hown, hts, hK, hinj, hadA, hAs, hStr, hSc, hHM, hR1, hR2, hc1, hc2⟩ := X
  intro H locs ls hP hS hl hw
  have hP : va_P D es_cl (ee_ws ad ca w) H := hP
  have hS : va_S A s.heap H locs := hS
  have hl : ee_lv ad ls nL env := hl
  have hw : w.2.2 = sc := hw
  have hn : i + 1 < nL := by rw [← hl.2.2.1]; exact hle
  exact lv_lstore_n hx hb (ee_dec_ok hd) hi (ee_lv_has hl) hn rfl (fun ls' h' => k H locs ls' hP hS (ee_lv_set2 (v := .long x) hl hno hn h') hw)
theorem en_lstore (X : ee_X C cc oc G) {i : Nat} {x : Int64} (hd : ee_dec cc pc = some (.lstore i, 2)) (hno : ee_noL env i = true) (hle : i + 1 < env.length) (k : ee_Wn G (pc + 2) ((env.set i (some (.long x))).set (i + 1) none) st w) : ee_Wn G pc env (.long x :: st) w := by
  obtain ⟨p, l, e, R, s, m, args, below, meth, c, cells, slots, Q, D, ad, ca, adV, A, nL, sc, d, rfl, hx, hb, hml, hown, hts, hK, hinj, hadA, hAs, hStr, hSc, hHM, hR1, hR2, hc1, hc2⟩ := X
  intro H locs ls hP hS hl hw
  have hP : va_P D es_cl (ee_ws ad ca w) H := hP
  have hS : va_S A s.heap H locs := hS
  have hl : ee_lv ad ls nL env := hl
  have hw : w.2.2 = sc := hw
  have hn : i + 1 < nL := by rw [← hl.2.2.1]; exact hle
  exact lv_lstore hx hb (ee_dec_ok hd) (ee_lv_has hl) hn rfl (fun ls' h' => k H locs ls' hP hS (ee_lv_set2 (v := .long x) hl hno hn h') hw)
theorem ee_noL_int {env : ee_E} {i : Nat} {x : Int32} (hwf : True) : True := trivial
theorem en_iinc (X : ee_X C cc oc G) {i : Nat} {n : Int} {x v : Int32} (hd : ee_dec cc pc = some (.iinc i n, 3)) (he : env[i]? = some (some (.int x))) (hv : x + Int32.ofInt n = v) (hno : ee_noL env i = true) (k : ee_Wn G (pc + 3) (env.set i (some (.int v))) st w) : ee_Wn G pc env st w := by
  obtain ⟨p, l, e, R, s, m, args, below, meth, c, cells, slots, Q, D, ad, ca, adV, A, nL, sc, d, rfl, hx, hb, hml, hown, hts, hK, hinj, hadA, hAs, hStr, hSc, hHM, hR1, hR2, hc1, hc2⟩ := X
  intro H locs ls hP hS hl hw
  have hP : va_P D es_cl (ee_ws ad ca w) H := hP
  have hS : va_S A s.heap H locs := hS
  have hl : ee_lv ad ls nL env := hl
  have hw : w.2.2 = sc := hw
  have hn : i < nL := by rw [← hl.2.2.1]; exact (List.getElem?_eq_some_iff.mp he).1
  have hm : (i, Value.int x) ∈ ee_toL ad env := ee_toL_mem.mpr ⟨.int x, he, rfl⟩
  obtain ⟨j, hj⟩ := List.getElem?_of_mem hm
  exact lv_iinc hx hb (ee_dec_ok hd) (ee_lv_has hl) hj hv hn rfl (fun ls' h' => k H locs ls' hP hS (ee_lv_set1 (v := .int v) hl hno hn h') hw)
theorem en_icmp (X : ee_X C cc oc G) {r : Jvm.ClassFile.Cond} {off : Int} {o t f en : Nat} {x y : Int32} {b : Bool} (hd : ee_dec cc pc = some (.if_icmp r off, 3)) (hbr : ee_br pc r off o = some [t, f, en]) (hc : ee_cmp o x y = some b) (k : ee_Wn G (if b then t else f) env st w) : ee_Wn G pc env (.int y :: .int x :: st) w := by
  obtain ⟨tg, ht, he⟩ := ee_br_ok hbr hc
  rw [he] at k
  obtain ⟨p, l, e, R, s, m, args, below, meth, c, cells, slots, Q, D, ad, ca, adV, A, nL, sc, d, rfl, hx, hb, hml, hown, hts, hK, hinj, hadA, hAs, hStr, hSc, hHM, hR1, hR2, hc1, hc2⟩ := X
  intro H locs ls hP hS hl hw
  have hP : va_P D es_cl (ee_ws ad ca w) H := hP
  have hS : va_S A s.heap H locs := hS
  have hl : ee_lv ad ls nL env := hl
  have hw : w.2.2 = sc := hw
  have k := k H locs ls hP hS hl hw
  have hd := ee_dec_ok hd
  cases r
  · exact lv_icmp_eq hx hb hd ht (fun h => by simpa [ee_holds, h] using k) (fun h => by simpa [ee_holds, h] using k)
  · exact lv_icmp_ne hx hb hd ht (fun h => by simpa [ee_holds, h] using k) (fun h => by simpa [ee_holds, h] using k)
  · exact lv_icmp_lt hx hb hd ht (fun h => by simpa [ee_holds, h] using k) (fun h => by simpa [ee_holds, h] using k)
  · exact lv_icmp_ge hx hb hd ht (fun h => by simpa [ee_holds, h] using k) (fun h => by simpa [ee_holds, h] using k)
  · exact lv_icmp_gt hx hb hd ht (fun h => by simpa [ee_holds, h] using k) (fun h => by simpa [ee_holds, h] using k)
  · exact lv_icmp_le hx hb hd ht (fun h => by simpa [ee_holds, h] using k) (fun h => by simpa [ee_holds, h] using k)
theorem en_if (X : ee_X C cc oc G) {r : Jvm.ClassFile.Cond} {off : Int} {o t f en : Nat} {x : Int32} {b : Bool} (hd : ee_dec cc pc = some (.ifCond r off, 3)) (hbr : ee_br pc r off o = some [t, f, en]) (hc : ee_cmp o x 0 = some b) (k : ee_Wn G (if b then t else f) env st w) : ee_Wn G pc env (.int x :: st) w := by
  obtain ⟨tg, ht, he⟩ := ee_br_ok hbr hc
  rw [he] at k
  obtain ⟨p, l, e, R, s, m, args, below, meth, c, cells, slots, Q, D, ad, ca, adV, A, nL, sc, d, rfl, hx, hb, hml, hown, hts, hK, hinj, hadA, hAs, hStr, hSc, hHM, hR1, hR2, hc1, hc2⟩ := X
  intro H locs ls hP hS hl hw
  have hP : va_P D es_cl (ee_ws ad ca w) H := hP
  have hS : va_S A s.heap H locs := hS
  have hl : ee_lv ad ls nL env := hl
  have hw : w.2.2 = sc := hw
  have k := k H locs ls hP hS hl hw
  have hd := ee_dec_ok hd
  cases r
  · exact lv_if_eq hx hb hd ht (fun h => by simpa [ee_holds, h] using k) (fun h => by simpa [ee_holds, h] using k)
  · exact lv_if_ne hx hb hd ht (fun h => by simpa [ee_holds, h] using k) (fun h => by simpa [ee_holds, h] using k)
  · exact lv_if_lt hx hb hd ht (fun h => by simpa [ee_holds, h] using k) (fun h => by simpa [ee_holds, h] using k)
  · exact lv_if_ge hx hb hd ht (fun h => by simpa [ee_holds, h] using k) (fun h => by simpa [ee_holds, h] using k)
  · exact lv_if_gt hx hb hd ht (fun h => by simpa [ee_holds, h] using k) (fun h => by simpa [ee_holds, h] using k)
  · exact lv_if_le hx hb hd ht (fun h => by simpa [ee_holds, h] using k) (fun h => by simpa [ee_holds, h] using k)
theorem en_lcmp (X : ee_X C cc oc G) {x y : Int64} (hd : ee_dec cc pc = some (.lcmp, 1)) (k : ee_Wn G (pc + 1) env (.int (lg_cmp x y) :: st) w) : ee_Wn G pc env (.long y :: .long x :: st) w := by
  obtain ⟨p, l, e, R, s, m, args, below, meth, c, cells, slots, Q, D, ad, ca, adV, A, nL, sc, d, rfl, hx, hb, hml, hown, hts, hK, hinj, hadA, hAs, hStr, hSc, hHM, hR1, hR2, hc1, hc2⟩ := X
  intro H locs ls hP hS hl hw
  have hP : va_P D es_cl (ee_ws ad ca w) H := hP
  have hS : va_S A s.heap H locs := hS
  have hl : ee_lv ad ls nL env := hl
  have hw : w.2.2 = sc := hw
  exact W.lcmp hx hb (ee_dec_ok hd) (k H locs ls hP hS hl hw)
theorem en_ifnull (X : ee_X C cc oc G) {off : Int} {t : Nat} {v : Value} {b : Bool} (hd : ee_dec cc pc = some (.ifnull off, 3)) (ht : ee_tgt pc off = some t) (hv : (v = .null ∧ b = true) ∨ ∃ h, v = .ref h ∧ b = false) (k : ee_Wn G (if b then t else pc + 3) env st w) : ee_Wn G pc env (v :: st) w := by
  obtain ⟨p, l, e, R, s, m, args, below, meth, c, cells, slots, Q, D, ad, ca, adV, A, nL, sc, d, rfl, hx, hb, hml, hown, hts, hK, hinj, hadA, hAs, hStr, hSc, hHM, hR1, hR2, hc1, hc2⟩ := X
  intro H locs ls hP hS hl hw
  have hP : va_P D es_cl (ee_ws ad ca w) H := hP
  have hS : va_S A s.heap H locs := hS
  have hl : ee_lv ad ls nL env := hl
  have hw : w.2.2 = sc := hw
  rcases hv with ⟨rfl, rfl⟩ | ⟨h, rfl, rfl⟩
  · exact lv_ifnullN hx hb (ee_dec_ok hd) (ee_tgt_ok ht) (k H locs ls hP hS hl hw)
  · exact lv_ifnull hx hb (ee_dec_ok hd) (k H locs ls hP hS hl hw)
theorem en_ifnonnull (X : ee_X C cc oc G) {off : Int} {t : Nat} {v : Value} {b : Bool} (hd : ee_dec cc pc = some (.ifnonnull off, 3)) (ht : ee_tgt pc off = some t) (hv : (v = .null ∧ b = true) ∨ ∃ h, v = .ref h ∧ b = false) (k : ee_Wn G (if b then pc + 3 else t) env st w) : ee_Wn G pc env (v :: st) w := by
  obtain ⟨p, l, e, R, s, m, args, below, meth, c, cells, slots, Q, D, ad, ca, adV, A, nL, sc, d, rfl, hx, hb, hml, hown, hts, hK, hinj, hadA, hAs, hStr, hSc, hHM, hR1, hR2, hc1, hc2⟩ := X
  intro H locs ls hP hS hl hw
  have hP : va_P D es_cl (ee_ws ad ca w) H := hP
  have hS : va_S A s.heap H locs := hS
  have hl : ee_lv ad ls nL env := hl
  have hw : w.2.2 = sc := hw
  rcases hv with ⟨rfl, rfl⟩ | ⟨h, rfl, rfl⟩
  · exact lv_ifnonnullN hx hb (ee_dec_ok hd) (k H locs ls hP hS hl hw)
  · exact lv_ifnonnull hx hb (ee_dec_ok hd) (ee_tgt_ok ht) (k H locs ls hP hS hl hw)
theorem en_pop (X : ee_X C cc oc G) {v : Value} (hd : ee_dec cc pc = some (.pop, 1)) (hv : v.category = 1) (k : ee_Wn G (pc + 1) env st w) : ee_Wn G pc env (v :: st) w := by
  obtain ⟨p, l, e, R, s, m, args, below, meth, c, cells, slots, Q, D, ad, ca, adV, A, nL, sc, d, rfl, hx, hb, hml, hown, hts, hK, hinj, hadA, hAs, hStr, hSc, hHM, hR1, hR2, hc1, hc2⟩ := X
  intro H locs ls hP hS hl hw
  have hP : va_P D es_cl (ee_ws ad ca w) H := hP
  have hS : va_S A s.heap H locs := hS
  have hl : ee_lv ad ls nL env := hl
  have hw : w.2.2 = sc := hw
  exact lv_pop hx hb (ee_dec_ok hd) (by rw [ee_tr_cat]; exact hv) (k H locs ls hP hS hl hw)
theorem en_dup (X : ee_X C cc oc G) {v : Value} (hd : ee_dec cc pc = some (.dup, 1)) (hv : v.category = 1) (k : ee_Wn G (pc + 1) env (v :: v :: st) w) : ee_Wn G pc env (v :: st) w := by
  obtain ⟨p, l, e, R, s, m, args, below, meth, c, cells, slots, Q, D, ad, ca, adV, A, nL, sc, d, rfl, hx, hb, hml, hown, hts, hK, hinj, hadA, hAs, hStr, hSc, hHM, hR1, hR2, hc1, hc2⟩ := X
  intro H locs ls hP hS hl hw
  have hP : va_P D es_cl (ee_ws ad ca w) H := hP
  have hS : va_S A s.heap H locs := hS
  have hl : ee_lv ad ls nL env := hl
  have hw : w.2.2 = sc := hw
  exact lv_dup hx hb (ee_dec_ok hd) (by rw [ee_tr_cat]; exact hv) (k H locs ls hP hS hl hw)
theorem en_dup2 (X : ee_X C cc oc G) {u v : Value} (hd : ee_dec cc pc = some (.dup2, 1)) (hu : u.category = 1) (hv : v.category = 1) (k : ee_Wn G (pc + 1) env (u :: v :: u :: v :: st) w) : ee_Wn G pc env (u :: v :: st) w := by
  obtain ⟨p, l, e, R, s, m, args, below, meth, c, cells, slots, Q, D, ad, ca, adV, A, nL, sc, d, rfl, hx, hb, hml, hown, hts, hK, hinj, hadA, hAs, hStr, hSc, hHM, hR1, hR2, hc1, hc2⟩ := X
  intro H locs ls hP hS hl hw
  have hP : va_P D es_cl (ee_ws ad ca w) H := hP
  have hS : va_S A s.heap H locs := hS
  have hl : ee_lv ad ls nL env := hl
  have hw : w.2.2 = sc := hw
  exact lv_dup2_11 hx hb (ee_dec_ok hd) (by rw [ee_tr_cat]; exact hu) (by rw [ee_tr_cat]; exact hv) (k H locs ls hP hS hl hw)
theorem en_arr (X : ee_X C cc oc G) {k : Nat} : ∀ (n : Nat) {pc : Nat}, ee_arr cc n pc k = true → ee_Wn G k env st w → ee_Wn G pc env st w := by
  intro n
  induction n with
  | zero =>
    intro pc h hk
    simp only [ee_arr, beq_iff_eq] at h
    rw [h]
    exact hk
  | succ n ih =>
    intro pc h hk
    simp only [ee_arr, Bool.or_eq_true, beq_iff_eq] at h
    rcases h with h | h
    · rw [h]
      exact hk
    · split at h
      · rename_i off hd
        split at h
        · rename_i t ht
          exact en_goto X hd ht (ih h hk)
        · cases h
      · cases h
end EN2
