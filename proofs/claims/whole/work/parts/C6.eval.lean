/-! what constructors make: run -/
section CNE
variable {C : cn_F} {cc : ByteArray} {oc : Nat} {G : cn_G}
abbrev cn_Z : Type := Nat × ee_E × List Value × List cn_C × Nat × Nat
def cn_step (C : cn_F) (dec : Nat → Option (Instr × Nat)) (fl : Nat → Option (Nat × Nat × (Nat × Nat × Nat) × Bool × Nat)) (ml : Nat → Option (Nat × Nat × Nat × Bool × Nat)) (oc : Nat) (pc : Nat) (env : ee_E) (st : List Value) (cs : List cn_C) (nc ns : Nat) : Option cn_Z :=
  match dec pc with
  | some (.aload_n n, 1) => (match env[(n : Nat)]? with
    | some (some (.ref h)) => some (pc + 1, env, .ref h :: st, cs, nc, ns)
    | _ => none)
  | some (.iload_n n, 1) => (match env[(n : Nat)]? with
    | some (some (.int x)) => some (pc + 1, env, .int x :: st, cs, nc, ns)
    | _ => none)
  | some (.iconst n, 1) => some (pc + 1, env, .int (Int32.ofInt n) :: st, cs, nc, ns)
  | some (.bipush n, 2) => some (pc + 2, env, .int (Int8.ofInt n).toInt32 :: st, cs, nc, ns)
  | some (.sipush n, 3) => some (pc + 3, env, .int (Int16.ofInt n).toInt32 :: st, cs, nc, ns)
  | some (.ldc i, 2) => (match es_KI.find? (fun q => q.1 == oc && q.2.1 == i) with
    | some q => if ee_ki oc i q.2.2.1 = true then some (pc + 2, env, .int q.2.2.1 :: st, cs, nc, ns) else none
    | none => none)
  | some (.dup, 1) => (match st with
    | .ref h :: st => some (pc + 1, env, .ref h :: .ref h :: st, cs, nc, ns)
    | _ => none)
  | some (.new i, 3) => (match cn_N.find? (fun q => q.1 == oc && q.2.1 == i) with
    | some q => some (pc + 3, env, .ref cs.length :: st, cs ++ [(10 + q.2.2, 0, cn_def q.2.2)], nc + 1, ns + es_nf q.2.2)
    | none => none)
  | some (.newarray t, 2) => (match st with
    | .int n :: st => (match cn_aty t with
      | some a => if ¬ n < 0 ∧ n.toNatClampNeg ≤ 60000 then some (pc + 2, env, .ref cs.length :: st, cs ++ [(a, n.toNatClampNeg, [])], nc + 1, ns + n.toNatClampNeg) else none
      | none => none)
    | _ => none)
  | some (.anewarray i, 3) => (match st with
    | .int n :: st => (match cn_N.find? (fun q => q.1 == oc && q.2.1 == i) with
      | some q => (match cn_ak q.2.2 with
        | some a => if ¬ n < 0 ∧ n.toNatClampNeg ≤ 60000 then some (pc + 3, env, .ref cs.length :: st, cs ++ [(a, n.toNatClampNeg, List.replicate n.toNatClampNeg .null)], nc + 1, ns + n.toNatClampNeg) else none
        | none => none)
      | none => none)
    | _ => none)
  | some (.putfield i, 3) => (match st with
    | v :: .ref q :: st => (match fl i with
      | some f => (match cs[q]? with
        | some (k, n, fs) => if k = 10 + f.2.2.1.1 ∧ f.2.2.1.1 = oc ∧ f.2.2.2.1 = false ∧ f.2.2.1.2.1 < fs.length ∧ cn_pv (es_ty f.2.2.1.1 f.2.2.1.2.1) v = true then some (pc + 3, env, st, cs.set q (10 + f.2.2.1.1, n, fs.set f.2.2.1.2.1 v), nc, ns) else none
        | none => none)
      | none => none)
    | _ => none)
  | some (.getfield i, 3) => (match st with
    | .ref q :: st => (match fl i with
      | some f => (match cs[q]? with
        | some (k, _, fs) => (match fs[f.2.2.1.2.1]? with
          | some v => if k = 10 + f.2.2.1.1 ∧ f.2.2.2.1 = false then some (pc + 3, env, v :: st, cs, nc, ns) else none
          | none => none)
        | none => none)
      | none => none)
    | _ => none)
  | some (.invokespecial i, 3) => (match st with
    | .ref q :: st => (match ml i with
      | some f => if st.length ≤ 4 then (if f.2.2.1 = 1 then (if f.2.2.2.1 = false then some (pc + 3, env, st, cs, nc, ns) else none) else (match C f.2.2.1 q cs with
        | some r => some (pc + 3, env, st, r.1, nc + r.2.1, ns + r.2.2)
        | none => none)) else none
      | none => none)
    | _ => none)
  | some (.aastore, 1) => (match st with
    | .ref v :: .int j :: .ref q :: st => (match cs[q]? with
      | some (a, n, fs) => (match cs[v]? with
        | some (k, _, _) => if 10 ≤ k ∧ cn_ak (k - 10) = some a ∧ fs.length = n ∧ ¬ j < 0 ∧ j.toNatClampNeg < n then some (pc + 1, env, st, cs.set q (a, n, fs.set j.toNatClampNeg (.ref v)), nc, ns) else none
        | none => none)
      | none => none)
    | _ => none)
  | some (.istore_n n, 1) => (match st with
    | .int x :: st => if ee_noL env n = true ∧ (n : Nat) < env.length then some (pc + 1, env.set n (some (.int x)), st, cs, nc, ns) else none
    | _ => none)
  | some (.iinc i n, 3) => (match env[i]? with
    | some (some (.int x)) => if ee_noL env i = true then some (pc + 3, env.set i (some (.int (x + Int32.ofInt n))), st, cs, nc, ns) else none
    | _ => none)
  | some (.goto off, 3) => (match ee_tgt pc off with
    | some t => some (t, env, st, cs, nc, ns)
    | none => none)
  | some (.if_icmp .ge off, 3) => (match st with
    | .int y :: .int x :: st => (match ee_tgt pc off with
      | some t => some (if y ≤ x then t else pc + 3, env, st, cs, nc, ns)
      | none => none)
    | _ => none)
  | _ => none
theorem cn_find {l : List (Nat × Nat × Nat)} {oc i : Nat} {q : Nat × Nat × Nat} (h : l.find? (fun q => q.1 == oc && q.2.1 == i) = some q) : (oc, i, q.2.2) ∈ l := by
  have h1 := List.find?_some h
  have h2 := List.mem_of_find?_eq_some h
  simp only [Bool.and_eq_true, beq_iff_eq] at h1
  rw [← h1.1, ← h1.2]
  exact h2
def cn_WZ (G : cn_G) (z : cn_Z) : Prop := cn_Wn G z.1 z.2.1 z.2.2.1 z.2.2.2.1 z.2.2.2.2.1 z.2.2.2.2.2
theorem cn_step_ok (X : cn_X C cc oc G) {dec : Nat → Option (Instr × Nat)} {fl : Nat → Option (Nat × Nat × (Nat × Nat × Nat) × Bool × Nat)} {ml : Nat → Option (Nat × Nat × Nat × Bool × Nat)} (hdec : ∀ pc x, dec pc = some x → ee_dec cc pc = some x) (hfl : ∀ i f, fl i = some f → ee_fl oc i = some f) (hml : ∀ i f, ml i = some f → ee_ml oc i = some f) {pc : Nat} {env : ee_E} {st : List Value} {cs : List cn_C} {nc ns : Nat} {z : cn_Z} (h : cn_step C dec fl ml oc pc env st cs nc ns = some z) : nc ≤ z.2.2.2.2.1 ∧ ns ≤ z.2.2.2.2.2 ∧ (z.2.2.2.2.1 ≤ G.2.2.2.2.2.2.2.2.1 → z.2.2.2.2.2 ≤ G.2.2.2.2.2.2.2.2.2 → cn_WZ G z → cn_Wn G pc env st cs nc ns) := by
  unfold cn_step at h
  split at h
  · rename_i n hd
    split at h
    · rename_i x he
      cases h
      exact ⟨Nat.le_refl _, Nat.le_refl _, fun _ _ k => cn_aload X (hdec _ _ hd) he k⟩
    · cases h
  · rename_i n hd
    split at h
    · rename_i x he
      cases h
      exact ⟨Nat.le_refl _, Nat.le_refl _, fun _ _ k => cn_iload X (hdec _ _ hd) he k⟩
    · cases h
  · rename_i n hd
    cases h
    exact ⟨Nat.le_refl _, Nat.le_refl _, fun _ _ k => cn_iconst X (hdec _ _ hd) k⟩
  · rename_i n hd
    cases h
    exact ⟨Nat.le_refl _, Nat.le_refl _, fun _ _ k => cn_bipush X (hdec _ _ hd) k⟩
  · rename_i n hd
    cases h
    exact ⟨Nat.le_refl _, Nat.le_refl _, fun _ _ k => cn_sipush X (hdec _ _ hd) k⟩
  · rename_i i hd
    split at h
    · rename_i q hq
      split at h
      · rename_i hk
        cases h
        exact ⟨Nat.le_refl _, Nat.le_refl _, fun _ _ k => cn_ldc X (hdec _ _ hd) hk k⟩
      · cases h
    · cases h
  · rename_i hd
    split at h
    · cases h
      exact ⟨Nat.le_refl _, Nat.le_refl _, fun _ _ k => cn_dup X (hdec _ _ hd) k⟩
    · cases h
  · rename_i i hd
    split at h
    · rename_i q hq
      cases h
      exact ⟨Nat.le_succ _, Nat.le_add_right _ _, fun h1 h2 k => cn_new X (hdec _ _ hd) (cn_find hq) h1 h2 k⟩
    · cases h
  · rename_i t hd
    split at h
    · split at h
      · rename_i a ha
        split at h
        · rename_i hn
          cases h
          exact ⟨Nat.le_succ _, Nat.le_add_right _ _, fun h1 h2 k => cn_newa X (hdec _ _ hd) ha hn.1 hn.2 h1 h2 k⟩
        · cases h
      · cases h
    · cases h
  · rename_i i hd
    split at h
    · split at h
      · rename_i q hq
        split at h
        · rename_i a ha
          split at h
          · rename_i hn
            cases h
            exact ⟨Nat.le_succ _, Nat.le_add_right _ _, fun h1 h2 k => cn_anew X (hdec _ _ hd) (cn_find hq) ha hn.1 hn.2 h1 h2 k⟩
          · cases h
        · cases h
      · cases h
    · cases h
  · rename_i i hd
    split at h
    · split at h
      · rename_i f hf
        split at h
        · rename_i k n fs hq
          split at h
          · rename_i hc
            obtain ⟨c1, c2, c3, c4, c5⟩ := hc
            subst c1
            cases h
            exact ⟨Nat.le_refl _, Nat.le_refl _, fun _ _ k => cn_put X (hdec _ _ hd) (hfl _ _ hf) hq c2 c3 c4 c5 k⟩
          · cases h
        · cases h
      · cases h
    · cases h
  · rename_i i hd
    split at h
    · split at h
      · rename_i f hf
        split at h
        · rename_i k n fs hq
          split at h
          · rename_i v hv
            split at h
            · rename_i hc
              obtain ⟨c1, c2⟩ := hc
              subst c1
              cases h
              exact ⟨Nat.le_refl _, Nat.le_refl _, fun _ _ k => cn_get X (hdec _ _ hd) (hfl _ _ hf) hq c2 hv k⟩
            · cases h
          · cases h
        · cases h
      · cases h
    · cases h
  · rename_i i hd
    split at h
    · split at h
      · rename_i f hf
        split at h
        · rename_i hst
          split at h
          · rename_i h1
            split at h
            · rename_i hn
              cases h
              exact ⟨Nat.le_refl _, Nat.le_refl _, fun _ _ k => cn_obj X (hdec _ _ hd) (hml _ _ hf) h1 hn hst k⟩
            · cases h
          · split at h
            · rename_i r hC
              cases h
              exact ⟨Nat.le_add_right _ _, Nat.le_add_right _ _, fun h1 h2 k => cn_call X (hdec _ _ hd) (hml _ _ hf) rfl hC hst h1 h2 k⟩
            · cases h
        · cases h
      · cases h
    · cases h
  · rename_i hd
    split at h
    · split at h
      · rename_i a n fs hq
        split at h
        · rename_i k n1 vs hv
          split at h
          · rename_i hc
            obtain ⟨c1, c2, c3, c4, c5⟩ := hc
            obtain ⟨k0, rfl⟩ : ∃ k0, k = 10 + k0 := ⟨k - 10, by omega⟩
            rw [Nat.add_sub_cancel_left] at c2
            cases h
            exact ⟨Nat.le_refl _, Nat.le_refl _, fun _ _ k => cn_aast X (hdec _ _ hd) hq hv c2 c3 c4 c5 k⟩
          · cases h
        · cases h
      · cases h
    · cases h
  · rename_i n hd
    split at h
    · split at h
      · rename_i hc
        cases h
        exact ⟨Nat.le_refl _, Nat.le_refl _, fun _ _ k => cn_istore X (hdec _ _ hd) hc.1 hc.2 k⟩
      · cases h
    · cases h
  · rename_i i n hd
    split at h
    · rename_i x he
      split at h
      · rename_i hc
        cases h
        exact ⟨Nat.le_refl _, Nat.le_refl _, fun _ _ k => cn_iinc X (hdec _ _ hd) he hc k⟩
      · cases h
    · cases h
  · rename_i off hd
    split at h
    · rename_i t ht
      cases h
      exact ⟨Nat.le_refl _, Nat.le_refl _, fun _ _ k => cn_goto X (hdec _ _ hd) ht k⟩
    · cases h
  · rename_i off hd
    split at h
    · split at h
      · rename_i t ht
        cases h
        exact ⟨Nat.le_refl _, Nat.le_refl _, fun _ _ k => cn_icmp X (hdec _ _ hd) ht k⟩
      · cases h
    · cases h
  · cases h
def cn_run (C : cn_F) (dec : Nat → Option (Instr × Nat)) (fl : Nat → Option (Nat × Nat × (Nat × Nat × Nat) × Bool × Nat)) (ml : Nat → Option (Nat × Nat × Nat × Bool × Nat)) (oc stop : Nat) : Nat → cn_Z → Option cn_Z
  | 0, _ => none
  | n + 1, z => if z.1 = stop then some z else match cn_step C dec fl ml oc z.1 z.2.1 z.2.2.1 z.2.2.2.1 z.2.2.2.2.1 z.2.2.2.2.2 with
    | some z' => cn_run C dec fl ml oc stop n z'
    | none => none
theorem cn_run_ok (X : cn_X C cc oc G) {dec : Nat → Option (Instr × Nat)} {fl : Nat → Option (Nat × Nat × (Nat × Nat × Nat) × Bool × Nat)} {ml : Nat → Option (Nat × Nat × Nat × Bool × Nat)} (hdec : ∀ pc x, dec pc = some x → ee_dec cc pc = some x) (hfl : ∀ i f, fl i = some f → ee_fl oc i = some f) (hml : ∀ i f, ml i = some f → ee_ml oc i = some f) {stop : Nat} : ∀ (n : Nat) (z z' : cn_Z), cn_run C dec fl ml oc stop n z = some z' → z'.1 = stop ∧ z.2.2.2.2.1 ≤ z'.2.2.2.2.1 ∧ z.2.2.2.2.2 ≤ z'.2.2.2.2.2 ∧ (z'.2.2.2.2.1 ≤ G.2.2.2.2.2.2.2.2.1 → z'.2.2.2.2.2 ≤ G.2.2.2.2.2.2.2.2.2 → cn_WZ G z' → cn_WZ G z) := by
  intro n
  induction n with
  | zero => intro z z' h; cases h
  | succ n ih =>
    intro z z' h
    unfold cn_run at h
    split at h
    · rename_i hs
      cases h
      exact ⟨hs, Nat.le_refl _, Nat.le_refl _, fun _ _ k => k⟩
    · split at h
      · rename_i z1 h1
        obtain ⟨a1, a2, a3⟩ := cn_step_ok X hdec hfl hml h1
        obtain ⟨b1, b2, b3, b4⟩ := ih z1 z' h
        exact ⟨b1, by omega, by omega, fun c1 c2 k => a3 (by omega) (by omega) (b4 c1 c2 k)⟩
      · cases h
def cn_stop (mi : Nat) : Nat := match mi with
  | 0 => 132
  | 2 => 83
  | 3 => 73
  | 4 => 50
  | 5 => 56
  | 6 => 17
  | 7 => 30
  | 8 => 67
  | _ => 122
def cn_ev : Nat → cn_F
  | 0, _, _, _ => none
  | d + 1, mi, q, cs => match cn_M.find? (fun r => r.1 == mi) with
    | none => none
    | some r => match cn_run (cn_ev d) (cn_lk (cn_dL mi)) (cn_lk (cn_fL mi)) (cn_lk (cn_lL mi)) r.2 (cn_stop mi) 1000 (0, some (.ref q) :: List.replicate ((es_m mi).2.1 - 1) none, [], cs, 0, 0) with
      | none => none
      | some z => if cn_lk (cn_dL mi) (cn_stop mi) = some (.return_, 1) ∧ z.2.2.1 = [] then some (z.2.2.2.1, z.2.2.2.2.1, z.2.2.2.2.2) else none
theorem cn_env {sz q n : Nat} (hn : 1 ≤ n) : ee_lv (fun i => sz + i) (lg_sl [Value.ref (sz + q)] ++ List.replicate (n - (lg_sl [Value.ref (sz + q)]).length) Slot.unset).toArray n (some (.ref q) :: List.replicate (n - 1) none) := ee_lv_entry (fun i => sz + i) [.ref q] n hn
theorem cn_ev_ok (l : Launch) (D : va_G) (ca : Nat → Nat) (sz : Nat) : ∀ d, cn_HM l D ca sz d (cn_ev d) := by
  intro d
  induction d with
  | zero => intro mi q cs cs' mc ms h; cases h
  | succ d ih =>
    intro mi q cs cs' mc ms h
    unfold cn_ev at h
    split at h
    · cases h
    · rename_i r hr
      have hrm := List.mem_of_find?_eq_some hr
      have hr1 := List.find?_some hr
      rw [beq_iff_eq] at hr1
      obtain ⟨r1, oc⟩ := r
      have hr1 : r1 = mi := hr1
      subst hr1
      split at h
      · cases h
      · rename_i z hz
        split at h
        · rename_i hc
          cases h
          obtain ⟨c1, c2, c3, c4, c5, c6, c7, c8, c9, c10, c11⟩ := cn_M_ok _ hrm
          refine ⟨⟨oc, hrm⟩, ?_⟩
          refine ee_ofW (cc := es_bytes (es_m r1).2.2.2.2) (maxL := (es_m r1).2.1) (ret := (es_m r1).2.2.1) (ws' := es_big) c3 rfl ?_
          intro p e s m args below meth c s₁ B1 hml hv
          obtain ⟨rfl, hsz, hP, hK, hNw, hO1, hO2⟩ := hv
          have hts := atoms_spec (ws := ee_mws r1) B1.pre
          have hown : s.vm.findClass (es_m r1).1.cls = some m.cls := findClass_of_methodNamed B1.named
          have hin : meth.name = "<init>" := (name_of_methodNamed B1.named B1.method).1.trans c4
          rw [lg_entry_eq]
          have X : cn_X (cn_ev d) (es_bytes (es_m r1).2.2.2.2) oc (fun H locs nc ns g => W p l e (cn_R (d + 1) z.2.2.2.2.1 z.2.2.2.2.2) s m ([Value.ref (sz + q)] : List Value).toArray below meth c H locs nc ns (MQ below (cn_Qc D ca sz z.2.2.2.1) ([Value.ref (sz + q)] : List Value).toArray s z.2.2.2.2.1 z.2.2.2.2.2 (fun q => sz ≤ q)) g, m, s.heap, D, ca, (fun q => sz ≤ q), (es_m r1).2.1, sz, z.2.2.2.2.1, z.2.2.2.2.2) :=
            ⟨p, l, e, cn_R (d + 1) z.2.2.2.2.1 z.2.2.2.2.2, s, m, _, below, meth, c, _, D, ca, _, (es_m r1).2.1, sz, d, rfl, B1.exec, B1.bytes, hml, by rw [c5]; exact hown, fun w hw => hts w (List.mem_cons_of_mem _ hw), hK, fun _ h => h, by rw [hsz]; omega, hNw, hO1, hO2, ih, Nat.le_refl _, by show 64 * d + 64 ≤ 64 * (d + 1); omega, hin⟩
          obtain ⟨t1, t2, t3⟩ := cn_tabs hrm
          obtain ⟨b1, b2, b3, b4⟩ := cn_run_ok X t1 t2 t3 1000 _ _ hz
          refine b4 (Nat.le_refl _) (Nat.le_refl _) ?_ s.heap [] _ hP hsz va_S.rf (cn_env c7)
          intro H locs ls hP2 hz2 hS2 hl2
          rw [hc.2, b1]
          have c8 : (es_m r1).2.2.1 = none := c8
          have hret : meth.sig.returnType = none := by rw [← c8]; exact B1.returns
          exact W.vret B1.exec B1.bytes hret (fun t ht _ => ⟨rfl, by rw [ht]; exact hz2, by rw [ht]; exact hP2, va_S.F hS2 ht⟩) hS2.2.2 (ee_dec_ok (t1 _ _ hc.1)) B1.notSynchronized
        · cases h
end CNE
