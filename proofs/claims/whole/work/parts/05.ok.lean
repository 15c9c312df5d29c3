/-! the checker: a tree is what the bytecode at a place does -/
def ee_dec (cc : ByteArray) (pc : Nat) : Option (Instr × Nat) := match decode cc pc with
  | .ok x => some x
  | .error _ => none
theorem ee_dec_ok {cc : ByteArray} {pc : Nat} {x : Instr × Nat} (h : ee_dec cc pc = some x) : decode cc pc = .ok x := by
  unfold ee_dec at h
  split at h
  · rename_i y hy
    rw [hy, Option.some.inj h]
  · cases h
def ee_tgt (pc : Nat) (off : Int) : Option Nat := if 0 ≤ (pc : Int) + off then some ((pc : Int) + off).toNat else none
theorem ee_tgt_ok {pc : Nat} {off : Int} {t : Nat} (h : ee_tgt pc off = some t) : (pc : Int) + off = (t : Int) := by
  unfold ee_tgt at h
  split at h
  · cases h
    omega
  · cases h
def ee_arr (cc : ByteArray) : Nat → Nat → Nat → Bool
  | 0, p, k => p == k
  | n + 1, p, k => p == k || (match ee_dec cc p with
    | some (.goto off, 3) => (match ee_tgt p off with
      | some t => ee_arr cc n t k
      | none => false)
    | _ => false)
def ee_mrg (cc : ByteArray) (a b : Nat) : Option Nat := if ee_arr cc 3 a b then some b else if ee_arr cc 3 b a then some a else none
def ee_rel : Jvm.ClassFile.Cond → Nat × Nat
  | .eq => (0, 1)
  | .ne => (1, 0)
  | .lt => (2, 3)
  | .ge => (3, 2)
  | .gt => (4, 5)
  | .le => (5, 4)
def ee_br (q : Nat) (r : Jvm.ClassFile.Cond) (off : Int) (o : Nat) : Option (List Nat) := match ee_tgt q off with
  | none => none
  | some t => if (ee_rel r).1 = o then some [t, q + 3, q + 3] else if (ee_rel r).2 = o then some [q + 3, t, q + 3] else none
def ee_fl (oc idx : Nat) : Option (Nat × Nat × (Nat × Nat × Nat) × Bool × Nat) := es_FL.find? (fun q => q.1 == oc && q.2.1 == idx)
def ee_ml (oc idx : Nat) : Option (Nat × Nat × Nat × Bool × Nat) := es_ML.find? (fun q => q.1 == oc && q.2.1 == idx)
def ee_ki (oc idx : Nat) (v : Int32) : Bool := es_KI.any (fun q => q.1 == oc && (q.2.1 == idx && decide (q.2.2.1 = v)))
def ee_kl (oc idx : Nat) (v : Int64) : Bool := es_KL.any (fun q => q.1 == oc && (q.2.1 == idx && decide (q.2.2.1 = v)))
abbrev ee_Y : Type := Nat → Nat → Option (List Nat)
section OK
variable (cc : ByteArray) (oc : Nat)
def ee_ok0 (t : Nat) (raw : ee_T) : ee_Y := fun pc _ =>
  match t with
  | 0 => match ee_dec cc pc with
    | some (.iconst n, 1) => if Int32.ofInt n = Int32.ofNat (ee_n raw) then some [pc + 1] else none
    | some (.bipush n, 2) => if (Int8.ofInt n).toInt32 = Int32.ofNat (ee_n raw) then some [pc + 2] else none
    | some (.sipush n, 3) => if (Int16.ofInt n).toInt32 = Int32.ofNat (ee_n raw) then some [pc + 3] else none
    | some (.ldc i, 2) => if ee_ki oc i (Int32.ofNat (ee_n raw)) then some [pc + 2] else none
    | some (.ldc_w i, 3) => if ee_ki oc i (Int32.ofNat (ee_n raw)) then some [pc + 3] else none
    | _ => none
  | 1 => match ee_dec cc pc with
    | some (.lconst n, 1) => if Int64.ofNat (n : Nat) = Int64.ofNat (ee_n raw) then some [pc + 1] else none
    | some (.ldc2_w i, 3) => if ee_kl oc i (Int64.ofNat (ee_n raw)) then some [pc + 3] else none
    | _ => none
  | 2 => match ee_n (ee_r raw), ee_dec cc pc with
    | 0, some (.iload_n k, 1) => if (k : Nat) = ee_n (ee_l raw) then some [pc + 1] else none
    | 0, some (.iload k, 2) => if k = ee_n (ee_l raw) then some [pc + 2] else none
    | 1, some (.lload_n k, 1) => if (k : Nat) = ee_n (ee_l raw) then some [pc + 1] else none
    | 1, some (.lload k, 2) => if k = ee_n (ee_l raw) then some [pc + 2] else none
    | 2, some (.aload_n k, 1) => if (k : Nat) = ee_n (ee_l raw) then some [pc + 1] else none
    | 2, some (.aload k, 2) => if k = ee_n (ee_l raw) then some [pc + 2] else none
    | _, _ => none
  | 3 => match ee_dec cc pc with
    | some (.aconst_null, 1) => some [pc + 1]
    | _ => none
  | 4 => some [pc]
  | 5 => match ee_dec cc pc with
    | some (.ldc i, 2) => if oc = es_str.1 ∧ i = es_str.2.1 ∧ ee_n raw = es_NC then some [pc + 2] else none
    | _ => none
  | _ => none
def ee_ok1 (t : Nat) (raw : ee_T) (x : ee_Y) : ee_Y := fun pc sd =>
  match t with
  | 0 => match x pc sd with
    | some [q] => match ee_dec cc q with
      | some (.getfield idx, 3) => match ee_fl oc idx with
        | some f => if f.2.2.1 = (ee_n (ee_l raw), ee_n (ee_l (ee_r raw)), ee_n (ee_l (ee_r (ee_r raw)))) then some [q + 3] else none
        | none => none
      | _ => none
    | _ => none
  | 1 => match x pc sd with
    | some [q] => match ee_dec cc q with
      | some (.arraylength, 1) => some [q + 1]
      | _ => none
    | _ => none
  | 2 => match x pc sd with
    | some [q] => match ee_n raw, ee_dec cc q with
      | 0, some (.ineg, 1) => some [q + 1]
      | 1, some (.i2l, 1) => some [q + 1]
      | 2, some (.l2i, 1) => some [q + 1]
      | 3, some (.lneg, 1) => some [q + 1]
      | _, _ => none
    | _ => none
  | 3 => match x pc sd with
    | some [q] => if sd ≤ 4 then match ee_dec cc q with
      | some (.invokestatic idx, 3) => match ee_ml oc idx with
        | some f => if f.2.2.1 = ee_n (ee_l raw) ∧ (es_m f.2.2.1).2.2.2.1 = true ∧ es_CM.any (fun r => r.1 == f.2.2.1) = true then some [q + 3] else none
        | none => none
      | some (.invokevirtual idx, 3) => match ee_ml oc idx with
        | some f => if f.2.2.1 = ee_n (ee_l raw) ∧ (es_m f.2.2.1).2.2.2.1 = false ∧ es_CM.any (fun r => r.1 == f.2.2.1) = true then some [q + 3] else none
        | none => none
      | _ => none else none
    | _ => none
  | 4 => match x pc sd with
    | some [t, f, en] => match ee_dec cc en, ee_dec cc (en + 1), ee_dec cc (en + 4) with
      | some (.iconst 1, 1), some (.goto off, 3), some (.iconst 0, 1) => if ee_arr cc 3 t en && ee_arr cc 3 f (en + 4) then (match ee_tgt (en + 1) off with
          | some g => if g = en + 5 then some [en + 5] else some [en + 5, g]
          | none => none) else none
      | _, _, _ => none
    | _ => none
  | 5 => match x pc sd with
    | some [t, f, en] => some [f, t, en]
    | _ => none
  | 6 => match x pc sd with
    | some [q] => match ee_dec cc q with
      | some (.ifCond r off, 3) => ee_br q r off (ee_n raw)
      | _ => none
    | _ => none
  | 7 => match x pc sd with
    | some [q] => match ee_dec cc q with
      | some (.ifnull off, 3) => (ee_tgt q off).map (fun t => [t, q + 3, q + 3])
      | some (.ifnonnull off, 3) => (ee_tgt q off).map (fun t => [q + 3, t, q + 3])
      | _ => none
    | _ => none
  | 8 => match x pc sd with
    | some [q] => if sd = 0 then match ee_dec cc q with
      | some (.invokestatic idx, 3) => if es_AC.any (fun r => r.1 == oc && r.2.1 == idx) then some [q + 3] else none
      | _ => none else none
    | _ => none
  | 9 => match x pc sd with
    | some [q] => match ee_dec cc q with
      | some (.arraylength, 1) => some [q + 1]
      | _ => none
    | _ => none
  | _ => none
def ee_ok2 (t : Nat) (raw : ee_T) (x y : ee_Y) : ee_Y := fun pc sd =>
  match t with
  | 4 => match x pc sd with
    | some [ta, fa, ea] => match y ea sd with
      | some [tb, fb, eb] => if ee_arr cc 3 ta ea then (ee_mrg cc fa fb).map (fun f => [tb, f, eb]) else none
      | _ => none
    | _ => none
  | 5 => match x pc sd with
    | some [ta, fa, ea] => match y ea sd with
      | some [tb, fb, eb] => if ee_arr cc 3 fa ea then (ee_mrg cc ta tb).map (fun t => [t, fb, eb]) else none
      | _ => none
    | _ => none
  | t => match x pc sd with
    | some [q] => match y q (sd + 1) with
      | some [q2] => match t with
        | 0 => some [q2]
        | 1 => match ee_n raw, ee_dec cc q2 with
          | 0, some (.iadd, 1) => some [q2 + 1]
          | 1, some (.isub, 1) => some [q2 + 1]
          | 2, some (.imul, 1) => some [q2 + 1]
          | 3, some (.idiv, 1) => some [q2 + 1]
          | 4, some (.irem, 1) => some [q2 + 1]
          | 5, some (.iand, 1) => some [q2 + 1]
          | 6, some (.ior, 1) => some [q2 + 1]
          | 7, some (.ixor, 1) => some [q2 + 1]
          | 8, some (.ishl, 1) => some [q2 + 1]
          | 9, some (.ishr, 1) => some [q2 + 1]
          | 10, some (.iushr, 1) => some [q2 + 1]
          | 20, some (.ladd, 1) => some [q2 + 1]
          | 21, some (.lsub, 1) => some [q2 + 1]
          | 22, some (.lmul, 1) => some [q2 + 1]
          | 23, some (.ldiv, 1) => some [q2 + 1]
          | 24, some (.lrem, 1) => some [q2 + 1]
          | 25, some (.land, 1) => some [q2 + 1]
          | 26, some (.lor, 1) => some [q2 + 1]
          | 48, some (.lshl, 1) => some [q2 + 1]
          | 49, some (.lshr, 1) => some [q2 + 1]
          | _, _ => none
        | 2 => match ee_n raw, ee_dec cc q2 with
          | 0, some (.iaload, 1) => some [q2 + 1]
          | 1, some (.baload, 1) => some [q2 + 1]
          | 2, some (.laload, 1) => some [q2 + 1]
          | 3, some (.aaload, 1) => some [q2 + 1]
          | 4, some (.aaload, 1) => some [q2 + 1]
          | _, _ => none
        | 3 => match ee_dec cc q2 with
          | some (.if_icmp r off, 3) => ee_br q2 r off (ee_n raw)
          | _ => none
        | 6 => match ee_dec cc q2, ee_dec cc (q2 + 1) with
          | some (.lcmp, 1), some (.ifCond r off, 3) => ee_br (q2 + 1) r off (ee_n raw)
          | _, _ => none
        | 7 => match ee_dec cc q2 with
          | some (.iaload, 1) => some [q2 + 1]
          | _ => none
        | _ => none
      | _ => none
    | _ => none
def ee_tv (t f en q : Nat) (xs : List Nat) (q2 : Nat) (zs : List Nat) : Option (List Nat) := match ee_dec cc q with
  | some (.goto off, 3) => match ee_tgt q off with
    | some g => if ee_arr cc 3 t en && (ee_arr cc 3 f (q + 3) && (xs.all (fun x => x == g) && zs.all (fun x => x == g))) then (if g = q2 ∧ zs = [] then some [q2] else some [q2, g]) else none
    | none => none
  | _ => none
def ee_ok3 (t : Nat) (x y z : ee_Y) : ee_Y := fun pc sd =>
  match t with
  | 0 => match x pc sd with
    | some [t, f, en] => match y en sd with
      | some [q] => match z (q + 3) sd with
        | some [q2] => ee_tv cc t f en q [] q2 []
        | some [q2, x2] => ee_tv cc t f en q [] q2 [x2]
        | _ => none
      | some [q, x1] => match z (q + 3) sd with
        | some [q2] => ee_tv cc t f en q [x1] q2 []
        | some [q2, x2] => ee_tv cc t f en q [x1] q2 [x2]
        | _ => none
      | some [t2, f2, e2] => match ee_dec cc e2, z (e2 + 3) sd with
        | some (.goto off, 3), some [t3, f3, e3] => match ee_tgt e2 off with
          | some tt => if ee_arr cc 3 t en && ee_arr cc 3 f (e2 + 3) && ee_arr cc 3 t2 e2 then
              match ee_mrg cc tt t3, ee_mrg cc f2 f3 with
              | some a, some b => some [a, b, e3]
              | _, _ => none
            else none
          | none => none
        | _, _ => none
      | _ => none
    | _ => none
  | _ => none
def ee_ok : ee_T → ee_Y
  | .op (.var t) raw => ee_ok0 cc oc t raw
  | .op (.op (.var t) raw) x => ee_ok1 cc oc t raw (ee_ok x)
  | .op (.op (.op (.var t) raw) x) y => ee_ok2 cc t raw (ee_ok x) (ee_ok y)
  | .op (.op (.op (.op (.var t) _) x) y) z => ee_ok3 cc t (ee_ok x) (ee_ok y) (ee_ok z)
  | _ => fun _ _ => none
/-- where a switch at q goes with x -/
def ee_swt (q : Nat) (x : Int) : Option Nat := match ee_dec cc q with
  | some (.tableswitch dflt lo hi offs, _) => if x < lo ∨ hi < x then ee_tgt q dflt else match offs[(x - lo).toNat]? with
    | some off => ee_tgt q off
    | none => none
  | some (.lookupswitch dflt ps, _) => ee_tgt q (Op.lookupswitch.offset ps.toList dflt x)
  | _ => none
/-- what isn't among the keys goes to the default's place -/
def ee_swd (q : Nat) (keys : List Nat) (pd : Nat) : Bool := match ee_dec cc q with
  | some (.tableswitch dflt lo hi offs, _) => (match ee_tgt q dflt with
      | some t => ee_arr cc 3 t pd
      | none => false) && decide (lo ≤ hi) && decide (hi - lo < 10000) && (List.range (hi - lo + 1).toNat).all (fun j => (keys.map (fun n => (Int32.ofNat n).toInt)).contains (lo + (j : Int)) || (match offs[j]? with
        | some off => (match ee_tgt q off with
          | some t => ee_arr cc 3 t pd
          | none => false)
        | none => false))
  | some (.lookupswitch dflt ps, _) => (match ee_tgt q dflt with
      | some t => ee_arr cc 3 t pd
      | none => false) && ps.toList.all (fun a => (keys.map (fun n => (Int32.ofNat n).toInt)).contains a.1) && (ps.toList.zip (ps.toList.drop 1)).all (fun (a, next) => a.1 < next.1)
  | _ => false
abbrev ee_X4 : Type := Nat → Nat → Bool
def ee_k0 (t : Nat) (raw : ee_T) : ee_X4 := fun pc k =>
  match t with
  | 0 => ee_arr cc 3 pc k
  | 1 => match ee_dec cc pc with
    | some (.return_, 1) => true
    | _ => false
  | 2 => match ee_dec cc pc with
    | some (.iinc i n, 3) => decide (i = ee_n (ee_l raw)) && decide (Int32.ofInt n = Int32.ofNat (ee_n (ee_r raw))) && ee_arr cc 3 (pc + 3) k
    | _ => false
  | _ => false
def ee_k1 (t : Nat) (raw : ee_T) (x : ee_Y) : ee_X4 := fun pc k =>
  match x pc 0 with
  | some [q] => match t with
    | 0 => match ee_n (ee_r raw), ee_dec cc q with
      | 0, some (.istore_n i, 1) => decide ((i : Nat) = ee_n (ee_l raw)) && ee_arr cc 3 (q + 1) k
      | 0, some (.istore i, 2) => decide (i = ee_n (ee_l raw)) && ee_arr cc 3 (q + 2) k
      | 1, some (.lstore_n i, 1) => decide ((i : Nat) = ee_n (ee_l raw)) && ee_arr cc 3 (q + 1) k
      | 1, some (.lstore i, 2) => decide (i = ee_n (ee_l raw)) && ee_arr cc 3 (q + 2) k
      | 2, some (.astore_n i, 1) => decide ((i : Nat) = ee_n (ee_l raw)) && ee_arr cc 3 (q + 1) k
      | 2, some (.astore i, 2) => decide (i = ee_n (ee_l raw)) && ee_arr cc 3 (q + 2) k
      | _, _ => false
    | 1 => match ee_n raw with
      | 0 => ee_arr cc 3 q k
      | 1 => match ee_dec cc q with
        | some (.pop, 1) => ee_arr cc 3 (q + 1) k
        | _ => false
      | _ => false
    | 2 => match ee_n raw, ee_dec cc q with
      | 0, some (.ireturn, 1) => true
      | 1, some (.lreturn, 1) => true
      | 2, some (.areturn, 1) => true
      | _, _ => false
    | _ => false
  | _ => false
/-- the instruction of a binary operation -/
def ee_opi (o : Nat) (i : Option (Instr × Nat)) : Bool := match o, i with
  | 0, some (.iadd, 1) => true
  | 1, some (.isub, 1) => true
  | 2, some (.imul, 1) => true
  | 5, some (.iand, 1) => true
  | 6, some (.ior, 1) => true
  | 7, some (.ixor, 1) => true
  | 20, some (.ladd, 1) => true
  | 21, some (.lsub, 1) => true
  | _, _ => false
def ee_k2 (t : Nat) (raw : ee_T) (x y : ee_Y) : ee_X4 := fun pc k =>
  match x pc 0 with
  | some [q1] => match t with
    | 0 => match y q1 1 with
      | some [q2] => match ee_dec cc q2 with
        | some (.putfield idx, 3) => match ee_fl oc idx with
          | some f => decide (f.2.2.1 = (ee_n (ee_l raw), ee_n (ee_l (ee_r raw)), ee_n (ee_l (ee_r (ee_r raw))))) && ee_arr cc 3 (q2 + 3) k
          | none => false
        | _ => false
      | _ => false
    | 1 => match ee_dec cc q1, ee_dec cc (q1 + 1) with
      | some (.dup, 1), some (.getfield id1, 3) => match y (q1 + 4) 2 with
        | some [q2] => ee_opi (ee_n (ee_r (ee_r (ee_r raw)))) (ee_dec cc q2) && (match ee_dec cc (q2 + 1) with
          | some (.putfield idx, 3) => match ee_fl oc idx, ee_fl oc id1 with
            | some f, some g => decide (f.2.2.1 = (ee_n (ee_l raw), ee_n (ee_l (ee_r raw)), ee_n (ee_l (ee_r (ee_r raw))))) && decide (g.2.2.1 = (ee_n (ee_l raw), ee_n (ee_l (ee_r raw)), ee_n (ee_l (ee_r (ee_r raw))))) && ee_arr cc 3 (q2 + 4) k
            | _, _ => false
          | _ => false)
        | _ => false
      | _, _ => false
    | _ => false
  | _ => false
def ee_sti (ty : Nat) (i : Option (Instr × Nat)) : Bool := match ty, i with
  | 0, some (.iastore, 1) => true
  | 1, some (.bastore, 1) => true
  | 2, some (.lastore, 1) => true
  | _, _ => false
def ee_ldi (ty : Nat) (i : Option (Instr × Nat)) : Bool := match ty, i with
  | 0, some (.iaload, 1) => true
  | 1, some (.baload, 1) => true
  | 2, some (.laload, 1) => true
  | _, _ => false
def ee_k3 (t : Nat) (raw : ee_T) (x y z : ee_Y) : ee_X4 := fun pc k =>
  match x pc 0 with
  | some [q1] => match y q1 1 with
    | some [q2] => match t with
      | 0 => match z q2 2 with
        | some [q3] => ee_sti (ee_n raw) (ee_dec cc q3) && ee_arr cc 3 (q3 + 1) k
        | _ => false
      | 1 => match ee_dec cc q2 with
        | some (.dup2, 1) => ee_ldi (ee_n (ee_l raw)) (ee_dec cc (q2 + 1)) && (match z (q2 + 2) 3 with
          | some [q3] => ee_opi (ee_n (ee_r raw)) (ee_dec cc q3) && ee_sti (ee_n (ee_l raw)) (ee_dec cc (q3 + 1)) && ee_arr cc 3 (q3 + 2) k
          | _ => false)
        | _ => false
      | _ => false
    | _ => false
  | _ => false
/-- the cases of a switch -/
def ee_isC : ee_T → Bool
  | .op (.op (.var t) _) _ => t == 4
  | .op (.op (.op (.var t) _) _) _ => t == 5
  | _ => false
def ee_okS : ee_T → ee_X4
  | .op (.var t) raw => ee_k0 cc t raw
  | .op (.op (.var t) raw) x => match t with
    | 3 => fun pc _ => !ee_isC x && ee_okS x pc pc
    | 4 => fun q k => !ee_isC x && ee_swd cc q (ee_list (ee_r raw)) (ee_n (ee_l raw)) && ee_okS x (ee_n (ee_l raw)) k
    | t => ee_k1 cc t raw (ee_ok cc oc x)
  | .op (.op (.op (.var t) raw) x) y => match t with
    | 2 => fun pc k => !ee_isC x && !ee_isC y && ee_okS x pc (ee_n raw) && ee_okS y (ee_n raw) k
    | 3 => fun pc k => match ee_ok cc oc x pc 0 with
      | some [t, f, _] => !ee_isC y && ee_arr cc 3 t (ee_n raw) && ee_arr cc 3 f k && ee_okS y (ee_n raw) pc
      | _ => false
    | 4 => fun pc k => match ee_ok cc oc x pc 0 with
      | some [q] => ee_isC y && ee_okS y q k
      | _ => false
    | 5 => fun q k => !ee_isC x && ee_isC y && (ee_list (ee_r raw)).all (fun key => match ee_swt cc q (Int32.ofNat key).toInt with
        | some t => ee_arr cc 3 t (ee_n (ee_l raw))
        | none => false) && ee_okS x (ee_n (ee_l raw)) k && ee_okS y q k
    | t => ee_k2 cc oc t raw (ee_ok cc oc x) (ee_ok cc oc y)
  | .op (.op (.op (.op (.var t) raw) x) y) z => match t with
    | 2 => fun pc k => match ee_ok cc oc x pc 0 with
      | some [t, f, _] => !ee_isC y && !ee_isC z && ee_arr cc 3 t (ee_n (ee_l raw)) && ee_arr cc 3 f (ee_n (ee_r raw)) && ee_okS y (ee_n (ee_l raw)) k && ee_okS z (ee_n (ee_r raw)) k
      | _ => false
    | t => ee_k3 cc t raw (ee_ok cc oc x) (ee_ok cc oc y) (ee_ok cc oc z)
  | _ => fun _ _ => false
end OK
