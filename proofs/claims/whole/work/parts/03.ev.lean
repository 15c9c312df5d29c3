/-! the evaluator. Nodes: op (var tag) raw; op (op (var tag) raw) x; .. up to three subtrees -/
def ee_n : ee_T → Nat
  | .var n => n
  | _ => 0
def ee_l : ee_T → ee_T
  | .op a _ => a
  | t => t
def ee_r : ee_T → ee_T
  | .op _ b => b
  | t => t
def ee_list : ee_T → List Nat
  | .op a b => ee_n a :: ee_list b
  | .var _ => []
abbrev ee_S : Type := ee_E → ee_W → Option (List Value × ee_W)
section EV
variable (sh : Nat → Nat × Nat) (rf : Nat → Nat → Option Nat) (C : Nat → List Value → ee_W → Option (List Value × ee_W))
def ee_rv (r : Option Nat) : Value := match r with
  | none => .null
  | some h => .ref h
/-- a field's value: ty 0 int, 1 long, 2 reference, 3 boolean -/
def ee_fld (w : ee_W) (h k ty : Nat) : Value := match ty with
  | 1 => .long (w.2.1 h k)
  | 2 => ee_rv (rf h k)
  | _ => .int (w.1 h k)
def ee_ix (i : Int32) (n : Nat) : Bool := decide (0 ≤ i.toInt) && decide (i.toInt < n)
/-- an element of an array of kind ty: 0 int, 1 boolean, 2 long, 3 .. references -/
def ee_elt (w : ee_W) (h : Nat) (ty : Nat) (i : Int32) : Value := match ty with
  | 0 => .int (w.1 h i.toNatClampNeg)
  | 1 => .int (w.1 h i.toNatClampNeg)
  | 2 => .long (w.2.1 h i.toNatClampNeg)
  | _ => ee_rv (rf h i.toNatClampNeg)
def ee_ev0 (t : Nat) (raw : ee_T) : ee_S := fun env w =>
  match t with
  | 0 => some ([.int (Int32.ofNat (ee_n raw))], w)
  | 1 => some ([.long (Int64.ofNat (ee_n raw))], w)
  | 2 => match env[ee_n (ee_l raw)]? with
    | some (some v) => match ee_n (ee_r raw), v with
      | 0, .int x => some ([.int x], w)
      | 1, .long x => some ([.long x], w)
      | 2, .ref h => some ([.ref h], w)
      | 2, .null => some ([.null], w)
      | _, _ => none
    | _ => none
  | 3 => some ([.null], w)
  | 4 => some ([], w)
  | 5 => some ([.ref (ee_n raw)], w)
  | _ => none
def ee_ev1 (t : Nat) (raw : ee_T) (x : ee_S) : ee_S := fun env w =>
  match x env w with
  | none => none
  | some (vs, w1) =>
    match t with
    | 0 => match vs with
      | [.ref h] => if (sh h).1 = 10 + ee_n (ee_l raw) then some ([ee_fld rf w1 h (ee_n (ee_l (ee_r raw))) (ee_n (ee_l (ee_r (ee_r raw))))], w1) else none
      | _ => none
    | 1 => match vs with
      | [.ref h] => if (sh h).1 < 8 then some ([.int (Int32.ofNat (sh h).2)], w1) else none
      | _ => none
    | 2 => match vs with
      | [v] => match ee_un (ee_n raw) v with
        | some r => some ([r], w1)
        | none => none
      | _ => none
    | 3 => C (ee_n (ee_l raw)) vs w1
    | 4 => match ee_tru vs with
      | some b => some ([.int (ee_b b)], w1)
      | none => none
    | 5 => match ee_tru vs with
      | some b => some ([.int (ee_b (!b))], w1)
      | none => none
    | 6 => match vs with
      | [.int v] => match ee_cmp (ee_n raw) v 0 with
        | some b => some ([.int (ee_b b)], w1)
        | none => none
      | _ => none
    | 7 => match vs with
      | [.null] => some ([.int (ee_b true)], w1)
      | [.ref _] => some ([.int (ee_b false)], w1)
      | _ => none
    | 8 => match vs with
      | [.ref a, .int sp, .ref b, .int dp, .int n] =>
        if (sh a).1 = 0 ∧ (sh b).1 = 0 ∧ 0 ≤ sp.toInt ∧ 0 ≤ dp.toInt ∧ 0 ≤ n.toInt ∧ sp.toInt + n.toInt ≤ (sh a).2 ∧ dp.toInt + n.toInt ≤ (sh b).2 then
          some ([], (fun c k => if c = b ∧ dp.toNatClampNeg ≤ k ∧ k < dp.toNatClampNeg + n.toNatClampNeg then w1.1 a (sp.toNatClampNeg + (k - dp.toNatClampNeg)) else w1.1 c k, w1.2))
        else none
      | _ => none
    | 9 => match vs with
      | [.ref h] => if (sh h).1 = 8 then some ([.int (Int32.ofNat w1.2.2.1)], w1) else none
      | _ => none
    | _ => none
def ee_ev2 (t : Nat) (raw : ee_T) (x y : ee_S) : ee_S := fun env w =>
  match x env w with
  | none => none
  | some (vs, w1) =>
    match t with
    | 4 => match ee_tru vs with
      | some true => y env w1
      | some false => some ([.int (ee_b false)], w1)
      | none => none
    | 5 => match ee_tru vs with
      | some false => y env w1
      | some true => some ([.int (ee_b true)], w1)
      | none => none
    | t => match y env w1 with
      | none => none
      | some (us, w2) =>
        match t with
        | 0 => match vs with
          | [v] => some (v :: us, w2)
          | _ => none
        | 1 => match vs, us with
          | [a], [b] => match ee_bin (ee_n raw) a b with
            | some r => some ([r], w2)
            | none => none
          | _, _ => none
        | 2 => match vs, us with
          | [.ref h], [.int i] => if (sh h).1 = ee_n raw ∧ ee_n raw < 8 ∧ ee_ix i (sh h).2 then some ([ee_elt rf w2 h (ee_n raw) i], w2) else none
          | _, _ => none
        | 3 => match vs, us with
          | [.int a], [.int b] => match ee_cmp (ee_n raw) a b with
            | some r => some ([.int (ee_b r)], w2)
            | none => none
          | _, _ => none
        | 7 => match vs, us with
          | [.ref h], [.int i] => if (sh h).1 = 8 ∧ ee_ix i w2.2.2.1 then some ([.int (w2.2.2.2 i.toNatClampNeg)], w2) else none
          | _, _ => none
        | 6 => match vs, us with
          | [.long a], [.long b] => match ee_cmpL (ee_n raw) a b with
            | some r => some ([.int (ee_b r)], w2)
            | none => none
          | _, _ => none
        | _ => none
def ee_ev3 (t : Nat) (x y z : ee_S) : ee_S := fun env w =>
  match t with
  | 0 => match x env w with
    | none => none
    | some (vs, w1) => match ee_tru vs with
      | some true => y env w1
      | some false => z env w1
      | none => none
  | _ => none
def ee_ev : ee_T → ee_S
  | .op (.var t) raw => ee_ev0 t raw
  | .op (.op (.var t) raw) x => ee_ev1 sh rf C t raw (ee_ev x)
  | .op (.op (.op (.var t) raw) x) y => ee_ev2 sh rf t raw (ee_ev x) (ee_ev y)
  | .op (.op (.op (.op (.var t) _) x) y) z => ee_ev3 t (ee_ev x) (ee_ev y) (ee_ev z)
  | _ => fun _ _ => none
/-! statements: they end normally (inl) or return (inr) -/
abbrev ee_O : Type := (ee_E × ee_W) ⊕ (List Value × ee_W)
abbrev ee_Z : Type := Int32 → ee_E → ee_W → Option ee_O
def ee_noL (env : ee_E) : Nat → Bool
  | 0 => true
  | i + 1 => match env[i]? with
    | some (some (.long _)) => false
    | some (some (.double _)) => false
    | _ => true
/-- a local variable is written: ty 0 int, 1 long, 2 reference -/
def ee_set (env : ee_E) (i ty : Nat) (v : Value) : Option ee_E :=
  if ee_noL env i = true ∧ i < env.length then
    match ty, v with
    | 0, .int x => some (env.set i (some (.int x)))
    | 1, .long x => if i + 1 < env.length then some ((env.set i (some (.long x))).set (i + 1) none) else none
    | 2, .ref h => some (env.set i (some (.ref h)))
    | 2, .null => some (env.set i (some .null))
    | _, _ => none
  else none
/-- a field is written -/
def ee_put (w : ee_W) (h k ty : Nat) (v : Value) : Option ee_W :=
  match ty, v with
  | 0, .int x => some (ee_wI w h k x)
  | 1, .long x => some (ee_wJ w h k x)
  | 3, .int x => if x = 0 ∨ x = 1 then some (ee_wI w h k x) else none
  | _, _ => none
/-- an element is written -/
def ee_sto (w : ee_W) (h ty : Nat) (i : Int32) (v : Value) : Option ee_W :=
  if (sh h).1 = ty ∧ ee_ix i (sh h).2 then
    match ty, v with
    | 0, .int x => some (ee_wI w h i.toNatClampNeg x)
    | 1, .int x => if x = 0 ∨ x = 1 then some (ee_wI w h i.toNatClampNeg x) else none
    | 2, .long x => some (ee_wJ w h i.toNatClampNeg x)
    | _, _ => none
  else none
def ee_s0 (t : Nat) (raw : ee_T) : ee_Z := fun _ env w =>
  match t with
  | 0 => some (.inl (env, w))
  | 1 => some (.inr ([], w))
  | 2 => match env[ee_n (ee_l raw)]? with
    | some (some (.int x)) => if ee_noL env (ee_n (ee_l raw)) = true then some (.inl (env.set (ee_n (ee_l raw)) (some (.int (x + Int32.ofNat (ee_n (ee_r raw))))), w)) else none
    | _ => none
  | _ => none
def ee_s1 (t : Nat) (raw : ee_T) (x : ee_S) : ee_Z := fun _ env w =>
  match x env w with
  | none => none
  | some (vs, w1) =>
    match t with
    | 0 => match vs with
      | [v] => match ee_set env (ee_n (ee_l raw)) (ee_n (ee_r raw)) v with
        | some env' => some (.inl (env', w1))
        | none => none
      | _ => none
    | 1 => match ee_n raw, vs with
      | 0, [] => some (.inl (env, w1))
      | 1, [v] => if v.category = 1 then some (.inl (env, w1)) else none
      | _, _ => none
    | 2 => match ee_n raw, vs with
      | 0, [.int v] => some (.inr ([.int v], w1))
      | 1, [.long v] => some (.inr ([.long v], w1))
      | 2, [.ref v] => some (.inr ([.ref v], w1))
      | 2, [.null] => some (.inr ([.null], w1))
      | _, _ => none
    | _ => none
def ee_s2 (t : Nat) (raw : ee_T) (x y : ee_S) : ee_Z := fun _ env w =>
  match x env w with
  | some ([.ref h], w1) =>
    if (sh h).1 = 10 + ee_n (ee_l raw) then
      match y env w1 with
      | some ([v], w2) => match t with
        | 0 => match ee_put w2 h (ee_n (ee_l (ee_r raw))) (ee_n (ee_l (ee_r (ee_r raw)))) v with
          | some w3 => some (.inl (env, w3))
          | none => none
        | 1 => match ee_bin (ee_n (ee_r (ee_r (ee_r raw)))) (ee_fld rf w1 h (ee_n (ee_l (ee_r raw))) (ee_n (ee_l (ee_r (ee_r raw))))) v with
          | some u => match ee_put w2 h (ee_n (ee_l (ee_r raw))) (ee_n (ee_l (ee_r (ee_r raw)))) u with
            | some w3 => some (.inl (env, w3))
            | none => none
          | none => none
        | _ => none
      | _ => none
    else none
  | _ => none
def ee_s3 (t : Nat) (raw : ee_T) (x y z : ee_S) : ee_Z := fun _ env w =>
  match x env w with
  | some ([.ref h], w1) =>
    match y env w1 with
    | some ([.int i], w2) =>
      match t with
      | 0 => match z env w2 with
        | some ([v], w3) => match ee_sto sh w3 h (ee_n raw) i v with
          | some w4 => some (.inl (env, w4))
          | none => none
        | _ => none
      | 1 => if (sh h).1 = ee_n (ee_l raw) ∧ ee_n (ee_l raw) < 3 ∧ ee_ix i (sh h).2 then
          match z env w2 with
          | some ([v], w3) => match ee_bin (ee_n (ee_r raw)) (ee_elt rf w2 h (ee_n (ee_l raw)) i) v with
            | some u => match ee_sto sh w3 h (ee_n (ee_l raw)) i u with
              | some w4 => some (.inl (env, w4))
              | none => none
            | none => none
          | _ => none
        else none
      | _ => none
    | _ => none
  | _ => none
/-- one turn of a loop -/
def ee_turn (x : ee_S) (b : ee_Z) : ee_E × ee_W → Option ((ee_E × ee_W) ⊕ ee_O) := fun s =>
  match x s.1 s.2 with
  | none => none
  | some (vs, w1) => match ee_tru vs with
    | some true => match b 0 s.1 w1 with
      | some (.inl s') => some (.inl s')
      | some (.inr r) => some (.inr (.inr r))
      | none => none
    | some false => some (.inr (.inl (s.1, w1)))
    | none => none
noncomputable def ee_evS : ee_T → ee_Z
  | .op (.var t) raw => ee_s0 t raw
  | .op (.op (.var t) raw) x => match t with
    | 3 => fun _ env w => ee_wh (ee_turn (fun _ w => some ([.int 1], w)) (ee_evS x)) (env, w)
    | 4 => fun v env w => if v ∈ (ee_list (ee_r raw)).map Int32.ofNat then none else ee_evS x 0 env w
    | t => ee_s1 t raw (ee_ev sh rf C x)
  | .op (.op (.op (.var t) raw) x) y => match t with
    | 2 => fun _ env w => match ee_evS x 0 env w with
      | some (.inl s) => ee_evS y 0 s.1 s.2
      | some (.inr r) => some (.inr r)
      | none => none
    | 3 => fun _ env w => ee_wh (ee_turn (ee_ev sh rf C x) (ee_evS y)) (env, w)
    | 4 => fun _ env w => match ee_ev sh rf C x env w with
      | some ([.int v], w1) => ee_evS y v env w1
      | _ => none
    | 5 => fun v env w => if v ∈ (ee_list (ee_r raw)).map Int32.ofNat then ee_evS x 0 env w else ee_evS y v env w
    | t => ee_s2 sh rf t raw (ee_ev sh rf C x) (ee_ev sh rf C y)
  | .op (.op (.op (.op (.var t) raw) x) y) z => match t with
    | 2 => fun _ env w => match ee_ev sh rf C x env w with
      | none => none
      | some (vs, w1) => match ee_tru vs with
        | some true => ee_evS y 0 env w1
        | some false => ee_evS z 0 env w1
        | none => none
    | t => ee_s3 sh rf t raw (ee_ev sh rf C x) (ee_ev sh rf C y) (ee_ev sh rf C z)
  | _ => fun _ _ _ => none
end EV
