/-! B: trees evaluated by rewriting -/
section EVL
variable {sh : Nat → Nat × Nat} {rf : Nat → Nat → Option Nat} {C : Nat → List Value → ee_W → Option (List Value × ee_W)} {env : ee_E} {w : ee_W}
theorem v_int (n : Nat) : ee_ev sh rf C (n_int n) env w = some ([.int (Int32.ofNat n)], w) := rfl
theorem v_long (n : Nat) : ee_ev sh rf C (n_long n) env w = some ([.long (Int64.ofNat n)], w) := rfl
theorem v_null : ee_ev sh rf C n_null env w = some ([.null], w) := rfl
theorem v_nil : ee_ev sh rf C n_nil env w = some ([], w) := rfl
theorem v_str : ee_ev sh rf C n_str env w = some ([.ref es_NC], w) := rfl
theorem v_loc (i ty : Nat) : ee_ev sh rf C (n_loc i ty) env w = (match env[i]? with
    | some (some v) => match ty, v with
      | 0, .int x => some ([.int x], w)
      | 1, .long x => some ([.long x], w)
      | 2, .ref h => some ([.ref h], w)
      | 2, .null => some ([.null], w)
      | _, _ => none
    | _ => none) := rfl
theorem v_get (c k ty : Nat) (e : ee_T) : ee_ev sh rf C (n_get c k ty e) env w = (match ee_ev sh rf C e env w with
  | none => none
  | some (vs, w1) => match vs with
      | [.ref h] => if (sh h).1 = 10 + c then some ([ee_fld rf w1 h k ty], w1) else none
      | _ => none) := rfl
theorem v_len (e : ee_T) : ee_ev sh rf C (n_len e) env w = (match ee_ev sh rf C e env w with
  | none => none
  | some (vs, w1) => match vs with
      | [.ref h] => if (sh h).1 < 8 then some ([.int (Int32.ofNat (sh h).2)], w1) else none
      | _ => none) := rfl
theorem v_un (o : Nat) (e : ee_T) : ee_ev sh rf C (n_un o e) env w = (match ee_ev sh rf C e env w with
  | none => none
  | some (vs, w1) => match vs with
      | [v] => match ee_un o v with
        | some r => some ([r], w1)
        | none => none
      | _ => none) := rfl
theorem v_call (m : Nat) (e : ee_T) : ee_ev sh rf C (n_call m e) env w = (match ee_ev sh rf C e env w with
  | none => none
  | some (vs, w1) => C m vs w1) := rfl
theorem v_mat (e : ee_T) : ee_ev sh rf C (n_mat e) env w = (match ee_ev sh rf C e env w with
  | none => none
  | some (vs, w1) => match ee_tru vs with
      | some b => some ([.int (ee_b b)], w1)
      | none => none) := rfl
theorem v_not (e : ee_T) : ee_ev sh rf C (n_not e) env w = (match ee_ev sh rf C e env w with
  | none => none
  | some (vs, w1) => match ee_tru vs with
      | some b => some ([.int (ee_b (!b))], w1)
      | none => none) := rfl
theorem v_z (o : Nat) (e : ee_T) : ee_ev sh rf C (n_z o e) env w = (match ee_ev sh rf C e env w with
  | none => none
  | some (vs, w1) => match vs with
      | [.int v] => match ee_cmp o v 0 with
        | some b => some ([.int (ee_b b)], w1)
        | none => none
      | _ => none) := rfl
theorem v_isnull (e : ee_T) : ee_ev sh rf C (n_isnull e) env w = (match ee_ev sh rf C e env w with
  | none => none
  | some (vs, w1) => match vs with
      | [.null] => some ([.int (ee_b true)], w1)
      | [.ref _] => some ([.int (ee_b false)], w1)
      | _ => none) := rfl
theorem v_copy (e : ee_T) : ee_ev sh rf C (n_copy e) env w = (match ee_ev sh rf C e env w with
  | none => none
  | some (vs, w1) => match vs with
      | [.ref a, .int sp, .ref b, .int dp, .int n] =>
        if (sh a).1 = 0 ∧ (sh b).1 = 0 ∧ 0 ≤ sp.toInt ∧ 0 ≤ dp.toInt ∧ 0 ≤ n.toInt ∧ sp.toInt + n.toInt ≤ (sh a).2 ∧ dp.toInt + n.toInt ≤ (sh b).2 then
          some ([], (fun c k => if c = b ∧ dp.toNatClampNeg ≤ k ∧ k < dp.toNatClampNeg + n.toNatClampNeg then w1.1 a (sp.toNatClampNeg + (k - dp.toNatClampNeg)) else w1.1 c k, w1.2))
        else none
      | _ => none) := rfl
theorem v_slen (e : ee_T) : ee_ev sh rf C (n_slen e) env w = (match ee_ev sh rf C e env w with
  | none => none
  | some (vs, w1) => match vs with
      | [.ref h] => if (sh h).1 = 8 then some ([.int (Int32.ofNat w1.2.2.1)], w1) else none
      | _ => none) := rfl
theorem v_cons (a b : ee_T) : ee_ev sh rf C (n_cons a b) env w = (match ee_ev sh rf C a env w with
  | none => none
  | some (vs, w1) => match ee_ev sh rf C b env w1 with
    | none => none
    | some (us, w2) => match vs with
      | [v] => some (v :: us, w2)
      | _ => none) := rfl
theorem v_bin (o : Nat) (a b : ee_T) : ee_ev sh rf C (n_bin o a b) env w = (match ee_ev sh rf C a env w with
  | none => none
  | some (vs, w1) => match ee_ev sh rf C b env w1 with
    | none => none
    | some (us, w2) => match vs, us with
      | [x], [y] => match ee_bin o x y with
        | some r => some ([r], w2)
        | none => none
      | _, _ => none) := rfl
theorem v_idx (ty : Nat) (a b : ee_T) : ee_ev sh rf C (n_idx ty a b) env w = (match ee_ev sh rf C a env w with
  | none => none
  | some (vs, w1) => match ee_ev sh rf C b env w1 with
    | none => none
    | some (us, w2) => match vs, us with
      | [.ref h], [.int i] => if (sh h).1 = ty ∧ ty < 8 ∧ ee_ix i (sh h).2 then some ([ee_elt rf w2 h ty i], w2) else none
      | _, _ => none) := rfl
theorem v_cmp (o : Nat) (a b : ee_T) : ee_ev sh rf C (n_cmp o a b) env w = (match ee_ev sh rf C a env w with
  | none => none
  | some (vs, w1) => match ee_ev sh rf C b env w1 with
    | none => none
    | some (us, w2) => match vs, us with
      | [.int x], [.int y] => match ee_cmp o x y with
        | some r => some ([.int (ee_b r)], w2)
        | none => none
      | _, _ => none) := rfl
theorem v_cmpL (o : Nat) (a b : ee_T) : ee_ev sh rf C (n_cmpL o a b) env w = (match ee_ev sh rf C a env w with
  | none => none
  | some (vs, w1) => match ee_ev sh rf C b env w1 with
    | none => none
    | some (us, w2) => match vs, us with
      | [.long x], [.long y] => match ee_cmpL o x y with
        | some r => some ([.int (ee_b r)], w2)
        | none => none
      | _, _ => none) := rfl
theorem v_sld (a b : ee_T) : ee_ev sh rf C (n_sld a b) env w = (match ee_ev sh rf C a env w with
  | none => none
  | some (vs, w1) => match ee_ev sh rf C b env w1 with
    | none => none
    | some (us, w2) => match vs, us with
      | [.ref h], [.int i] => if (sh h).1 = 8 ∧ ee_ix i w2.2.2.1 then some ([.int (w2.2.2.2 i.toNatClampNeg)], w2) else none
      | _, _ => none) := rfl
theorem v_and (a b : ee_T) : ee_ev sh rf C (n_and a b) env w = (match ee_ev sh rf C a env w with
  | none => none
  | some (vs, w1) => match ee_tru vs with
      | some q => if q = true then ee_ev sh rf C b env w1 else some ([.int (ee_b false)], w1)
      | none => none) := by
  show ee_ev2 sh rf 4 (.var 0) (ee_ev sh rf C a) (ee_ev sh rf C b) env w = _
  unfold ee_ev2
  cases ee_ev sh rf C a env w with
  | none => rfl
  | some r =>
    obtain ⟨vs, w1⟩ := r
    dsimp only
    cases ee_tru vs with
    | none => rfl
    | some q => cases q <;> rfl
theorem v_or (a b : ee_T) : ee_ev sh rf C (n_or a b) env w = (match ee_ev sh rf C a env w with
  | none => none
  | some (vs, w1) => match ee_tru vs with
      | some q => if q = true then some ([.int (ee_b true)], w1) else ee_ev sh rf C b env w1
      | none => none) := by
  show ee_ev2 sh rf 5 (.var 0) (ee_ev sh rf C a) (ee_ev sh rf C b) env w = _
  unfold ee_ev2
  cases ee_ev sh rf C a env w with
  | none => rfl
  | some r =>
    obtain ⟨vs, w1⟩ := r
    dsimp only
    cases ee_tru vs with
    | none => rfl
    | some q => cases q <;> rfl
theorem v_tern (c a b : ee_T) : ee_ev sh rf C (n_tern c a b) env w = (match ee_ev sh rf C c env w with
  | none => none
  | some (vs, w1) => match ee_tru vs with
      | some q => if q = true then ee_ev sh rf C a env w1 else ee_ev sh rf C b env w1
      | none => none) := by
  show ee_ev3 0 (ee_ev sh rf C c) (ee_ev sh rf C a) (ee_ev sh rf C b) env w = _
  unfold ee_ev3
  cases ee_ev sh rf C c env w with
  | none => rfl
  | some r =>
    obtain ⟨vs, w1⟩ := r
    dsimp only
    cases ee_tru vs with
    | none => rfl
    | some q => cases q <;> rfl
variable {v : Int32}
theorem w_skip : ee_evS sh rf C s_skip v env w = some (.inl (env, w)) := rfl
theorem w_retv : ee_evS sh rf C s_retv v env w = some (.inr ([], w)) := rfl
theorem w_inc (i n : Nat) : ee_evS sh rf C (s_inc i n) v env w = (match env[i]? with
    | some (some (.int x)) => if ee_noL env i = true then some (.inl (env.set i (some (.int (x + Int32.ofNat n))), w)) else none
    | _ => none) := rfl
theorem w_set (i ty : Nat) (e : ee_T) : ee_evS sh rf C (s_set i ty e) v env w = (match ee_ev sh rf C e env w with
  | none => none
  | some (vs, w1) => match vs with
      | [u] => match ee_set env i ty u with
        | some env' => some (.inl (env', w1))
        | none => none
      | _ => none) := rfl
theorem w_exp0 (e : ee_T) : ee_evS sh rf C (s_exp 0 e) v env w = (match ee_ev sh rf C e env w with
  | none => none
  | some (vs, w1) => match vs with
      | [] => some (.inl (env, w1))
      | _ => none) := by
  show ee_s1 1 (.var 0) (ee_ev sh rf C e) v env w = _
  unfold ee_s1
  cases ee_ev sh rf C e env w with
  | none => rfl
  | some r =>
    obtain ⟨vs, w1⟩ := r
    cases vs <;> rfl
theorem w_exp1 (e : ee_T) : ee_evS sh rf C (s_exp 1 e) v env w = (match ee_ev sh rf C e env w with
  | none => none
  | some (vs, w1) => match vs with
      | [u] => if u.category = 1 then some (.inl (env, w1)) else none
      | _ => none) := by
  show ee_s1 1 (.var 1) (ee_ev sh rf C e) v env w = _
  unfold ee_s1
  cases ee_ev sh rf C e env w with
  | none => rfl
  | some r =>
    obtain ⟨vs, w1⟩ := r
    match vs with
    | [] => rfl
    | [_] => rfl
    | _ :: _ :: _ => rfl
theorem w_ret (ty : Nat) (e : ee_T) : ee_evS sh rf C (s_ret ty e) v env w = (match ee_ev sh rf C e env w with
  | none => none
  | some (vs, w1) => match ty, vs with
      | 0, [.int u] => some (.inr ([.int u], w1))
      | 1, [.long u] => some (.inr ([.long u], w1))
      | 2, [.ref u] => some (.inr ([.ref u], w1))
      | 2, [.null] => some (.inr ([.null], w1))
      | _, _ => none) := rfl
theorem w_seq (m : Nat) (a b : ee_T) : ee_evS sh rf C (s_seq m a b) v env w = (match ee_evS sh rf C a 0 env w with
      | some (.inl s) => ee_evS sh rf C b 0 s.1 s.2
      | some (.inr r) => some (.inr r)
      | none => none) := rfl
theorem w_if (p1 p2 : Nat) (c a b : ee_T) : ee_evS sh rf C (s_if p1 p2 c a b) v env w = (match ee_ev sh rf C c env w with
      | none => none
      | some (vs, w1) => match ee_tru vs with
        | some q => if q = true then ee_evS sh rf C a 0 env w1 else ee_evS sh rf C b 0 env w1
        | none => none) := by
  show (match ee_ev sh rf C c env w with
      | none => none
      | some (vs, w1) => match ee_tru vs with
        | some true => ee_evS sh rf C a 0 env w1
        | some false => ee_evS sh rf C b 0 env w1
        | none => none) = _
  cases ee_ev sh rf C c env w with
  | none => rfl
  | some r =>
    obtain ⟨vs, w1⟩ := r
    dsimp only
    cases ee_tru vs with
    | none => rfl
    | some q => cases q <;> rfl
theorem w_while (pb : Nat) (c b : ee_T) : ee_evS sh rf C (s_while pb c b) v env w = ee_wh (ee_turn (ee_ev sh rf C c) (ee_evS sh rf C b)) (env, w) := rfl
theorem w_forever (b : ee_T) : ee_evS sh rf C (s_forever b) v env w = ee_wh (ee_turn (fun _ w => some ([.int 1], w)) (ee_evS sh rf C b)) (env, w) := rfl
theorem w_put (c k ty : Nat) (o e : ee_T) : ee_evS sh rf C (s_put c k ty o e) v env w = (match ee_ev sh rf C o env w with
  | some ([.ref h], w1) =>
    if (sh h).1 = 10 + c then
      match ee_ev sh rf C e env w1 with
      | some ([u], w2) => match ee_put w2 h k ty u with
          | some w3 => some (.inl (env, w3))
          | none => none
      | _ => none
    else none
  | _ => none) := rfl
theorem w_opf (c k ty op : Nat) (o e : ee_T) : ee_evS sh rf C (s_opf c k ty op o e) v env w = (match ee_ev sh rf C o env w with
  | some ([.ref h], w1) =>
    if (sh h).1 = 10 + c then
      match ee_ev sh rf C e env w1 with
      | some ([u], w2) => match ee_bin op (ee_fld rf w1 h k ty) u with
          | some r => match ee_put w2 h k ty r with
            | some w3 => some (.inl (env, w3))
            | none => none
          | none => none
      | _ => none
    else none
  | _ => none) := rfl
theorem w_sto (ty : Nat) (a i e : ee_T) : ee_evS sh rf C (s_sto ty a i e) v env w = (match ee_ev sh rf C a env w with
  | some ([.ref h], w1) =>
    match ee_ev sh rf C i env w1 with
    | some ([.int j], w2) => match ee_ev sh rf C e env w2 with
        | some ([u], w3) => match ee_sto sh w3 h ty j u with
          | some w4 => some (.inl (env, w4))
          | none => none
        | _ => none
    | _ => none
  | _ => none) := rfl
theorem w_opa (ty op : Nat) (a i e : ee_T) : ee_evS sh rf C (s_opa ty op a i e) v env w = (match ee_ev sh rf C a env w with
  | some ([.ref h], w1) =>
    match ee_ev sh rf C i env w1 with
    | some ([.int j], w2) => if (sh h).1 = ty ∧ ty < 3 ∧ ee_ix j (sh h).2 then
          match ee_ev sh rf C e env w2 with
          | some ([u], w3) => match ee_bin op (ee_elt rf w2 h ty j) u with
            | some r => match ee_sto sh w3 h ty j r with
              | some w4 => some (.inl (env, w4))
              | none => none
            | none => none
          | _ => none
        else none
    | _ => none
  | _ => none) := rfl
theorem w_switch (e cs : ee_T) : ee_evS sh rf C (s_switch e cs) v env w = (match ee_ev sh rf C e env w with
      | some ([.int u], w1) => ee_evS sh rf C cs u env w1
      | _ => none) := rfl
theorem w_case (p : Nat) (keys b rest : ee_T) : ee_evS sh rf C (s_case p keys b rest) v env w = (if v ∈ (ee_list keys).map Int32.ofNat then ee_evS sh rf C b 0 env w else ee_evS sh rf C rest v env w) := rfl
theorem w_dflt (pd : Nat) (keys b : ee_T) : ee_evS sh rf C (s_dflt pd keys b) v env w = (if v ∈ (ee_list keys).map Int32.ofNat then none else ee_evS sh rf C b 0 env w) := rfl
end EVL
theorem ee_tru_eb (b : Bool) : ee_tru [.int (ee_b b)] = some b := by cases b <;> rfl
theorem ee_tru_i (x : Int32) : ee_tru [.int x] = some (x != 0) := rfl
theorem ee_b_0 (b : Bool) : (ee_b b = 0) = (b = false) := by cases b <;> simp [ee_b]
theorem ee_b_n0 (b : Bool) : (ee_b b != 0) = b := by cases b <;> rfl
theorem ee_fld0 (rf : Nat → Nat → Option Nat) (w : ee_W) (h k : Nat) : ee_fld rf w h k 0 = .int (w.1 h k) := rfl
theorem ee_fld1 (rf : Nat → Nat → Option Nat) (w : ee_W) (h k : Nat) : ee_fld rf w h k 1 = .long (w.2.1 h k) := rfl
theorem ee_fld2 (rf : Nat → Nat → Option Nat) (w : ee_W) (h k : Nat) : ee_fld rf w h k 2 = ee_rv (rf h k) := rfl
theorem ee_fld3 (rf : Nat → Nat → Option Nat) (w : ee_W) (h k : Nat) : ee_fld rf w h k 3 = .int (w.1 h k) := rfl
theorem ee_cmp0 (x y : Int32) : ee_cmp 0 x y = some (decide (x = y)) := rfl
theorem ee_cmp1 (x y : Int32) : ee_cmp 1 x y = some (decide (¬ x = y)) := rfl
theorem ee_cmp2 (x y : Int32) : ee_cmp 2 x y = some (decide (x < y)) := rfl
theorem ee_cmp3 (x y : Int32) : ee_cmp 3 x y = some (decide (y ≤ x)) := rfl
theorem ee_cmp4 (x y : Int32) : ee_cmp 4 x y = some (decide (y < x)) := rfl
theorem ee_cmp5 (x y : Int32) : ee_cmp 5 x y = some (decide (x ≤ y)) := rfl
theorem ee_bin_i (o : Nat) (x y : Int32) : ee_bin o (.int x) (.int y) = (ee_binI o x y).map .int := rfl
/-- a method's end -/
def ee_fin (ret : Option FieldType) (o : Option ee_O) : Option (List Value × ee_W) := match o with
  | some (.inr (r, w')) => if ee_retok ret r then some (r, w') else none
  | _ => none
theorem rn_gen {P : Nat → Nat → List Value → ee_W → Option (List Value × ee_W)} {d m n : Nat} {body : ee_T} {vs : List Value} {ret : Option FieldType} {w : ee_W} (hb : ee_B m = some body) (hn : (es_m m).2.1 = n) (hr : (es_m m).2.2.1 = ret) (ha : ee_argok m vs = true) (hl : (ee_sl vs).length ≤ n) : ee_run ee_B P (d + 1) m vs w = ee_fin ret (ee_evS es_sh es_rf (ee_run ee_B P d) body 0 (ee_env vs n) w) := by
  show (match ee_B m with
    | some body => _
    | none => _) = _
  rw [hb]
  simp only [hn, hr]
  rw [if_pos ⟨ha, hl⟩]
  rfl
