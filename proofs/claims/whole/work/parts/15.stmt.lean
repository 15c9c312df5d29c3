/-! soundness of statements -/
def ee_rti (r : List Value) (i : Option (Instr × Nat)) : Bool := match r, i with
  | [], some (.return_, 1) => true
  | [.int _], some (.ireturn, 1) => true
  | [.long _], some (.lreturn, 1) => true
  | [.ref _], some (.areturn, 1) => true
  | [.null], some (.areturn, 1) => true
  | _, _ => false
def ee_Rt (cc : ByteArray) (G : ee_G) (r : List Value) (w : ee_W) : Prop := ∀ (H : Heap) (locs : List Loc) (ls : Array Slot) (q : Nat), va_P G.2.2.2.1 es_cl (ee_ws G.2.2.2.2.1 G.2.2.2.2.2.1 w) H → va_S G.2.2.2.2.2.2.1 G.2.2.1 H locs → w.2.2 = G.2.2.2.2.2.2.2.2 → ee_rti r (ee_dec cc q) = true → G.1 H locs (F0 G.2.1 q ls (r.map (ee_tr G.2.2.2.2.1)))
def ee_out (cc : ByteArray) (G : ee_G) (k : Nat) : ee_O → Prop
  | .inl s => ee_Wn G k s.1 [] s.2
  | .inr r => ee_Rt cc G r.1 r.2
def ee_Q (cc : ByteArray) (G : ee_G) (z : ee_Z) (y : ee_X4) : Prop := ∀ (pc k : Nat) (env : ee_E) (w : ee_W) (o : ee_O), z 0 env w = some o → y pc k = true → ee_out cc G k o → ee_Wn G pc env [] w
def ee_QC (cc : ByteArray) (G : ee_G) (z : ee_Z) (y : ee_X4) : Prop := ∀ (q k : Nat) (x : Int32) (env : ee_E) (w : ee_W) (o : ee_O), z x env w = some o → y q k = true → ee_out cc G k o → ∃ t, ee_swt cc q x.toInt = some t ∧ ee_Wn G t env [] w
section ES
variable {C : Nat → List Value → ee_W → Option (List Value × ee_W)} {cc : ByteArray} {oc : Nat} {G : ee_G}
theorem en_ret (r : List Value) {pc : Nat} {env : ee_E} {w : ee_W} (hd : ee_rti r (ee_dec cc pc) = true) (h : ee_Rt cc G r w) (hone : r.length ≤ 1) : ee_Wn G pc env r w := by
  intro H locs ls hP hS hl hw
  exact h H locs ls pc hP hS hw hd
theorem ee_Q0 (X : ee_X C cc oc G) (t : Nat) (raw : ee_T) : ee_Q cc G (ee_s0 t raw) (ee_k0 cc t raw) := by
  intro pc k env w o h hk ho
  unfold ee_s0 at h
  split at h
  · cases h
    exact en_arr X 3 hk ho
  · cases h
    simp only [ee_k0] at hk
    split at hk
    · rename_i hd
      exact en_ret [] (by rw [hd]; rfl) ho (by simp)
    · cases hk
  · simp only [ee_k0] at hk
    split at hk
    · rename_i i n hd
      simp only [Bool.and_eq_true, decide_eq_true_eq] at hk
      split at h
      · rename_i x hx
        split at h
        · rename_i hno
          cases h
          obtain ⟨⟨h1, h2⟩, h3⟩ := hk
          subst h1
          exact en_iinc X hd hx (by rw [h2]) hno (en_arr X 3 h3 ho)
        · cases h
      · cases h
    · cases hk
  · cases h
end ES
