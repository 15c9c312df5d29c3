section EP4
variable {C : Nat → List Value → ee_W → Option (List Value × ee_W)} {cc : ByteArray} {oc : Nat} {G : ee_G}
theorem ee_mrg_ok (X : ee_X C cc oc G) {a b r : Nat} (h : ee_mrg cc a b = some r) {env : ee_E} {st : List Value} {w : ee_W} (k : ee_Wn G r env st w) : ee_Wn G a env st w ∧ ee_Wn G b env st w := by
  unfold ee_mrg at h
  split at h
  · rename_i h1
    cases h
    exact ⟨en_arr X 3 h1 k, k⟩
  · split at h
    · rename_i h1
      cases h
      exact ⟨k, en_arr X 3 h1 k⟩
    · cases h
def ee_opk (o : Nat) (i : Option (Instr × Nat)) (q2 : Nat) : Option (List Nat) := match o, i with
          | 0, some (.iadd, 1) => some [q2 + 1]
          | 1, some (.isub, 1) => some [q2 + 1]
          | 2, some (.imul, 1) => some [q2 + 1]
          | 3, some (.idiv, 1) => some [q2 + 1]
          | 4, some (.irem, 1) => some [q2 + 1]
          | 5, some (.iand, 1) => some [q2 + 1]
          | 6, some (.ior, 1) => some [q2 + 1]
          | 7, some (.ixor, 1) => some [q2 + 1]
          | 8, some (.ishl, 1) => some [q2 + 1]
          | 9, some (.ishr, 1) => some [q2 + 1]
          | 10, some (.iushr, 1) => some [q2 + 1]
          | 20, some (.ladd, 1) => some [q2 + 1]
          | 21, some (.lsub, 1) => some [q2 + 1]
          | 22, some (.lmul, 1) => some [q2 + 1]
          | 23, some (.ldiv, 1) => some [q2 + 1]
          | 24, some (.lrem, 1) => some [q2 + 1]
          | 25, some (.land, 1) => some [q2 + 1]
          | 26, some (.lor, 1) => some [q2 + 1]
          | 48, some (.lshl, 1) => some [q2 + 1]
          | 49, some (.lshr, 1) => some [q2 + 1]
          | _, _ => none
theorem ee_bin_ok (X : ee_X C cc oc G) {o q : Nat} {a b r : Value} {env : ee_E} {st : List Value} {w : ee_W} {z : List Nat} (hb : ee_bin o a b = some r) (hq : ee_opk o (ee_dec cc q) q = some z) : z = [q + 1] ∧ (ee_Wn G (q + 1) env (r :: st) w → ee_Wn G q env (b :: a :: st) w) := by
  unfold ee_opk at hq
  split at hq
  all_goals first
    | (cases hq; done)
    | (rename_i hd; cases hq; refine ⟨rfl, fun k => ?_⟩; unfold ee_bin at hb)
  all_goals (split at hb)
  all_goals first
    | (cases hb; done)
    | (simp only [ee_binI, ee_binL, ee_binS, Option.map_some, Option.map_none, Nat.reduceLeDiff, Nat.reduceSub, if_true, if_false, reduceCtorEq, Nat.not_lt_zero] at hb)
  all_goals first
    | (cases hb; first
        | exact en_iadd X hd k
        | exact en_isub X hd k
        | exact en_imul X hd k
        | exact en_iand X hd k
        | exact en_ior X hd k
        | exact en_ixor X hd k
        | exact en_ishl X hd k
        | exact en_ishr X hd k
        | exact en_iushr X hd k
        | exact en_ladd X hd k
        | exact en_lsub X hd k
        | exact en_lmul X hd k
        | exact en_land X hd k
        | exact en_lor X hd k
        | exact en_lshl X hd k
        | exact en_lshr X hd k)
    | (split at hb
       · cases hb
       · rename_i h0
         cases hb
         first
         | exact en_idiv X hd h0 k
         | exact en_irem X hd h0 k
         | exact en_ldiv X hd h0 k
         | exact en_lrem X hd h0 k)
end EP4
