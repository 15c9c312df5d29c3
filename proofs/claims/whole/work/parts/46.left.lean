section LF
variable {P : Nat → Nat → List Value → ee_W → Option (List Value × ee_W)} {d : Nat} {w : ee_W} {h : Nat}
theorem lp_le (o g : Int32) : ∀ n (s : Nat × Int32), (lp (r_c o g) (l_n o g) n s).1 ≤ s.1 + n := by
  intro n
  induction n with
  | zero => intro s; exact Nat.le_refl _
  | succ n ih =>
    intro s
    simp only [lp]
    split
    · have := ih (l_n o g s)
      have e : (l_n o g s).1 = s.1 + 1 := rfl
      omega
    · omega
theorem rt_le (o g : Int32) : (r_t o g).1 ≤ 120 := by
  have := lp_le o g 120 (0, 0)
  unfold r_t
  simpa using this
def x_left (o g : Int32) : Int32 := if o - l_by o g (r_t o g).1 < 0 then -(o - l_by o g (r_t o g).1) else o - l_by o g (r_t o g).1
theorem r_leftAtLast (hd : 2 ≤ d) (o g : Int32) (hk : okR o g) : ee_run ee_B P d 149 [.int o, .int g] w = some ([.int (x_left o g)], w) := by
  obtain ⟨d, rfl⟩ : ∃ k, d = k + 1 := ⟨d - 1, by omega⟩
  have hd1 : 1 ≤ d := by omega
  rw [rn_149]
  have e1 := r_restOf (P := P) (w := w) hd1 o g hk
  have e2 := r_learntBehind (P := P) (w := w) hd1 o g (r_t o g).1 (by have := rt_le o g; omega)
  rw [show Int32.ofNat (r_t o g).1 = x_rest o g from rfl] at e2
  simp only [e1, e2, r_abs hd1, x_left, bd_149, v_bin, v_call, v_cons, v_loc, v_nil, w_ret, List.getElem?_cons_zero, List.getElem?_cons_succ, List.set_cons_zero, List.set_cons_succ, ee_cmp0, ee_cmp1, ee_cmp2, ee_cmp3, ee_cmp4, ee_cmp5, ee_cmpL0, ee_cmpL1, ee_cmpL2, ee_cmpL3, ee_cmpL4, ee_cmpL5, ee_tru_eb, decide_eq_true_eq, ib_i, ie_b, ie_f, ie_t, ib_l, fin_i, fin_l, fin_v, fin_z, fin_a, fin_n, ee_b_0, ee_fld0, ee_fld1, ee_fld2, ee_fld3, bi_0, bi_1, bi_2, bi_3, bi_4, bi_5, bi_6, bi_7, bi_8, bi_9, bi_10, bl_20, bl_21, bl_22, bl_23, bl_24, bl_25, bl_26, bl_48, bl_49, un_0, un_1, un_2, un_3, if_true, if_false, ite_true, ite_false, Bool.false_eq_true, Bool.not_eq_false, decide_not, Bool.not_not, reduceCtorEq, st_i, st_l, st_r, st_n, ee_noL, ee_noL.eq_1, List.length_cons, List.length_nil, Nat.reduceAdd, Nat.reduceLT, Nat.zero_add, and_true, true_and, and_self, fin_ite, pu_0, pu_1, pu_3, sto_0, el_0, Bool.not_eq_true, decide_eq_false_iff_not, Bool.decide_eq_true, Bool.decide_eq_false, decide_true, decide_false, Bool.not_true, Bool.not_false, Bool.and_self, Bool.and_true, Bool.and_false, Bool.true_and, Bool.false_and, Bool.or_true, Bool.or_false, Bool.true_or, Bool.false_or, if_true, if_false, Bool.false_eq_true]
end LF
