/-! a law's code is run -/
section MR
variable {P : Nat → Nat → List Value → ee_W → Option (List Value × ee_W)} {d : Nat} {w w0 : ee_W} {h b : Nat} {X : HX} {frm off : Int32} {T : Nat}
theorem ty_leaf (o v : Nat) : ty (.op (.var 0) (.op (.var o) (.var v))) = if (o = 38 ∧ v ≤ 9999) ∨ (18 ≤ o ∧ o ≤ 24) then 1 else 0 := rfl
theorem ty_un (o : Nat) (a : ee_T) : ty (.op (.op (.var 1) (.var o)) a) = if ty a = 1 ∧ (o = 9 ∨ o = 10 ∨ o = 41) then 1 else if ty a = 2 ∧ o = 15 then 2 else 0 := rfl
theorem ty_bin (o : Nat) (a b : ee_T) : ty (.op (.op (.op (.var 2) (.var o)) a) b) = if ty a = 1 ∧ ty b = 1 ∧ 31 ≤ o ∧ o ≤ 34 then 1 else if ty a = 1 ∧ ty b = 1 ∧ 25 ≤ o ∧ o ≤ 30 then 2 else if ty a = 2 ∧ ty b = 2 ∧ (o = 16 ∨ o = 17) then 2 else 0 := rfl
theorem ty_if (c a b : ee_T) : ty (.op (.op (.op (.var 3) c) a) b) = if ty c = 2 ∧ ty a = 1 ∧ ty b = 1 then 1 else 0 := rfl
theorem av_leaf (nm L : _) (o v : Nat) : av nm L (.op (.var 0) (.op (.var o) (.var v))) = if o = 38 then Int32.ofNat v else nm o := rfl
theorem av_un (nm L : _) (o : Nat) (a : ee_T) : av nm L (.op (.op (.var 1) (.var o)) a) = uv L o (av nm L a) := rfl
theorem av_bin (nm L : _) (o : Nat) (a b : ee_T) : av nm L (.op (.op (.op (.var 2) (.var o)) a) b) = jv o (av nm L a) (av nm L b) := rfl
theorem av_if (nm L : _) (c a b : ee_T) : av nm L (.op (.op (.op (.var 3) c) a) b) = if av nm L c = 0 then av nm L b else av nm L a := rfl
theorem need_leaf (o v : Nat) : need (.op (.var 0) (.op (.var o) (.var v))) = 1 := rfl
theorem need_un (o : Nat) (a : ee_T) : need (.op (.op (.var 1) (.var o)) a) = need a := rfl
theorem need_bin (o : Nat) (a b : ee_T) : need (.op (.op (.op (.var 2) (.var o)) a) b) = max (need a) (1 + need b) := rfl
theorem need_if (c a b : ee_T) : need (.op (.op (.op (.var 3) c) a) b) = max (need c) (max (need a) (need b)) := rfl
theorem cseg_lt (code : Nat → Int32) : ∀ N e, esz e ≤ N → ∀ f t, cseg code e f t → f < t := by
  intro N
  induction N with
  | zero => intro e he; cases e <;> simp only [esz] at he <;> omega
  | succ N ih =>
    intro e he f t hs
    unfold cseg at hs
    split at hs
    · omega
    · obtain ⟨m, h1, h2, h3⟩ := hs
      simp only [esz] at he
      have := ih _ (by omega) _ _ h1
      omega
    · obtain ⟨m, k, h1, h2, h3, h4⟩ := hs
      simp only [esz] at he
      have := ih _ (by omega) _ _ h1
      have := ih _ (by omega) _ _ h2
      omega
    · obtain ⟨m, k, h1, h2, h3, h4, h5⟩ := hs
      simp only [esz] at he
      have := ih _ (by omega) _ _ h1
      have := ih _ (by omega) _ _ h3
      have := ih _ (by omega) _ _ h5
      omega
    · cases hs
theorem need_pos : ∀ N e, esz e ≤ N → ¬ ty e = 0 → 1 ≤ need e := by
  intro N
  induction N with
  | zero => intro e he; cases e <;> simp only [esz] at he <;> omega
  | succ N ih =>
    intro e he hty
    unfold ty at hty
    split at hty
    · simp only [need]; omega
    · rename_i o a
      simp only [esz] at he
      simp only [need]
      refine ih a (by omega) ?_
      split at hty
      · omega
      · split at hty
        · omega
        · exact absurd rfl hty
    · simp only [need]; omega
    · rename_i c a b2
      simp only [esz] at he
      simp only [need]
      have := ih c (by omega) (by
        split at hty
        · omega
        · exact absurd rfl hty)
      omega
    · exact absurd rfl hty
theorem FW_go {s s' : ee_E × ee_W} (h : FW P d s = some (.inl s')) : ee_wh (FW P d) s = ee_wh (FW P d) s' := by
  rw [ee_wh_eq, h]
theorem mrun (hd : 4 ≤ d) (hb : tx_ok b) (hb2 : b + 4 < 229) (hh : hd_ok h) (h229 : h + 2 < 229) (hX0 : CH w0 h X) (hc : 0 ≤ (X.1 0).toInt) (hT : T ≤ 300) :
    ∀ N e, esz e ≤ N → ∀ f t n k w l8 l9 l10, ¬ ty e = 0 → cseg (w0.1 (b + 4)) e f t → n + need e ≤ 64 → t ≤ T → k ≤ f → chg mrg w0 w → w.1 229 1 = Int32.ofNat n →
      ∃ w' k' m8 m9 m10, ee_wh (FW P d) (EV b h frm off T f k l8 l9 l10, w) = ee_wh (FW P d) (EV b h frm off T t k' m8 m9 m10, w') ∧ k' ≤ t ∧ chg mrg w w' ∧ w'.1 229 1 = Int32.ofNat (n + 1) ∧ w'.1 230 n = av (nmX X off) (xlearnt X) e ∧ ∀ j, j < n → w'.1 230 j = w.1 230 j := by
  have hd3 : 3 ≤ d := by omega
  have hcodeq : ∀ w, chg mrg w0 w → ∀ a, w.1 (b + 4) a = w0.1 (b + 4) a := fun w hw a => hw.1 _ _ (mrg_f hb2)
  have hXw : ∀ w, chg mrg w0 w → CH w h X := fun w hw => CH_chg hX0 hw (mrg_f (by omega)) (mrg_f (by omega)) (mrg_f (by omega))
  intro N
  induction N with
  | zero => intro e he; cases e <;> simp only [esz] at he <;> omega
  | succ N ih =>
    intro e he f t n k w l8 l9 l10 hty hs hn ht hk hw h1
    unfold cseg at hs
    split at hs
    · rename_i o v
      obtain ⟨rfl, hcode⟩ := hs
      first | rw [need_leaf] at hn | rw [need_un] at hn | rw [need_bin] at hn | rw [need_if] at hn
      have ho : leafop o ∧ dok (if o = 38 then v else 0) o = true := by
        rw [ty_leaf] at hty
        split at hty
        · rename_i q
          unfold leafop
          refine ⟨by omega, ?_⟩
          rcases q with ⟨rfl, q⟩ | q
          · rw [if_pos rfl]; exact dok_38 v (by omega)
          · rw [if_neg (by omega)]; exact dok_0 o (by omega)
        · exact absurd rfl hty
      have g := t_leaf (P := P) (frm := frm) (off := off) (T := T) (l8 := l8) (l9 := l9) (l10 := l10) hd3 hb hh (hXw w hw) hc (show f < T by omega) hT hk ((hcodeq w hw f).trans hcode) ho.1 ho.2 (show n < 64 by omega) h1
      refine ⟨_, _, _, _, _, FW_go g, by omega, pushw_c _ _ _, pushw_1 _ _ _, ?_, fun j hj => ?_⟩
      · rw [pushw_at, if_pos rfl, av_leaf]
        by_cases q : o = 38
        · rw [if_pos q, if_pos q, if_pos q]
        · rw [if_neg q, if_neg q]
      · rw [pushw_at, if_neg (by omega)]
    · rename_i o a
      obtain ⟨m, hs1, rfl, hcode⟩ := hs
      first | rw [need_leaf] at hn | rw [need_un] at hn | rw [need_bin] at hn | rw [need_if] at hn
      simp only [esz] at he
      have ho : ¬ ty a = 0 ∧ unop o := by
        rw [ty_un] at hty
        unfold unop
        split at hty
        · rename_i q; omega
        · split at hty
          · rename_i q; omega
          · exact absurd rfl hty
      have hm : 1 ≤ need a := need_pos _ a (Nat.le_refl _) ho.1
      obtain ⟨w1, k1, m8, m9, m10, r1, r2, r3, r4, r5, r6⟩ := ih a (by omega) f m n k w l8 l9 l10 ho.1 hs1 hn (by omega) hk hw h1
      have hw1 := chg_trans hw r3
      have g := t_un (P := P) (frm := frm) (off := off) (T := T) (l8 := m8) (l9 := m9) (l10 := m10) hd3 hb hh h229 (hXw w1 hw1) (show m < T by omega) hT r2 ((hcodeq w1 hw1 m).trans hcode) ho.2 (show n < 64 by omega) r4
      refine ⟨_, _, _, _, _, r1.trans (FW_go g), by omega, chg_trans r3 (chg_trans (popw_c _ _) (pushw_c _ _ _)), pushw_1 _ _ _, ?_, fun j hj => ?_⟩
      · rw [pushw_at, if_pos rfl, r5]
        rfl
      · rw [pushw_at, if_neg (by omega), popw_at]; exact r6 j hj
    · rename_i o a c
      obtain ⟨m, q, hs1, hs2, rfl, hcode⟩ := hs
      first | rw [need_leaf] at hn | rw [need_un] at hn | rw [need_bin] at hn | rw [need_if] at hn
      simp only [esz] at he
      have ho : ¬ ty a = 0 ∧ ¬ ty c = 0 ∧ binop o := by
        rw [ty_bin] at hty
        unfold binop
        split at hty
        · omega
        · split at hty
          · omega
          · split at hty
            · omega
            · exact absurd rfl hty
      obtain ⟨w1, k1, m8, m9, m10, r1, r2, r3, r4, r5, r6⟩ := ih a (by omega) f m n k w l8 l9 l10 ho.1 hs1 (by omega) (by have := cseg_lt _ _ _ (Nat.le_refl _) _ _ hs2; omega) hk hw h1
      have hw1 := chg_trans hw r3
      obtain ⟨w2, k2, n8, n9, n10, p1, p2, p3, p4, p5, p6⟩ := ih c (by omega) m q (n + 1) k1 w1 m8 m9 m10 ho.2.1 hs2 (by omega) (by omega) r2 hw1 r4
      have hw2 := chg_trans hw1 p3
      have hnc : 1 ≤ need c := need_pos _ c (Nat.le_refl _) ho.2.1
      have g := t_bin (P := P) (h := h) (frm := frm) (off := off) (T := T) (l8 := n8) (l9 := n9) (l10 := n10) hd hb (show q < T by omega) hT p2 ((hcodeq w2 hw2 q).trans hcode) ho.2.2 (show n + 1 < 64 by omega) p4
      refine ⟨_, _, _, _, _, r1.trans (p1.trans (FW_go g)), by omega, chg_trans r3 (chg_trans p3 (chg_trans (popw_c _ _) (chg_trans (popw_c _ _) (pushw_c _ _ _)))), pushw_1 _ _ _, ?_, fun j hj => ?_⟩
      · rw [pushw_at, if_pos rfl, p5, p6 n (by omega), r5]
        rfl
      · rw [pushw_at, if_neg (by omega), popw_at, popw_at, p6 j (by omega)]; exact r6 j hj
    · rename_i c a e2
      obtain ⟨m, q, hs1, hc1, hs2, hc2, hs3⟩ := hs
      first | rw [need_leaf] at hn | rw [need_un] at hn | rw [need_bin] at hn | rw [need_if] at hn
      simp only [esz] at he
      have ho : ¬ ty c = 0 ∧ ¬ ty a = 0 ∧ ¬ ty e2 = 0 := by
        rw [ty_if] at hty
        split at hty
        · omega
        · exact absurd rfl hty
      have o1 := cseg_lt _ _ _ (Nat.le_refl _) _ _ hs1
      have o2 := cseg_lt _ _ _ (Nat.le_refl _) _ _ hs2
      have o3 := cseg_lt _ _ _ (Nat.le_refl _) _ _ hs3
      have hnc : 1 ≤ need c := need_pos _ c (Nat.le_refl _) ho.1
      obtain ⟨w1, k1, m8, m9, m10, r1, r2, r3, r4, r5, r6⟩ := ih c (by omega) f m n k w l8 l9 l10 ho.1 hs1 (by omega) (by omega) hk hw h1
      have hw1 := chg_trans hw r3
      have g := t_then (P := P) (h := h) (frm := frm) (off := off) (T := T) (l8 := m8) (l9 := m9) (l10 := m10) hd3 hb (show m < T by omega) hT r2 ((hcodeq w1 hw1 m).trans hc1) (dok_12 _ (by omega)) (show n < 64 by omega) r4
      have hw2 : chg mrg w0 (popw w1 n) := chg_trans hw1 (popw_c _ _)
      by_cases z : w1.1 230 n = 0
      · rw [if_pos z] at g
        obtain ⟨w2, k2, n8, n9, n10, p1, p2, p3, p4, p5, p6⟩ := ih e2 (by omega) (q + 1) t n (k1 + 1) (popw w1 n) _ _ _ ho.2.2 hs3 (by omega) (by omega) (by omega) hw2 (popw_1 _ _)
        refine ⟨_, _, _, _, _, r1.trans ((FW_go g).trans p1), p2, chg_trans r3 (chg_trans (popw_c _ _) p3), p4, ?_, fun j hj => ?_⟩
        · rw [p5]
          rw [r5] at z
          rw [av_if, if_pos z]
        · rw [p6 j hj, popw_at]; exact r6 j hj
      · rw [if_neg z] at g
        obtain ⟨w2, k2, n8, n9, n10, p1, p2, p3, p4, p5, p6⟩ := ih a (by omega) (m + 1) q n (k1 + 1) (popw w1 n) _ _ _ ho.2.1 hs2 (by omega) (by omega) (by omega) hw2 (popw_1 _ _)
        have hw3 := chg_trans hw2 p3
        have g2 := t_else (P := P) (h := h) (frm := frm) (off := off) (T := T) (l8 := n8) (l9 := n9) (l10 := n10) hd3 hb (show q < T by omega) hT p2 ((hcodeq w2 hw3 q).trans hc2) (dok_13 _ (by omega))
        refine ⟨_, _, _, _, _, r1.trans ((FW_go g).trans (p1.trans (FW_go g2))), by omega, chg_trans r3 (chg_trans (popw_c _ _) p3), p4, ?_, fun j hj => ?_⟩
        · rw [p5]
          rw [r5] at z
          rw [av_if, if_neg z]
        · rw [p6 j hj, popw_at]; exact r6 j hj
    · cases hs
end MR
