/-! a clause, a text, as functions of tokens -/
section CLF
def addc (T : TX) (k : Nat) (a b : Int32) : TX := ((T.1.1 + 1, fun i => if i = T.1.1 then (Int32.ofNat k, a, b) else T.1.2 i), T.2)
def setl (T : TX) (k : Nat) (e : ee_T) : TX := if k = 0 then (T.1, some e, T.2.2) else (T.1, T.2.1, some e)
theorem setl_p {T : TX} {k : Nat} {e : ee_T} (h : k = 0) : setl T k e = (T.1, some e, T.2.2) := if_pos h
theorem setl_n {T : TX} {k : Nat} {e : ee_T} (h : ¬ k = 0) : setl T k e = (T.1, T.2.1, some e) := if_neg h
def nmf (K V : Nat → Nat) (lo hi i : Nat) : Nat := if K i = 38 then (if lo ≤ V i ∧ V i ≤ hi then 0 else 2) else 1
def lok (k : Nat) : Nat := if k = 5 ∨ k = 7 then 1 else 0
def hik (k : Nat) : Nat := if k = 3 then 7 else if k = 4 then 63 else if k = 5 then 40 else 60
abbrev CR : Type := (TX × Nat) ⊕ (Nat × Nat)
def lwc (T : TX) (k : Nat) (r : Option PR) : CR := match r with
  | some (.inl z) => .inl (setl (addc T k 0 0) k z.1, z.2)
  | some (.inr y) => .inr y
  | none => .inr (0, 0)
def cbo (K V : Nat → Nat) (F : Nat) (T : TX) (k i : Nat) : CR :=
  if k ≤ 1 then lwc T k (pp K V k F 0 0 i (.var 0))
  else if k = 2 then (if nmf K V 0 7 i = 0 then (if K (i + 1) = 8 then (if nmf K V 0 7 (i + 2) = 0 then .inl (addc T 2 (Int32.ofNat (V i)) (Int32.ofNat (V (i + 2))), i + 3) else .inr (nmf K V 0 7 (i + 2), i + 2)) else .inr (1, i + 1)) else .inr (nmf K V 0 7 i, i))
  else if k = 6 then .inl (addc T 6 0 0, i)
  else (if nmf K V (lok k) (hik k) i = 0 then .inl (addc T k (Int32.ofNat (V i)) 0, i + 1) else .inr (nmf K V (lok k) (hik k) i, i))
def stp (K : Nat → Nat) (r : CR) : CR := match r with
  | .inl z => if K z.2 = 37 then .inl (z.1, z.2 + 1) else .inr (1, z.2)
  | .inr y => .inr y
def cls (K V : Nat → Nat) (F : Nat) (T : TX) (i : Nat) : CR := if 7 < K i then .inr (1, i) else if (K i = 0 ∧ T.2.1.isSome = true) ∨ (K i = 1 ∧ T.2.2.isSome = true) then .inr (4, i) else if 24 ≤ T.1.1 then .inr (6, i) else stp K (cbo K V F T (K i) (i + 1))
def rdt (K V : Nat → Nat) (F : Nat) : Nat → TX → Nat → CR
  | 0, _, _ => .inr (0, 0)
  | G + 1, T, i => if K i = 39 then .inl (T, i) else match cls K V F T i with
    | .inl z => rdt K V F G z.1 z.2
    | .inr y => .inr y
theorem rdt_s {K V : Nat → Nat} {F G i : Nat} {T : TX} : rdt K V F (G + 1) T i = if K i = 39 then .inl (T, i) else match cls K V F T i with
    | .inl z => rdt K V F G z.1 z.2
    | .inr y => .inr y := rfl
def islc (r : CR) : Bool := match r with
  | .inl _ => true
  | .inr _ => false
end CLF
/-! the class's clauses -/
section CLC
variable {P : Nat → Nat → List Value → ee_W → Option (List Value × ee_W)} {d : Nat} {w : ee_W} {f : Nat → Int32} {n c b law i l : Nat} {T : TX}
def CLl (w : ee_W) (b p q l : Nat) (o : Option ee_T) : Prop := match o with
  | none => w.1 b p = -1
  | some e => ty e = 1 ∧ need e ≤ 64 ∧ ∃ f t, w.1 b p = Int32.ofNat f ∧ w.1 b q = Int32.ofNat t ∧ f ≤ l ∧ t ≤ l ∧ cseg (w.1 (b + 4)) e f t
def CTl (w : ee_W) (b l : Nat) (T : TX) : Prop := (T.1.1 ≤ 24 ∧ w.1 b 3 = Int32.ofNat T.1.1 ∧ ∀ i, i < T.1.1 → w.1 (b + 1) i = (T.1.2 i).1 ∧ w.1 (b + 2) i = (T.1.2 i).2.1 ∧ w.1 (b + 3) i = (T.1.2 i).2.2) ∧ CLl w b 6 7 l T.2.1 ∧ CLl w b 8 9 l T.2.2
theorem CLl_CL {p q : Nat} {o : Option ee_T} (h : CLl w b p q l o) (hl : l ≤ 300) : CL w b p q o := by
  cases o with
  | none => exact h
  | some e =>
    obtain ⟨a1, a2, f, t, a3, a4, a5, a6, a7⟩ := h
    exact ⟨a1, a2, f, t, a3, a4, by omega, a7⟩
theorem CTl_CT (h : CTl w b l T) (hl : l ≤ 300) : CT w b T := ⟨h.1, CLl_CL h.2.1 hl, CLl_CL h.2.2 hl⟩
theorem CLl_eq {w' : ee_W} {p q l' : Nat} {o : Option ee_T} (h : CLl w b p q l o) (hp : w'.1 b p = w.1 b p) (hq : w'.1 b q = w.1 b q) (hk : ∀ k, k < l → w'.1 (b + 4) k = w.1 (b + 4) k) (hl : l ≤ l') : CLl w' b p q l' o := by
  cases o with
  | none => exact hp.trans h
  | some e =>
    obtain ⟨a1, a2, f, t, a3, a4, a5, a6, a7⟩ := h
    exact ⟨a1, a2, f, t, hp.trans a3, hq.trans a4, by omega, by omega, cseg_cg a7 (fun k _ k2 => hk k (by omega))⟩
theorem CTl_p {w' : ee_W} {l' : Nat} (hb : bok b) (h : CTl w b l T) (hc : chk (ppr b) w w') (hk : ∀ k, k < l → w'.1 (b + 4) k = w.1 (b + 4) k) (hl : l ≤ l') : CTl w' b l' T := by
  obtain ⟨b1, b2, -⟩ := hb
  obtain ⟨⟨a1, a2, a3⟩, a4, a5⟩ := h
  refine ⟨⟨a1, (hc.1 _ _ (by unfold ppr; omega)).trans a2, fun i hi => ?_⟩, CLl_eq a4 (hc.1 _ _ (by unfold ppr; omega)) (hc.1 _ _ (by unfold ppr; omega)) hk hl, CLl_eq a5 (hc.1 _ _ (by unfold ppr; omega)) (hc.1 _ _ (by unfold ppr; omega)) hk hl⟩
  rw [hc.1 _ _ (by unfold ppr; omega), hc.1 _ _ (by unfold ppr; omega), hc.1 _ _ (by unfold ppr; omega)]
  exact a3 i hi
/-- what a clause changes -/
def pcl (b c k : Nat) : Prop := (c = 225 ∧ (k = 4 ∨ k = 5)) ∨ (b ≤ c ∧ c ≤ b + 4)
/-- or a fault -/
def pcf (b c k : Nat) : Prop := (c = 225 ∧ 4 ≤ k ∧ k ≤ 7) ∨ (b ≤ c ∧ c ≤ b + 4)
theorem pcl_f {w' : ee_W} (h : chk (pcl b) w w') : chk (pcf b) w w' := chk_mono h (fun c k h => by unfold pcl at h; unfold pcf; omega)
theorem pcf_p {w' : ee_W} (h : chk (ppf b) w w') : chk (pcf b) w w' := chk_mono h (fun c k h => by unfold ppf at h; unfold pcf; omega)
theorem pcl_p {w' : ee_W} (h : chk (ppr b) w w') : chk (pcl b) w w' := chk_mono h (fun c k h => by unfold ppr at h; unfold pcl; omega)
theorem TOK_pcl {w' : ee_W} (hb : bok b) (hT : TOK w n f c) (hc : chk (pcl b) w w') : TOK w' n f c := by
  obtain ⟨b1, b2, -⟩ := hb
  exact TOK_chk hT hc (by unfold pcl; omega) (fun x k h1 h2 => by unfold pcl; omega)
abbrev adc (w : ee_W) (b m : Nat) (x y z : Int32) : ee_W := ee_wI (ee_wI (ee_wI (ee_wI w (b + 1) m x) (b + 2) m y) (b + 3) m z) b 3 (Int32.ofNat (m + 1))
theorem r_addc (hd : 2 ≤ d) (hb : bok b) {m : Nat} (h3 : w.1 b 3 = Int32.ofNat m) (hm : m < 24) (x y z : Int32) : ee_run ee_B P d 43 [.ref b, .int x, .int y, .int z] w = some ([], adc w b m x y z) := by
  obtain ⟨d, rfl⟩ : ∃ k, d = k + 1 := ⟨d - 1, by omega⟩
  have hd1 : 1 ≤ d := by omega
  obtain ⟨b1, b2, x0, x1, x2, x3, x4, y1, y2, y3, y4⟩ := hb
  have q1 : (decide ((0 : Int32) ≤ Int32.ofNat m) && decide (Int32.ofNat m ≤ 23)) = true := (inb (b := 23) (by omega) (by omega)).trans (decide_eq_true (by omega))
  have i1 : ee_ix (Int32.ofNat m) 24 = true := by rw [ixn (by omega)]; exact decide_eq_true (by omega)
  have g1 : (ee_wI w (b + 1) m x).1 b 3 = Int32.ofNat m := by rw [wI_at, if_neg (by omega)]; exact h3
  have g2 : (ee_wI (ee_wI w (b + 1) m x) (b + 2) m y).1 b 3 = Int32.ofNat m := by rw [wI_at, if_neg (by omega)]; exact g1
  have g3 : (ee_wI (ee_wI (ee_wI w (b + 1) m x) (b + 2) m y) (b + 3) m z).1 b 3 = Int32.ofNat m := by rw [wI_at, if_neg (by omega)]; exact g2
  unfold adc
  rw [rn_43 x0]
  simp only [h3, g1, g2, g3, r_within hd1, q1, i1, tnc (show m < 2147483648 by omega), x0, x1, x2, x3, y1, y2, y3, rvs, w_opf, j_s, j_a, bd_43, k_0, k_1, k_23, nz_1, nz_23, v_call, v_cons, v_get, v_int, v_loc, v_nil, v_z, w_if, w_opf, w_retv, w_seq, w_skip, w_sto, List.getElem?_cons_zero, List.getElem?_cons_succ, List.set_cons_zero, List.set_cons_succ, ee_cmp0, ee_cmp1, ee_cmp2, ee_cmp3, ee_cmp4, ee_cmp5, ee_cmpL0, ee_cmpL1, ee_cmpL2, ee_cmpL3, ee_cmpL4, ee_cmpL5, ee_tru_eb, decide_eq_true_eq, ib_i, ie_b, ie_f, ie_t, ib_l, fin_i, fin_l, fin_v, fin_z, fin_a, fin_n, ee_b_0, ee_fld0, ee_fld1, ee_fld2, ee_fld3, bi_0, bi_1, bi_2, bi_3, bi_4, bi_5, bi_6, bi_7, bi_8, bi_9, bi_10, bl_20, bl_21, bl_22, bl_23, bl_24, bl_25, bl_26, bl_48, bl_49, un_0, un_1, un_2, un_3, if_true, if_false, ite_true, ite_false, Bool.false_eq_true, Bool.not_eq_false, decide_not, Bool.not_not, reduceCtorEq, st_i, st_l, st_r, st_n, ee_noL, ee_noL.eq_1, List.length_cons, List.length_nil, Nat.reduceAdd, Nat.reduceLT, Nat.zero_add, and_true, true_and, and_self, fin_ite, pu_0, pu_1, pu_3, sto_0, el_0, Bool.not_eq_true, decide_eq_false_iff_not, Bool.decide_eq_true, Bool.decide_eq_false, decide_true, decide_false, Bool.not_true, Bool.not_false, Bool.and_self, Bool.and_true, Bool.and_false, Bool.true_and, Bool.false_and, Bool.or_true, Bool.or_false, Bool.true_or, Bool.false_or, if_true, if_false, Bool.false_eq_true]
theorem adc_c (w : ee_W) (b m : Nat) (x y z : Int32) : chk (pcl b) w (adc w b m x y z) := chk_I (Or.inr (by omega)) (chk_I (Or.inr (by omega)) (chk_I (Or.inr (by omega)) (chk_I (Or.inr (by omega)) (chk_refl _ _))))
theorem adc_o (w : ee_W) (b m : Nat) (x y z : Int32) {c k : Nat} (h : c < b ∨ b + 4 ≤ c ∨ (c = b ∧ k ≠ 3)) : (adc w b m x y z).1 c k = w.1 c k := by
  unfold adc
  rw [wI_at, if_neg (by omega), wI_at, if_neg (by omega), wI_at, if_neg (by omega), wI_at, if_neg (by omega)]
theorem PS_ad (h : PS w n f c b law i l) (m : Nat) (x y z : Int32) : PS (adc w b m x y z) n f c b law i l := by
  obtain ⟨h1, h2, h3, h4, h5, h6, h7⟩ := h
  have hb := h7
  obtain ⟨b1, b2, -⟩ := h7
  exact ⟨TOK_pcl hb h1 (adc_c w b m x y z), (adc_o w b m x y z (by omega)).trans h2, (adc_o w b m x y z (by omega)).trans h3, (adc_o w b m x y z (by omega)).trans h4, h5, h6, hb⟩
theorem CTl_ad (h : CTl w b l T) (hm : T.1.1 < 24) (k : Nat) (y z : Int32) : CTl (adc w b T.1.1 (Int32.ofNat k) y z) b l (addc T k y z) := by
  obtain ⟨⟨a1, a2, a3⟩, a4, a5⟩ := h
  refine ⟨⟨by show T.1.1 + 1 ≤ 24; omega, ?_, fun i hi => ?_⟩, CLl_eq a4 (adc_o _ _ _ _ _ _ (by omega)) (adc_o _ _ _ _ _ _ (by omega)) (fun k _ => adc_o _ _ _ _ _ _ (by omega)) (Nat.le_refl _), CLl_eq a5 (adc_o _ _ _ _ _ _ (by omega)) (adc_o _ _ _ _ _ _ (by omega)) (fun k _ => adc_o _ _ _ _ _ _ (by omega)) (Nat.le_refl _)⟩
  · unfold adc; rw [wI_at, if_pos ⟨rfl, rfl⟩]; rfl
  · have hi : i < T.1.1 + 1 := hi
    have e : (addc T k y z).1.2 i = if i = T.1.1 then (Int32.ofNat k, y, z) else T.1.2 i := rfl
    rw [e]
    unfold adc
    by_cases q : i = T.1.1
    · rw [if_pos q]
      refine ⟨?_, ?_, ?_⟩
      · rw [wI_at, if_neg (by omega), wI_at, if_neg (by omega), wI_at, if_neg (by omega), wI_at, if_pos ⟨rfl, q⟩]
      · rw [wI_at, if_neg (by omega), wI_at, if_neg (by omega), wI_at, if_pos ⟨rfl, q⟩]
      · rw [wI_at, if_neg (by omega), wI_at, if_pos ⟨rfl, q⟩]
    · rw [if_neg q]
      refine ⟨?_, ?_, ?_⟩
      · rw [wI_at, if_neg (by omega), wI_at, if_neg (by omega), wI_at, if_neg (by omega), wI_at, if_neg (by omega)]; exact (a3 i (by omega)).1
      · rw [wI_at, if_neg (by omega), wI_at, if_neg (by omega), wI_at, if_neg (by omega), wI_at, if_neg (by omega)]; exact (a3 i (by omega)).2.1
      · rw [wI_at, if_neg (by omega), wI_at, if_neg (by omega), wI_at, if_neg (by omega), wI_at, if_neg (by omega)]; exact (a3 i (by omega)).2.2
theorem r_num (hd : 3 ≤ d) (h : PS w n f c b law i l) {lo hi : Nat} (hlo : lo ≤ 10000) (hhi : hi ≤ 10000) : (nmf (kkf f n) (vvf f n) lo hi i = 0 → ee_run ee_B P d 48 [.ref 225, .int (Int32.ofNat lo), .int (Int32.ofNat hi)] w = some ([.int 1], atw w (i + 1)) ∧ (tkn f n i).1 = 38) ∧ (nmf (kkf f n) (vvf f n) lo hi i ≠ 0 → ee_run ee_B P d 48 [.ref 225, .int (Int32.ofNat lo), .int (Int32.ofNat hi)] w = some ([.int 0], rfw w (nmf (kkf f n) (vvf f n) lo hi i) (tkn f n i).2.2.1)) := by
  have e : nmf (kkf f n) (vvf f n) lo hi i = if (tkn f n i).1 = 38 then (if lo ≤ (tkn f n i).2.1 ∧ (tkn f n i).2.1 ≤ hi then 0 else 2) else 1 := rfl
  rw [r_number hd h hlo hhi, e]
  by_cases q1 : (tkn f n i).1 = 38
  · rw [if_pos q1, if_pos q1]
    by_cases q2 : lo ≤ (tkn f n i).2.1 ∧ (tkn f n i).2.1 ≤ hi
    · rw [if_pos q2, if_pos q2]
      exact ⟨fun _ => ⟨rfl, q1⟩, fun z => absurd rfl z⟩
    · rw [if_neg q2, if_neg q2]
      exact ⟨fun z => (by cases z), fun _ => rfl⟩
  · rw [if_neg q1, if_neg q1]
    exact ⟨fun z => (by cases z), fun _ => rfl⟩
/-- what is left of a clause -/
def CRS (w w' : ee_W) (n : Nat) (f : Nat → Int32) (c b : Nat) (r : CR) : Prop := match r with
  | .inl z => chk (pcl b) w w' ∧ ∃ law l', PS w' n f c b law z.2 l' ∧ CTl w' b l' z.1
  | .inr y => chk (pcf b) w w' ∧ w'.1 225 6 = Int32.ofNat y.1 ∧ w'.1 225 7 = Int32.ofNat (tkn f n y.2).2.2.1
theorem CRS_go {w1 w' : ee_W} {r : CR} (h : chk (pcl b) w w1) (h2 : CRS w1 w' n f c b r) : CRS w w' n f c b r := by
  cases r with
  | inl z => exact ⟨chk_trans h h2.1, h2.2⟩
  | inr y => exact ⟨chk_trans (pcl_f h) h2.1, h2.2⟩
theorem CRS_rf (w : ee_W) (q : Nat) : CRS w (rfw w q (tkn f n i).2.2.1) n f c b (.inr (q, i)) := by
  refine ⟨chk_I (Or.inl (by omega)) (chk_I (Or.inl (by omega)) (chk_refl _ _)), ?_, ?_⟩
  · unfold rfw; rw [wI_at, if_neg (by omega), wI_at, if_pos ⟨rfl, rfl⟩]
  · unfold rfw; rw [wI_at, if_pos ⟨rfl, rfl⟩]
theorem atw_cl (w : ee_W) (b i : Nat) : chk (pcl b) w (atw w i) := pcl_p (atw_c w b i)
theorem CTl_at (hb : bok b) (h : CTl w b l T) (i : Nat) : CTl (atw w i) b l T := CTl_p hb h (atw_c w b i) (fun k _ => atw_k hb w i k) (Nat.le_refl _)
/-- a law's clause -/
theorem c_law {F : Nat} {r : PR} (hd : 75 ≤ d) (hP : PS w n f c b law i l) (hT : CTl w b l T) (hm : T.1.1 < 24) {k : Nat} (hk : k ≤ 1) (hr : pp (kkf f n) (vvf f n) k F 0 0 i (.var 0) = some r) :
    ∃ w', ee_run ee_B P d 42 [.ref 225, .int (Int32.ofNat k), .ref b] w = some ([.int (ee_b (islc (lwc T k (some r))))], w') ∧ CRS w w' n f c b (lwc T k (some r)) := by
  obtain ⟨d, rfl⟩ : ∃ k, d = k + 1 := ⟨d - 1, by omega⟩
  have hd2 : 2 ≤ d := by omega
  have hb := hP.2.2.2.2.2.2
  have x0 := hb.2.2.1
  -- the kind of the law
  obtain ⟨w1, hw1⟩ : ∃ w1, w1 = ee_wI w 225 5 (Int32.ofNat k) := ⟨_, rfl⟩
  have c1 : chk (pcl b) w w1 := by rw [hw1]; exact chk_I (Or.inl (by omega)) (chk_refl _ _)
  have o1 : ∀ c k, (c ≠ 225 ∨ k ≠ 5) → w1.1 c k = w.1 c k := fun c k h => by rw [hw1, wI_at, if_neg (by omega)]
  have b1 := hb.1
  have b2 := hb.2.1
  have P1 : PS w1 n f c b k i l := by
    obtain ⟨h1, h2, h3, h4, h5, h6, h7⟩ := hP
    exact ⟨TOK_pcl hb h1 c1, (o1 _ _ (by omega)).trans h2, by rw [hw1, wI_at, if_pos ⟨rfl, rfl⟩], (o1 _ _ (by omega)).trans h4, h5, h6, h7⟩
  have T1 : CTl w1 b l T := by
    obtain ⟨⟨a1, a2, a3⟩, a4, a5⟩ := hT
    refine ⟨⟨a1, (o1 _ _ (by omega)).trans a2, fun i hi => ?_⟩, CLl_eq a4 (o1 _ _ (by omega)) (o1 _ _ (by omega)) (fun k _ => o1 _ _ (by omega)) (Nat.le_refl _), CLl_eq a5 (o1 _ _ (by omega)) (o1 _ _ (by omega)) (fun k _ => o1 _ _ (by omega)) (Nat.le_refl _)⟩
    rw [o1 _ _ (by omega), o1 _ _ (by omega), o1 _ _ (by omega)]
    exact a3 i hi
  have ra := r_addc (P := P) hd2 hb T1.1.2.1 hm (Int32.ofNat k) 0 0
  have P2 := PS_ad P1 T.1.1 (Int32.ofNat k) 0 0
  have T2 := CTl_ad T1 hm k 0 0
  have c2 := adc_c w1 b T.1.1 (Int32.ofNat k) 0 0
  obtain ⟨w2, hw2⟩ : ∃ w2, w2 = adc w1 b T.1.1 (Int32.ofNat k) 0 0 := ⟨_, rfl⟩
  rw [← hw2] at ra P2 T2 c2
  obtain ⟨w3, s12, s3⟩ := c_pp (P := P) (b := b) hk F d 0 0 i (.var 0) r (by omega) hr (by omega) w2 l l P2 (Nat.le_refl _) (fun z => by cases z) (fun _ => rfl) (by unfold rkm gmd; simp; omega)
  have s3 : ee_run ee_B P d 44 [.ref 225, .ref b, .int (Int32.ofNat 0)] w2 = some ([.int (ee_b (islp r))], w3) := s3
  rw [k_0] at s3
  have l5 := P2.2.2.2.1
  have k0 : (Int32.ofNat k = 0) = (k = 0) := kq (m := 0) (by omega) (by omega)
  cases r with
  | inr y =>
    have s3 : ee_run ee_B P d 44 [.ref 225, .ref b, .int 0] w2 = some ([.int 0], w3) := s3
    obtain ⟨s1, s2⟩ := s12
    refine ⟨w3, ?_, chk_trans (pcl_f (chk_trans c1 c2)) (pcf_p s1), s2⟩
    show ee_run ee_B P (d + 1) 42 [.ref 225, .int (Int32.ofNat k), .ref b] w = some ([.int 0], w3)
    rw [rn_42 rd_225]
    simp only [← hw1, ra, l5, s3, x0, rd_225, bd_42, k_0, k_1, nz_1, v_call, v_cons, v_get, v_int, v_loc, v_nil, v_not, v_z, w_exp0, w_exp1, w_if, w_put, w_ret, w_seq, w_set, List.getElem?_cons_zero, List.getElem?_cons_succ, List.set_cons_zero, List.set_cons_succ, ee_cmp0, ee_cmp1, ee_cmp2, ee_cmp3, ee_cmp4, ee_cmp5, ee_cmpL0, ee_cmpL1, ee_cmpL2, ee_cmpL3, ee_cmpL4, ee_cmpL5, ee_tru_eb, decide_eq_true_eq, ib_i, ie_b, ie_f, ie_t, ib_l, fin_i, fin_l, fin_v, fin_z, fin_a, fin_n, ee_b_0, ee_fld0, ee_fld1, ee_fld2, ee_fld3, bi_0, bi_1, bi_2, bi_3, bi_4, bi_5, bi_6, bi_7, bi_8, bi_9, bi_10, bl_20, bl_21, bl_22, bl_23, bl_24, bl_25, bl_26, bl_48, bl_49, un_0, un_1, un_2, un_3, if_true, if_false, ite_true, ite_false, Bool.false_eq_true, Bool.not_eq_false, decide_not, Bool.not_not, reduceCtorEq, st_i, st_l, st_r, st_n, ee_noL, ee_noL.eq_1, List.length_cons, List.length_nil, Nat.reduceAdd, Nat.reduceLT, Nat.zero_add, and_true, true_and, and_self, fin_ite, pu_0, pu_1, pu_3, sto_0, el_0, Bool.not_eq_true, decide_eq_false_iff_not, Bool.decide_eq_true, Bool.decide_eq_false, decide_true, decide_false, Bool.not_true, Bool.not_false, Bool.and_self, Bool.and_true, Bool.and_false, Bool.true_and, Bool.false_and, Bool.or_true, Bool.or_false, Bool.true_or, Bool.false_or, if_true, if_false, Bool.false_eq_true]
    rfl
  | inl z =>
    have s3 : ee_run ee_B P d 44 [.ref 225, .ref b, .int 0] w2 = some ([.int 1], w3) := s3
    obtain ⟨s1, l', p1, p2, p3, p4⟩ := s12
    have lt := cseg_lt _ _ _ (Nat.le_refl _) _ _ p3
    have T3 := CTl_p hb T2 s1 p4 (show l ≤ l' by omega)
    have pk := pp_ok (K := kkf f n) (V := vvf f n) (N := c) (fun i hi => ⟨fun q => by
      by_cases y : i = c
      · exact y
      · exact absurd q (hP.1.2.2.2.1 i (by omega)), fun q => by rw [q]; exact hP.1.2.2.2.2⟩) F 0 0 i (.var 0) z.1 z.2 (by omega) hr (by omega) hP.2.2.2.2.1 (fun q => by cases q)
    obtain ⟨-, -, -, pt, -, pn⟩ := pk
    have pt : ty z.1 = 1 := pt
    have pn : need z.1 ≤ 43 := pn
    have g5 := p1.2.2.2.1
    obtain ⟨w4, hw4⟩ : ∃ w4, w4 = (if k = 0 then ee_wI (ee_wI w3 b 6 (Int32.ofNat l)) b 7 (Int32.ofNat l') else ee_wI (ee_wI w3 b 8 (Int32.ofNat l)) b 9 (Int32.ofNat l')) := ⟨_, rfl⟩
    have c4 : chk (pcl b) w3 w4 := by
      rw [hw4]
      split
      · exact chk_I (Or.inr (by omega)) (chk_I (Or.inr (by omega)) (chk_refl _ _))
      · exact chk_I (Or.inr (by omega)) (chk_I (Or.inr (by omega)) (chk_refl _ _))
    have o4 : ∀ c k, (c ≠ b ∨ k < 6) → w4.1 c k = w3.1 c k := fun c k h => by
      rw [hw4]
      split
      · rw [wI_at, if_neg (by omega), wI_at, if_neg (by omega)]
      · rw [wI_at, if_neg (by omega), wI_at, if_neg (by omega)]
    refine ⟨w4, ?_, chk_trans c1 (chk_trans c2 (chk_trans (pcl_p s1) c4)), k, l', ?_, ?_⟩
    · show ee_run ee_B P (d + 1) 42 [.ref 225, .int (Int32.ofNat k), .ref b] w = some ([.int 1], w4)
      rw [rn_42 rd_225, hw4]
      by_cases q : k = 0
      · have qt : (k = 0) = True := eq_true q
        have g6 : (ee_wI w3 b 6 (Int32.ofNat l)).1 b 5 = Int32.ofNat l' := by rw [wI_at, if_neg (by omega)]; exact g5
        rw [if_pos q]
        simp only [← hw1, ra, l5, s3, k0, qt, g6, x0, rd_225, bd_42, k_0, k_1, nz_1, v_call, v_cons, v_get, v_int, v_loc, v_nil, v_not, v_z, w_exp0, w_exp1, w_if, w_put, w_ret, w_seq, w_set, List.getElem?_cons_zero, List.getElem?_cons_succ, List.set_cons_zero, List.set_cons_succ, ee_cmp0, ee_cmp1, ee_cmp2, ee_cmp3, ee_cmp4, ee_cmp5, ee_cmpL0, ee_cmpL1, ee_cmpL2, ee_cmpL3, ee_cmpL4, ee_cmpL5, ee_tru_eb, decide_eq_true_eq, ib_i, ie_b, ie_f, ie_t, ib_l, fin_i, fin_l, fin_v, fin_z, fin_a, fin_n, ee_b_0, ee_fld0, ee_fld1, ee_fld2, ee_fld3, bi_0, bi_1, bi_2, bi_3, bi_4, bi_5, bi_6, bi_7, bi_8, bi_9, bi_10, bl_20, bl_21, bl_22, bl_23, bl_24, bl_25, bl_26, bl_48, bl_49, un_0, un_1, un_2, un_3, if_true, if_false, ite_true, ite_false, Bool.false_eq_true, Bool.not_eq_false, decide_not, Bool.not_not, reduceCtorEq, st_i, st_l, st_r, st_n, ee_noL, ee_noL.eq_1, List.length_cons, List.length_nil, Nat.reduceAdd, Nat.reduceLT, Nat.zero_add, and_true, true_and, and_self, fin_ite, pu_0, pu_1, pu_3, sto_0, el_0, Bool.not_eq_true, decide_eq_false_iff_not, Bool.decide_eq_true, Bool.decide_eq_false, decide_true, decide_false, Bool.not_true, Bool.not_false, Bool.and_self, Bool.and_true, Bool.and_false, Bool.true_and, Bool.false_and, Bool.or_true, Bool.or_false, Bool.true_or, Bool.false_or, if_true, if_false, Bool.false_eq_true]
        try rfl
      · have g6 : (ee_wI w3 b 8 (Int32.ofNat l)).1 b 5 = Int32.ofNat l' := by rw [wI_at, if_neg (by omega)]; exact g5
        rw [if_neg q]
        simp only [← hw1, ra, l5, s3, k0, q, g6, x0, rd_225, bd_42, k_0, k_1, nz_1, v_call, v_cons, v_get, v_int, v_loc, v_nil, v_not, v_z, w_exp0, w_exp1, w_if, w_put, w_ret, w_seq, w_set, List.getElem?_cons_zero, List.getElem?_cons_succ, List.set_cons_zero, List.set_cons_succ, ee_cmp0, ee_cmp1, ee_cmp2, ee_cmp3, ee_cmp4, ee_cmp5, ee_cmpL0, ee_cmpL1, ee_cmpL2, ee_cmpL3, ee_cmpL4, ee_cmpL5, ee_tru_eb, decide_eq_true_eq, ib_i, ie_b, ie_f, ie_t, ib_l, fin_i, fin_l, fin_v, fin_z, fin_a, fin_n, ee_b_0, ee_fld0, ee_fld1, ee_fld2, ee_fld3, bi_0, bi_1, bi_2, bi_3, bi_4, bi_5, bi_6, bi_7, bi_8, bi_9, bi_10, bl_20, bl_21, bl_22, bl_23, bl_24, bl_25, bl_26, bl_48, bl_49, un_0, un_1, un_2, un_3, if_true, if_false, ite_true, ite_false, Bool.false_eq_true, Bool.not_eq_false, decide_not, Bool.not_not, reduceCtorEq, st_i, st_l, st_r, st_n, ee_noL, ee_noL.eq_1, List.length_cons, List.length_nil, Nat.reduceAdd, Nat.reduceLT, Nat.zero_add, and_true, true_and, and_self, fin_ite, pu_0, pu_1, pu_3, sto_0, el_0, Bool.not_eq_true, decide_eq_false_iff_not, Bool.decide_eq_true, Bool.decide_eq_false, decide_true, decide_false, Bool.not_true, Bool.not_false, Bool.and_self, Bool.and_true, Bool.and_false, Bool.true_and, Bool.false_and, Bool.or_true, Bool.or_false, Bool.true_or, Bool.false_or, if_true, if_false, Bool.false_eq_true]
        try rfl
    · obtain ⟨h1, h2, h3, h4, h5, h6, h7⟩ := p1
      exact ⟨TOK_pcl hb h1 c4, (o4 _ _ (by omega)).trans h2, (o4 _ _ (by omega)).trans h3, (o4 _ _ (by omega)).trans h4, h5, h6, h7⟩
    · obtain ⟨⟨a1, a2, a3⟩, a4, a5⟩ := T3
      have kc : ∀ k, w4.1 (b + 4) k = w3.1 (b + 4) k := fun k => o4 _ _ (by omega)
      have fc : w4.1 (b + 4) = w3.1 (b + 4) := funext kc
      have aa : ∀ i, i < (addc T k 0 0).1.1 → w4.1 (b + 1) i = ((addc T k 0 0).1.2 i).1 ∧ w4.1 (b + 2) i = ((addc T k 0 0).1.2 i).2.1 ∧ w4.1 (b + 3) i = ((addc T k 0 0).1.2 i).2.2 := fun i hi => by
        rw [o4 _ _ (by omega), o4 _ _ (by omega), o4 _ _ (by omega)]
        exact a3 i hi
      show CTl w4 b l' (setl (addc T k 0 0) k z.1)
      by_cases q : k = 0
      · rw [setl_p q]
        refine ⟨⟨a1, (o4 _ _ (by omega)).trans a2, aa⟩, ⟨pt, by omega, l, l', ?_, ?_, by omega, Nat.le_refl _, by rw [fc]; exact p3⟩, CLl_eq a5 ?_ ?_ (fun k _ => kc k) (Nat.le_refl _)⟩
        · rw [hw4, if_pos q, wI_at, if_neg (by omega), wI_at, if_pos ⟨rfl, rfl⟩]
        · rw [hw4, if_pos q, wI_at, if_pos ⟨rfl, rfl⟩]
        · rw [hw4, if_pos q, wI_at, if_neg (by omega), wI_at, if_neg (by omega)]
        · rw [hw4, if_pos q, wI_at, if_neg (by omega), wI_at, if_neg (by omega)]
      · rw [setl_n q]
        refine ⟨⟨a1, (o4 _ _ (by omega)).trans a2, aa⟩, CLl_eq a4 ?_ ?_ (fun k _ => kc k) (Nat.le_refl _), ⟨pt, by omega, l, l', ?_, ?_, by omega, Nat.le_refl _, by rw [fc]; exact p3⟩⟩
        · rw [hw4, if_neg q, wI_at, if_neg (by omega), wI_at, if_neg (by omega)]
        · rw [hw4, if_neg q, wI_at, if_neg (by omega), wI_at, if_neg (by omega)]
        · rw [hw4, if_neg q, wI_at, if_neg (by omega), wI_at, if_pos ⟨rfl, rfl⟩]
        · rw [hw4, if_neg q, wI_at, if_pos ⟨rfl, rfl⟩]
end CLC
