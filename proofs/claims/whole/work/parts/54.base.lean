/-! the state: worlds, heads -/
section BA
theorem wI_at (w : ee_W) (h k : Nat) (x : Int32) (a b : Nat) : (ee_wI w h k x).1 a b = if a = h ∧ b = k then x else w.1 a b := rfl
theorem wI_2 (w : ee_W) (h k : Nat) (x : Int32) : (ee_wI w h k x).2 = w.2 := rfl
theorem wJ_at (w : ee_W) (h k : Nat) (x : Int64) (a b : Nat) : (ee_wJ w h k x).2.1 a b = if a = h ∧ b = k then x else w.2.1 a b := rfl
theorem wJ_1 (w : ee_W) (h k : Nat) (x : Int64) : (ee_wJ w h k x).1 = w.1 := rfl
theorem wJ_2 (w : ee_W) (h k : Nat) (x : Int64) : (ee_wJ w h k x).2.2 = w.2.2 := rfl
theorem zz_ce (h : Nat) : (h + 1 = h) = False := eq_false (by omega)
theorem zz_ec (h : Nat) : (h = h + 1) = False := eq_false (by omega)
theorem zz_cf (h : Nat) : (h + 2 = h) = False := eq_false (by omega)
theorem zz_fc (h : Nat) : (h = h + 2) = False := eq_false (by omega)
theorem zz_ef (h : Nat) : (h + 1 = h + 2) = False := eq_false (by omega)
theorem zz_fe (h : Nat) : (h + 2 = h + 1) = False := eq_false (by omega)
theorem zero_ne_one_n : ((0 : Nat) = 1) = False := eq_false (by omega)
theorem one_ne_zero_n : ((1 : Nat) = 0) = False := eq_false (by omega)
/-- a relational rule for loops -/
theorem wh_n {S R : Type} {f : S → Option (S ⊕ R)} {I : Nat → S → Prop} {Q : R → Prop} (hs : ∀ n s, I n s → (∃ s' m, f s = some (.inl s') ∧ m < n ∧ I m s') ∨ (∃ r, f s = some (.inr r) ∧ Q r)) : ∀ n s, I n s → ∃ r, ee_wh f s = some r ∧ Q r := by
  intro n
  induction n using Nat.strongRecOn with
  | _ n ih =>
    intro s hi
    rcases hs n s hi with ⟨s', m, hf, hm, hi'⟩ | ⟨r, hf, hq⟩
    · obtain ⟨r, hr, hq⟩ := ih m hm s' hi'
      refine ⟨r, ?_, hq⟩
      rw [ee_wh_eq, hf]
      exact hr
    · refine ⟨r, ?_, hq⟩
      rw [ee_wh_eq, hf]
/-- what may have changed -/
def chg (p : Nat → Bool) (w w' : ee_W) : Prop := (∀ c k, p c = false → w'.1 c k = w.1 c k) ∧ w'.2.2 = w.2.2
theorem chg_refl (p : Nat → Bool) (w : ee_W) : chg p w w := ⟨fun _ _ _ => rfl, rfl⟩
theorem chg_trans {p : Nat → Bool} {w w' w'' : ee_W} (h : chg p w w') (h2 : chg p w' w'') : chg p w w'' := ⟨fun c k hp => (h2.1 c k hp).trans (h.1 c k hp), h2.2.trans h.2⟩
theorem chg_mono {p q : Nat → Bool} {w w' : ee_W} (h : chg p w w') (hpq : ∀ c, q c = false → p c = false) : chg q w w' := ⟨fun c k hq => h.1 c k (hpq c hq), h.2⟩
def rg (a b : Nat) (c : Nat) : Bool := decide (a ≤ c) && decide (c < b)
theorem rg_f {a b c : Nat} : rg a b c = false ↔ c < a ∨ b ≤ c := by
  unfold rg
  by_cases h : a ≤ c <;> by_cases h2 : c < b <;> simp [h, h2] <;> omega
def rgo (p q : Nat → Bool) (c : Nat) : Bool := p c || q c
theorem rgo_f {p q : Nat → Bool} {c : Nat} : rgo p q c = false ↔ p c = false ∧ q c = false := by
  unfold rgo
  cases p c <;> cases q c <;> simp
/-- numbers that index -/
theorem tnc {n : Nat} (h : n < 2147483648) : (Int32.ofNat n).toNatClampNeg = n := by
  have := nI_t h
  show (Int32.ofNat n).toInt.toNat = n
  omega
theorem ixn {n m : Nat} (h : n < 2147483648) : ee_ix (Int32.ofNat n) m = decide (n < m) := by
  unfold ee_ix
  rw [nI_t h]
  by_cases q : n < m
  · rw [decide_eq_true (show (0 : Int) ≤ (n : Int) by omega), decide_eq_true (show (n : Int) < (m : Int) by omega), decide_eq_true q]; rfl
  · rw [decide_eq_true (show (0 : Int) ≤ (n : Int) by omega), decide_eq_false (show ¬ (n : Int) < (m : Int) by omega), decide_eq_false q]; rfl
theorem ofN {x : Int32} (h : 0 ≤ x.toInt) : x = Int32.ofNat x.toInt.toNat := by
  obtain ⟨n, h1, h2, h3⟩ := j_of h
  rw [h3]
  exact h2
/-- heads, abstract: 0 clock 1 x 2 place 3 speed 4 target 5 error 6 settled 7 written 8 struck, 10 .. 17 learnt; the book's lines -/
abbrev HX : Type := (Nat → Int32) × Nat × (Nat → Int32 × Int32 × Int32)
def up (f : Nat → Int32) (k : Nat) (x : Int32) : Nat → Int32 := fun a => if a = k then x else f a
theorem up_at (f : Nat → Int32) (k : Nat) (x : Int32) (a : Nat) : up f k x a = if a = k then x else f a := rfl
def hd_ok (h : Nat) : Prop := es_sh h = (12, 0) ∧ es_rf h 10 = some (h + 1) ∧ es_rf h 11 = some (h + 2) ∧ es_sh (h + 1) = (0, 8) ∧ es_sh (h + 2) = (0, 75)
def CH (w : ee_W) (h : Nat) (X : HX) : Prop :=
  (w.1 h 7 = X.1 0 ∧ w.1 h 8 = X.1 1 ∧ w.1 h 0 = X.1 2 ∧ w.1 h 1 = X.1 3 ∧ w.1 h 2 = X.1 4 ∧ w.1 h 3 = X.1 5 ∧ w.1 h 4 = X.1 6 ∧ w.1 h 5 = X.1 7 ∧ w.1 h 6 = X.1 8) ∧ w.1 h 9 = Int32.ofNat X.2.1 ∧
  (∀ k, k < 8 → w.1 (h + 1) k = X.1 (10 + k)) ∧ (∀ i, i < X.2.1 → w.1 (h + 2) (3 * i) = (X.2.2 i).1 ∧ w.1 (h + 2) (3 * i + 1) = (X.2.2 i).2.1 ∧ w.1 (h + 2) (3 * i + 2) = (X.2.2 i).2.2)
def hrg (h : Nat) : Nat → Bool := rg h (h + 3)
theorem CH_chg {p : Nat → Bool} {w w' : ee_W} {h : Nat} {X : HX} (hX : CH w h X) (hc : chg p w w') (h0 : p h = false) (h1 : p (h + 1) = false) (h2 : p (h + 2) = false) : CH w' h X := by
  obtain ⟨⟨a0, a1, a2, a3, a4, a5, a6, a7, a8⟩, a9, a10, a11⟩ := hX
  refine ⟨?_, ?_, ?_, ?_⟩
  · simp only [hc.1 _ _ h0]
    exact ⟨a0, a1, a2, a3, a4, a5, a6, a7, a8⟩
  · rw [hc.1 _ _ h0]; exact a9
  · intro k hk; rw [hc.1 _ _ h1]; exact a10 k hk
  · intro i hi
    rw [hc.1 _ _ h2, hc.1 _ _ h2, hc.1 _ _ h2]; exact a11 i hi
theorem rvs (h : Nat) : ee_rv (some h) = .ref h := rfl
/-- copying a part of an array -/
def cpk (sh : Nat → Nat × Nat) (a : Nat) (sp : Int32) (b : Nat) (dp n : Int32) : Bool := decide ((sh a).1 = 0 ∧ (sh b).1 = 0 ∧ 0 ≤ sp.toInt ∧ 0 ≤ dp.toInt ∧ 0 ≤ n.toInt ∧ sp.toInt + n.toInt ≤ (sh a).2 ∧ dp.toInt + n.toInt ≤ (sh b).2)
def cpw (w : ee_W) (a : Nat) (sp : Int32) (b : Nat) (dp n : Int32) : ee_W := (fun c k => if c = b ∧ dp.toNatClampNeg ≤ k ∧ k < dp.toNatClampNeg + n.toNatClampNeg then w.1 a (sp.toNatClampNeg + (k - dp.toNatClampNeg)) else w.1 c k, w.2)
theorem cpw_at (w : ee_W) (a : Nat) (sp : Int32) (b : Nat) (dp n : Int32) (c k : Nat) : (cpw w a sp b dp n).1 c k = if c = b ∧ dp.toNatClampNeg ≤ k ∧ k < dp.toNatClampNeg + n.toNatClampNeg then w.1 a (sp.toNatClampNeg + (k - dp.toNatClampNeg)) else w.1 c k := rfl
theorem v_copy2 {sh : Nat → Nat × Nat} {rf : Nat → Nat → Option Nat} {C : Nat → List Value → ee_W → Option (List Value × ee_W)} {env : ee_E} {w : ee_W} (e : ee_T) : ee_ev sh rf C (n_copy e) env w = (match ee_ev sh rf C e env w with
  | none => none
  | some (vs, w1) => match vs with
      | [.ref a, .int sp, .ref b, .int dp, .int n] => if cpk sh a sp b dp n = true then some ([], cpw w1 a sp b dp n) else none
      | _ => none) := by
  rw [v_copy]
  cases ee_ev sh rf C e env w with
  | none => rfl
  | some r =>
    obtain ⟨vs, w1⟩ := r
    dsimp only
    split
    · unfold cpk
      simp only [decide_eq_true_eq]
      rfl
    · rename_i hx
      split
      · rename_i a sp b dp n
        exact (hx a sp b dp n rfl).elim
      · rfl
theorem chg_I {p : Nat → Bool} {w w1 : ee_W} {h k : Nat} {x : Int32} (hp : p h = true) (hc : chg p w w1) : chg p w (ee_wI w1 h k x) := by
  refine ⟨fun c j hj => ?_, hc.2⟩
  rw [wI_at, if_neg (fun z => by rw [z.1, hp] at hj; cases hj)]
  exact hc.1 c j hj
theorem chg_cp {p : Nat → Bool} {w w1 : ee_W} {a b : Nat} {sp dp n : Int32} (hp : p b = true) (hc : chg p w w1) : chg p w (cpw w1 a sp b dp n) := by
  refine ⟨fun c j hj => ?_, hc.2⟩
  rw [cpw_at, if_neg (fun z => by rw [z.1, hp] at hj; cases hj)]
  exact hc.1 c j hj
theorem hrg_0 (h : Nat) : hrg h h = true := by unfold hrg rg; simp
theorem hrg_1 (h : Nat) : hrg h (h + 1) = true := by unfold hrg rg; simp
theorem hrg_2 (h : Nat) : hrg h (h + 2) = true := by unfold hrg rg; simp
/-- a field of a head, by its place in the abstract one -/
def fi : Nat → Nat
  | 0 => 2
  | 1 => 3
  | 2 => 4
  | 3 => 5
  | 4 => 6
  | 5 => 7
  | 6 => 8
  | 7 => 0
  | 8 => 1
  | k => k
theorem CH_put {w : ee_W} {h : Nat} {X : HX} (hX : CH w h X) (k : Nat) (hk : k < 9) (x : Int32) : CH (ee_wI w h k x) h (up X.1 (fi k) x, X.2) := by
  obtain ⟨⟨a0, a1, a2, a3, a4, a5, a6, a7, a8⟩, a9, a10, a11⟩ := hX
  refine ⟨?_, ?_, ?_, ?_⟩
  · have : k = 0 ∨ k = 1 ∨ k = 2 ∨ k = 3 ∨ k = 4 ∨ k = 5 ∨ k = 6 ∨ k = 7 ∨ k = 8 := by omega
    rcases this with rfl | rfl | rfl | rfl | rfl | rfl | rfl | rfl | rfl <;> simp [wI_at, up_at, fi, a0, a1, a2, a3, a4, a5, a6, a7, a8]
  · have q : ¬ 9 = k := by omega
    simp [wI_at, q, a9]
  · intro j hj
    have q : ¬ 10 + j = fi k := by
      have : k = 0 ∨ k = 1 ∨ k = 2 ∨ k = 3 ∨ k = 4 ∨ k = 5 ∨ k = 6 ∨ k = 7 ∨ k = 8 := by omega
      rcases this with rfl | rfl | rfl | rfl | rfl | rfl | rfl | rfl | rfl <;> simp only [fi] <;> omega
    show _ = up X.1 (fi k) x (10 + j)
    rw [wI_at, if_neg (by omega), up_at, if_neg q]
    exact a10 j hj
  · intro i hi
    rw [wI_at, if_neg (by omega), wI_at, if_neg (by omega), wI_at, if_neg (by omega)]
    exact a11 i hi
theorem CH_learn {w : ee_W} {h : Nat} {X : HX} (hX : CH w h X) (k : Nat) (x : Int32) : CH (ee_wI w (h + 1) k x) h (up X.1 (10 + k) x, X.2) := by
  obtain ⟨⟨a0, a1, a2, a3, a4, a5, a6, a7, a8⟩, a9, a10, a11⟩ := hX
  refine ⟨?_, ?_, ?_, ?_⟩
  · have t : ∀ j, j < 9 → up X.1 (10 + k) x j = X.1 j := fun j hj => by rw [up_at, if_neg (by omega)]
    have t2 : ∀ j, (ee_wI w (h + 1) k x).1 h j = w.1 h j := fun j => by rw [wI_at, if_neg (by omega)]
    simp only [t2, t _ (show 0 < 9 by omega), t _ (show 1 < 9 by omega), t _ (show 2 < 9 by omega), t _ (show 3 < 9 by omega), t _ (show 4 < 9 by omega), t _ (show 5 < 9 by omega), t _ (show 6 < 9 by omega), t _ (show 7 < 9 by omega), t _ (show 8 < 9 by omega)]
    exact ⟨a0, a1, a2, a3, a4, a5, a6, a7, a8⟩
  · rw [wI_at, if_neg (by omega)]
    exact a9
  · intro j hj
    show _ = up X.1 (10 + k) x (10 + j)
    rw [wI_at, up_at]
    by_cases q : j = k
    · rw [if_pos ⟨rfl, q⟩, if_pos (by omega)]
    · rw [if_neg (fun z => q z.2), if_neg (by omega)]
      exact a10 j hj
  · intro i hi
    rw [wI_at, if_neg (by omega), wI_at, if_neg (by omega), wI_at, if_neg (by omega)]
    exact a11 i hi
theorem j_m (m n : Nat) : Int32.ofNat m * Int32.ofNat n = Int32.ofNat (m * n) := (Int32.ofNat_mul m n).symm
end BA
