/-! rules for evaluating, and specs of the small methods -/
theorem fin_i {w : ee_W} (v : Int32) : ee_fin (some .int) (some (.inr ([.int v], w))) = some ([.int v], w) := rfl
theorem fin_l {w : ee_W} (v : Int64) : ee_fin (some .long) (some (.inr ([.long v], w))) = some ([.long v], w) := rfl
theorem fin_v {w : ee_W} : ee_fin none (some (.inr ([], w))) = some ([], w) := rfl
theorem fin_z {w : ee_W} (b : Bool) : ee_fin (some .boolean) (some (.inr ([.int (ee_b b)], w))) = some ([.int (ee_b b)], w) := by cases b <;> rfl
theorem fin_z1 {w : ee_W} : ee_fin (some .boolean) (some (.inr ([.int 1], w))) = some ([.int (ee_b true)], w) := rfl
theorem fin_z0 {w : ee_W} : ee_fin (some .boolean) (some (.inr ([.int 0], w))) = some ([.int (ee_b false)], w) := rfl
theorem fin_a {w : ee_W} (n : String) (h : Nat) : ee_fin (some (.object n)) (some (.inr ([.ref h], w))) = some ([.ref h], w) := rfl
theorem fin_n {w : ee_W} (n : String) : ee_fin (some (.object n)) (some (.inr ([.null], w))) = some ([.null], w) := rfl
theorem ib_and {p : Prop} [Decidable p] {w : ee_W} (q : Bool) : (if p then some ([Value.int (ee_b q)], w) else some ([Value.int (ee_b false)], w)) = some ([Value.int (ee_b (decide p && q))], w) := by by_cases h : p <;> simp [h]
theorem ib_or {p : Prop} [Decidable p] {w : ee_W} (q : Bool) : (if p then some ([Value.int (ee_b true)], w) else some ([Value.int (ee_b q)], w)) = some ([Value.int (ee_b (decide p || q))], w) := by by_cases h : p <;> simp [h]
theorem ib_i {p : Prop} [Decidable p] {w : ee_W} (a b : Int32) : (if p then some ([Value.int a], w) else some ([Value.int b], w)) = some ([Value.int (if p then a else b)], w) := by by_cases h : p <;> simp [h]
theorem ib_l {p : Prop} [Decidable p] {w : ee_W} (a b : Int64) : (if p then some ([Value.long a], w) else some ([Value.long b], w)) = some ([Value.long (if p then a else b)], w) := by by_cases h : p <;> simp [h]
theorem ee_cmpL0 (x y : Int64) : ee_cmpL 0 x y = some (decide (x = y)) := rfl
theorem ee_cmpL1 (x y : Int64) : ee_cmpL 1 x y = some (decide (¬ x = y)) := rfl
theorem ee_cmpL2 (x y : Int64) : ee_cmpL 2 x y = some (decide (x < y)) := rfl
theorem ee_cmpL3 (x y : Int64) : ee_cmpL 3 x y = some (decide (y ≤ x)) := rfl
theorem ee_cmpL4 (x y : Int64) : ee_cmpL 4 x y = some (decide (y < x)) := rfl
theorem ee_cmpL5 (x y : Int64) : ee_cmpL 5 x y = some (decide (x ≤ y)) := rfl
theorem bi_0 (x y : Int32) : ee_bin 0 (.int x) (.int y) = some (.int (x + y)) := rfl
theorem bi_1 (x y : Int32) : ee_bin 1 (.int x) (.int y) = some (.int (x - y)) := rfl
theorem bi_2 (x y : Int32) : ee_bin 2 (.int x) (.int y) = some (.int (x * y)) := rfl
theorem bi_3 (x y : Int32) : ee_bin 3 (.int x) (.int y) = if y = 0 then none else some (.int (x / y)) := by
  show Option.map Value.int (if y = 0 then none else some (x / y)) = _
  split <;> rfl
theorem bi_4 (x y : Int32) : ee_bin 4 (.int x) (.int y) = if y = 0 then none else some (.int (x - x / y * y)) := by
  show Option.map Value.int (if y = 0 then none else some (x - x / y * y)) = _
  split <;> rfl
theorem bi_5 (x y : Int32) : ee_bin 5 (.int x) (.int y) = some (.int (x &&& y)) := rfl
theorem bi_6 (x y : Int32) : ee_bin 6 (.int x) (.int y) = some (.int (x ||| y)) := rfl
theorem bi_7 (x y : Int32) : ee_bin 7 (.int x) (.int y) = some (.int (x ^^^ y)) := rfl
theorem bi_8 (x y : Int32) : ee_bin 8 (.int x) (.int y) = some (.int (x <<< (y &&& 31))) := rfl
theorem bi_9 (x y : Int32) : ee_bin 9 (.int x) (.int y) = some (.int (x >>> (y &&& 31))) := rfl
theorem bi_10 (x y : Int32) : ee_bin 10 (.int x) (.int y) = some (.int (x.toUInt32 >>> (y.toUInt32 &&& Int32.toUInt32 31)).toInt32) := rfl
theorem bl_20 (x y : Int64) : ee_bin 20 (.long x) (.long y) = some (.long (x + y)) := rfl
theorem bl_21 (x y : Int64) : ee_bin 21 (.long x) (.long y) = some (.long (x - y)) := rfl
theorem bl_22 (x y : Int64) : ee_bin 22 (.long x) (.long y) = some (.long (x * y)) := rfl
theorem bl_23 (x y : Int64) : ee_bin 23 (.long x) (.long y) = if y = 0 then none else some (.long (x / y)) := by
  show (if 20 ≤ 23 then Option.map Value.long (if y = 0 then none else some (x / y)) else none) = _
  rw [if_pos (by decide)]
  split <;> rfl
theorem bl_24 (x y : Int64) : ee_bin 24 (.long x) (.long y) = if y = 0 then none else some (.long (x - x / y * y)) := by
  show (if 20 ≤ 24 then Option.map Value.long (if y = 0 then none else some (x - x / y * y)) else none) = _
  rw [if_pos (by decide)]
  split <;> rfl
theorem bl_25 (x y : Int64) : ee_bin 25 (.long x) (.long y) = some (.long (x &&& y)) := rfl
theorem bl_26 (x y : Int64) : ee_bin 26 (.long x) (.long y) = some (.long (x ||| y)) := rfl
theorem bl_48 (x : Int64) (y : Int32) : ee_bin 48 (.long x) (.int y) = some (.long (x <<< (y.toInt64 &&& 63))) := rfl
theorem bl_49 (x : Int64) (y : Int32) : ee_bin 49 (.long x) (.int y) = some (.long (x >>> (y.toInt64 &&& 63))) := rfl
theorem un_0 (x : Int32) : ee_un 0 (.int x) = some (.int (-x)) := rfl
theorem un_1 (x : Int32) : ee_un 1 (.int x) = some (.long x.toInt64) := rfl
theorem un_2 (x : Int64) : ee_un 2 (.long x) = some (.int x.toInt32) := rfl
theorem un_3 (x : Int64) : ee_un 3 (.long x) = some (.long (-x)) := rfl
theorem st_i (env : ee_E) (i : Nat) (x : Int32) : ee_set env i 0 (.int x) = if ee_noL env i = true ∧ i < List.length env then some (List.set env i (some (.int x))) else none := rfl
theorem st_l (env : ee_E) (i : Nat) (x : Int64) : ee_set env i 1 (.long x) = if ee_noL env i = true ∧ i < List.length env then (if i + 1 < List.length env then some ((List.set env i (some (.long x))).set (i + 1) none) else none) else none := rfl
theorem st_r (env : ee_E) (i : Nat) (x : Nat) : ee_set env i 2 (.ref x) = if ee_noL env i = true ∧ i < List.length env then some (List.set env i (some (.ref x))) else none := rfl
theorem st_n (env : ee_E) (i : Nat) : ee_set env i 2 .null = if ee_noL env i = true ∧ i < List.length env then some (List.set env i (some .null)) else none := rfl
theorem ie_b {p : Prop} [Decidable p] (a b : Bool) : (if p then ee_b a else ee_b b) = ee_b (if p then a else b) := by by_cases h : p <;> simp [h]
theorem ie_f {p : Prop} [Decidable p] (q : Bool) : (if p then q else false) = (decide p && q) := by by_cases h : p <;> simp [h]
theorem ie_t {p : Prop} [Decidable p] (q : Bool) : (if p then true else q) = (decide p || q) := by by_cases h : p <;> simp [h]
theorem pu_0 (w : ee_W) (h k : Nat) (x : Int32) : ee_put w h k 0 (.int x) = some (ee_wI w h k x) := rfl
theorem pu_1 (w : ee_W) (h k : Nat) (x : Int64) : ee_put w h k 1 (.long x) = some (ee_wJ w h k x) := rfl
theorem pu_3 (w : ee_W) (h k : Nat) (b : Bool) : ee_put w h k 3 (.int (ee_b b)) = some (ee_wI w h k (ee_b b)) := by cases b <;> rfl
theorem sto_0 {sh : Nat → Nat × Nat} (w : ee_W) (h : Nat) (i x : Int32) : ee_sto sh w h 0 i (.int x) = if (sh h).1 = 0 ∧ ee_ix i (sh h).2 = true then some (ee_wI w h i.toNatClampNeg x) else none := rfl
theorem el_0 {rf : Nat → Nat → Option Nat} (w : ee_W) (h : Nat) (i : Int32) : ee_elt rf w h 0 i = .int (w.1 h i.toNatClampNeg) := rfl
theorem fin_ite {p : Prop} [Decidable p] (ret : Option FieldType) (a b : Option ee_O) : ee_fin ret (if p then a else b) = if p then ee_fin ret a else ee_fin ret b := by by_cases h : p <;> simp [h]
/-! loops over a state of one's own choosing: 'next' answers the next state, or what is returned; the turn is taken while 'cond' -/
def lp {σ : Type} (cond : σ → Bool) (next : σ → σ) : Nat → σ → σ
  | 0, s => s
  | n + 1, s => if cond s then lp cond next n (next s) else s
theorem ee_wh_lp {σ : Type} {x : ee_S} {b : ee_Z} (emb : σ → ee_E × ee_W) (cond : σ → Bool) (next : σ → σ) (inv : σ → Prop) (μ : σ → Nat)
    (hs : ∀ s, inv s → ee_turn x b (emb s) = if cond s then some (.inl (emb (next s))) else some (.inr (.inl (emb s)))) (hi : ∀ s, inv s → cond s = true → inv (next s)) (hm : ∀ s, inv s → cond s = true → μ (next s) < μ s) :
    ∀ (n : Nat) (s : σ), inv s → μ s ≤ n → ee_wh (ee_turn x b) (emb s) = some (.inl (emb (lp cond next n s))) ∧ inv (lp cond next n s) ∧ cond (lp cond next n s) = false := by
  intro n
  induction n with
  | zero =>
    intro s h hn
    have hc : cond s = false := by
      cases hc : cond s with
      | false => rfl
      | true => have := hm s h hc; omega
    rw [ee_wh_eq, hs s h, hc]
    exact ⟨rfl, h, hc⟩
  | succ n ih =>
    intro s h hn
    cases hc : cond s with
    | false =>
      rw [ee_wh_eq, hs s h, hc]
      simp only [lp, hc]
      exact ⟨rfl, h, hc⟩
    | true =>
      rw [ee_wh_eq, hs s h, hc]
      simp only [lp, hc, if_true]
      exact ih (next s) (hi s h hc) (by have := hm s h hc; omega)
def lpR {σ R : Type} (cond : σ → Bool) (next : σ → σ ⊕ R) : Nat → σ → σ ⊕ R
  | 0, s => .inl s
  | n + 1, s => if cond s then (match next s with
    | .inl s' => lpR cond next n s'
    | .inr r => .inr r) else .inl s
theorem ee_wh_lpR {σ R : Type} {x : ee_S} {b : ee_Z} (emb : σ → ee_E × ee_W) (ret : R → List Value × ee_W) (cond : σ → Bool) (next : σ → σ ⊕ R) (inv : σ → Prop) (μ : σ → Nat)
    (hs : ∀ s, inv s → ee_turn x b (emb s) = if cond s then (match next s with
      | .inl s' => some (.inl (emb s'))
      | .inr r => some (.inr (.inr (ret r)))) else some (.inr (.inl (emb s)))) (hi : ∀ s s', inv s → cond s = true → next s = .inl s' → inv s') (hm : ∀ s s', inv s → cond s = true → next s = .inl s' → μ s' < μ s) :
    ∀ (n : Nat) (s : σ), inv s → μ s < n → ee_wh (ee_turn x b) (emb s) = (match lpR cond next n s with
      | .inl s' => some (.inl (emb s'))
      | .inr r => some (.inr (ret r))) := by
  intro n
  induction n with
  | zero => intro s h hn; omega
  | succ n ih =>
    intro s h hn
    cases hc : cond s with
    | false =>
      rw [ee_wh_eq, hs s h, hc]
      simp only [lpR, hc]
      rfl
    | true =>
      rw [ee_wh_eq, hs s h, hc]
      simp only [lpR, hc, if_true]
      cases hn2 : next s with
      | inr r => rfl
      | inl s' =>
        simp only
        exact ih s' (hi s s' h hc hn2) (by have := hm s s' h hc hn2; omega)
theorem k_0 : Int32.ofNat 0 = 0 := rfl
theorem k_1 : Int32.ofNat 1 = 1 := rfl
theorem k_2 : Int32.ofNat 2 = 2 := rfl
theorem k_3 : Int32.ofNat 3 = 3 := rfl
theorem k_4 : Int32.ofNat 4 = 4 := rfl
theorem k_5 : Int32.ofNat 5 = 5 := rfl
theorem k_6 : Int32.ofNat 6 = 6 := rfl
theorem k_7 : Int32.ofNat 7 = 7 := rfl
theorem k_8 : Int32.ofNat 8 = 8 := rfl
theorem k_9 : Int32.ofNat 9 = 9 := rfl
theorem k_10 : Int32.ofNat 10 = 10 := rfl
theorem k_11 : Int32.ofNat 11 = 11 := rfl
theorem k_12 : Int32.ofNat 12 = 12 := rfl
theorem k_13 : Int32.ofNat 13 = 13 := rfl
theorem k_14 : Int32.ofNat 14 = 14 := rfl
theorem k_15 : Int32.ofNat 15 = 15 := rfl
theorem k_16 : Int32.ofNat 16 = 16 := rfl
theorem k_17 : Int32.ofNat 17 = 17 := rfl
theorem k_18 : Int32.ofNat 18 = 18 := rfl
theorem k_20 : Int32.ofNat 20 = 20 := rfl
theorem k_21 : Int32.ofNat 21 = 21 := rfl
theorem k_22 : Int32.ofNat 22 = 22 := rfl
theorem k_23 : Int32.ofNat 23 = 23 := rfl
theorem k_24 : Int32.ofNat 24 = 24 := rfl
theorem k_25 : Int32.ofNat 25 = 25 := rfl
theorem k_26 : Int32.ofNat 26 = 26 := rfl
theorem k_27 : Int32.ofNat 27 = 27 := rfl
theorem k_28 : Int32.ofNat 28 = 28 := rfl
theorem k_29 : Int32.ofNat 29 = 29 := rfl
theorem k_30 : Int32.ofNat 30 = 30 := rfl
theorem k_31 : Int32.ofNat 31 = 31 := rfl
theorem k_32 : Int32.ofNat 32 = 32 := rfl
theorem k_33 : Int32.ofNat 33 = 33 := rfl
theorem k_34 : Int32.ofNat 34 = 34 := rfl
theorem k_35 : Int32.ofNat 35 = 35 := rfl
theorem k_36 : Int32.ofNat 36 = 36 := rfl
theorem k_37 : Int32.ofNat 37 = 37 := rfl
theorem k_38 : Int32.ofNat 38 = 38 := rfl
theorem k_39 : Int32.ofNat 39 = 39 := rfl
theorem k_40 : Int32.ofNat 40 = 40 := rfl
theorem k_41 : Int32.ofNat 41 = 41 := rfl
theorem k_42 : Int32.ofNat 42 = 42 := rfl
theorem k_43 : Int32.ofNat 43 = 43 := rfl
theorem k_45 : Int32.ofNat 45 = 45 := rfl
theorem k_47 : Int32.ofNat 47 = 47 := rfl
theorem k_48 : Int32.ofNat 48 = 48 := rfl
theorem k_54 : Int32.ofNat 54 = 54 := rfl
theorem k_57 : Int32.ofNat 57 = 57 := rfl
theorem k_59 : Int32.ofNat 59 = 59 := rfl
theorem k_60 : Int32.ofNat 60 = 60 := rfl
theorem k_61 : Int32.ofNat 61 = 61 := rfl
theorem k_62 : Int32.ofNat 62 = 62 := rfl
theorem k_63 : Int32.ofNat 63 = 63 := rfl
theorem k_64 : Int32.ofNat 64 = 64 := rfl
theorem k_65 : Int32.ofNat 65 = 65 := rfl
theorem k_72 : Int32.ofNat 72 = 72 := rfl
theorem k_73 : Int32.ofNat 73 = 73 := rfl
theorem k_75 : Int32.ofNat 75 = 75 := rfl
theorem k_90 : Int32.ofNat 90 = 90 := rfl
theorem k_97 : Int32.ofNat 97 = 97 := rfl
theorem k_98 : Int32.ofNat 98 = 98 := rfl
theorem k_99 : Int32.ofNat 99 = 99 := rfl
theorem k_100 : Int32.ofNat 100 = 100 := rfl
theorem k_101 : Int32.ofNat 101 = 101 := rfl
theorem k_102 : Int32.ofNat 102 = 102 := rfl
theorem k_103 : Int32.ofNat 103 = 103 := rfl
theorem k_104 : Int32.ofNat 104 = 104 := rfl
theorem k_105 : Int32.ofNat 105 = 105 := rfl
theorem k_107 : Int32.ofNat 107 = 107 := rfl
theorem k_108 : Int32.ofNat 108 = 108 := rfl
theorem k_110 : Int32.ofNat 110 = 110 := rfl
theorem k_111 : Int32.ofNat 111 = 111 := rfl
theorem k_112 : Int32.ofNat 112 = 112 := rfl
theorem k_114 : Int32.ofNat 114 = 114 := rfl
theorem k_115 : Int32.ofNat 115 = 115 := rfl
theorem k_116 : Int32.ofNat 116 = 116 := rfl
theorem k_117 : Int32.ofNat 117 = 117 := rfl
theorem k_118 : Int32.ofNat 118 = 118 := rfl
theorem k_119 : Int32.ofNat 119 = 119 := rfl
theorem k_121 : Int32.ofNat 121 = 121 := rfl
theorem k_122 : Int32.ofNat 122 = 122 := rfl
theorem k_200 : Int32.ofNat 200 = 200 := rfl
theorem k_255 : Int32.ofNat 255 = 255 := rfl
theorem k_280 : Int32.ofNat 280 = 280 := rfl
theorem k_299 : Int32.ofNat 299 = 299 := rfl
theorem k_300 : Int32.ofNat 300 = 300 := rfl
theorem k_467 : Int32.ofNat 467 = 467 := rfl
theorem k_601 : Int32.ofNat 601 = 601 := rfl
theorem k_610 : Int32.ofNat 610 = 610 := rfl
theorem k_681 : Int32.ofNat 681 = 681 := rfl
theorem k_739 : Int32.ofNat 739 = 739 := rfl
theorem k_999 : Int32.ofNat 999 = 999 := rfl
theorem k_1000 : Int32.ofNat 1000 = 1000 := rfl
theorem k_1023 : Int32.ofNat 1023 = 1023 := rfl
theorem k_1064 : Int32.ofNat 1064 = 1064 := rfl
theorem k_1247 : Int32.ofNat 1247 = 1247 := rfl
theorem k_1344 : Int32.ofNat 1344 = 1344 := rfl
theorem k_1369 : Int32.ofNat 1369 = 1369 := rfl
theorem k_9999 : Int32.ofNat 9999 = 9999 := rfl
theorem k_10000 : Int32.ofNat 10000 = 10000 := rfl
theorem k_31069 : Int32.ofNat 31069 = 31069 := rfl
theorem k_99999 : Int32.ofNat 99999 = 99999 := rfl
theorem k_1000000 : Int32.ofNat 1000000 = 1000000 := rfl
theorem k_252645135 : Int32.ofNat 252645135 = 252645135 := rfl
theorem k_858993459 : Int32.ofNat 858993459 = 858993459 := rfl
theorem k_1431655765 : Int32.ofNat 1431655765 = 1431655765 := rfl
theorem k_4294957296 : Int32.ofNat 4294957296 = -10000 := rfl
theorem k_4294966296 : Int32.ofNat 4294966296 = -1000 := rfl
theorem k_4294966297 : Int32.ofNat 4294966297 = -999 := rfl
theorem k_4294967196 : Int32.ofNat 4294967196 = -100 := rfl
theorem k_4294967197 : Int32.ofNat 4294967197 = -99 := rfl
theorem k_4294967232 : Int32.ofNat 4294967232 = -64 := rfl
theorem k_4294967256 : Int32.ofNat 4294967256 = -40 := rfl
theorem k_4294967287 : Int32.ofNat 4294967287 = -9 := rfl
theorem k_4294967289 : Int32.ofNat 4294967289 = -7 := rfl
theorem k_4294967292 : Int32.ofNat 4294967292 = -4 := rfl
theorem k_4294967293 : Int32.ofNat 4294967293 = -3 := rfl
theorem k_4294967294 : Int32.ofNat 4294967294 = -2 := rfl
theorem k_4294967295 : Int32.ofNat 4294967295 = -1 := rfl
theorem nz_1 : ¬ ((1 : Int32) = 0) := by decide
theorem nz_2 : ¬ ((2 : Int32) = 0) := by decide
theorem nz_3 : ¬ ((3 : Int32) = 0) := by decide
theorem nz_4 : ¬ ((4 : Int32) = 0) := by decide
theorem nz_5 : ¬ ((5 : Int32) = 0) := by decide
theorem nz_6 : ¬ ((6 : Int32) = 0) := by decide
theorem nz_7 : ¬ ((7 : Int32) = 0) := by decide
theorem nz_8 : ¬ ((8 : Int32) = 0) := by decide
theorem nz_9 : ¬ ((9 : Int32) = 0) := by decide
theorem nz_10 : ¬ ((10 : Int32) = 0) := by decide
theorem nz_11 : ¬ ((11 : Int32) = 0) := by decide
theorem nz_12 : ¬ ((12 : Int32) = 0) := by decide
theorem nz_13 : ¬ ((13 : Int32) = 0) := by decide
theorem nz_14 : ¬ ((14 : Int32) = 0) := by decide
theorem nz_15 : ¬ ((15 : Int32) = 0) := by decide
theorem nz_16 : ¬ ((16 : Int32) = 0) := by decide
theorem nz_17 : ¬ ((17 : Int32) = 0) := by decide
theorem nz_18 : ¬ ((18 : Int32) = 0) := by decide
theorem nz_20 : ¬ ((20 : Int32) = 0) := by decide
theorem nz_21 : ¬ ((21 : Int32) = 0) := by decide
theorem nz_22 : ¬ ((22 : Int32) = 0) := by decide
theorem nz_23 : ¬ ((23 : Int32) = 0) := by decide
theorem nz_24 : ¬ ((24 : Int32) = 0) := by decide
theorem nz_25 : ¬ ((25 : Int32) = 0) := by decide
theorem nz_26 : ¬ ((26 : Int32) = 0) := by decide
theorem nz_27 : ¬ ((27 : Int32) = 0) := by decide
theorem nz_28 : ¬ ((28 : Int32) = 0) := by decide
theorem nz_29 : ¬ ((29 : Int32) = 0) := by decide
theorem nz_30 : ¬ ((30 : Int32) = 0) := by decide
theorem nz_31 : ¬ ((31 : Int32) = 0) := by decide
theorem nz_32 : ¬ ((32 : Int32) = 0) := by decide
theorem nz_33 : ¬ ((33 : Int32) = 0) := by decide
theorem nz_34 : ¬ ((34 : Int32) = 0) := by decide
theorem nz_35 : ¬ ((35 : Int32) = 0) := by decide
theorem nz_36 : ¬ ((36 : Int32) = 0) := by decide
theorem nz_37 : ¬ ((37 : Int32) = 0) := by decide
theorem nz_38 : ¬ ((38 : Int32) = 0) := by decide
theorem nz_39 : ¬ ((39 : Int32) = 0) := by decide
theorem nz_40 : ¬ ((40 : Int32) = 0) := by decide
theorem nz_41 : ¬ ((41 : Int32) = 0) := by decide
theorem nz_42 : ¬ ((42 : Int32) = 0) := by decide
theorem nz_43 : ¬ ((43 : Int32) = 0) := by decide
theorem nz_45 : ¬ ((45 : Int32) = 0) := by decide
theorem nz_47 : ¬ ((47 : Int32) = 0) := by decide
theorem nz_48 : ¬ ((48 : Int32) = 0) := by decide
theorem nz_54 : ¬ ((54 : Int32) = 0) := by decide
theorem nz_57 : ¬ ((57 : Int32) = 0) := by decide
theorem nz_59 : ¬ ((59 : Int32) = 0) := by decide
theorem nz_60 : ¬ ((60 : Int32) = 0) := by decide
theorem nz_61 : ¬ ((61 : Int32) = 0) := by decide
theorem nz_62 : ¬ ((62 : Int32) = 0) := by decide
theorem nz_63 : ¬ ((63 : Int32) = 0) := by decide
theorem nz_64 : ¬ ((64 : Int32) = 0) := by decide
theorem nz_65 : ¬ ((65 : Int32) = 0) := by decide
theorem nz_72 : ¬ ((72 : Int32) = 0) := by decide
theorem nz_73 : ¬ ((73 : Int32) = 0) := by decide
theorem nz_75 : ¬ ((75 : Int32) = 0) := by decide
theorem nz_90 : ¬ ((90 : Int32) = 0) := by decide
theorem nz_97 : ¬ ((97 : Int32) = 0) := by decide
theorem nz_98 : ¬ ((98 : Int32) = 0) := by decide
theorem nz_99 : ¬ ((99 : Int32) = 0) := by decide
theorem nz_100 : ¬ ((100 : Int32) = 0) := by decide
theorem nz_101 : ¬ ((101 : Int32) = 0) := by decide
theorem nz_102 : ¬ ((102 : Int32) = 0) := by decide
theorem nz_103 : ¬ ((103 : Int32) = 0) := by decide
theorem nz_104 : ¬ ((104 : Int32) = 0) := by decide
theorem nz_105 : ¬ ((105 : Int32) = 0) := by decide
theorem nz_107 : ¬ ((107 : Int32) = 0) := by decide
theorem nz_108 : ¬ ((108 : Int32) = 0) := by decide
theorem nz_110 : ¬ ((110 : Int32) = 0) := by decide
theorem nz_111 : ¬ ((111 : Int32) = 0) := by decide
theorem nz_112 : ¬ ((112 : Int32) = 0) := by decide
theorem nz_114 : ¬ ((114 : Int32) = 0) := by decide
theorem nz_115 : ¬ ((115 : Int32) = 0) := by decide
theorem nz_116 : ¬ ((116 : Int32) = 0) := by decide
theorem nz_117 : ¬ ((117 : Int32) = 0) := by decide
theorem nz_118 : ¬ ((118 : Int32) = 0) := by decide
theorem nz_119 : ¬ ((119 : Int32) = 0) := by decide
theorem nz_121 : ¬ ((121 : Int32) = 0) := by decide
theorem nz_122 : ¬ ((122 : Int32) = 0) := by decide
theorem nz_200 : ¬ ((200 : Int32) = 0) := by decide
theorem nz_255 : ¬ ((255 : Int32) = 0) := by decide
theorem nz_280 : ¬ ((280 : Int32) = 0) := by decide
theorem nz_299 : ¬ ((299 : Int32) = 0) := by decide
theorem nz_300 : ¬ ((300 : Int32) = 0) := by decide
theorem nz_467 : ¬ ((467 : Int32) = 0) := by decide
theorem nz_601 : ¬ ((601 : Int32) = 0) := by decide
theorem nz_610 : ¬ ((610 : Int32) = 0) := by decide
theorem nz_681 : ¬ ((681 : Int32) = 0) := by decide
theorem nz_739 : ¬ ((739 : Int32) = 0) := by decide
theorem nz_999 : ¬ ((999 : Int32) = 0) := by decide
theorem nz_1000 : ¬ ((1000 : Int32) = 0) := by decide
theorem nz_1023 : ¬ ((1023 : Int32) = 0) := by decide
theorem nz_1064 : ¬ ((1064 : Int32) = 0) := by decide
theorem nz_1247 : ¬ ((1247 : Int32) = 0) := by decide
theorem nz_1344 : ¬ ((1344 : Int32) = 0) := by decide
theorem nz_1369 : ¬ ((1369 : Int32) = 0) := by decide
theorem nz_9999 : ¬ ((9999 : Int32) = 0) := by decide
theorem nz_10000 : ¬ ((10000 : Int32) = 0) := by decide
theorem nz_31069 : ¬ ((31069 : Int32) = 0) := by decide
theorem nz_99999 : ¬ ((99999 : Int32) = 0) := by decide
theorem nz_1000000 : ¬ ((1000000 : Int32) = 0) := by decide
theorem nz_252645135 : ¬ ((252645135 : Int32) = 0) := by decide
theorem nz_858993459 : ¬ ((858993459 : Int32) = 0) := by decide
theorem nz_1431655765 : ¬ ((1431655765 : Int32) = 0) := by decide
theorem kl_0 : Int64.ofNat 0 = 0 := rfl
theorem kl_1 : Int64.ofNat 1 = 1 := rfl
theorem kl_8 : Int64.ofNat 8 = 8 := rfl
theorem kl_601 : Int64.ofNat 601 = 601 := rfl
theorem kl_739 : Int64.ofNat 739 = 739 := rfl
theorem kl_31069 : Int64.ofNat 31069 = 31069 := rfl
theorem kl_1000000 : Int64.ofNat 1000000 = 1000000 := rfl
theorem kl_1152921504606846976 : Int64.ofNat 1152921504606846976 = 1152921504606846976 := rfl
theorem kl_18446744073708551616 : Int64.ofNat 18446744073708551616 = -1000000 := rfl
theorem kl_18446744073709551615 : Int64.ofNat 18446744073709551615 = -1 := rfl
