/-! words as longs -/
section WDS
variable {f : Nat → Int32} {n p e m : Nat}
theorem shr_bv (b : BitVec 64) (h : b.toNat < 2305843009213693952) : (b.sshiftRight 48 = 0#64) ↔ b.toNat < 281474976710656 := by
  have hm : b.msb = false := by
    rw [BitVec.msb_eq_false_iff_two_mul_lt]
    omega
  rw [BitVec.sshiftRight_eq_of_msb_false hm]
  constructor
  · intro z
    have := congrArg BitVec.toNat z
    rw [BitVec.toNat_ushiftRight, Nat.shiftRight_eq_div_pow] at this
    have e : (0#64).toNat = 0 := rfl
    rw [e, show (2 : Nat) ^ 48 = 281474976710656 from rfl] at this
    omega
  · intro z
    apply BitVec.eq_of_toNat_eq
    rw [BitVec.toNat_ushiftRight, Nat.shiftRight_eq_div_pow, show (2 : Nat) ^ 48 = 281474976710656 from rfl]
    have e : (0#64).toNat = 0 := rfl
    rw [e]
    omega
theorem nL_n {a : Nat} (h : a < 18446744073709551616) : (Int64.ofNat a).toBitVec.toNat = a := by
  show (BitVec.ofNat 64 a).toNat = a
  rw [BitVec.toNat_ofNat]
  exact Nat.mod_eq_of_lt h
theorem nL_eq {a b : Nat} (ha : a < 18446744073709551616) (hb : b < 18446744073709551616) : Int64.ofNat a = Int64.ofNat b ↔ a = b := by
  refine ⟨fun h => ?_, fun h => by rw [h]⟩
  have := congrArg (fun x => x.toBitVec.toNat) h
  rw [nL_n ha, nL_n hb] at this
  exact this
theorem shr_L {a : Nat} (h : a < 2305843009213693952) : (Int64.ofNat a >>> ((48 : Int32).toInt64 &&& 63) = 0) ↔ a < 281474976710656 := by
  have h1 := shr_bv (Int64.ofNat a).toBitVec (by rw [nL_n (by omega)]; exact h)
  rw [nL_n (by omega)] at h1
  rw [← h1]
  exact Int64.toBitVec_inj.symm
theorem or_bv {a b : Nat} (hb : b < 256) (ha : a < 281474976710656) : (BitVec.ofNat 64 a).shiftLeft 8 ||| BitVec.ofNat 64 b = BitVec.ofNat 64 (a * 256 + b) := by
  apply BitVec.eq_of_toNat_eq
  show ((BitVec.ofNat 64 a) <<< 8 ||| BitVec.ofNat 64 b).toNat = _
  rw [BitVec.toNat_or, BitVec.toNat_shiftLeft, BitVec.toNat_ofNat, BitVec.toNat_ofNat, BitVec.toNat_ofNat, Nat.mod_eq_of_lt (show a < 2 ^ 64 by omega), Nat.mod_eq_of_lt (show b < 2 ^ 64 by omega),
    Nat.mod_eq_of_lt (show a * 256 + b < 2 ^ 64 by omega), Nat.shiftLeft_eq, Nat.mod_eq_of_lt (show a * 2 ^ 8 < 2 ^ 64 by omega)]
  have := Nat.shiftLeft_add_eq_or_of_lt (b := b) (i := 8) (by omega) a
  rw [Nat.shiftLeft_eq] at this
  rw [← this]
theorem or_L {a b : Nat} (hb : b < 256) (ha : a < 281474976710656) : (Int64.ofNat a <<< ((8 : Int32).toInt64 &&& 63)) ||| Int64.ofNat b = Int64.ofNat (a * 256 + b) := Int64.toBitVec_inj.1 (or_bv hb ha)
theorem by_L : ∀ b, b < 256 → (Int32.ofNat b).toInt64 = Int64.ofNat b := by decide +kernel
def bn (x : Int32) : Nat := x.toInt.toNat
theorem bn_o {x : Int32} (h : bI x 0 255) : x = Int32.ofNat (bn x) ∧ bn x < 256 := by
  unfold bI at h
  unfold bn
  exact ⟨ofN h.1, by omega⟩
/-- what the reference's word becomes -/
def wv (f : Nat → Int32) (p : Nat) : Nat → Nat
  | 0 => 0
  | k + 1 => if 281474976710656 ≤ wv f p k then 1152921504606846976 else wv f p k * 256 + bn (f (p + k))
theorem wv_s (f : Nat → Int32) (p k : Nat) : wv f p (k + 1) = if 281474976710656 ≤ wv f p k then 1152921504606846976 else wv f p k * 256 + bn (f (p + k)) := rfl
theorem wv_b : ∀ k, (∀ j, j < k → bn (f (p + j)) < 256) → wv f p k < 2305843009213693952 := by
  intro k
  cases k with
  | zero => intro _; exact Nat.lt_of_lt_of_le Nat.zero_lt_one (by omega)
  | succ k =>
    intro h
    have := h k (by omega)
    rw [wv_s]
    split <;> omega
/-- bytes as a number -/
def bef (g : Nat → Nat) : Nat → Nat
  | 0 => 0
  | k + 1 => bef g k * 256 + g k
theorem bef_s (g : Nat → Nat) (k : Nat) : bef g (k + 1) = bef g k * 256 + g k := rfl
theorem bef_lt (g : Nat → Nat) : ∀ k, (∀ j, j < k → g j < 256) → bef g k < 256 ^ k := by
  intro k
  induction k with
  | zero => intro _; exact Nat.zero_lt_one
  | succ k ih =>
    intro h
    have a := ih (fun j hj => h j (by omega))
    have b := h k (by omega)
    rw [bef_s, Nat.pow_succ]
    omega
theorem bef_inj {g h : Nat → Nat} : ∀ k l, (∀ j, j < k → g j < 256 ∧ 1 ≤ g j) → (∀ j, j < l → h j < 256 ∧ 1 ≤ h j) → bef g k = bef h l → k = l ∧ ∀ j, j < k → g j = h j := by
  intro k
  induction k with
  | zero =>
    intro l _ hh he
    cases l with
    | zero => exact ⟨rfl, fun j hj => by omega⟩
    | succ l =>
      have := hh l (by omega)
      rw [bef_s] at he
      have he : 0 = bef h l * 256 + h l := he
      omega
  | succ k ih =>
    intro l hg hh he
    cases l with
    | zero =>
      have := hg k (by omega)
      rw [bef_s] at he
      have he : bef g k * 256 + g k = 0 := he
      omega
    | succ l =>
      rw [bef_s, bef_s] at he
      have a := hg k (by omega)
      have b := hh l (by omega)
      obtain ⟨i1, i2⟩ := ih l (fun j hj => hg j (by omega)) (fun j hj => hh j (by omega)) (by omega)
      subst i1
      refine ⟨rfl, fun j hj => ?_⟩
      by_cases y : j = k
      · rw [y]; omega
      · exact i2 j (by omega)
theorem wv_small : ∀ k, k ≤ 7 → (∀ j, j < k → bn (f (p + j)) < 256) → wv f p k = bef (fun j => bn (f (p + j))) k := by
  intro k
  induction k with
  | zero => intro _ _; rfl
  | succ k ih =>
    intro hk h
    have e := ih (by omega) (fun j hj => h j (by omega))
    have lt := bef_lt (fun j => bn (f (p + j))) k (fun j hj => h j (by omega))
    have pw : 256 ^ k ≤ 256 ^ 6 := Nat.pow_le_pow_right (by omega) (by omega)
    rw [wv_s, bef_s, e, if_neg (by
      have : (256 : Nat) ^ 6 = 281474976710656 := by decide
      omega)]
theorem wv_big : ∀ k, (∀ j, j < k + 8 → bn (f (p + j)) < 256 ∧ 1 ≤ bn (f (p + j))) → wv f p (k + 8) = 1152921504606846976 := by
  intro k
  induction k with
  | zero =>
    intro h
    have e := wv_small (f := f) (p := p) 7 (by omega) (fun j hj => (h j (by omega)).1)
    have h0 := (h 0 (by omega)).2
    have g : 281474976710656 ≤ bef (fun j => bn (f (p + j))) 7 := by
      have a0 : bef (fun j => bn (f (p + j))) 1 = 0 * 256 + bn (f (p + 0)) := rfl
      rw [bef_s, bef_s, bef_s, bef_s, bef_s, bef_s, a0]
      omega
    rw [show 0 + 8 = 7 + 1 by omega, wv_s, e, if_pos g]
  | succ k ih =>
    intro h
    rw [show k + 1 + 8 = (k + 8) + 1 by omega, wv_s, ih (fun j hj => h j (by omega)), if_pos (by omega)]
/-- a word's number -/
def wcn (k : Nat) : Nat := bef (fun j => (wdl k).getD j 0) (wdl k).length
theorem wcn_b : ∀ k, k < 25 → k ≠ 23 → wcn k < 281474976710656 := by decide +kernel
theorem wdl_6 : ∀ k, k < 25 → k ≠ 23 → (wdl k).length ≤ 6 := by decide +kernel
theorem wv_iff {k : Nat} (hk : k < 25) (h23 : k ≠ 23) (hb : ∀ j, p ≤ j → j < p + m → bn (f j) < 256 ∧ 1 ≤ bn (f j)) (hi : ∀ j, p ≤ j → j < p + m → bI (f j) 0 255) : wv f p m = wcn k ↔ wmat f p (p + m) (wdl k) = true := by
  have wb := wcn_b k hk h23
  have wl := wdl_6 k hk h23
  rw [wmat_t]
  by_cases m7 : m ≤ 7
  · rw [wv_small m m7 (fun j hj => (hb _ (by omega) (by omega)).1)]
    constructor
    · intro h
      obtain ⟨h1, h2⟩ := bef_inj m (wdl k).length (fun j hj => hb _ (by omega) (by omega)) (fun j hj => by
        have := wdl_byte k hk j hj
        exact ⟨by omega, by omega⟩) h
      refine ⟨by omega, fun j hj => ?_⟩
      have := h2 j (by omega)
      rw [(bn_o (hi (p + j) (by omega) (by omega))).1, this]
    · rintro ⟨h1, h2⟩
      have e : m = (wdl k).length := by omega
      subst e
      unfold wcn
      have : ∀ l, l ≤ (wdl k).length → bef (fun j => bn (f (p + j))) l = bef (fun j => (wdl k).getD j 0) l := by
        intro l
        induction l with
        | zero => intro _; rfl
        | succ l ih =>
          intro hl
          have wby := wdl_byte k hk l (by omega)
          have e : bn (f (p + l)) = (wdl k).getD l 0 := by
            rw [h2 l (by omega)]
            unfold bn
            rw [nI_t (by omega)]
            omega
          rw [bef_s, bef_s, ih (by omega), e]
      exact this _ (Nat.le_refl _)
  · obtain ⟨q, rfl⟩ : ∃ q, m = q + 8 := ⟨m - 8, by omega⟩
    rw [wv_big q (fun j hj => hb _ (by omega) (by omega))]
    constructor
    · intro h; omega
    · rintro ⟨h1, -⟩; omega
theorem isLi_b {x : Int32} (h : isLi x = true) : bI x 0 255 ∧ bn x < 256 ∧ 1 ≤ bn x := by
  unfold isLi at h
  have a1 := in_iff x 97 122
  have a2 := in_iff x 65 90
  rw [show (97 : Int32).toInt = 97 from rfl, show (122 : Int32).toInt = 122 from rfl] at a1
  rw [show (65 : Int32).toInt = 65 from rfl, show (90 : Int32).toInt = 90 from rfl] at a2
  rw [Bool.or_eq_true] at h
  unfold bI bn
  rcases h with h | h
  · have := a1.1 h
    exact ⟨⟨by omega, by omega⟩, by omega, by omega⟩
  · have := a2.1 h
    exact ⟨⟨by omega, by omega⟩, by omega, by omega⟩
theorem li_di {x : Int32} (h : isLi x = true) : isDi x = false := by
  refine bf (fun z => ?_)
  obtain ⟨z1, z2⟩ := dg_b z
  unfold isLi at h
  rw [Bool.or_eq_true] at h
  rw [z2] at h
  generalize dg x = g at *
  rcases h with h | h
  · have := (in_iff _ 97 122).1 h
    rw [nI_t (by omega), show (97 : Int32).toInt = 97 from rfl] at this
    omega
  · have := (in_iff _ 65 90).1 h
    rw [nI_t (by omega), show (65 : Int32).toInt = 65 from rfl] at this
    omega
/-- what the reference's number becomes -/
def mnm (f : Nat → Int32) (p : Nat) : Nat → Nat
  | 0 => 0
  | k + 1 => if 99999 < mnm f p k then mnm f p k else 10 * mnm f p k + dg (f (p + k))
theorem mnm_s (f : Nat → Int32) (p k : Nat) : mnm f p (k + 1) = if 99999 < mnm f p k then mnm f p k else 10 * mnm f p k + dg (f (p + k)) := rfl
theorem mnm_nvk : ∀ k, (∀ j, j < k → dg (f (p + j)) ≤ 9) → mnm f p k ≤ 1000009 ∧ ((mnm f p k ≤ 9999 ∧ nvk f p k = mnm f p k) ∨ (9999 < mnm f p k ∧ nvk f p k = 10000)) := by
  intro k
  induction k with
  | zero => intro _; exact ⟨Nat.zero_le _, Or.inl ⟨Nat.zero_le _, rfl⟩⟩
  | succ k ih =>
    intro h
    obtain ⟨i0, i1⟩ := ih (fun j hj => h j (by omega))
    have b := h k (by omega)
    have en : nvk f p (k + 1) = min (nvk f p k * 10 + dg (f (p + k))) 10000 := rfl
    rw [mnm_s, en]
    rcases i1 with ⟨i1, i2⟩ | ⟨i1, i2⟩
    · rw [if_neg (by omega), i2]
      refine ⟨by omega, ?_⟩
      by_cases y : 10 * mnm f p k + dg (f (p + k)) ≤ 9999
      · exact Or.inl ⟨y, by omega⟩
      · exact Or.inr ⟨by omega, by omega⟩
    · rw [i2]
      split
      · exact ⟨i0, Or.inr ⟨i1, by omega⟩⟩
      · exact ⟨by omega, Or.inr ⟨by omega, by omega⟩⟩
end WDS
