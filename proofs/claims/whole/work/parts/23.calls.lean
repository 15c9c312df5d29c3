/-! a call of each method, its body before it; printed by wip/whole/gen/emit23.py -/
theorem ee_argok_s {m k : Nat} {vs : List Value} (hs : (es_m m).2.2.2.1 = true) (hg : ee_sig m = some k) (hl : vs.length = k) : ee_argok m vs = true := by
  unfold ee_argok
  rw [hs, if_pos rfl, hg, hl]
  exact decide_eq_true rfl
theorem ee_argok_i {m k h c : Nat} {us : List Value} (hs : (es_m m).2.2.2.1 = false) (hg : ee_sig m = some k) (hl : us.length = k) (hh : es_sh h = (10 + c, 0)) (hc : es_own c = (es_m m).1.cls) : ee_argok m (.ref h :: us) = true := by
  unfold ee_argok
  rw [hs, if_neg (by decide), hg]
  dsimp only
  rw [hl]
  have h1 : h < es_NC := es_sh_in (Or.inr (by rw [hh]; show 10 ≤ 10 + c; omega))
  simp only [Bool.and_eq_true, decide_eq_true_eq]
  refine ⟨⟨⟨trivial, h1⟩, by rw [hh]; show 10 ≤ 10 + c; omega⟩, ?_⟩
  rw [hh]
  show es_own (10 + c - 10) = _
  rw [Nat.add_sub_cancel_left]
  exact hc
theorem mb_9 : ee_B 9 = some bd_9 := rfl
set_option maxRecDepth 100000 in
theorem mf_9 : (es_m 9).2.1 = 3 ∧ (es_m 9).2.2.1 = (Option.some Jvm.ClassFile.FieldType.boolean) ∧ (es_m 9).2.2.2.1 = false ∧ ee_sig 9 = some 2 ∧ es_own 0 = (es_m 9).1.cls := by decide +kernel
/-- HeadServo.wobble -/
theorem rn_9 {P : Nat → Nat → List Value → ee_W → Option (List Value × ee_W)} {d : Nat} {w : ee_W} {h : Nat} (hh : es_sh h = (10, 0)) (x0 : Int32) (x1 : Int32) : ee_run ee_B P (d + 1) 9 [.ref h, .int x0, .int x1] w = ee_fin (Option.some Jvm.ClassFile.FieldType.boolean) (ee_evS es_sh es_rf (ee_run ee_B P d) bd_9 0 [some (.ref h), some (.int x0), some (.int x1)] w) := rn_gen (n := 3) mb_9 mf_9.1 mf_9.2.1 (ee_argok_i mf_9.2.2.1 mf_9.2.2.2.1 rfl hh mf_9.2.2.2.2) (Nat.le_of_ble_eq_true rfl)
theorem mb_11 : ee_B 11 = some bd_11 := rfl
set_option maxRecDepth 100000 in
theorem mf_11 : (es_m 11).2.1 = 2 ∧ (es_m 11).2.2.1 = (Option.some Jvm.ClassFile.FieldType.boolean) ∧ (es_m 11).2.2.2.1 = false ∧ ee_sig 11 = some 1 ∧ es_own 0 = (es_m 11).1.cls := by decide +kernel
/-- HeadServo.lose -/
theorem rn_11 {P : Nat → Nat → List Value → ee_W → Option (List Value × ee_W)} {d : Nat} {w : ee_W} {h : Nat} (hh : es_sh h = (10, 0)) (x0 : Int32) : ee_run ee_B P (d + 1) 11 [.ref h, .int x0] w = ee_fin (Option.some Jvm.ClassFile.FieldType.boolean) (ee_evS es_sh es_rf (ee_run ee_B P d) bd_11 0 [some (.ref h), some (.int x0)] w) := rn_gen (n := 2) mb_11 mf_11.1 mf_11.2.1 (ee_argok_i mf_11.2.2.1 mf_11.2.2.2.1 rfl hh mf_11.2.2.2.2) (Nat.le_of_ble_eq_true rfl)
theorem mb_12 : ee_B 12 = some bd_12 := rfl
set_option maxRecDepth 100000 in
theorem mf_12 : (es_m 12).2.1 = 6 ∧ (es_m 12).2.2.1 = (Option.some Jvm.ClassFile.FieldType.int) ∧ (es_m 12).2.2.2.1 = false ∧ ee_sig 12 = some 5 ∧ es_own 0 = (es_m 12).1.cls := by decide +kernel
/-- HeadServo.feed -/
theorem rn_12 {P : Nat → Nat → List Value → ee_W → Option (List Value × ee_W)} {d : Nat} {w : ee_W} {h : Nat} (hh : es_sh h = (10, 0)) (x0 : Int32) (x1 : Int32) (x2 : Int32) (x3 : Int32) (x4 : Int32) : ee_run ee_B P (d + 1) 12 [.ref h, .int x0, .int x1, .int x2, .int x3, .int x4] w = ee_fin (Option.some Jvm.ClassFile.FieldType.int) (ee_evS es_sh es_rf (ee_run ee_B P d) bd_12 0 [some (.ref h), some (.int x0), some (.int x1), some (.int x2), some (.int x3), some (.int x4)] w) := rn_gen (n := 6) mb_12 mf_12.1 mf_12.2.1 (ee_argok_i mf_12.2.2.1 mf_12.2.2.2.1 rfl hh mf_12.2.2.2.2) (Nat.le_of_ble_eq_true rfl)
theorem mb_13 : ee_B 13 = some bd_13 := rfl
set_option maxRecDepth 100000 in
theorem mf_13 : (es_m 13).2.1 = 3 ∧ (es_m 13).2.2.1 = (Option.none : Option Jvm.ClassFile.FieldType) ∧ (es_m 13).2.2.2.1 = false ∧ ee_sig 13 = some 1 ∧ es_own 0 = (es_m 13).1.cls := by decide +kernel
/-- HeadServo.feedFour -/
theorem rn_13 {P : Nat → Nat → List Value → ee_W → Option (List Value × ee_W)} {d : Nat} {w : ee_W} {h : Nat} (hh : es_sh h = (10, 0)) (x0 : Int32) : ee_run ee_B P (d + 1) 13 [.ref h, .int x0] w = ee_fin (Option.none : Option Jvm.ClassFile.FieldType) (ee_evS es_sh es_rf (ee_run ee_B P d) bd_13 0 [some (.ref h), some (.int x0), none] w) := rn_gen (n := 3) mb_13 mf_13.1 mf_13.2.1 (ee_argok_i mf_13.2.2.1 mf_13.2.2.2.1 rfl hh mf_13.2.2.2.2) (Nat.le_of_ble_eq_true rfl)
theorem mb_14 : ee_B 14 = some bd_14 := rfl
set_option maxRecDepth 100000 in
theorem mf_14 : (es_m 14).2.1 = 2 ∧ (es_m 14).2.2.1 = (Option.some Jvm.ClassFile.FieldType.int) ∧ (es_m 14).2.2.2.1 = false ∧ ee_sig 14 = some 1 ∧ es_own 0 = (es_m 14).1.cls := by decide +kernel
/-- HeadServo.end -/
theorem rn_14 {P : Nat → Nat → List Value → ee_W → Option (List Value × ee_W)} {d : Nat} {w : ee_W} {h : Nat} (hh : es_sh h = (10, 0)) (x0 : Int32) : ee_run ee_B P (d + 1) 14 [.ref h, .int x0] w = ee_fin (Option.some Jvm.ClassFile.FieldType.int) (ee_evS es_sh es_rf (ee_run ee_B P d) bd_14 0 [some (.ref h), some (.int x0)] w) := rn_gen (n := 2) mb_14 mf_14.1 mf_14.2.1 (ee_argok_i mf_14.2.2.1 mf_14.2.2.2.1 rfl hh mf_14.2.2.2.2) (Nat.le_of_ble_eq_true rfl)
theorem mb_15 : ee_B 15 = some bd_15 := rfl
set_option maxRecDepth 100000 in
theorem mf_15 : (es_m 15).2.1 = 3 ∧ (es_m 15).2.2.1 = (Option.some Jvm.ClassFile.FieldType.int) ∧ (es_m 15).2.2.2.1 = false ∧ ee_sig 15 = some 0 ∧ es_own 0 = (es_m 15).1.cls := by decide +kernel
/-- HeadServo.text -/
theorem rn_15 {P : Nat → Nat → List Value → ee_W → Option (List Value × ee_W)} {d : Nat} {w : ee_W} {h : Nat} (hh : es_sh h = (10, 0)) : ee_run ee_B P (d + 1) 15 [.ref h] w = ee_fin (Option.some Jvm.ClassFile.FieldType.int) (ee_evS es_sh es_rf (ee_run ee_B P d) bd_15 0 [some (.ref h), none, none] w) := rn_gen (n := 3) mb_15 mf_15.1 mf_15.2.1 (ee_argok_i mf_15.2.2.1 mf_15.2.2.2.1 rfl hh mf_15.2.2.2.2) (Nat.le_of_ble_eq_true rfl)
theorem mb_60 : ee_B 60 = some bd_60 := rfl
set_option maxRecDepth 100000 in
theorem mf_60 : (es_m 60).2.1 = 2 ∧ (es_m 60).2.2.1 = (Option.some Jvm.ClassFile.FieldType.int) ∧ (es_m 60).2.2.2.1 = false ∧ ee_sig 60 = some 1 ∧ es_own 0 = (es_m 60).1.cls := by decide +kernel
/-- HeadServo.fault -/
theorem rn_60 {P : Nat → Nat → List Value → ee_W → Option (List Value × ee_W)} {d : Nat} {w : ee_W} {h : Nat} (hh : es_sh h = (10, 0)) (x0 : Int32) : ee_run ee_B P (d + 1) 60 [.ref h, .int x0] w = ee_fin (Option.some Jvm.ClassFile.FieldType.int) (ee_evS es_sh es_rf (ee_run ee_B P d) bd_60 0 [some (.ref h), some (.int x0)] w) := rn_gen (n := 2) mb_60 mf_60.1 mf_60.2.1 (ee_argok_i mf_60.2.2.1 mf_60.2.2.2.1 rfl hh mf_60.2.2.2.2) (Nat.le_of_ble_eq_true rfl)
theorem mb_61 : ee_B 61 = some bd_61 := rfl
set_option maxRecDepth 100000 in
theorem mf_61 : (es_m 61).2.1 = 2 ∧ (es_m 61).2.2.1 = (Option.some Jvm.ClassFile.FieldType.boolean) ∧ (es_m 61).2.2.2.1 = false ∧ ee_sig 61 = some 1 ∧ es_own 0 = (es_m 61).1.cls := by decide +kernel
/-- HeadServo.by -/
theorem rn_61 {P : Nat → Nat → List Value → ee_W → Option (List Value × ee_W)} {d : Nat} {w : ee_W} {h : Nat} (hh : es_sh h = (10, 0)) (x0 : Int32) : ee_run ee_B P (d + 1) 61 [.ref h, .int x0] w = ee_fin (Option.some Jvm.ClassFile.FieldType.boolean) (ee_evS es_sh es_rf (ee_run ee_B P d) bd_61 0 [some (.ref h), some (.int x0)] w) := rn_gen (n := 2) mb_61 mf_61.1 mf_61.2.1 (ee_argok_i mf_61.2.2.1 mf_61.2.2.2.1 rfl hh mf_61.2.2.2.2) (Nat.le_of_ble_eq_true rfl)
theorem mb_62 : ee_B 62 = some bd_62 := rfl
set_option maxRecDepth 100000 in
theorem mf_62 : (es_m 62).2.1 = 2 ∧ (es_m 62).2.2.1 = (Option.some (Jvm.ClassFile.FieldType.object "HeadServo$Text")) ∧ (es_m 62).2.2.2.1 = false ∧ ee_sig 62 = some 1 ∧ es_own 0 = (es_m 62).1.cls := by decide +kernel
/-- HeadServo.textAt -/
theorem rn_62 {P : Nat → Nat → List Value → ee_W → Option (List Value × ee_W)} {d : Nat} {w : ee_W} {h : Nat} (hh : es_sh h = (10, 0)) (x0 : Int32) : ee_run ee_B P (d + 1) 62 [.ref h, .int x0] w = ee_fin (Option.some (Jvm.ClassFile.FieldType.object "HeadServo$Text")) (ee_evS es_sh es_rf (ee_run ee_B P d) bd_62 0 [some (.ref h), some (.int x0)] w) := rn_gen (n := 2) mb_62 mf_62.1 mf_62.2.1 (ee_argok_i mf_62.2.2.1 mf_62.2.2.2.1 rfl hh mf_62.2.2.2.2) (Nat.le_of_ble_eq_true rfl)
theorem mb_63 : ee_B 63 = some bd_63 := rfl
set_option maxRecDepth 100000 in
theorem mf_63 : (es_m 63).2.1 = 2 ∧ (es_m 63).2.2.1 = (Option.some Jvm.ClassFile.FieldType.boolean) ∧ (es_m 63).2.2.2.1 = false ∧ ee_sig 63 = some 1 ∧ es_own 0 = (es_m 63).1.cls := by decide +kernel
/-- HeadServo.seek -/
theorem rn_63 {P : Nat → Nat → List Value → ee_W → Option (List Value × ee_W)} {d : Nat} {w : ee_W} {h : Nat} (hh : es_sh h = (10, 0)) (x0 : Int32) : ee_run ee_B P (d + 1) 63 [.ref h, .int x0] w = ee_fin (Option.some Jvm.ClassFile.FieldType.boolean) (ee_evS es_sh es_rf (ee_run ee_B P d) bd_63 0 [some (.ref h), some (.int x0)] w) := rn_gen (n := 2) mb_63 mf_63.1 mf_63.2.1 (ee_argok_i mf_63.2.2.1 mf_63.2.2.2.1 rfl hh mf_63.2.2.2.2) (Nat.le_of_ble_eq_true rfl)
theorem mb_71 : ee_B 71 = some bd_71 := rfl
set_option maxRecDepth 100000 in
theorem mf_71 : (es_m 71).2.1 = 2 ∧ (es_m 71).2.2.1 = (Option.some Jvm.ClassFile.FieldType.int) ∧ (es_m 71).2.2.2.1 = false ∧ ee_sig 71 = some 1 ∧ es_own 0 = (es_m 71).1.cls := by decide +kernel
/-- HeadServo.shake -/
theorem rn_71 {P : Nat → Nat → List Value → ee_W → Option (List Value × ee_W)} {d : Nat} {w : ee_W} {h : Nat} (hh : es_sh h = (10, 0)) (x0 : Int32) : ee_run ee_B P (d + 1) 71 [.ref h, .int x0] w = ee_fin (Option.some Jvm.ClassFile.FieldType.int) (ee_evS es_sh es_rf (ee_run ee_B P d) bd_71 0 [some (.ref h), some (.int x0)] w) := rn_gen (n := 2) mb_71 mf_71.1 mf_71.2.1 (ee_argok_i mf_71.2.2.1 mf_71.2.2.2.1 rfl hh mf_71.2.2.2.2) (Nat.le_of_ble_eq_true rfl)
theorem mb_75 : ee_B 75 = some bd_75 := rfl
set_option maxRecDepth 100000 in
theorem mf_75 : (es_m 75).2.1 = 1 ∧ (es_m 75).2.2.1 = (Option.some Jvm.ClassFile.FieldType.int) ∧ (es_m 75).2.2.2.1 = false ∧ ee_sig 75 = some 0 ∧ es_own 0 = (es_m 75).1.cls := by decide +kernel
/-- HeadServo.write -/
theorem rn_75 {P : Nat → Nat → List Value → ee_W → Option (List Value × ee_W)} {d : Nat} {w : ee_W} {h : Nat} (hh : es_sh h = (10, 0)) : ee_run ee_B P (d + 1) 75 [.ref h] w = ee_fin (Option.some Jvm.ClassFile.FieldType.int) (ee_evS es_sh es_rf (ee_run ee_B P d) bd_75 0 [some (.ref h)] w) := rn_gen (n := 1) mb_75 mf_75.1 mf_75.2.1 (ee_argok_i mf_75.2.2.1 mf_75.2.2.2.1 rfl hh mf_75.2.2.2.2) (Nat.le_of_ble_eq_true rfl)
theorem mb_78 : ee_B 78 = some bd_78 := rfl
set_option maxRecDepth 100000 in
theorem mf_78 : (es_m 78).2.1 = 2 ∧ (es_m 78).2.2.1 = (Option.some Jvm.ClassFile.FieldType.int) ∧ (es_m 78).2.2.2.1 = false ∧ ee_sig 78 = some 1 ∧ es_own 0 = (es_m 78).1.cls := by decide +kernel
/-- HeadServo.day -/
theorem rn_78 {P : Nat → Nat → List Value → ee_W → Option (List Value × ee_W)} {d : Nat} {w : ee_W} {h : Nat} (hh : es_sh h = (10, 0)) (x0 : Int32) : ee_run ee_B P (d + 1) 78 [.ref h, .int x0] w = ee_fin (Option.some Jvm.ClassFile.FieldType.int) (ee_evS es_sh es_rf (ee_run ee_B P d) bd_78 0 [some (.ref h), some (.int x0)] w) := rn_gen (n := 2) mb_78 mf_78.1 mf_78.2.1 (ee_argok_i mf_78.2.2.1 mf_78.2.2.2.1 rfl hh mf_78.2.2.2.2) (Nat.le_of_ble_eq_true rfl)
theorem mb_79 : ee_B 79 = some bd_79 := rfl
set_option maxRecDepth 100000 in
theorem mf_79 : (es_m 79).2.1 = 3 ∧ (es_m 79).2.2.1 = (Option.none : Option Jvm.ClassFile.FieldType) ∧ (es_m 79).2.2.2.1 = false ∧ ee_sig 79 = some 1 ∧ es_own 0 = (es_m 79).1.cls := by decide +kernel
/-- HeadServo.pass -/
theorem rn_79 {P : Nat → Nat → List Value → ee_W → Option (List Value × ee_W)} {d : Nat} {w : ee_W} {h : Nat} (hh : es_sh h = (10, 0)) (x0 : Int32) : ee_run ee_B P (d + 1) 79 [.ref h, .int x0] w = ee_fin (Option.none : Option Jvm.ClassFile.FieldType) (ee_evS es_sh es_rf (ee_run ee_B P d) bd_79 0 [some (.ref h), some (.int x0), none] w) := rn_gen (n := 3) mb_79 mf_79.1 mf_79.2.1 (ee_argok_i mf_79.2.2.1 mf_79.2.2.2.1 rfl hh mf_79.2.2.2.2) (Nat.le_of_ble_eq_true rfl)
theorem mb_101 : ee_B 101 = some bd_101 := rfl
set_option maxRecDepth 100000 in
theorem mf_101 : (es_m 101).2.1 = 4 ∧ (es_m 101).2.2.1 = (Option.some Jvm.ClassFile.FieldType.int) ∧ (es_m 101).2.2.2.1 = false ∧ ee_sig 101 = some 1 ∧ es_own 0 = (es_m 101).1.cls := by decide +kernel
/-- HeadServo.played -/
theorem rn_101 {P : Nat → Nat → List Value → ee_W → Option (List Value × ee_W)} {d : Nat} {w : ee_W} {h : Nat} (hh : es_sh h = (10, 0)) (x0 : Int32) : ee_run ee_B P (d + 1) 101 [.ref h, .int x0] w = ee_fin (Option.some Jvm.ClassFile.FieldType.int) (ee_evS es_sh es_rf (ee_run ee_B P d) bd_101 0 [some (.ref h), some (.int x0), none, none] w) := rn_gen (n := 4) mb_101 mf_101.1 mf_101.2.1 (ee_argok_i mf_101.2.2.1 mf_101.2.2.2.1 rfl hh mf_101.2.2.2.2) (Nat.le_of_ble_eq_true rfl)
theorem mb_102 : ee_B 102 = some bd_102 := rfl
set_option maxRecDepth 100000 in
theorem mf_102 : (es_m 102).2.1 = 5 ∧ (es_m 102).2.2.1 = (Option.some Jvm.ClassFile.FieldType.boolean) ∧ (es_m 102).2.2.2.1 = false ∧ ee_sig 102 = some 3 ∧ es_own 0 = (es_m 102).1.cls := by decide +kernel
/-- HeadServo.playClause -/
theorem rn_102 {P : Nat → Nat → List Value → ee_W → Option (List Value × ee_W)} {d : Nat} {w : ee_W} {h : Nat} (hh : es_sh h = (10, 0)) (x0 : Int32) (x1 : Int32) (x2 : Int32) : ee_run ee_B P (d + 1) 102 [.ref h, .int x0, .int x1, .int x2] w = ee_fin (Option.some Jvm.ClassFile.FieldType.boolean) (ee_evS es_sh es_rf (ee_run ee_B P d) bd_102 0 [some (.ref h), some (.int x0), some (.int x1), some (.int x2), none] w) := rn_gen (n := 5) mb_102 mf_102.1 mf_102.2.1 (ee_argok_i mf_102.2.2.1 mf_102.2.2.2.1 rfl hh mf_102.2.2.2.2) (Nat.le_of_ble_eq_true rfl)
theorem mb_103 : ee_B 103 = some bd_103 := rfl
set_option maxRecDepth 100000 in
theorem mf_103 : (es_m 103).2.1 = 4 ∧ (es_m 103).2.2.1 = (Option.some Jvm.ClassFile.FieldType.int) ∧ (es_m 103).2.2.2.1 = false ∧ ee_sig 103 = some 2 ∧ es_own 0 = (es_m 103).1.cls := by decide +kernel
/-- HeadServo.years -/
theorem rn_103 {P : Nat → Nat → List Value → ee_W → Option (List Value × ee_W)} {d : Nat} {w : ee_W} {h : Nat} (hh : es_sh h = (10, 0)) (x0 : Int32) (x1 : Int32) : ee_run ee_B P (d + 1) 103 [.ref h, .int x0, .int x1] w = ee_fin (Option.some Jvm.ClassFile.FieldType.int) (ee_evS es_sh es_rf (ee_run ee_B P d) bd_103 0 [some (.ref h), some (.int x0), some (.int x1), none] w) := rn_gen (n := 4) mb_103 mf_103.1 mf_103.2.1 (ee_argok_i mf_103.2.2.1 mf_103.2.2.2.1 rfl hh mf_103.2.2.2.2) (Nat.le_of_ble_eq_true rfl)
theorem mb_104 : ee_B 104 = some bd_104 := rfl
set_option maxRecDepth 100000 in
theorem mf_104 : (es_m 104).2.1 = 3 ∧ (es_m 104).2.2.1 = (Option.none : Option Jvm.ClassFile.FieldType) ∧ (es_m 104).2.2.2.1 = false ∧ ee_sig 104 = some 2 ∧ es_own 0 = (es_m 104).1.cls := by decide +kernel
/-- HeadServo.happen -/
theorem rn_104 {P : Nat → Nat → List Value → ee_W → Option (List Value × ee_W)} {d : Nat} {w : ee_W} {h : Nat} (hh : es_sh h = (10, 0)) (x0 : Nat) (x1 : Int32) : ee_run ee_B P (d + 1) 104 [.ref h, .ref x0, .int x1] w = ee_fin (Option.none : Option Jvm.ClassFile.FieldType) (ee_evS es_sh es_rf (ee_run ee_B P d) bd_104 0 [some (.ref h), some (.ref x0), some (.int x1)] w) := rn_gen (n := 3) mb_104 mf_104.1 mf_104.2.1 (ee_argok_i mf_104.2.2.1 mf_104.2.2.2.1 rfl hh mf_104.2.2.2.2) (Nat.le_of_ble_eq_true rfl)
theorem mb_105 : ee_B 105 = some bd_105 := rfl
set_option maxRecDepth 100000 in
theorem mf_105 : (es_m 105).2.1 = 1 ∧ (es_m 105).2.2.1 = (Option.some Jvm.ClassFile.FieldType.int) ∧ (es_m 105).2.2.2.1 = false ∧ ee_sig 105 = some 0 ∧ es_own 0 = (es_m 105).1.cls := by decide +kernel
/-- HeadServo.undo -/
theorem rn_105 {P : Nat → Nat → List Value → ee_W → Option (List Value × ee_W)} {d : Nat} {w : ee_W} {h : Nat} (hh : es_sh h = (10, 0)) : ee_run ee_B P (d + 1) 105 [.ref h] w = ee_fin (Option.some Jvm.ClassFile.FieldType.int) (ee_evS es_sh es_rf (ee_run ee_B P d) bd_105 0 [some (.ref h)] w) := rn_gen (n := 1) mb_105 mf_105.1 mf_105.2.1 (ee_argok_i mf_105.2.2.1 mf_105.2.2.2.1 rfl hh mf_105.2.2.2.2) (Nat.le_of_ble_eq_true rfl)
theorem mb_80 : ee_B 80 = some bd_80 := rfl
set_option maxRecDepth 100000 in
theorem mf_80 : (es_m 80).2.1 = 7 ∧ (es_m 80).2.2.1 = (Option.none : Option Jvm.ClassFile.FieldType) ∧ (es_m 80).2.2.2.1 = false ∧ ee_sig 80 = some 1 ∧ es_own 0 = (es_m 80).1.cls := by decide +kernel
/-- HeadServo.sample -/
theorem rn_80 {P : Nat → Nat → List Value → ee_W → Option (List Value × ee_W)} {d : Nat} {w : ee_W} {h : Nat} (hh : es_sh h = (10, 0)) (x0 : Nat) : ee_run ee_B P (d + 1) 80 [.ref h, .ref x0] w = ee_fin (Option.none : Option Jvm.ClassFile.FieldType) (ee_evS es_sh es_rf (ee_run ee_B P d) bd_80 0 [some (.ref h), some (.ref x0), none, none, none, none, none] w) := rn_gen (n := 7) mb_80 mf_80.1 mf_80.2.1 (ee_argok_i mf_80.2.2.1 mf_80.2.2.2.1 rfl hh mf_80.2.2.2.2) (Nat.le_of_ble_eq_true rfl)
theorem mb_99 : ee_B 99 = some bd_99 := rfl
set_option maxRecDepth 100000 in
theorem mf_99 : (es_m 99).2.1 = 3 ∧ (es_m 99).2.2.1 = (Option.some Jvm.ClassFile.FieldType.int) ∧ (es_m 99).2.2.2.1 = false ∧ ee_sig 99 = some 2 ∧ es_own 0 = (es_m 99).1.cls := by decide +kernel
/-- HeadServo.pullOf -/
theorem rn_99 {P : Nat → Nat → List Value → ee_W → Option (List Value × ee_W)} {d : Nat} {w : ee_W} {h : Nat} (hh : es_sh h = (10, 0)) (x0 : Nat) (x1 : Nat) : ee_run ee_B P (d + 1) 99 [.ref h, .ref x0, .ref x1] w = ee_fin (Option.some Jvm.ClassFile.FieldType.int) (ee_evS es_sh es_rf (ee_run ee_B P d) bd_99 0 [some (.ref h), some (.ref x0), some (.ref x1)] w) := rn_gen (n := 3) mb_99 mf_99.1 mf_99.2.1 (ee_argok_i mf_99.2.2.1 mf_99.2.2.2.1 rfl hh mf_99.2.2.2.2) (Nat.le_of_ble_eq_true rfl)
/-- HeadServo.pullOf -/
theorem rn_99_0 {P : Nat → Nat → List Value → ee_W → Option (List Value × ee_W)} {d : Nat} {w : ee_W} {h : Nat} (hh : es_sh h = (10, 0)) (x1 : Nat) : ee_run ee_B P (d + 1) 99 [.ref h, .null, .ref x1] w = ee_fin (Option.some Jvm.ClassFile.FieldType.int) (ee_evS es_sh es_rf (ee_run ee_B P d) bd_99 0 [some (.ref h), some .null, some (.ref x1)] w) := rn_gen (n := 3) mb_99 mf_99.1 mf_99.2.1 (ee_argok_i mf_99.2.2.1 mf_99.2.2.2.1 rfl hh mf_99.2.2.2.2) (Nat.le_of_ble_eq_true rfl)
theorem mb_87 : ee_B 87 = some bd_87 := rfl
set_option maxRecDepth 100000 in
theorem mf_87 : (es_m 87).2.1 = 4 ∧ (es_m 87).2.2.1 = (Option.some Jvm.ClassFile.FieldType.int) ∧ (es_m 87).2.2.2.1 = false ∧ ee_sig 87 = some 3 ∧ es_own 0 = (es_m 87).1.cls := by decide +kernel
/-- HeadServo.gainOf -/
theorem rn_87 {P : Nat → Nat → List Value → ee_W → Option (List Value × ee_W)} {d : Nat} {w : ee_W} {h : Nat} (hh : es_sh h = (10, 0)) (x0 : Nat) (x1 : Nat) (x2 : Int32) : ee_run ee_B P (d + 1) 87 [.ref h, .ref x0, .ref x1, .int x2] w = ee_fin (Option.some Jvm.ClassFile.FieldType.int) (ee_evS es_sh es_rf (ee_run ee_B P d) bd_87 0 [some (.ref h), some (.ref x0), some (.ref x1), some (.int x2)] w) := rn_gen (n := 4) mb_87 mf_87.1 mf_87.2.1 (ee_argok_i mf_87.2.2.1 mf_87.2.2.2.1 rfl hh mf_87.2.2.2.2) (Nat.le_of_ble_eq_true rfl)
/-- HeadServo.gainOf -/
theorem rn_87_0 {P : Nat → Nat → List Value → ee_W → Option (List Value × ee_W)} {d : Nat} {w : ee_W} {h : Nat} (hh : es_sh h = (10, 0)) (x1 : Nat) (x2 : Int32) : ee_run ee_B P (d + 1) 87 [.ref h, .null, .ref x1, .int x2] w = ee_fin (Option.some Jvm.ClassFile.FieldType.int) (ee_evS es_sh es_rf (ee_run ee_B P d) bd_87 0 [some (.ref h), some .null, some (.ref x1), some (.int x2)] w) := rn_gen (n := 4) mb_87 mf_87.1 mf_87.2.1 (ee_argok_i mf_87.2.2.1 mf_87.2.2.2.1 rfl hh mf_87.2.2.2.2) (Nat.le_of_ble_eq_true rfl)
theorem mb_107 : ee_B 107 = some bd_107 := rfl
set_option maxRecDepth 100000 in
theorem mf_107 : (es_m 107).2.1 = 3 ∧ (es_m 107).2.2.1 = (Option.some Jvm.ClassFile.FieldType.int) ∧ (es_m 107).2.2.2.1 = false ∧ ee_sig 107 = some 2 ∧ es_own 0 = (es_m 107).1.cls := by decide +kernel
/-- HeadServo.of -/
theorem rn_107 {P : Nat → Nat → List Value → ee_W → Option (List Value × ee_W)} {d : Nat} {w : ee_W} {h : Nat} (hh : es_sh h = (10, 0)) (x0 : Int32) (x1 : Int32) : ee_run ee_B P (d + 1) 107 [.ref h, .int x0, .int x1] w = ee_fin (Option.some Jvm.ClassFile.FieldType.int) (ee_evS es_sh es_rf (ee_run ee_B P d) bd_107 0 [some (.ref h), some (.int x0), some (.int x1)] w) := rn_gen (n := 3) mb_107 mf_107.1 mf_107.2.1 (ee_argok_i mf_107.2.2.1 mf_107.2.2.2.1 rfl hh mf_107.2.2.2.2) (Nat.le_of_ble_eq_true rfl)
theorem mb_108 : ee_B 108 = some bd_108 := rfl
set_option maxRecDepth 100000 in
theorem mf_108 : (es_m 108).2.1 = 3 ∧ (es_m 108).2.2.1 = (Option.some Jvm.ClassFile.FieldType.int) ∧ (es_m 108).2.2.2.1 = false ∧ ee_sig 108 = some 1 ∧ es_own 0 = (es_m 108).1.cls := by decide +kernel
/-- HeadServo.is -/
theorem rn_108 {P : Nat → Nat → List Value → ee_W → Option (List Value × ee_W)} {d : Nat} {w : ee_W} {h : Nat} (hh : es_sh h = (10, 0)) (x0 : Int32) : ee_run ee_B P (d + 1) 108 [.ref h, .int x0] w = ee_fin (Option.some Jvm.ClassFile.FieldType.int) (ee_evS es_sh es_rf (ee_run ee_B P d) bd_108 0 [some (.ref h), some (.int x0), none] w) := rn_gen (n := 3) mb_108 mf_108.1 mf_108.2.1 (ee_argok_i mf_108.2.2.1 mf_108.2.2.2.1 rfl hh mf_108.2.2.2.2) (Nat.le_of_ble_eq_true rfl)
theorem mb_109 : ee_B 109 = some bd_109 := rfl
set_option maxRecDepth 100000 in
theorem mf_109 : (es_m 109).2.1 = 1 ∧ (es_m 109).2.2.1 = (Option.some Jvm.ClassFile.FieldType.int) ∧ (es_m 109).2.2.2.1 = false ∧ ee_sig 109 = some 0 ∧ es_own 0 = (es_m 109).1.cls := by decide +kernel
/-- HeadServo.pulls -/
theorem rn_109 {P : Nat → Nat → List Value → ee_W → Option (List Value × ee_W)} {d : Nat} {w : ee_W} {h : Nat} (hh : es_sh h = (10, 0)) : ee_run ee_B P (d + 1) 109 [.ref h] w = ee_fin (Option.some Jvm.ClassFile.FieldType.int) (ee_evS es_sh es_rf (ee_run ee_B P d) bd_109 0 [some (.ref h)] w) := rn_gen (n := 1) mb_109 mf_109.1 mf_109.2.1 (ee_argok_i mf_109.2.2.1 mf_109.2.2.2.1 rfl hh mf_109.2.2.2.2) (Nat.le_of_ble_eq_true rfl)
theorem mb_110 : ee_B 110 = some bd_110 := rfl
set_option maxRecDepth 100000 in
theorem mf_110 : (es_m 110).2.1 = 3 ∧ (es_m 110).2.2.1 = (Option.some Jvm.ClassFile.FieldType.int) ∧ (es_m 110).2.2.2.1 = false ∧ ee_sig 110 = some 2 ∧ es_own 0 = (es_m 110).1.cls := by decide +kernel
/-- HeadServo.book -/
theorem rn_110 {P : Nat → Nat → List Value → ee_W → Option (List Value × ee_W)} {d : Nat} {w : ee_W} {h : Nat} (hh : es_sh h = (10, 0)) (x0 : Int32) (x1 : Int32) : ee_run ee_B P (d + 1) 110 [.ref h, .int x0, .int x1] w = ee_fin (Option.some Jvm.ClassFile.FieldType.int) (ee_evS es_sh es_rf (ee_run ee_B P d) bd_110 0 [some (.ref h), some (.int x0), some (.int x1)] w) := rn_gen (n := 3) mb_110 mf_110.1 mf_110.2.1 (ee_argok_i mf_110.2.2.1 mf_110.2.2.2.1 rfl hh mf_110.2.2.2.2) (Nat.le_of_ble_eq_true rfl)
theorem mb_112 : ee_B 112 = some bd_112 := rfl
set_option maxRecDepth 100000 in
theorem mf_112 : (es_m 112).2.1 = 4 ∧ (es_m 112).2.2.1 = (Option.some Jvm.ClassFile.FieldType.int) ∧ (es_m 112).2.2.2.1 = false ∧ ee_sig 112 = some 2 ∧ es_own 0 = (es_m 112).1.cls := by decide +kernel
/-- HeadServo.foretold -/
theorem rn_112 {P : Nat → Nat → List Value → ee_W → Option (List Value × ee_W)} {d : Nat} {w : ee_W} {h : Nat} (hh : es_sh h = (10, 0)) (x0 : Int32) (x1 : Int32) : ee_run ee_B P (d + 1) 112 [.ref h, .int x0, .int x1] w = ee_fin (Option.some Jvm.ClassFile.FieldType.int) (ee_evS es_sh es_rf (ee_run ee_B P d) bd_112 0 [some (.ref h), some (.int x0), some (.int x1), none] w) := rn_gen (n := 4) mb_112 mf_112.1 mf_112.2.1 (ee_argok_i mf_112.2.2.1 mf_112.2.2.2.1 rfl hh mf_112.2.2.2.2) (Nat.le_of_ble_eq_true rfl)
theorem mb_113 : ee_B 113 = some bd_113 := rfl
set_option maxRecDepth 100000 in
theorem mf_113 : (es_m 113).2.1 = 3 ∧ (es_m 113).2.2.1 = (Option.some Jvm.ClassFile.FieldType.int) ∧ (es_m 113).2.2.2.1 = false ∧ ee_sig 113 = some 1 ∧ es_own 0 = (es_m 113).1.cls := by decide +kernel
/-- HeadServo.till -/
theorem rn_113 {P : Nat → Nat → List Value → ee_W → Option (List Value × ee_W)} {d : Nat} {w : ee_W} {h : Nat} (hh : es_sh h = (10, 0)) (x0 : Int32) : ee_run ee_B P (d + 1) 113 [.ref h, .int x0] w = ee_fin (Option.some Jvm.ClassFile.FieldType.int) (ee_evS es_sh es_rf (ee_run ee_B P d) bd_113 0 [some (.ref h), some (.int x0), none] w) := rn_gen (n := 3) mb_113 mf_113.1 mf_113.2.1 (ee_argok_i mf_113.2.2.1 mf_113.2.2.2.1 rfl hh mf_113.2.2.2.2) (Nat.le_of_ble_eq_true rfl)
theorem mb_114 : ee_B 114 = some bd_114 := rfl
set_option maxRecDepth 100000 in
theorem mf_114 : (es_m 114).2.1 = 2 ∧ (es_m 114).2.2.1 = (Option.some Jvm.ClassFile.FieldType.int) ∧ (es_m 114).2.2.2.1 = false ∧ ee_sig 114 = some 1 ∧ es_own 0 = (es_m 114).1.cls := by decide +kernel
/-- HeadServo.gray -/
theorem rn_114 {P : Nat → Nat → List Value → ee_W → Option (List Value × ee_W)} {d : Nat} {w : ee_W} {h : Nat} (hh : es_sh h = (10, 0)) (x0 : Int32) : ee_run ee_B P (d + 1) 114 [.ref h, .int x0] w = ee_fin (Option.some Jvm.ClassFile.FieldType.int) (ee_evS es_sh es_rf (ee_run ee_B P d) bd_114 0 [some (.ref h), some (.int x0)] w) := rn_gen (n := 2) mb_114 mf_114.1 mf_114.2.1 (ee_argok_i mf_114.2.2.1 mf_114.2.2.2.1 rfl hh mf_114.2.2.2.2) (Nat.le_of_ble_eq_true rfl)
theorem mb_116 : ee_B 116 = some bd_116 := rfl
set_option maxRecDepth 100000 in
theorem mf_116 : (es_m 116).2.1 = 2 ∧ (es_m 116).2.2.1 = (Option.some Jvm.ClassFile.FieldType.int) ∧ (es_m 116).2.2.2.1 = false ∧ ee_sig 116 = some 1 ∧ es_own 0 = (es_m 116).1.cls := by decide +kernel
/-- HeadServo.track -/
theorem rn_116 {P : Nat → Nat → List Value → ee_W → Option (List Value × ee_W)} {d : Nat} {w : ee_W} {h : Nat} (hh : es_sh h = (10, 0)) (x0 : Int32) : ee_run ee_B P (d + 1) 116 [.ref h, .int x0] w = ee_fin (Option.some Jvm.ClassFile.FieldType.int) (ee_evS es_sh es_rf (ee_run ee_B P d) bd_116 0 [some (.ref h), some (.int x0)] w) := rn_gen (n := 2) mb_116 mf_116.1 mf_116.2.1 (ee_argok_i mf_116.2.2.1 mf_116.2.2.2.1 rfl hh mf_116.2.2.2.2) (Nat.le_of_ble_eq_true rfl)
theorem mb_118 : ee_B 118 = some bd_118 := rfl
set_option maxRecDepth 100000 in
theorem mf_118 : (es_m 118).2.1 = 3 ∧ (es_m 118).2.2.1 = (Option.some Jvm.ClassFile.FieldType.int) ∧ (es_m 118).2.2.2.1 = false ∧ ee_sig 118 = some 2 ∧ es_own 0 = (es_m 118).1.cls := by decide +kernel
/-- HeadServo.burst -/
theorem rn_118 {P : Nat → Nat → List Value → ee_W → Option (List Value × ee_W)} {d : Nat} {w : ee_W} {h : Nat} (hh : es_sh h = (10, 0)) (x0 : Int32) (x1 : Int32) : ee_run ee_B P (d + 1) 118 [.ref h, .int x0, .int x1] w = ee_fin (Option.some Jvm.ClassFile.FieldType.int) (ee_evS es_sh es_rf (ee_run ee_B P d) bd_118 0 [some (.ref h), some (.int x0), some (.int x1)] w) := rn_gen (n := 3) mb_118 mf_118.1 mf_118.2.1 (ee_argok_i mf_118.2.2.1 mf_118.2.2.2.1 rfl hh mf_118.2.2.2.2) (Nat.le_of_ble_eq_true rfl)
theorem mb_120 : ee_B 120 = some bd_120 := rfl
set_option maxRecDepth 100000 in
theorem mf_120 : (es_m 120).2.1 = 4 ∧ (es_m 120).2.2.1 = (Option.some Jvm.ClassFile.FieldType.int) ∧ (es_m 120).2.2.2.1 = false ∧ ee_sig 120 = some 2 ∧ es_own 0 = (es_m 120).1.cls := by decide +kernel
/-- HeadServo.reads -/
theorem rn_120 {P : Nat → Nat → List Value → ee_W → Option (List Value × ee_W)} {d : Nat} {w : ee_W} {h : Nat} (hh : es_sh h = (10, 0)) (x0 : Int32) (x1 : Int32) : ee_run ee_B P (d + 1) 120 [.ref h, .int x0, .int x1] w = ee_fin (Option.some Jvm.ClassFile.FieldType.int) (ee_evS es_sh es_rf (ee_run ee_B P d) bd_120 0 [some (.ref h), some (.int x0), some (.int x1), none] w) := rn_gen (n := 4) mb_120 mf_120.1 mf_120.2.1 (ee_argok_i mf_120.2.2.1 mf_120.2.2.2.1 rfl hh mf_120.2.2.2.2) (Nat.le_of_ble_eq_true rfl)
theorem mb_122 : ee_B 122 = some bd_122 := rfl
set_option maxRecDepth 100000 in
theorem mf_122 : (es_m 122).2.1 = 8 ∧ (es_m 122).2.2.1 = (Option.some Jvm.ClassFile.FieldType.int) ∧ (es_m 122).2.2.2.1 = false ∧ ee_sig 122 = some 5 ∧ es_own 0 = (es_m 122).1.cls := by decide +kernel
/-- HeadServo.fit -/
theorem rn_122 {P : Nat → Nat → List Value → ee_W → Option (List Value × ee_W)} {d : Nat} {w : ee_W} {h : Nat} (hh : es_sh h = (10, 0)) (x0 : Int32) (x1 : Int32) (x2 : Int32) (x3 : Int32) (x4 : Int32) : ee_run ee_B P (d + 1) 122 [.ref h, .int x0, .int x1, .int x2, .int x3, .int x4] w = ee_fin (Option.some Jvm.ClassFile.FieldType.int) (ee_evS es_sh es_rf (ee_run ee_B P d) bd_122 0 [some (.ref h), some (.int x0), some (.int x1), some (.int x2), some (.int x3), some (.int x4), none, none] w) := rn_gen (n := 8) mb_122 mf_122.1 mf_122.2.1 (ee_argok_i mf_122.2.2.1 mf_122.2.2.2.1 rfl hh mf_122.2.2.2.2) (Nat.le_of_ble_eq_true rfl)
theorem mb_127 : ee_B 127 = some bd_127 := rfl
set_option maxRecDepth 100000 in
theorem mf_127 : (es_m 127).2.1 = 7 ∧ (es_m 127).2.2.1 = (Option.some Jvm.ClassFile.FieldType.int) ∧ (es_m 127).2.2.2.1 = false ∧ ee_sig 127 = some 5 ∧ es_own 0 = (es_m 127).1.cls := by decide +kernel
/-- HeadServo.fits -/
theorem rn_127 {P : Nat → Nat → List Value → ee_W → Option (List Value × ee_W)} {d : Nat} {w : ee_W} {h : Nat} (hh : es_sh h = (10, 0)) (x0 : Int32) (x1 : Int32) (x2 : Int32) (x3 : Int32) (x4 : Int32) : ee_run ee_B P (d + 1) 127 [.ref h, .int x0, .int x1, .int x2, .int x3, .int x4] w = ee_fin (Option.some Jvm.ClassFile.FieldType.int) (ee_evS es_sh es_rf (ee_run ee_B P d) bd_127 0 [some (.ref h), some (.int x0), some (.int x1), some (.int x2), some (.int x3), some (.int x4), none] w) := rn_gen (n := 7) mb_127 mf_127.1 mf_127.2.1 (ee_argok_i mf_127.2.2.1 mf_127.2.2.2.1 rfl hh mf_127.2.2.2.2) (Nat.le_of_ble_eq_true rfl)
theorem mb_129 : ee_B 129 = some bd_129 := rfl
set_option maxRecDepth 100000 in
theorem mf_129 : (es_m 129).2.1 = 3 ∧ (es_m 129).2.2.1 = (Option.some Jvm.ClassFile.FieldType.int) ∧ (es_m 129).2.2.2.1 = false ∧ ee_sig 129 = some 2 ∧ es_own 0 = (es_m 129).1.cls := by decide +kernel
/-- HeadServo.unlike -/
theorem rn_129 {P : Nat → Nat → List Value → ee_W → Option (List Value × ee_W)} {d : Nat} {w : ee_W} {h : Nat} (hh : es_sh h = (10, 0)) (x0 : Int32) (x1 : Int32) : ee_run ee_B P (d + 1) 129 [.ref h, .int x0, .int x1] w = ee_fin (Option.some Jvm.ClassFile.FieldType.int) (ee_evS es_sh es_rf (ee_run ee_B P d) bd_129 0 [some (.ref h), some (.int x0), some (.int x1)] w) := rn_gen (n := 3) mb_129 mf_129.1 mf_129.2.1 (ee_argok_i mf_129.2.2.1 mf_129.2.2.2.1 rfl hh mf_129.2.2.2.2) (Nat.le_of_ble_eq_true rfl)
theorem mb_131 : ee_B 131 = some bd_131 := rfl
set_option maxRecDepth 100000 in
theorem mf_131 : (es_m 131).2.1 = 3 ∧ (es_m 131).2.2.1 = (Option.some Jvm.ClassFile.FieldType.int) ∧ (es_m 131).2.2.2.1 = false ∧ ee_sig 131 = some 2 ∧ es_own 0 = (es_m 131).1.cls := by decide +kernel
/-- HeadServo.rim -/
theorem rn_131 {P : Nat → Nat → List Value → ee_W → Option (List Value × ee_W)} {d : Nat} {w : ee_W} {h : Nat} (hh : es_sh h = (10, 0)) (x0 : Int32) (x1 : Int32) : ee_run ee_B P (d + 1) 131 [.ref h, .int x0, .int x1] w = ee_fin (Option.some Jvm.ClassFile.FieldType.int) (ee_evS es_sh es_rf (ee_run ee_B P d) bd_131 0 [some (.ref h), some (.int x0), some (.int x1)] w) := rn_gen (n := 3) mb_131 mf_131.1 mf_131.2.1 (ee_argok_i mf_131.2.2.1 mf_131.2.2.2.1 rfl hh mf_131.2.2.2.2) (Nat.le_of_ble_eq_true rfl)
theorem mb_132 : ee_B 132 = some bd_132 := rfl
set_option maxRecDepth 100000 in
theorem mf_132 : (es_m 132).2.1 = 5 ∧ (es_m 132).2.2.1 = (Option.some Jvm.ClassFile.FieldType.int) ∧ (es_m 132).2.2.2.1 = false ∧ ee_sig 132 = some 4 ∧ es_own 0 = (es_m 132).1.cls := by decide +kernel
/-- HeadServo.blind -/
theorem rn_132 {P : Nat → Nat → List Value → ee_W → Option (List Value × ee_W)} {d : Nat} {w : ee_W} {h : Nat} (hh : es_sh h = (10, 0)) (x0 : Int32) (x1 : Int32) (x2 : Int32) (x3 : Int32) : ee_run ee_B P (d + 1) 132 [.ref h, .int x0, .int x1, .int x2, .int x3] w = ee_fin (Option.some Jvm.ClassFile.FieldType.int) (ee_evS es_sh es_rf (ee_run ee_B P d) bd_132 0 [some (.ref h), some (.int x0), some (.int x1), some (.int x2), some (.int x3)] w) := rn_gen (n := 5) mb_132 mf_132.1 mf_132.2.1 (ee_argok_i mf_132.2.2.1 mf_132.2.2.2.1 rfl hh mf_132.2.2.2.2) (Nat.le_of_ble_eq_true rfl)
theorem mb_115 : ee_B 115 = some bd_115 := rfl
set_option maxRecDepth 100000 in
theorem mf_115 : (es_m 115).2.1 = 1 ∧ (es_m 115).2.2.1 = (Option.some Jvm.ClassFile.FieldType.int) ∧ (es_m 115).2.2.2.1 = true ∧ ee_sig 115 = some 1 := by decide +kernel
/-- HeadServo.codeOf -/
theorem rn_115 {P : Nat → Nat → List Value → ee_W → Option (List Value × ee_W)} {d : Nat} {w : ee_W} (x0 : Int32) : ee_run ee_B P (d + 1) 115 [.int x0] w = ee_fin (Option.some Jvm.ClassFile.FieldType.int) (ee_evS es_sh es_rf (ee_run ee_B P d) bd_115 0 [some (.int x0)] w) := rn_gen (n := 1) mb_115 mf_115.1 mf_115.2.1 (ee_argok_s mf_115.2.2.1 mf_115.2.2.2 rfl) (Nat.le_of_ble_eq_true rfl)
theorem mb_117 : ee_B 117 = some bd_117 := rfl
set_option maxRecDepth 100000 in
theorem mf_117 : (es_m 117).2.1 = 3 ∧ (es_m 117).2.2.1 = (Option.some Jvm.ClassFile.FieldType.int) ∧ (es_m 117).2.2.2.1 = true ∧ ee_sig 117 = some 1 := by decide +kernel
/-- HeadServo.trackOf -/
theorem rn_117 {P : Nat → Nat → List Value → ee_W → Option (List Value × ee_W)} {d : Nat} {w : ee_W} (x0 : Int32) : ee_run ee_B P (d + 1) 117 [.int x0] w = ee_fin (Option.some Jvm.ClassFile.FieldType.int) (ee_evS es_sh es_rf (ee_run ee_B P d) bd_117 0 [some (.int x0), none, none] w) := rn_gen (n := 3) mb_117 mf_117.1 mf_117.2.1 (ee_argok_s mf_117.2.2.1 mf_117.2.2.2 rfl) (Nat.le_of_ble_eq_true rfl)
theorem mb_119 : ee_B 119 = some bd_119 := rfl
set_option maxRecDepth 100000 in
theorem mf_119 : (es_m 119).2.1 = 3 ∧ (es_m 119).2.2.1 = (Option.some Jvm.ClassFile.FieldType.int) ∧ (es_m 119).2.2.2.1 = true ∧ ee_sig 119 = some 2 := by decide +kernel
/-- HeadServo.burstAt -/
theorem rn_119 {P : Nat → Nat → List Value → ee_W → Option (List Value × ee_W)} {d : Nat} {w : ee_W} (x0 : Int32) (x1 : Int32) : ee_run ee_B P (d + 1) 119 [.int x0, .int x1] w = ee_fin (Option.some Jvm.ClassFile.FieldType.int) (ee_evS es_sh es_rf (ee_run ee_B P d) bd_119 0 [some (.int x0), some (.int x1), none] w) := rn_gen (n := 3) mb_119 mf_119.1 mf_119.2.1 (ee_argok_s mf_119.2.2.1 mf_119.2.2.2 rfl) (Nat.le_of_ble_eq_true rfl)
theorem mb_121 : ee_B 121 = some bd_121 := rfl
set_option maxRecDepth 100000 in
theorem mf_121 : (es_m 121).2.1 = 2 ∧ (es_m 121).2.2.1 = (Option.some Jvm.ClassFile.FieldType.int) ∧ (es_m 121).2.2.2.1 = true ∧ ee_sig 121 = some 1 := by decide +kernel
/-- HeadServo.besideOf -/
theorem rn_121 {P : Nat → Nat → List Value → ee_W → Option (List Value × ee_W)} {d : Nat} {w : ee_W} (x0 : Int32) : ee_run ee_B P (d + 1) 121 [.int x0] w = ee_fin (Option.some Jvm.ClassFile.FieldType.int) (ee_evS es_sh es_rf (ee_run ee_B P d) bd_121 0 [some (.int x0), none] w) := rn_gen (n := 2) mb_121 mf_121.1 mf_121.2.1 (ee_argok_s mf_121.2.2.1 mf_121.2.2.2 rfl) (Nat.le_of_ble_eq_true rfl)
theorem mb_124 : ee_B 124 = some bd_124 := rfl
set_option maxRecDepth 100000 in
theorem mf_124 : (es_m 124).2.1 = 1 ∧ (es_m 124).2.2.1 = (Option.some Jvm.ClassFile.FieldType.int) ∧ (es_m 124).2.2.2.1 = true ∧ ee_sig 124 = some 1 := by decide +kernel
/-- HeadServo.lowRim -/
theorem rn_124 {P : Nat → Nat → List Value → ee_W → Option (List Value × ee_W)} {d : Nat} {w : ee_W} (x0 : Int32) : ee_run ee_B P (d + 1) 124 [.int x0] w = ee_fin (Option.some Jvm.ClassFile.FieldType.int) (ee_evS es_sh es_rf (ee_run ee_B P d) bd_124 0 [some (.int x0)] w) := rn_gen (n := 1) mb_124 mf_124.1 mf_124.2.1 (ee_argok_s mf_124.2.2.1 mf_124.2.2.2 rfl) (Nat.le_of_ble_eq_true rfl)
theorem mb_125 : ee_B 125 = some bd_125 := rfl
set_option maxRecDepth 100000 in
theorem mf_125 : (es_m 125).2.1 = 1 ∧ (es_m 125).2.2.1 = (Option.some Jvm.ClassFile.FieldType.int) ∧ (es_m 125).2.2.2.1 = true ∧ ee_sig 125 = some 1 := by decide +kernel
/-- HeadServo.highRim -/
theorem rn_125 {P : Nat → Nat → List Value → ee_W → Option (List Value × ee_W)} {d : Nat} {w : ee_W} (x0 : Int32) : ee_run ee_B P (d + 1) 125 [.int x0] w = ee_fin (Option.some Jvm.ClassFile.FieldType.int) (ee_evS es_sh es_rf (ee_run ee_B P d) bd_125 0 [some (.int x0)] w) := rn_gen (n := 1) mb_125 mf_125.1 mf_125.2.1 (ee_argok_s mf_125.2.2.1 mf_125.2.2.2 rfl) (Nat.le_of_ble_eq_true rfl)
theorem mb_123 : ee_B 123 = some bd_123 := rfl
set_option maxRecDepth 100000 in
theorem mf_123 : (es_m 123).2.1 = 4 ∧ (es_m 123).2.2.1 = (Option.some Jvm.ClassFile.FieldType.boolean) ∧ (es_m 123).2.2.2.1 = true ∧ ee_sig 123 = some 4 := by decide +kernel
/-- HeadServo.areBursts -/
theorem rn_123 {P : Nat → Nat → List Value → ee_W → Option (List Value × ee_W)} {d : Nat} {w : ee_W} (x0 : Int32) (x1 : Int32) (x2 : Int32) (x3 : Int32) : ee_run ee_B P (d + 1) 123 [.int x0, .int x1, .int x2, .int x3] w = ee_fin (Option.some Jvm.ClassFile.FieldType.boolean) (ee_evS es_sh es_rf (ee_run ee_B P d) bd_123 0 [some (.int x0), some (.int x1), some (.int x2), some (.int x3)] w) := rn_gen (n := 4) mb_123 mf_123.1 mf_123.2.1 (ee_argok_s mf_123.2.2.1 mf_123.2.2.2 rfl) (Nat.le_of_ble_eq_true rfl)
theorem mb_126 : ee_B 126 = some bd_126 := rfl
set_option maxRecDepth 100000 in
theorem mf_126 : (es_m 126).2.1 = 5 ∧ (es_m 126).2.2.1 = (Option.some Jvm.ClassFile.FieldType.boolean) ∧ (es_m 126).2.2.2.1 = true ∧ ee_sig 126 = some 5 := by decide +kernel
/-- HeadServo.bearsBursts -/
theorem rn_126 {P : Nat → Nat → List Value → ee_W → Option (List Value × ee_W)} {d : Nat} {w : ee_W} (x0 : Int32) (x1 : Int32) (x2 : Int32) (x3 : Int32) (x4 : Int32) : ee_run ee_B P (d + 1) 126 [.int x0, .int x1, .int x2, .int x3, .int x4] w = ee_fin (Option.some Jvm.ClassFile.FieldType.boolean) (ee_evS es_sh es_rf (ee_run ee_B P d) bd_126 0 [some (.int x0), some (.int x1), some (.int x2), some (.int x3), some (.int x4)] w) := rn_gen (n := 5) mb_126 mf_126.1 mf_126.2.1 (ee_argok_s mf_126.2.2.1 mf_126.2.2.2 rfl) (Nat.le_of_ble_eq_true rfl)
theorem mb_128 : ee_B 128 = some bd_128 := rfl
set_option maxRecDepth 100000 in
theorem mf_128 : (es_m 128).2.1 = 8 ∧ (es_m 128).2.2.1 = (Option.some Jvm.ClassFile.FieldType.int) ∧ (es_m 128).2.2.2.1 = true ∧ ee_sig 128 = some 6 := by decide +kernel
/-- HeadServo.countBearing -/
theorem rn_128 {P : Nat → Nat → List Value → ee_W → Option (List Value × ee_W)} {d : Nat} {w : ee_W} (x0 : Int32) (x1 : Int32) (x2 : Int32) (x3 : Int32) (x4 : Int32) (x5 : Int32) : ee_run ee_B P (d + 1) 128 [.int x0, .int x1, .int x2, .int x3, .int x4, .int x5] w = ee_fin (Option.some Jvm.ClassFile.FieldType.int) (ee_evS es_sh es_rf (ee_run ee_B P d) bd_128 0 [some (.int x0), some (.int x1), some (.int x2), some (.int x3), some (.int x4), some (.int x5), none, none] w) := rn_gen (n := 8) mb_128 mf_128.1 mf_128.2.1 (ee_argok_s mf_128.2.2.1 mf_128.2.2.2 rfl) (Nat.le_of_ble_eq_true rfl)
theorem mb_133 : ee_B 133 = some bd_133 := rfl
set_option maxRecDepth 100000 in
theorem mf_133 : (es_m 133).2.1 = 3 ∧ (es_m 133).2.2.1 = (Option.some Jvm.ClassFile.FieldType.int) ∧ (es_m 133).2.2.2.1 = false ∧ ee_sig 133 = some 2 ∧ es_own 0 = (es_m 133).1.cls := by decide +kernel
/-- HeadServo.curve -/
theorem rn_133 {P : Nat → Nat → List Value → ee_W → Option (List Value × ee_W)} {d : Nat} {w : ee_W} {h : Nat} (hh : es_sh h = (10, 0)) (x0 : Int32) (x1 : Int32) : ee_run ee_B P (d + 1) 133 [.ref h, .int x0, .int x1] w = ee_fin (Option.some Jvm.ClassFile.FieldType.int) (ee_evS es_sh es_rf (ee_run ee_B P d) bd_133 0 [some (.ref h), some (.int x0), some (.int x1)] w) := rn_gen (n := 3) mb_133 mf_133.1 mf_133.2.1 (ee_argok_i mf_133.2.2.1 mf_133.2.2.2.1 rfl hh mf_133.2.2.2.2) (Nat.le_of_ble_eq_true rfl)
theorem mb_134 : ee_B 134 = some bd_134 := rfl
set_option maxRecDepth 100000 in
theorem mf_134 : (es_m 134).2.1 = 3 ∧ (es_m 134).2.2.1 = (Option.some Jvm.ClassFile.FieldType.int) ∧ (es_m 134).2.2.2.1 = false ∧ ee_sig 134 = some 2 ∧ es_own 0 = (es_m 134).1.cls := by decide +kernel
/-- HeadServo.stop -/
theorem rn_134 {P : Nat → Nat → List Value → ee_W → Option (List Value × ee_W)} {d : Nat} {w : ee_W} {h : Nat} (hh : es_sh h = (10, 0)) (x0 : Int32) (x1 : Int32) : ee_run ee_B P (d + 1) 134 [.ref h, .int x0, .int x1] w = ee_fin (Option.some Jvm.ClassFile.FieldType.int) (ee_evS es_sh es_rf (ee_run ee_B P d) bd_134 0 [some (.ref h), some (.int x0), some (.int x1)] w) := rn_gen (n := 3) mb_134 mf_134.1 mf_134.2.1 (ee_argok_i mf_134.2.2.1 mf_134.2.2.2.1 rfl hh mf_134.2.2.2.2) (Nat.le_of_ble_eq_true rfl)
theorem mb_135 : ee_B 135 = some bd_135 := rfl
set_option maxRecDepth 100000 in
theorem mf_135 : (es_m 135).2.1 = 4 ∧ (es_m 135).2.2.1 = (Option.some Jvm.ClassFile.FieldType.int) ∧ (es_m 135).2.2.2.1 = false ∧ ee_sig 135 = some 2 ∧ es_own 0 = (es_m 135).1.cls := by decide +kernel
/-- HeadServo.needs -/
theorem rn_135 {P : Nat → Nat → List Value → ee_W → Option (List Value × ee_W)} {d : Nat} {w : ee_W} {h : Nat} (hh : es_sh h = (10, 0)) (x0 : Int32) (x1 : Int32) : ee_run ee_B P (d + 1) 135 [.ref h, .int x0, .int x1] w = ee_fin (Option.some Jvm.ClassFile.FieldType.int) (ee_evS es_sh es_rf (ee_run ee_B P d) bd_135 0 [some (.ref h), some (.int x0), some (.int x1), none] w) := rn_gen (n := 4) mb_135 mf_135.1 mf_135.2.1 (ee_argok_i mf_135.2.2.1 mf_135.2.2.2.1 rfl hh mf_135.2.2.2.2) (Nat.le_of_ble_eq_true rfl)
theorem mb_136 : ee_B 136 = some bd_136 := rfl
set_option maxRecDepth 100000 in
theorem mf_136 : (es_m 136).2.1 = 3 ∧ (es_m 136).2.2.1 = (Option.some Jvm.ClassFile.FieldType.int) ∧ (es_m 136).2.2.2.1 = false ∧ ee_sig 136 = some 2 ∧ es_own 0 = (es_m 136).1.cls := by decide +kernel
/-- HeadServo.fewest -/
theorem rn_136 {P : Nat → Nat → List Value → ee_W → Option (List Value × ee_W)} {d : Nat} {w : ee_W} {h : Nat} (hh : es_sh h = (10, 0)) (x0 : Int32) (x1 : Int32) : ee_run ee_B P (d + 1) 136 [.ref h, .int x0, .int x1] w = ee_fin (Option.some Jvm.ClassFile.FieldType.int) (ee_evS es_sh es_rf (ee_run ee_B P d) bd_136 0 [some (.ref h), some (.int x0), some (.int x1)] w) := rn_gen (n := 3) mb_136 mf_136.1 mf_136.2.1 (ee_argok_i mf_136.2.2.1 mf_136.2.2.2.1 rfl hh mf_136.2.2.2.2) (Nat.le_of_ble_eq_true rfl)
theorem mb_141 : ee_B 141 = some bd_141 := rfl
set_option maxRecDepth 100000 in
theorem mf_141 : (es_m 141).2.1 = 8 ∧ (es_m 141).2.2.1 = (Option.some Jvm.ClassFile.FieldType.int) ∧ (es_m 141).2.2.2.1 = false ∧ ee_sig 141 = some 3 ∧ es_own 0 = (es_m 141).1.cls := by decide +kernel
/-- HeadServo.plan -/
theorem rn_141 {P : Nat → Nat → List Value → ee_W → Option (List Value × ee_W)} {d : Nat} {w : ee_W} {h : Nat} (hh : es_sh h = (10, 0)) (x0 : Int32) (x1 : Int32) (x2 : Int32) : ee_run ee_B P (d + 1) 141 [.ref h, .int x0, .int x1, .int x2] w = ee_fin (Option.some Jvm.ClassFile.FieldType.int) (ee_evS es_sh es_rf (ee_run ee_B P d) bd_141 0 [some (.ref h), some (.int x0), some (.int x1), some (.int x2), none, none, none, none] w) := rn_gen (n := 8) mb_141 mf_141.1 mf_141.2.1 (ee_argok_i mf_141.2.2.1 mf_141.2.2.2.1 rfl hh mf_141.2.2.2.2) (Nat.le_of_ble_eq_true rfl)
theorem mb_91 : ee_B 91 = some bd_91 := rfl
set_option maxRecDepth 100000 in
theorem mf_91 : (es_m 91).2.1 = 5 ∧ (es_m 91).2.2.1 = (Option.some Jvm.ClassFile.FieldType.int) ∧ (es_m 91).2.2.2.1 = true ∧ ee_sig 91 = some 2 := by decide +kernel
/-- HeadServo.speedOver -/
theorem rn_91 {P : Nat → Nat → List Value → ee_W → Option (List Value × ee_W)} {d : Nat} {w : ee_W} (x0 : Int32) (x1 : Int32) : ee_run ee_B P (d + 1) 91 [.int x0, .int x1] w = ee_fin (Option.some Jvm.ClassFile.FieldType.int) (ee_evS es_sh es_rf (ee_run ee_B P d) bd_91 0 [some (.int x0), some (.int x1), none, none, none] w) := rn_gen (n := 5) mb_91 mf_91.1 mf_91.2.1 (ee_argok_s mf_91.2.2.1 mf_91.2.2.2 rfl) (Nat.le_of_ble_eq_true rfl)
theorem mb_93 : ee_B 93 = some bd_93 := rfl
set_option maxRecDepth 100000 in
theorem mf_93 : (es_m 93).2.1 = 3 ∧ (es_m 93).2.2.1 = (Option.some Jvm.ClassFile.FieldType.int) ∧ (es_m 93).2.2.2.1 = true ∧ ee_sig 93 = some 2 := by decide +kernel
/-- HeadServo.wayToStop -/
theorem rn_93 {P : Nat → Nat → List Value → ee_W → Option (List Value × ee_W)} {d : Nat} {w : ee_W} (x0 : Int32) (x1 : Int32) : ee_run ee_B P (d + 1) 93 [.int x0, .int x1] w = ee_fin (Option.some Jvm.ClassFile.FieldType.int) (ee_evS es_sh es_rf (ee_run ee_B P d) bd_93 0 [some (.int x0), some (.int x1), none] w) := rn_gen (n := 3) mb_93 mf_93.1 mf_93.2.1 (ee_argok_s mf_93.2.2.1 mf_93.2.2.2 rfl) (Nat.le_of_ble_eq_true rfl)
theorem mb_137 : ee_B 137 = some bd_137 := rfl
set_option maxRecDepth 100000 in
theorem mf_137 : (es_m 137).2.1 = 6 ∧ (es_m 137).2.2.1 = (Option.none : Option Jvm.ClassFile.FieldType) ∧ (es_m 137).2.2.2.1 = false ∧ ee_sig 137 = some 2 ∧ es_own 0 = (es_m 137).1.cls := by decide +kernel
/-- HeadServo.findFewest -/
theorem rn_137 {P : Nat → Nat → List Value → ee_W → Option (List Value × ee_W)} {d : Nat} {w : ee_W} {h : Nat} (hh : es_sh h = (10, 0)) (x0 : Int32) (x1 : Int32) : ee_run ee_B P (d + 1) 137 [.ref h, .int x0, .int x1] w = ee_fin (Option.none : Option Jvm.ClassFile.FieldType) (ee_evS es_sh es_rf (ee_run ee_B P d) bd_137 0 [some (.ref h), some (.int x0), some (.int x1), none, none, none] w) := rn_gen (n := 6) mb_137 mf_137.1 mf_137.2.1 (ee_argok_i mf_137.2.2.1 mf_137.2.2.2.1 rfl hh mf_137.2.2.2.2) (Nat.le_of_ble_eq_true rfl)
theorem mb_139 : ee_B 139 = some bd_139 := rfl
set_option maxRecDepth 100000 in
theorem mf_139 : (es_m 139).2.1 = 7 ∧ (es_m 139).2.2.1 = (Option.some Jvm.ClassFile.FieldType.int) ∧ (es_m 139).2.2.2.1 = false ∧ ee_sig 139 = some 3 ∧ es_own 0 = (es_m 139).1.cls := by decide +kernel
/-- HeadServo.leastOfNext -/
theorem rn_139 {P : Nat → Nat → List Value → ee_W → Option (List Value × ee_W)} {d : Nat} {w : ee_W} {h : Nat} (hh : es_sh h = (10, 0)) (x0 : Int32) (x1 : Int32) (x2 : Int32) : ee_run ee_B P (d + 1) 139 [.ref h, .int x0, .int x1, .int x2] w = ee_fin (Option.some Jvm.ClassFile.FieldType.int) (ee_evS es_sh es_rf (ee_run ee_B P d) bd_139 0 [some (.ref h), some (.int x0), some (.int x1), some (.int x2), none, none, none] w) := rn_gen (n := 7) mb_139 mf_139.1 mf_139.2.1 (ee_argok_i mf_139.2.2.1 mf_139.2.2.2.1 rfl hh mf_139.2.2.2.2) (Nat.le_of_ble_eq_true rfl)
theorem mb_142 : ee_B 142 = some bd_142 := rfl
set_option maxRecDepth 100000 in
theorem mf_142 : (es_m 142).2.1 = 6 ∧ (es_m 142).2.2.1 = (Option.some Jvm.ClassFile.FieldType.int) ∧ (es_m 142).2.2.2.1 = false ∧ ee_sig 142 = some 3 ∧ es_own 0 = (es_m 142).1.cls := by decide +kernel
/-- HeadServo.lowestNext -/
theorem rn_142 {P : Nat → Nat → List Value → ee_W → Option (List Value × ee_W)} {d : Nat} {w : ee_W} {h : Nat} (hh : es_sh h = (10, 0)) (x0 : Int32) (x1 : Int32) (x2 : Int32) : ee_run ee_B P (d + 1) 142 [.ref h, .int x0, .int x1, .int x2] w = ee_fin (Option.some Jvm.ClassFile.FieldType.int) (ee_evS es_sh es_rf (ee_run ee_B P d) bd_142 0 [some (.ref h), some (.int x0), some (.int x1), some (.int x2), none, none] w) := rn_gen (n := 6) mb_142 mf_142.1 mf_142.2.1 (ee_argok_i mf_142.2.2.1 mf_142.2.2.2.1 rfl hh mf_142.2.2.2.2) (Nat.le_of_ble_eq_true rfl)
theorem mb_140 : ee_B 140 = some bd_140 := rfl
set_option maxRecDepth 100000 in
theorem mf_140 : (es_m 140).2.1 = 4 ∧ (es_m 140).2.2.1 = (Option.some Jvm.ClassFile.FieldType.int) ∧ (es_m 140).2.2.2.1 = false ∧ ee_sig 140 = some 2 ∧ es_own 0 = (es_m 140).1.cls := by decide +kernel
/-- HeadServo.fewestOf -/
theorem rn_140 {P : Nat → Nat → List Value → ee_W → Option (List Value × ee_W)} {d : Nat} {w : ee_W} {h : Nat} (hh : es_sh h = (10, 0)) (x0 : Int32) (x1 : Int32) : ee_run ee_B P (d + 1) 140 [.ref h, .int x0, .int x1] w = ee_fin (Option.some Jvm.ClassFile.FieldType.int) (ee_evS es_sh es_rf (ee_run ee_B P d) bd_140 0 [some (.ref h), some (.int x0), some (.int x1), none] w) := rn_gen (n := 4) mb_140 mf_140.1 mf_140.2.1 (ee_argok_i mf_140.2.2.1 mf_140.2.2.2.1 rfl hh mf_140.2.2.2.2) (Nat.le_of_ble_eq_true rfl)
theorem mb_138 : ee_B 138 = some bd_138 := rfl
set_option maxRecDepth 100000 in
theorem mf_138 : (es_m 138).2.1 = 2 ∧ (es_m 138).2.2.1 = (Option.some Jvm.ClassFile.FieldType.int) ∧ (es_m 138).2.2.2.1 = true ∧ ee_sig 138 = some 2 := by decide +kernel
/-- HeadServo.fewestPlace -/
theorem rn_138 {P : Nat → Nat → List Value → ee_W → Option (List Value × ee_W)} {d : Nat} {w : ee_W} (x0 : Int32) (x1 : Int32) : ee_run ee_B P (d + 1) 138 [.int x0, .int x1] w = ee_fin (Option.some Jvm.ClassFile.FieldType.int) (ee_evS es_sh es_rf (ee_run ee_B P d) bd_138 0 [some (.int x0), some (.int x1)] w) := rn_gen (n := 2) mb_138 mf_138.1 mf_138.2.1 (ee_argok_s mf_138.2.2.1 mf_138.2.2.2 rfl) (Nat.le_of_ble_eq_true rfl)
theorem mb_143 : ee_B 143 = some bd_143 := rfl
set_option maxRecDepth 100000 in
theorem mf_143 : (es_m 143).2.1 = 4 ∧ (es_m 143).2.2.1 = (Option.some Jvm.ClassFile.FieldType.int) ∧ (es_m 143).2.2.2.1 = false ∧ ee_sig 143 = some 3 ∧ es_own 0 = (es_m 143).1.cls := by decide +kernel
/-- HeadServo.learn -/
theorem rn_143 {P : Nat → Nat → List Value → ee_W → Option (List Value × ee_W)} {d : Nat} {w : ee_W} {h : Nat} (hh : es_sh h = (10, 0)) (x0 : Int32) (x1 : Int32) (x2 : Int32) : ee_run ee_B P (d + 1) 143 [.ref h, .int x0, .int x1, .int x2] w = ee_fin (Option.some Jvm.ClassFile.FieldType.int) (ee_evS es_sh es_rf (ee_run ee_B P d) bd_143 0 [some (.ref h), some (.int x0), some (.int x1), some (.int x2)] w) := rn_gen (n := 4) mb_143 mf_143.1 mf_143.2.1 (ee_argok_i mf_143.2.2.1 mf_143.2.2.2.1 rfl hh mf_143.2.2.2.2) (Nat.le_of_ble_eq_true rfl)
theorem mb_146 : ee_B 146 = some bd_146 := rfl
set_option maxRecDepth 100000 in
theorem mf_146 : (es_m 146).2.1 = 3 ∧ (es_m 146).2.2.1 = (Option.some Jvm.ClassFile.FieldType.int) ∧ (es_m 146).2.2.2.1 = false ∧ ee_sig 146 = some 2 ∧ es_own 0 = (es_m 146).1.cls := by decide +kernel
/-- HeadServo.rests -/
theorem rn_146 {P : Nat → Nat → List Value → ee_W → Option (List Value × ee_W)} {d : Nat} {w : ee_W} {h : Nat} (hh : es_sh h = (10, 0)) (x0 : Int32) (x1 : Int32) : ee_run ee_B P (d + 1) 146 [.ref h, .int x0, .int x1] w = ee_fin (Option.some Jvm.ClassFile.FieldType.int) (ee_evS es_sh es_rf (ee_run ee_B P d) bd_146 0 [some (.ref h), some (.int x0), some (.int x1)] w) := rn_gen (n := 3) mb_146 mf_146.1 mf_146.2.1 (ee_argok_i mf_146.2.2.1 mf_146.2.2.2.1 rfl hh mf_146.2.2.2.2) (Nat.le_of_ble_eq_true rfl)
theorem mb_148 : ee_B 148 = some bd_148 := rfl
set_option maxRecDepth 100000 in
theorem mf_148 : (es_m 148).2.1 = 6 ∧ (es_m 148).2.2.1 = (Option.some Jvm.ClassFile.FieldType.int) ∧ (es_m 148).2.2.2.1 = false ∧ ee_sig 148 = some 1 ∧ es_own 0 = (es_m 148).1.cls := by decide +kernel
/-- HeadServo.gain -/
theorem rn_148 {P : Nat → Nat → List Value → ee_W → Option (List Value × ee_W)} {d : Nat} {w : ee_W} {h : Nat} (hh : es_sh h = (10, 0)) (x0 : Int32) : ee_run ee_B P (d + 1) 148 [.ref h, .int x0] w = ee_fin (Option.some Jvm.ClassFile.FieldType.int) (ee_evS es_sh es_rf (ee_run ee_B P d) bd_148 0 [some (.ref h), some (.int x0), none, none, none, none] w) := rn_gen (n := 6) mb_148 mf_148.1 mf_148.2.1 (ee_argok_i mf_148.2.2.1 mf_148.2.2.2.1 rfl hh mf_148.2.2.2.2) (Nat.le_of_ble_eq_true rfl)
theorem mb_144 : ee_B 144 = some bd_144 := rfl
set_option maxRecDepth 100000 in
theorem mf_144 : (es_m 144).2.1 = 2 ∧ (es_m 144).2.2.1 = (Option.some Jvm.ClassFile.FieldType.boolean) ∧ (es_m 144).2.2.2.1 = true ∧ ee_sig 144 = some 2 := by decide +kernel
/-- HeadServo.areOffAndGain -/
theorem rn_144 {P : Nat → Nat → List Value → ee_W → Option (List Value × ee_W)} {d : Nat} {w : ee_W} (x0 : Int32) (x1 : Int32) : ee_run ee_B P (d + 1) 144 [.int x0, .int x1] w = ee_fin (Option.some Jvm.ClassFile.FieldType.boolean) (ee_evS es_sh es_rf (ee_run ee_B P d) bd_144 0 [some (.int x0), some (.int x1)] w) := rn_gen (n := 2) mb_144 mf_144.1 mf_144.2.1 (ee_argok_s mf_144.2.2.1 mf_144.2.2.2 rfl) (Nat.le_of_ble_eq_true rfl)
theorem mb_145 : ee_B 145 = some bd_145 := rfl
set_option maxRecDepth 100000 in
theorem mf_145 : (es_m 145).2.1 = 5 ∧ (es_m 145).2.2.1 = (Option.some Jvm.ClassFile.FieldType.int) ∧ (es_m 145).2.2.2.1 = true ∧ ee_sig 145 = some 3 := by decide +kernel
/-- HeadServo.learntBehind -/
theorem rn_145 {P : Nat → Nat → List Value → ee_W → Option (List Value × ee_W)} {d : Nat} {w : ee_W} (x0 : Int32) (x1 : Int32) (x2 : Int32) : ee_run ee_B P (d + 1) 145 [.int x0, .int x1, .int x2] w = ee_fin (Option.some Jvm.ClassFile.FieldType.int) (ee_evS es_sh es_rf (ee_run ee_B P d) bd_145 0 [some (.int x0), some (.int x1), some (.int x2), none, none] w) := rn_gen (n := 5) mb_145 mf_145.1 mf_145.2.1 (ee_argok_s mf_145.2.2.1 mf_145.2.2.2 rfl) (Nat.le_of_ble_eq_true rfl)
theorem mb_147 : ee_B 147 = some bd_147 := rfl
set_option maxRecDepth 100000 in
theorem mf_147 : (es_m 147).2.1 = 5 ∧ (es_m 147).2.2.1 = (Option.some Jvm.ClassFile.FieldType.int) ∧ (es_m 147).2.2.2.1 = true ∧ ee_sig 147 = some 2 := by decide +kernel
/-- HeadServo.restOf -/
theorem rn_147 {P : Nat → Nat → List Value → ee_W → Option (List Value × ee_W)} {d : Nat} {w : ee_W} (x0 : Int32) (x1 : Int32) : ee_run ee_B P (d + 1) 147 [.int x0, .int x1] w = ee_fin (Option.some Jvm.ClassFile.FieldType.int) (ee_evS es_sh es_rf (ee_run ee_B P d) bd_147 0 [some (.int x0), some (.int x1), none, none, none] w) := rn_gen (n := 5) mb_147 mf_147.1 mf_147.2.1 (ee_argok_s mf_147.2.2.1 mf_147.2.2.2 rfl) (Nat.le_of_ble_eq_true rfl)
theorem mb_149 : ee_B 149 = some bd_149 := rfl
set_option maxRecDepth 100000 in
theorem mf_149 : (es_m 149).2.1 = 2 ∧ (es_m 149).2.2.1 = (Option.some Jvm.ClassFile.FieldType.int) ∧ (es_m 149).2.2.2.1 = true ∧ ee_sig 149 = some 2 := by decide +kernel
/-- HeadServo.leftAtLast -/
theorem rn_149 {P : Nat → Nat → List Value → ee_W → Option (List Value × ee_W)} {d : Nat} {w : ee_W} (x0 : Int32) (x1 : Int32) : ee_run ee_B P (d + 1) 149 [.int x0, .int x1] w = ee_fin (Option.some Jvm.ClassFile.FieldType.int) (ee_evS es_sh es_rf (ee_run ee_B P d) bd_149 0 [some (.int x0), some (.int x1)] w) := rn_gen (n := 2) mb_149 mf_149.1 mf_149.2.1 (ee_argok_s mf_149.2.2.1 mf_149.2.2.2 rfl) (Nat.le_of_ble_eq_true rfl)
theorem mb_150 : ee_B 150 = some bd_150 := rfl
set_option maxRecDepth 100000 in
theorem mf_150 : (es_m 150).2.1 = 2 ∧ (es_m 150).2.2.1 = (Option.some Jvm.ClassFile.FieldType.int) ∧ (es_m 150).2.2.2.1 = false ∧ ee_sig 150 = some 1 ∧ es_own 0 = (es_m 150).1.cls := by decide +kernel
/-- HeadServo.request -/
theorem rn_150 {P : Nat → Nat → List Value → ee_W → Option (List Value × ee_W)} {d : Nat} {w : ee_W} {h : Nat} (hh : es_sh h = (10, 0)) (x0 : Int32) : ee_run ee_B P (d + 1) 150 [.ref h, .int x0] w = ee_fin (Option.some Jvm.ClassFile.FieldType.int) (ee_evS es_sh es_rf (ee_run ee_B P d) bd_150 0 [some (.ref h), some (.int x0)] w) := rn_gen (n := 2) mb_150 mf_150.1 mf_150.2.1 (ee_argok_i mf_150.2.2.1 mf_150.2.2.2.1 rfl hh mf_150.2.2.2.2) (Nat.le_of_ble_eq_true rfl)
theorem mb_151 : ee_B 151 = some bd_151 := rfl
set_option maxRecDepth 100000 in
theorem mf_151 : (es_m 151).2.1 = 2 ∧ (es_m 151).2.2.1 = (Option.some Jvm.ClassFile.FieldType.int) ∧ (es_m 151).2.2.2.1 = false ∧ ee_sig 151 = some 1 ∧ es_own 0 = (es_m 151).1.cls := by decide +kernel
/-- HeadServo.order -/
theorem rn_151 {P : Nat → Nat → List Value → ee_W → Option (List Value × ee_W)} {d : Nat} {w : ee_W} {h : Nat} (hh : es_sh h = (10, 0)) (x0 : Int32) : ee_run ee_B P (d + 1) 151 [.ref h, .int x0] w = ee_fin (Option.some Jvm.ClassFile.FieldType.int) (ee_evS es_sh es_rf (ee_run ee_B P d) bd_151 0 [some (.ref h), some (.int x0)] w) := rn_gen (n := 2) mb_151 mf_151.1 mf_151.2.1 (ee_argok_i mf_151.2.2.1 mf_151.2.2.2.1 rfl hh mf_151.2.2.2.2) (Nat.le_of_ble_eq_true rfl)
theorem mb_157 : ee_B 157 = some bd_157 := rfl
set_option maxRecDepth 100000 in
theorem mf_157 : (es_m 157).2.1 = 7 ∧ (es_m 157).2.2.1 = (Option.some Jvm.ClassFile.FieldType.int) ∧ (es_m 157).2.2.2.1 = false ∧ ee_sig 157 = some 1 ∧ es_own 0 = (es_m 157).1.cls := by decide +kernel
/-- HeadServo.sweep -/
theorem rn_157 {P : Nat → Nat → List Value → ee_W → Option (List Value × ee_W)} {d : Nat} {w : ee_W} {h : Nat} (hh : es_sh h = (10, 0)) (x0 : Int32) : ee_run ee_B P (d + 1) 157 [.ref h, .int x0] w = ee_fin (Option.some Jvm.ClassFile.FieldType.int) (ee_evS es_sh es_rf (ee_run ee_B P d) bd_157 0 [some (.ref h), some (.int x0), none, none, none, none, none] w) := rn_gen (n := 7) mb_157 mf_157.1 mf_157.2.1 (ee_argok_i mf_157.2.2.1 mf_157.2.2.2.1 rfl hh mf_157.2.2.2.2) (Nat.le_of_ble_eq_true rfl)
theorem mb_158 : ee_B 158 = some bd_158 := rfl
set_option maxRecDepth 100000 in
theorem mf_158 : (es_m 158).2.1 = 6 ∧ (es_m 158).2.2.1 = (Option.some Jvm.ClassFile.FieldType.int) ∧ (es_m 158).2.2.2.1 = false ∧ ee_sig 158 = some 0 ∧ es_own 0 = (es_m 158).1.cls := by decide +kernel
/-- HeadServo.nearest -/
theorem rn_158 {P : Nat → Nat → List Value → ee_W → Option (List Value × ee_W)} {d : Nat} {w : ee_W} {h : Nat} (hh : es_sh h = (10, 0)) : ee_run ee_B P (d + 1) 158 [.ref h] w = ee_fin (Option.some Jvm.ClassFile.FieldType.int) (ee_evS es_sh es_rf (ee_run ee_B P d) bd_158 0 [some (.ref h), none, none, none, none, none] w) := rn_gen (n := 6) mb_158 mf_158.1 mf_158.2.1 (ee_argok_i mf_158.2.2.1 mf_158.2.2.2.1 rfl hh mf_158.2.2.2.2) (Nat.le_of_ble_eq_true rfl)
theorem mb_159 : ee_B 159 = some bd_159 := rfl
set_option maxRecDepth 100000 in
theorem mf_159 : (es_m 159).2.1 = 5 ∧ (es_m 159).2.2.1 = (Option.some Jvm.ClassFile.FieldType.int) ∧ (es_m 159).2.2.2.1 = false ∧ ee_sig 159 = some 2 ∧ es_own 0 = (es_m 159).1.cls := by decide +kernel
/-- HeadServo.nearestOf -/
theorem rn_159 {P : Nat → Nat → List Value → ee_W → Option (List Value × ee_W)} {d : Nat} {w : ee_W} {h : Nat} (hh : es_sh h = (10, 0)) (x0 : Int32) (x1 : Int32) : ee_run ee_B P (d + 1) 159 [.ref h, .int x0, .int x1] w = ee_fin (Option.some Jvm.ClassFile.FieldType.int) (ee_evS es_sh es_rf (ee_run ee_B P d) bd_159 0 [some (.ref h), some (.int x0), some (.int x1), none, none] w) := rn_gen (n := 5) mb_159 mf_159.1 mf_159.2.1 (ee_argok_i mf_159.2.2.1 mf_159.2.2.2.1 rfl hh mf_159.2.2.2.2) (Nat.le_of_ble_eq_true rfl)
theorem mb_160 : ee_B 160 = some bd_160 := rfl
set_option maxRecDepth 100000 in
theorem mf_160 : (es_m 160).2.1 = 5 ∧ (es_m 160).2.2.1 = (Option.some Jvm.ClassFile.FieldType.boolean) ∧ (es_m 160).2.2.2.1 = true ∧ ee_sig 160 = some 3 := by decide +kernel
/-- HeadServo.isNearer -/
theorem rn_160 {P : Nat → Nat → List Value → ee_W → Option (List Value × ee_W)} {d : Nat} {w : ee_W} (x0 : Int32) (x1 : Int32) (x2 : Int32) : ee_run ee_B P (d + 1) 160 [.int x0, .int x1, .int x2] w = ee_fin (Option.some Jvm.ClassFile.FieldType.boolean) (ee_evS es_sh es_rf (ee_run ee_B P d) bd_160 0 [some (.int x0), some (.int x1), some (.int x2), none, none] w) := rn_gen (n := 5) mb_160 mf_160.1 mf_160.2.1 (ee_argok_s mf_160.2.2.1 mf_160.2.2.2 rfl) (Nat.le_of_ble_eq_true rfl)
theorem mb_161 : ee_B 161 = some bd_161 := rfl
set_option maxRecDepth 100000 in
theorem mf_161 : (es_m 161).2.1 = 3 ∧ (es_m 161).2.2.1 = (Option.some Jvm.ClassFile.FieldType.int) ∧ (es_m 161).2.2.2.1 = false ∧ ee_sig 161 = some 0 ∧ es_own 0 = (es_m 161).1.cls := by decide +kernel
/-- HeadServo.steady -/
theorem rn_161 {P : Nat → Nat → List Value → ee_W → Option (List Value × ee_W)} {d : Nat} {w : ee_W} {h : Nat} (hh : es_sh h = (10, 0)) : ee_run ee_B P (d + 1) 161 [.ref h] w = ee_fin (Option.some Jvm.ClassFile.FieldType.int) (ee_evS es_sh es_rf (ee_run ee_B P d) bd_161 0 [some (.ref h), none, none] w) := rn_gen (n := 3) mb_161 mf_161.1 mf_161.2.1 (ee_argok_i mf_161.2.2.1 mf_161.2.2.2.1 rfl hh mf_161.2.2.2.2) (Nat.le_of_ble_eq_true rfl)
theorem mb_164 : ee_B 164 = some bd_164 := rfl
set_option maxRecDepth 100000 in
theorem mf_164 : (es_m 164).2.1 = 7 ∧ (es_m 164).2.2.1 = (Option.some Jvm.ClassFile.FieldType.int) ∧ (es_m 164).2.2.2.1 = false ∧ ee_sig 164 = some 1 ∧ es_own 0 = (es_m 164).1.cls := by decide +kernel
/-- HeadServo.spread -/
theorem rn_164 {P : Nat → Nat → List Value → ee_W → Option (List Value × ee_W)} {d : Nat} {w : ee_W} {h : Nat} (hh : es_sh h = (10, 0)) (x0 : Int32) : ee_run ee_B P (d + 1) 164 [.ref h, .int x0] w = ee_fin (Option.some Jvm.ClassFile.FieldType.int) (ee_evS es_sh es_rf (ee_run ee_B P d) bd_164 0 [some (.ref h), some (.int x0), none, none, none, none, none] w) := rn_gen (n := 7) mb_164 mf_164.1 mf_164.2.1 (ee_argok_i mf_164.2.2.1 mf_164.2.2.2.1 rfl hh mf_164.2.2.2.2) (Nat.le_of_ble_eq_true rfl)
theorem mb_165 : ee_B 165 = some bd_165 := rfl
set_option maxRecDepth 100000 in
theorem mf_165 : (es_m 165).2.1 = 5 ∧ (es_m 165).2.2.1 = (Option.some Jvm.ClassFile.FieldType.long) ∧ (es_m 165).2.2.2.1 = false ∧ ee_sig 165 = some 1 ∧ es_own 0 = (es_m 165).1.cls := by decide +kernel
/-- HeadServo.mean -/
theorem rn_165 {P : Nat → Nat → List Value → ee_W → Option (List Value × ee_W)} {d : Nat} {w : ee_W} {h : Nat} (hh : es_sh h = (10, 0)) (x0 : Int32) : ee_run ee_B P (d + 1) 165 [.ref h, .int x0] w = ee_fin (Option.some Jvm.ClassFile.FieldType.long) (ee_evS es_sh es_rf (ee_run ee_B P d) bd_165 0 [some (.ref h), some (.int x0), none, none, none] w) := rn_gen (n := 5) mb_165 mf_165.1 mf_165.2.1 (ee_argok_i mf_165.2.2.1 mf_165.2.2.2.1 rfl hh mf_165.2.2.2.2) (Nat.le_of_ble_eq_true rfl)
theorem mb_166 : ee_B 166 = some bd_166 := rfl
set_option maxRecDepth 100000 in
theorem mf_166 : (es_m 166).2.1 = 6 ∧ (es_m 166).2.2.1 = (Option.some Jvm.ClassFile.FieldType.int) ∧ (es_m 166).2.2.2.1 = true ∧ ee_sig 166 = some 2 := by decide +kernel
/-- HeadServo.commonDivisor -/
theorem rn_166 {P : Nat → Nat → List Value → ee_W → Option (List Value × ee_W)} {d : Nat} {w : ee_W} (x0 : Int32) (x1 : Int32) : ee_run ee_B P (d + 1) 166 [.int x0, .int x1] w = ee_fin (Option.some Jvm.ClassFile.FieldType.int) (ee_evS es_sh es_rf (ee_run ee_B P d) bd_166 0 [some (.int x0), some (.int x1), none, none, none, none] w) := rn_gen (n := 6) mb_166 mf_166.1 mf_166.2.1 (ee_argok_s mf_166.2.2.1 mf_166.2.2.2 rfl) (Nat.le_of_ble_eq_true rfl)
theorem mb_167 : ee_B 167 = some bd_167 := rfl
set_option maxRecDepth 100000 in
theorem mf_167 : (es_m 167).2.1 = 6 ∧ (es_m 167).2.2.1 = (Option.some Jvm.ClassFile.FieldType.int) ∧ (es_m 167).2.2.2.1 = false ∧ ee_sig 167 = some 1 ∧ es_own 0 = (es_m 167).1.cls := by decide +kernel
/-- HeadServo.window -/
theorem rn_167 {P : Nat → Nat → List Value → ee_W → Option (List Value × ee_W)} {d : Nat} {w : ee_W} {h : Nat} (hh : es_sh h = (10, 0)) (x0 : Int32) : ee_run ee_B P (d + 1) 167 [.ref h, .int x0] w = ee_fin (Option.some Jvm.ClassFile.FieldType.int) (ee_evS es_sh es_rf (ee_run ee_B P d) bd_167 0 [some (.ref h), some (.int x0), none, none, none, none] w) := rn_gen (n := 6) mb_167 mf_167.1 mf_167.2.1 (ee_argok_i mf_167.2.2.1 mf_167.2.2.2.1 rfl hh mf_167.2.2.2.2) (Nat.le_of_ble_eq_true rfl)
theorem mb_168 : ee_B 168 = some bd_168 := rfl
set_option maxRecDepth 100000 in
theorem mf_168 : (es_m 168).2.1 = 6 ∧ (es_m 168).2.2.1 = (Option.some Jvm.ClassFile.FieldType.int) ∧ (es_m 168).2.2.2.1 = false ∧ ee_sig 168 = some 2 ∧ es_own 0 = (es_m 168).1.cls := by decide +kernel
/-- HeadServo.farthestIn -/
theorem rn_168 {P : Nat → Nat → List Value → ee_W → Option (List Value × ee_W)} {d : Nat} {w : ee_W} {h : Nat} (hh : es_sh h = (10, 0)) (x0 : Int32) (x1 : Int32) : ee_run ee_B P (d + 1) 168 [.ref h, .int x0, .int x1] w = ee_fin (Option.some Jvm.ClassFile.FieldType.int) (ee_evS es_sh es_rf (ee_run ee_B P d) bd_168 0 [some (.ref h), some (.int x0), some (.int x1), none, none, none] w) := rn_gen (n := 6) mb_168 mf_168.1 mf_168.2.1 (ee_argok_i mf_168.2.2.1 mf_168.2.2.2.1 rfl hh mf_168.2.2.2.2) (Nat.le_of_ble_eq_true rfl)
theorem mb_169 : ee_B 169 = some bd_169 := rfl
set_option maxRecDepth 100000 in
theorem mf_169 : (es_m 169).2.1 = 4 ∧ (es_m 169).2.2.1 = (Option.some Jvm.ClassFile.FieldType.int) ∧ (es_m 169).2.2.2.1 = false ∧ ee_sig 169 = some 0 ∧ es_own 0 = (es_m 169).1.cls := by decide +kernel
/-- HeadServo.longest -/
theorem rn_169 {P : Nat → Nat → List Value → ee_W → Option (List Value × ee_W)} {d : Nat} {w : ee_W} {h : Nat} (hh : es_sh h = (10, 0)) : ee_run ee_B P (d + 1) 169 [.ref h] w = ee_fin (Option.some Jvm.ClassFile.FieldType.int) (ee_evS es_sh es_rf (ee_run ee_B P d) bd_169 0 [some (.ref h), none, none, none] w) := rn_gen (n := 4) mb_169 mf_169.1 mf_169.2.1 (ee_argok_i mf_169.2.2.1 mf_169.2.2.2.1 rfl hh mf_169.2.2.2.2) (Nat.le_of_ble_eq_true rfl)
theorem mb_170 : ee_B 170 = some bd_170 := rfl
set_option maxRecDepth 100000 in
theorem mf_170 : (es_m 170).2.1 = 1 ∧ (es_m 170).2.2.1 = (Option.some Jvm.ClassFile.FieldType.int) ∧ (es_m 170).2.2.2.1 = false ∧ ee_sig 170 = some 0 ∧ es_own 0 = (es_m 170).1.cls := by decide +kernel
/-- HeadServo.lost -/
theorem rn_170 {P : Nat → Nat → List Value → ee_W → Option (List Value × ee_W)} {d : Nat} {w : ee_W} {h : Nat} (hh : es_sh h = (10, 0)) : ee_run ee_B P (d + 1) 170 [.ref h] w = ee_fin (Option.some Jvm.ClassFile.FieldType.int) (ee_evS es_sh es_rf (ee_run ee_B P d) bd_170 0 [some (.ref h)] w) := rn_gen (n := 1) mb_170 mf_170.1 mf_170.2.1 (ee_argok_i mf_170.2.2.1 mf_170.2.2.2.1 rfl hh mf_170.2.2.2.2) (Nat.le_of_ble_eq_true rfl)
theorem mb_171 : ee_B 171 = some bd_171 := rfl
set_option maxRecDepth 100000 in
theorem mf_171 : (es_m 171).2.1 = 2 ∧ (es_m 171).2.2.1 = (Option.some Jvm.ClassFile.FieldType.int) ∧ (es_m 171).2.2.2.1 = false ∧ ee_sig 171 = some 1 ∧ es_own 0 = (es_m 171).1.cls := by decide +kernel
/-- HeadServo.far -/
theorem rn_171 {P : Nat → Nat → List Value → ee_W → Option (List Value × ee_W)} {d : Nat} {w : ee_W} {h : Nat} (hh : es_sh h = (10, 0)) (x0 : Int32) : ee_run ee_B P (d + 1) 171 [.ref h, .int x0] w = ee_fin (Option.some Jvm.ClassFile.FieldType.int) (ee_evS es_sh es_rf (ee_run ee_B P d) bd_171 0 [some (.ref h), some (.int x0)] w) := rn_gen (n := 2) mb_171 mf_171.1 mf_171.2.1 (ee_argok_i mf_171.2.2.1 mf_171.2.2.2.1 rfl hh mf_171.2.2.2.2) (Nat.le_of_ble_eq_true rfl)
theorem mb_172 : ee_B 172 = some bd_172 := rfl
set_option maxRecDepth 100000 in
theorem mf_172 : (es_m 172).2.1 = 3 ∧ (es_m 172).2.2.1 = (Option.some Jvm.ClassFile.FieldType.int) ∧ (es_m 172).2.2.2.1 = false ∧ ee_sig 172 = some 0 ∧ es_own 0 = (es_m 172).1.cls := by decide +kernel
/-- HeadServo.worst -/
theorem rn_172 {P : Nat → Nat → List Value → ee_W → Option (List Value × ee_W)} {d : Nat} {w : ee_W} {h : Nat} (hh : es_sh h = (10, 0)) : ee_run ee_B P (d + 1) 172 [.ref h] w = ee_fin (Option.some Jvm.ClassFile.FieldType.int) (ee_evS es_sh es_rf (ee_run ee_B P d) bd_172 0 [some (.ref h), none, none] w) := rn_gen (n := 3) mb_172 mf_172.1 mf_172.2.1 (ee_argok_i mf_172.2.2.1 mf_172.2.2.2.1 rfl hh mf_172.2.2.2.2) (Nat.le_of_ble_eq_true rfl)
theorem mb_162 : ee_B 162 = some bd_162 := rfl
set_option maxRecDepth 100000 in
theorem mf_162 : (es_m 162).2.1 = 2 ∧ (es_m 162).2.2.1 = (Option.some Jvm.ClassFile.FieldType.boolean) ∧ (es_m 162).2.2.2.1 = false ∧ ee_sig 162 = some 1 ∧ es_own 0 = (es_m 162).1.cls := by decide +kernel
/-- HeadServo.isSteady -/
theorem rn_162 {P : Nat → Nat → List Value → ee_W → Option (List Value × ee_W)} {d : Nat} {w : ee_W} {h : Nat} (hh : es_sh h = (10, 0)) (x0 : Int32) : ee_run ee_B P (d + 1) 162 [.ref h, .int x0] w = ee_fin (Option.some Jvm.ClassFile.FieldType.boolean) (ee_evS es_sh es_rf (ee_run ee_B P d) bd_162 0 [some (.ref h), some (.int x0)] w) := rn_gen (n := 2) mb_162 mf_162.1 mf_162.2.1 (ee_argok_i mf_162.2.2.1 mf_162.2.2.2.1 rfl hh mf_162.2.2.2.2) (Nat.le_of_ble_eq_true rfl)
theorem mb_82 : ee_B 82 = some bd_82 := rfl
set_option maxRecDepth 100000 in
theorem mf_82 : (es_m 82).2.1 = 2 ∧ (es_m 82).2.2.1 = (Option.some Jvm.ClassFile.FieldType.boolean) ∧ (es_m 82).2.2.2.1 = false ∧ ee_sig 82 = some 1 ∧ es_own 0 = (es_m 82).1.cls := by decide +kernel
/-- HeadServo.isLost -/
theorem rn_82 {P : Nat → Nat → List Value → ee_W → Option (List Value × ee_W)} {d : Nat} {w : ee_W} {h : Nat} (hh : es_sh h = (10, 0)) (x0 : Int32) : ee_run ee_B P (d + 1) 82 [.ref h, .int x0] w = ee_fin (Option.some Jvm.ClassFile.FieldType.boolean) (ee_evS es_sh es_rf (ee_run ee_B P d) bd_82 0 [some (.ref h), some (.int x0)] w) := rn_gen (n := 2) mb_82 mf_82.1 mf_82.2.1 (ee_argok_i mf_82.2.2.1 mf_82.2.2.2.1 rfl hh mf_82.2.2.2.2) (Nat.le_of_ble_eq_true rfl)
theorem mb_84 : ee_B 84 = some bd_84 := rfl
set_option maxRecDepth 100000 in
theorem mf_84 : (es_m 84).2.1 = 2 ∧ (es_m 84).2.2.1 = (Option.some Jvm.ClassFile.FieldType.int) ∧ (es_m 84).2.2.2.1 = false ∧ ee_sig 84 = some 1 ∧ es_own 0 = (es_m 84).1.cls := by decide +kernel
/-- HeadServo.wobbleOf -/
theorem rn_84 {P : Nat → Nat → List Value → ee_W → Option (List Value × ee_W)} {d : Nat} {w : ee_W} {h : Nat} (hh : es_sh h = (10, 0)) (x0 : Int32) : ee_run ee_B P (d + 1) 84 [.ref h, .int x0] w = ee_fin (Option.some Jvm.ClassFile.FieldType.int) (ee_evS es_sh es_rf (ee_run ee_B P d) bd_84 0 [some (.ref h), some (.int x0)] w) := rn_gen (n := 2) mb_84 mf_84.1 mf_84.2.1 (ee_argok_i mf_84.2.2.1 mf_84.2.2.2.1 rfl hh mf_84.2.2.2.2) (Nat.le_of_ble_eq_true rfl)
theorem mb_163 : ee_B 163 = some bd_163 := rfl
set_option maxRecDepth 100000 in
theorem mf_163 : (es_m 163).2.1 = 2 ∧ (es_m 163).2.2.1 = (Option.some Jvm.ClassFile.FieldType.int) ∧ (es_m 163).2.2.2.1 = false ∧ ee_sig 163 = some 1 ∧ es_own 0 = (es_m 163).1.cls := by decide +kernel
/-- HeadServo.leftOf -/
theorem rn_163 {P : Nat → Nat → List Value → ee_W → Option (List Value × ee_W)} {d : Nat} {w : ee_W} {h : Nat} (hh : es_sh h = (10, 0)) (x0 : Int32) : ee_run ee_B P (d + 1) 163 [.ref h, .int x0] w = ee_fin (Option.some Jvm.ClassFile.FieldType.int) (ee_evS es_sh es_rf (ee_run ee_B P d) bd_163 0 [some (.ref h), some (.int x0)] w) := rn_gen (n := 2) mb_163 mf_163.1 mf_163.2.1 (ee_argok_i mf_163.2.2.1 mf_163.2.2.2.1 rfl hh mf_163.2.2.2.2) (Nat.le_of_ble_eq_true rfl)
theorem mb_173 : ee_B 173 = some bd_173 := rfl
set_option maxRecDepth 100000 in
theorem mf_173 : (es_m 173).2.1 = 3 ∧ (es_m 173).2.2.1 = (Option.some Jvm.ClassFile.FieldType.int) ∧ (es_m 173).2.2.2.1 = false ∧ ee_sig 173 = some 2 ∧ es_own 0 = (es_m 173).1.cls := by decide +kernel
/-- HeadServo.said -/
theorem rn_173 {P : Nat → Nat → List Value → ee_W → Option (List Value × ee_W)} {d : Nat} {w : ee_W} {h : Nat} (hh : es_sh h = (10, 0)) (x0 : Int32) (x1 : Int32) : ee_run ee_B P (d + 1) 173 [.ref h, .int x0, .int x1] w = ee_fin (Option.some Jvm.ClassFile.FieldType.int) (ee_evS es_sh es_rf (ee_run ee_B P d) bd_173 0 [some (.ref h), some (.int x0), some (.int x1)] w) := rn_gen (n := 3) mb_173 mf_173.1 mf_173.2.1 (ee_argok_i mf_173.2.2.1 mf_173.2.2.2.1 rfl hh mf_173.2.2.2.2) (Nat.le_of_ble_eq_true rfl)
theorem mb_174 : ee_B 174 = some bd_174 := rfl
set_option maxRecDepth 100000 in
theorem mf_174 : (es_m 174).2.1 = 3 ∧ (es_m 174).2.2.1 = (Option.some Jvm.ClassFile.FieldType.int) ∧ (es_m 174).2.2.2.1 = false ∧ ee_sig 174 = some 0 ∧ es_own 0 = (es_m 174).1.cls := by decide +kernel
/-- HeadServo.whose -/
theorem rn_174 {P : Nat → Nat → List Value → ee_W → Option (List Value × ee_W)} {d : Nat} {w : ee_W} {h : Nat} (hh : es_sh h = (10, 0)) : ee_run ee_B P (d + 1) 174 [.ref h] w = ee_fin (Option.some Jvm.ClassFile.FieldType.int) (ee_evS es_sh es_rf (ee_run ee_B P d) bd_174 0 [some (.ref h), none, none] w) := rn_gen (n := 3) mb_174 mf_174.1 mf_174.2.1 (ee_argok_i mf_174.2.2.1 mf_174.2.2.2.1 rfl hh mf_174.2.2.2.2) (Nat.le_of_ble_eq_true rfl)
theorem mb_175 : ee_B 175 = some bd_175 := rfl
set_option maxRecDepth 100000 in
theorem mf_175 : (es_m 175).2.1 = 3 ∧ (es_m 175).2.2.1 = (Option.some Jvm.ClassFile.FieldType.boolean) ∧ (es_m 175).2.2.2.1 = false ∧ ee_sig 175 = some 1 ∧ es_own 0 = (es_m 175).1.cls := by decide +kernel
/-- HeadServo.saysAll -/
theorem rn_175 {P : Nat → Nat → List Value → ee_W → Option (List Value × ee_W)} {d : Nat} {w : ee_W} {h : Nat} (hh : es_sh h = (10, 0)) (x0 : Nat) : ee_run ee_B P (d + 1) 175 [.ref h, .ref x0] w = ee_fin (Option.some Jvm.ClassFile.FieldType.boolean) (ee_evS es_sh es_rf (ee_run ee_B P d) bd_175 0 [some (.ref h), some (.ref x0), none] w) := rn_gen (n := 3) mb_175 mf_175.1 mf_175.2.1 (ee_argok_i mf_175.2.2.1 mf_175.2.2.2.1 rfl hh mf_175.2.2.2.2) (Nat.le_of_ble_eq_true rfl)
/-- HeadServo.saysAll -/
theorem rn_175_0 {P : Nat → Nat → List Value → ee_W → Option (List Value × ee_W)} {d : Nat} {w : ee_W} {h : Nat} (hh : es_sh h = (10, 0)) : ee_run ee_B P (d + 1) 175 [.ref h, .null] w = ee_fin (Option.some Jvm.ClassFile.FieldType.boolean) (ee_evS es_sh es_rf (ee_run ee_B P d) bd_175 0 [some (.ref h), some .null, none] w) := rn_gen (n := 3) mb_175 mf_175.1 mf_175.2.1 (ee_argok_i mf_175.2.2.1 mf_175.2.2.2.1 rfl hh mf_175.2.2.2.2) (Nat.le_of_ble_eq_true rfl)
theorem mb_176 : ee_B 176 = some bd_176 := rfl
set_option maxRecDepth 100000 in
theorem mf_176 : (es_m 176).2.1 = 7 ∧ (es_m 176).2.2.1 = (Option.some Jvm.ClassFile.FieldType.int) ∧ (es_m 176).2.2.2.1 = false ∧ ee_sig 176 = some 1 ∧ es_own 0 = (es_m 176).1.cls := by decide +kernel
/-- HeadServo.most -/
theorem rn_176 {P : Nat → Nat → List Value → ee_W → Option (List Value × ee_W)} {d : Nat} {w : ee_W} {h : Nat} (hh : es_sh h = (10, 0)) (x0 : Int32) : ee_run ee_B P (d + 1) 176 [.ref h, .int x0] w = ee_fin (Option.some Jvm.ClassFile.FieldType.int) (ee_evS es_sh es_rf (ee_run ee_B P d) bd_176 0 [some (.ref h), some (.int x0), none, none, none, none, none] w) := rn_gen (n := 7) mb_176 mf_176.1 mf_176.2.1 (ee_argok_i mf_176.2.2.1 mf_176.2.2.2.1 rfl hh mf_176.2.2.2.2) (Nat.le_of_ble_eq_true rfl)
theorem mb_178 : ee_B 178 = some bd_178 := rfl
set_option maxRecDepth 100000 in
theorem mf_178 : (es_m 178).2.1 = 4 ∧ (es_m 178).2.2.1 = (Option.some Jvm.ClassFile.FieldType.int) ∧ (es_m 178).2.2.2.1 = false ∧ ee_sig 178 = some 1 ∧ es_own 0 = (es_m 178).1.cls := by decide +kernel
/-- HeadServo.ledger -/
theorem rn_178 {P : Nat → Nat → List Value → ee_W → Option (List Value × ee_W)} {d : Nat} {w : ee_W} {h : Nat} (hh : es_sh h = (10, 0)) (x0 : Int32) : ee_run ee_B P (d + 1) 178 [.ref h, .int x0] w = ee_fin (Option.some Jvm.ClassFile.FieldType.int) (ee_evS es_sh es_rf (ee_run ee_B P d) bd_178 0 [some (.ref h), some (.int x0), none, none] w) := rn_gen (n := 4) mb_178 mf_178.1 mf_178.2.1 (ee_argok_i mf_178.2.2.1 mf_178.2.2.2.1 rfl hh mf_178.2.2.2.2) (Nat.le_of_ble_eq_true rfl)
theorem mb_179 : ee_B 179 = some bd_179 := rfl
set_option maxRecDepth 100000 in
theorem mf_179 : (es_m 179).2.1 = 1 ∧ (es_m 179).2.2.1 = (Option.some Jvm.ClassFile.FieldType.int) ∧ (es_m 179).2.2.2.1 = false ∧ ee_sig 179 = some 0 ∧ es_own 0 = (es_m 179).1.cls := by decide +kernel
/-- HeadServo.image -/
theorem rn_179 {P : Nat → Nat → List Value → ee_W → Option (List Value × ee_W)} {d : Nat} {w : ee_W} {h : Nat} (hh : es_sh h = (10, 0)) : ee_run ee_B P (d + 1) 179 [.ref h] w = ee_fin (Option.some Jvm.ClassFile.FieldType.int) (ee_evS es_sh es_rf (ee_run ee_B P d) bd_179 0 [some (.ref h)] w) := rn_gen (n := 1) mb_179 mf_179.1 mf_179.2.1 (ee_argok_i mf_179.2.2.1 mf_179.2.2.2.1 rfl hh mf_179.2.2.2.2) (Nat.le_of_ble_eq_true rfl)
theorem mb_182 : ee_B 182 = some bd_182 := rfl
set_option maxRecDepth 100000 in
theorem mf_182 : (es_m 182).2.1 = 1 ∧ (es_m 182).2.2.1 = (Option.some Jvm.ClassFile.FieldType.int) ∧ (es_m 182).2.2.2.1 = false ∧ ee_sig 182 = some 0 ∧ es_own 0 = (es_m 182).1.cls := by decide +kernel
/-- HeadServo.back -/
theorem rn_182 {P : Nat → Nat → List Value → ee_W → Option (List Value × ee_W)} {d : Nat} {w : ee_W} {h : Nat} (hh : es_sh h = (10, 0)) : ee_run ee_B P (d + 1) 182 [.ref h] w = ee_fin (Option.some Jvm.ClassFile.FieldType.int) (ee_evS es_sh es_rf (ee_run ee_B P d) bd_182 0 [some (.ref h)] w) := rn_gen (n := 1) mb_182 mf_182.1 mf_182.2.1 (ee_argok_i mf_182.2.2.1 mf_182.2.2.2.1 rfl hh mf_182.2.2.2.2) (Nat.le_of_ble_eq_true rfl)
theorem mb_183 : ee_B 183 = some bd_183 := rfl
set_option maxRecDepth 100000 in
theorem mf_183 : (es_m 183).2.1 = 2 ∧ (es_m 183).2.2.1 = (Option.some Jvm.ClassFile.FieldType.int) ∧ (es_m 183).2.2.2.1 = false ∧ ee_sig 183 = some 1 ∧ es_own 0 = (es_m 183).1.cls := by decide +kernel
/-- HeadServo.about -/
theorem rn_183 {P : Nat → Nat → List Value → ee_W → Option (List Value × ee_W)} {d : Nat} {w : ee_W} {h : Nat} (hh : es_sh h = (10, 0)) (x0 : Int32) : ee_run ee_B P (d + 1) 183 [.ref h, .int x0] w = ee_fin (Option.some Jvm.ClassFile.FieldType.int) (ee_evS es_sh es_rf (ee_run ee_B P d) bd_183 0 [some (.ref h), some (.int x0)] w) := rn_gen (n := 2) mb_183 mf_183.1 mf_183.2.1 (ee_argok_i mf_183.2.2.1 mf_183.2.2.2.1 rfl hh mf_183.2.2.2.2) (Nat.le_of_ble_eq_true rfl)
theorem mb_10 : ee_B 10 = some bd_10 := rfl
set_option maxRecDepth 100000 in
theorem mf_10 : (es_m 10).2.1 = 3 ∧ (es_m 10).2.2.1 = (Option.some Jvm.ClassFile.FieldType.boolean) ∧ (es_m 10).2.2.2.1 = true ∧ ee_sig 10 = some 3 := by decide +kernel
/-- HeadServo.within -/
theorem rn_10 {P : Nat → Nat → List Value → ee_W → Option (List Value × ee_W)} {d : Nat} {w : ee_W} (x0 : Int32) (x1 : Int32) (x2 : Int32) : ee_run ee_B P (d + 1) 10 [.int x0, .int x1, .int x2] w = ee_fin (Option.some Jvm.ClassFile.FieldType.boolean) (ee_evS es_sh es_rf (ee_run ee_B P d) bd_10 0 [some (.int x0), some (.int x1), some (.int x2)] w) := rn_gen (n := 3) mb_10 mf_10.1 mf_10.2.1 (ee_argok_s mf_10.2.2.1 mf_10.2.2.2 rfl) (Nat.le_of_ble_eq_true rfl)
theorem mb_64 : ee_B 64 = some bd_64 := rfl
set_option maxRecDepth 100000 in
theorem mf_64 : (es_m 64).2.1 = 1 ∧ (es_m 64).2.2.1 = (Option.some Jvm.ClassFile.FieldType.boolean) ∧ (es_m 64).2.2.2.1 = true ∧ ee_sig 64 = some 1 := by decide +kernel
/-- HeadServo.isTrack -/
theorem rn_64 {P : Nat → Nat → List Value → ee_W → Option (List Value × ee_W)} {d : Nat} {w : ee_W} (x0 : Int32) : ee_run ee_B P (d + 1) 64 [.int x0] w = ee_fin (Option.some Jvm.ClassFile.FieldType.boolean) (ee_evS es_sh es_rf (ee_run ee_B P d) bd_64 0 [some (.int x0)] w) := rn_gen (n := 1) mb_64 mf_64.1 mf_64.2.1 (ee_argok_s mf_64.2.2.1 mf_64.2.2.2 rfl) (Nat.le_of_ble_eq_true rfl)
theorem mb_85 : ee_B 85 = some bd_85 := rfl
set_option maxRecDepth 100000 in
theorem mf_85 : (es_m 85).2.1 = 1 ∧ (es_m 85).2.2.1 = (Option.some Jvm.ClassFile.FieldType.int) ∧ (es_m 85).2.2.2.1 = true ∧ ee_sig 85 = some 1 := by decide +kernel
/-- HeadServo.middle -/
theorem rn_85 {P : Nat → Nat → List Value → ee_W → Option (List Value × ee_W)} {d : Nat} {w : ee_W} (x0 : Int32) : ee_run ee_B P (d + 1) 85 [.int x0] w = ee_fin (Option.some Jvm.ClassFile.FieldType.int) (ee_evS es_sh es_rf (ee_run ee_B P d) bd_85 0 [some (.int x0)] w) := rn_gen (n := 1) mb_85 mf_85.1 mf_85.2.1 (ee_argok_s mf_85.2.2.1 mf_85.2.2.2 rfl) (Nat.le_of_ble_eq_true rfl)
theorem mb_73 : ee_B 73 = some bd_73 := rfl
set_option maxRecDepth 100000 in
theorem mf_73 : (es_m 73).2.1 = 3 ∧ (es_m 73).2.2.1 = (Option.some Jvm.ClassFile.FieldType.int) ∧ (es_m 73).2.2.2.1 = true ∧ ee_sig 73 = some 3 := by decide +kernel
/-- HeadServo.hold -/
theorem rn_73 {P : Nat → Nat → List Value → ee_W → Option (List Value × ee_W)} {d : Nat} {w : ee_W} (x0 : Int32) (x1 : Int32) (x2 : Int32) : ee_run ee_B P (d + 1) 73 [.int x0, .int x1, .int x2] w = ee_fin (Option.some Jvm.ClassFile.FieldType.int) (ee_evS es_sh es_rf (ee_run ee_B P d) bd_73 0 [some (.int x0), some (.int x1), some (.int x2)] w) := rn_gen (n := 3) mb_73 mf_73.1 mf_73.2.1 (ee_argok_s mf_73.2.2.1 mf_73.2.2.2 rfl) (Nat.le_of_ble_eq_true rfl)
theorem mb_68 : ee_B 68 = some bd_68 := rfl
set_option maxRecDepth 100000 in
theorem mf_68 : (es_m 68).2.1 = 2 ∧ (es_m 68).2.2.1 = (Option.none : Option Jvm.ClassFile.FieldType) ∧ (es_m 68).2.2.2.1 = false ∧ ee_sig 68 = some 1 ∧ es_own 2 = (es_m 68).1.cls := by decide +kernel
/-- HeadServo$Head.copyFrom -/
theorem rn_68 {P : Nat → Nat → List Value → ee_W → Option (List Value × ee_W)} {d : Nat} {w : ee_W} {h : Nat} (hh : es_sh h = (12, 0)) (x0 : Nat) : ee_run ee_B P (d + 1) 68 [.ref h, .ref x0] w = ee_fin (Option.none : Option Jvm.ClassFile.FieldType) (ee_evS es_sh es_rf (ee_run ee_B P d) bd_68 0 [some (.ref h), some (.ref x0)] w) := rn_gen (n := 2) mb_68 mf_68.1 mf_68.2.1 (ee_argok_i mf_68.2.2.1 mf_68.2.2.2.1 rfl hh mf_68.2.2.2.2) (Nat.le_of_ble_eq_true rfl)
theorem mb_81 : ee_B 81 = some bd_81 := rfl
set_option maxRecDepth 100000 in
theorem mf_81 : (es_m 81).2.1 = 1 ∧ (es_m 81).2.2.1 = (Option.some Jvm.ClassFile.FieldType.int) ∧ (es_m 81).2.2.2.1 = false ∧ ee_sig 81 = some 0 ∧ es_own 2 = (es_m 81).1.cls := by decide +kernel
/-- HeadServo$Head.sectorNow -/
theorem rn_81 {P : Nat → Nat → List Value → ee_W → Option (List Value × ee_W)} {d : Nat} {w : ee_W} {h : Nat} (hh : es_sh h = (12, 0)) : ee_run ee_B P (d + 1) 81 [.ref h] w = ee_fin (Option.some Jvm.ClassFile.FieldType.int) (ee_evS es_sh es_rf (ee_run ee_B P d) bd_81 0 [some (.ref h)] w) := rn_gen (n := 1) mb_81 mf_81.1 mf_81.2.1 (ee_argok_i mf_81.2.2.1 mf_81.2.2.2.1 rfl hh mf_81.2.2.2.2) (Nat.le_of_ble_eq_true rfl)
theorem mb_83 : ee_B 83 = some bd_83 := rfl
set_option maxRecDepth 100000 in
theorem mf_83 : (es_m 83).2.1 = 2 ∧ (es_m 83).2.2.1 = (Option.some Jvm.ClassFile.FieldType.int) ∧ (es_m 83).2.2.2.1 = false ∧ ee_sig 83 = some 0 ∧ es_own 2 = (es_m 83).1.cls := by decide +kernel
/-- HeadServo$Head.draw -/
theorem rn_83 {P : Nat → Nat → List Value → ee_W → Option (List Value × ee_W)} {d : Nat} {w : ee_W} {h : Nat} (hh : es_sh h = (12, 0)) : ee_run ee_B P (d + 1) 83 [.ref h] w = ee_fin (Option.some Jvm.ClassFile.FieldType.int) (ee_evS es_sh es_rf (ee_run ee_B P d) bd_83 0 [some (.ref h), none] w) := rn_gen (n := 2) mb_83 mf_83.1 mf_83.2.1 (ee_argok_i mf_83.2.2.1 mf_83.2.2.2.1 rfl hh mf_83.2.2.2.2) (Nat.le_of_ble_eq_true rfl)
theorem mb_86 : ee_B 86 = some bd_86 := rfl
set_option maxRecDepth 100000 in
theorem mf_86 : (es_m 86).2.1 = 2 ∧ (es_m 86).2.2.1 = (Option.some Jvm.ClassFile.FieldType.int) ∧ (es_m 86).2.2.2.1 = false ∧ ee_sig 86 = some 1 ∧ es_own 2 = (es_m 86).1.cls := by decide +kernel
/-- HeadServo$Head.learntOf -/
theorem rn_86 {P : Nat → Nat → List Value → ee_W → Option (List Value × ee_W)} {d : Nat} {w : ee_W} {h : Nat} (hh : es_sh h = (12, 0)) (x0 : Int32) : ee_run ee_B P (d + 1) 86 [.ref h, .int x0] w = ee_fin (Option.some Jvm.ClassFile.FieldType.int) (ee_evS es_sh es_rf (ee_run ee_B P d) bd_86 0 [some (.ref h), some (.int x0)] w) := rn_gen (n := 2) mb_86 mf_86.1 mf_86.2.1 (ee_argok_i mf_86.2.2.1 mf_86.2.2.2.1 rfl hh mf_86.2.2.2.2) (Nat.le_of_ble_eq_true rfl)
theorem mb_98 : ee_B 98 = some bd_98 := rfl
set_option maxRecDepth 100000 in
theorem mf_98 : (es_m 98).2.1 = 3 ∧ (es_m 98).2.2.1 = (Option.none : Option Jvm.ClassFile.FieldType) ∧ (es_m 98).2.2.2.1 = false ∧ ee_sig 98 = some 2 ∧ es_own 2 = (es_m 98).1.cls := by decide +kernel
/-- HeadServo$Head.addLearnt -/
theorem rn_98 {P : Nat → Nat → List Value → ee_W → Option (List Value × ee_W)} {d : Nat} {w : ee_W} {h : Nat} (hh : es_sh h = (12, 0)) (x0 : Int32) (x1 : Int32) : ee_run ee_B P (d + 1) 98 [.ref h, .int x0, .int x1] w = ee_fin (Option.none : Option Jvm.ClassFile.FieldType) (ee_evS es_sh es_rf (ee_run ee_B P d) bd_98 0 [some (.ref h), some (.int x0), some (.int x1)] w) := rn_gen (n := 3) mb_98 mf_98.1 mf_98.2.1 (ee_argok_i mf_98.2.2.1 mf_98.2.2.2.1 rfl hh mf_98.2.2.2.2) (Nat.le_of_ble_eq_true rfl)
theorem mb_69 : ee_B 69 = some bd_69 := rfl
set_option maxRecDepth 100000 in
theorem mf_69 : (es_m 69).2.1 = 2 ∧ (es_m 69).2.2.1 = (Option.none : Option Jvm.ClassFile.FieldType) ∧ (es_m 69).2.2.2.1 = false ∧ ee_sig 69 = some 1 ∧ es_own 2 = (es_m 69).1.cls := by decide +kernel
/-- HeadServo$Head.aim -/
theorem rn_69 {P : Nat → Nat → List Value → ee_W → Option (List Value × ee_W)} {d : Nat} {w : ee_W} {h : Nat} (hh : es_sh h = (12, 0)) (x0 : Int32) : ee_run ee_B P (d + 1) 69 [.ref h, .int x0] w = ee_fin (Option.none : Option Jvm.ClassFile.FieldType) (ee_evS es_sh es_rf (ee_run ee_B P d) bd_69 0 [some (.ref h), some (.int x0)] w) := rn_gen (n := 2) mb_69 mf_69.1 mf_69.2.1 (ee_argok_i mf_69.2.2.1 mf_69.2.2.2.1 rfl hh mf_69.2.2.2.2) (Nat.le_of_ble_eq_true rfl)
theorem mb_72 : ee_B 72 = some bd_72 := rfl
set_option maxRecDepth 100000 in
theorem mf_72 : (es_m 72).2.1 = 2 ∧ (es_m 72).2.2.1 = (Option.none : Option Jvm.ClassFile.FieldType) ∧ (es_m 72).2.2.2.1 = false ∧ ee_sig 72 = some 1 ∧ es_own 2 = (es_m 72).1.cls := by decide +kernel
/-- HeadServo$Head.nudge -/
theorem rn_72 {P : Nat → Nat → List Value → ee_W → Option (List Value × ee_W)} {d : Nat} {w : ee_W} {h : Nat} (hh : es_sh h = (12, 0)) (x0 : Int32) : ee_run ee_B P (d + 1) 72 [.ref h, .int x0] w = ee_fin (Option.none : Option Jvm.ClassFile.FieldType) (ee_evS es_sh es_rf (ee_run ee_B P d) bd_72 0 [some (.ref h), some (.int x0)] w) := rn_gen (n := 2) mb_72 mf_72.1 mf_72.2.1 (ee_argok_i mf_72.2.2.1 mf_72.2.2.2.1 rfl hh mf_72.2.2.2.2) (Nat.le_of_ble_eq_true rfl)
theorem mb_76 : ee_B 76 = some bd_76 := rfl
set_option maxRecDepth 100000 in
theorem mf_76 : (es_m 76).2.1 = 1 ∧ (es_m 76).2.2.1 = (Option.some Jvm.ClassFile.FieldType.boolean) ∧ (es_m 76).2.2.2.1 = false ∧ ee_sig 76 = some 0 ∧ es_own 2 = (es_m 76).1.cls := by decide +kernel
/-- HeadServo$Head.gateOpen -/
theorem rn_76 {P : Nat → Nat → List Value → ee_W → Option (List Value × ee_W)} {d : Nat} {w : ee_W} {h : Nat} (hh : es_sh h = (12, 0)) : ee_run ee_B P (d + 1) 76 [.ref h] w = ee_fin (Option.some Jvm.ClassFile.FieldType.boolean) (ee_evS es_sh es_rf (ee_run ee_B P d) bd_76 0 [some (.ref h)] w) := rn_gen (n := 1) mb_76 mf_76.1 mf_76.2.1 (ee_argok_i mf_76.2.2.1 mf_76.2.2.2.1 rfl hh mf_76.2.2.2.2) (Nat.le_of_ble_eq_true rfl)
theorem mb_77 : ee_B 77 = some bd_77 := rfl
set_option maxRecDepth 100000 in
theorem mf_77 : (es_m 77).2.1 = 1 ∧ (es_m 77).2.2.1 = (Option.none : Option Jvm.ClassFile.FieldType) ∧ (es_m 77).2.2.2.1 = false ∧ ee_sig 77 = some 0 ∧ es_own 2 = (es_m 77).1.cls := by decide +kernel
/-- HeadServo$Head.mark -/
theorem rn_77 {P : Nat → Nat → List Value → ee_W → Option (List Value × ee_W)} {d : Nat} {w : ee_W} {h : Nat} (hh : es_sh h = (12, 0)) : ee_run ee_B P (d + 1) 77 [.ref h] w = ee_fin (Option.none : Option Jvm.ClassFile.FieldType) (ee_evS es_sh es_rf (ee_run ee_B P d) bd_77 0 [some (.ref h)] w) := rn_gen (n := 1) mb_77 mf_77.1 mf_77.2.1 (ee_argok_i mf_77.2.2.1 mf_77.2.2.2.1 rfl hh mf_77.2.2.2.2) (Nat.le_of_ble_eq_true rfl)
theorem mb_100 : ee_B 100 = some bd_100 := rfl
set_option maxRecDepth 100000 in
theorem mf_100 : (es_m 100).2.1 = 5 ∧ (es_m 100).2.2.1 = (Option.none : Option Jvm.ClassFile.FieldType) ∧ (es_m 100).2.2.2.1 = false ∧ ee_sig 100 = some 1 ∧ es_own 2 = (es_m 100).1.cls := by decide +kernel
/-- HeadServo$Head.move -/
theorem rn_100 {P : Nat → Nat → List Value → ee_W → Option (List Value × ee_W)} {d : Nat} {w : ee_W} {h : Nat} (hh : es_sh h = (12, 0)) (x0 : Int32) : ee_run ee_B P (d + 1) 100 [.ref h, .int x0] w = ee_fin (Option.none : Option Jvm.ClassFile.FieldType) (ee_evS es_sh es_rf (ee_run ee_B P d) bd_100 0 [some (.ref h), some (.int x0), none, none, none] w) := rn_gen (n := 5) mb_100 mf_100.1 mf_100.2.1 (ee_argok_i mf_100.2.2.1 mf_100.2.2.2.1 rfl hh mf_100.2.2.2.2) (Nat.le_of_ble_eq_true rfl)
theorem mb_70 : ee_B 70 = some bd_70 := rfl
set_option maxRecDepth 100000 in
theorem mf_70 : (es_m 70).2.1 = 4 ∧ (es_m 70).2.2.1 = (Option.none : Option Jvm.ClassFile.FieldType) ∧ (es_m 70).2.2.2.1 = false ∧ ee_sig 70 = some 2 ∧ es_own 2 = (es_m 70).1.cls := by decide +kernel
/-- HeadServo$Head.note -/
theorem rn_70 {P : Nat → Nat → List Value → ee_W → Option (List Value × ee_W)} {d : Nat} {w : ee_W} {h : Nat} (hh : es_sh h = (12, 0)) (x0 : Int32) (x1 : Int32) : ee_run ee_B P (d + 1) 70 [.ref h, .int x0, .int x1] w = ee_fin (Option.none : Option Jvm.ClassFile.FieldType) (ee_evS es_sh es_rf (ee_run ee_B P d) bd_70 0 [some (.ref h), some (.int x0), some (.int x1), none] w) := rn_gen (n := 4) mb_70 mf_70.1 mf_70.2.1 (ee_argok_i mf_70.2.2.1 mf_70.2.2.2.1 rfl hh mf_70.2.2.2.2) (Nat.le_of_ble_eq_true rfl)
theorem mb_111 : ee_B 111 = some bd_111 := rfl
set_option maxRecDepth 100000 in
theorem mf_111 : (es_m 111).2.1 = 3 ∧ (es_m 111).2.2.1 = (Option.some Jvm.ClassFile.FieldType.int) ∧ (es_m 111).2.2.2.1 = false ∧ ee_sig 111 = some 2 ∧ es_own 2 = (es_m 111).1.cls := by decide +kernel
/-- HeadServo$Head.inLine -/
theorem rn_111 {P : Nat → Nat → List Value → ee_W → Option (List Value × ee_W)} {d : Nat} {w : ee_W} {h : Nat} (hh : es_sh h = (12, 0)) (x0 : Int32) (x1 : Int32) : ee_run ee_B P (d + 1) 111 [.ref h, .int x0, .int x1] w = ee_fin (Option.some Jvm.ClassFile.FieldType.int) (ee_evS es_sh es_rf (ee_run ee_B P d) bd_111 0 [some (.ref h), some (.int x0), some (.int x1)] w) := rn_gen (n := 3) mb_111 mf_111.1 mf_111.2.1 (ee_argok_i mf_111.2.2.1 mf_111.2.2.2.1 rfl hh mf_111.2.2.2.2) (Nat.le_of_ble_eq_true rfl)
theorem mb_177 : ee_B 177 = some bd_177 := rfl
set_option maxRecDepth 100000 in
theorem mf_177 : (es_m 177).2.1 = 5 ∧ (es_m 177).2.2.1 = (Option.some Jvm.ClassFile.FieldType.int) ∧ (es_m 177).2.2.2.1 = false ∧ ee_sig 177 = some 2 ∧ es_own 2 = (es_m 177).1.cls := by decide +kernel
/-- HeadServo$Head.linesWith -/
theorem rn_177 {P : Nat → Nat → List Value → ee_W → Option (List Value × ee_W)} {d : Nat} {w : ee_W} {h : Nat} (hh : es_sh h = (12, 0)) (x0 : Int32) (x1 : Int32) : ee_run ee_B P (d + 1) 177 [.ref h, .int x0, .int x1] w = ee_fin (Option.some Jvm.ClassFile.FieldType.int) (ee_evS es_sh es_rf (ee_run ee_B P d) bd_177 0 [some (.ref h), some (.int x0), some (.int x1), none, none] w) := rn_gen (n := 5) mb_177 mf_177.1 mf_177.2.1 (ee_argok_i mf_177.2.2.1 mf_177.2.2.2.1 rfl hh mf_177.2.2.2.2) (Nat.le_of_ble_eq_true rfl)
theorem mb_66 : ee_B 66 = some bd_66 := rfl
set_option maxRecDepth 100000 in
theorem mf_66 : (es_m 66).2.1 = 2 ∧ (es_m 66).2.2.1 = (Option.some (Jvm.ClassFile.FieldType.object "HeadServo$Head")) ∧ (es_m 66).2.2.2.1 = false ∧ ee_sig 66 = some 1 ∧ es_own 6 = (es_m 66).1.cls := by decide +kernel
/-- HeadServo$Steps.rowAt -/
theorem rn_66 {P : Nat → Nat → List Value → ee_W → Option (List Value × ee_W)} {d : Nat} {w : ee_W} {h : Nat} (hh : es_sh h = (16, 0)) (x0 : Int32) : ee_run ee_B P (d + 1) 66 [.ref h, .int x0] w = ee_fin (Option.some (Jvm.ClassFile.FieldType.object "HeadServo$Head")) (ee_evS es_sh es_rf (ee_run ee_B P d) bd_66 0 [some (.ref h), some (.int x0)] w) := rn_gen (n := 2) mb_66 mf_66.1 mf_66.2.1 (ee_argok_i mf_66.2.2.1 mf_66.2.2.2.1 rfl hh mf_66.2.2.2.2) (Nat.le_of_ble_eq_true rfl)
theorem mb_65 : ee_B 65 = some bd_65 := rfl
set_option maxRecDepth 100000 in
theorem mf_65 : (es_m 65).2.1 = 3 ∧ (es_m 65).2.2.1 = (Option.none : Option Jvm.ClassFile.FieldType) ∧ (es_m 65).2.2.2.1 = false ∧ ee_sig 65 = some 1 ∧ es_own 6 = (es_m 65).1.cls := by decide +kernel
/-- HeadServo$Steps.keep -/
theorem rn_65 {P : Nat → Nat → List Value → ee_W → Option (List Value × ee_W)} {d : Nat} {w : ee_W} {h : Nat} (hh : es_sh h = (16, 0)) (x0 : Nat) : ee_run ee_B P (d + 1) 65 [.ref h, .ref x0] w = ee_fin (Option.none : Option Jvm.ClassFile.FieldType) (ee_evS es_sh es_rf (ee_run ee_B P d) bd_65 0 [some (.ref h), some (.ref x0), none] w) := rn_gen (n := 3) mb_65 mf_65.1 mf_65.2.1 (ee_argok_i mf_65.2.2.1 mf_65.2.2.2.1 rfl hh mf_65.2.2.2.2) (Nat.le_of_ble_eq_true rfl)
theorem mb_106 : ee_B 106 = some bd_106 := rfl
set_option maxRecDepth 100000 in
theorem mf_106 : (es_m 106).2.1 = 3 ∧ (es_m 106).2.2.1 = (Option.some Jvm.ClassFile.FieldType.boolean) ∧ (es_m 106).2.2.2.1 = false ∧ ee_sig 106 = some 1 ∧ es_own 6 = (es_m 106).1.cls := by decide +kernel
/-- HeadServo$Steps.giveBack -/
theorem rn_106 {P : Nat → Nat → List Value → ee_W → Option (List Value × ee_W)} {d : Nat} {w : ee_W} {h : Nat} (hh : es_sh h = (16, 0)) (x0 : Nat) : ee_run ee_B P (d + 1) 106 [.ref h, .ref x0] w = ee_fin (Option.some Jvm.ClassFile.FieldType.boolean) (ee_evS es_sh es_rf (ee_run ee_B P d) bd_106 0 [some (.ref h), some (.ref x0), none] w) := rn_gen (n := 3) mb_106 mf_106.1 mf_106.2.1 (ee_argok_i mf_106.2.2.1 mf_106.2.2.2.1 rfl hh mf_106.2.2.2.2) (Nat.le_of_ble_eq_true rfl)
theorem mb_181 : ee_B 181 = some bd_181 := rfl
set_option maxRecDepth 100000 in
theorem mf_181 : (es_m 181).2.1 = 5 ∧ (es_m 181).2.2.1 = (Option.none : Option Jvm.ClassFile.FieldType) ∧ (es_m 181).2.2.2.1 = false ∧ ee_sig 181 = some 1 ∧ es_own 6 = (es_m 181).1.cls := by decide +kernel
/-- HeadServo$Steps.copyFrom -/
theorem rn_181 {P : Nat → Nat → List Value → ee_W → Option (List Value × ee_W)} {d : Nat} {w : ee_W} {h : Nat} (hh : es_sh h = (16, 0)) (x0 : Nat) : ee_run ee_B P (d + 1) 181 [.ref h, .ref x0] w = ee_fin (Option.none : Option Jvm.ClassFile.FieldType) (ee_evS es_sh es_rf (ee_run ee_B P d) bd_181 0 [some (.ref h), some (.ref x0), none, none, none] w) := rn_gen (n := 5) mb_181 mf_181.1 mf_181.2.1 (ee_argok_i mf_181.2.2.1 mf_181.2.2.2.1 rfl hh mf_181.2.2.2.2) (Nat.le_of_ble_eq_true rfl)
theorem mb_180 : ee_B 180 = some bd_180 := rfl
set_option maxRecDepth 100000 in
theorem mf_180 : (es_m 180).2.1 = 2 ∧ (es_m 180).2.2.1 = (Option.none : Option Jvm.ClassFile.FieldType) ∧ (es_m 180).2.2.2.1 = false ∧ ee_sig 180 = some 1 ∧ es_own 1 = (es_m 180).1.cls := by decide +kernel
/-- HeadServo$All.copyFrom -/
theorem rn_180 {P : Nat → Nat → List Value → ee_W → Option (List Value × ee_W)} {d : Nat} {w : ee_W} {h : Nat} (hh : es_sh h = (11, 0)) (x0 : Nat) : ee_run ee_B P (d + 1) 180 [.ref h, .ref x0] w = ee_fin (Option.none : Option Jvm.ClassFile.FieldType) (ee_evS es_sh es_rf (ee_run ee_B P d) bd_180 0 [some (.ref h), some (.ref x0)] w) := rn_gen (n := 2) mb_180 mf_180.1 mf_180.2.1 (ee_argok_i mf_180.2.2.1 mf_180.2.2.2.1 rfl hh mf_180.2.2.2.2) (Nat.le_of_ble_eq_true rfl)
theorem mb_17 : ee_B 17 = some bd_17 := rfl
set_option maxRecDepth 100000 in
theorem mf_17 : (es_m 17).2.1 = 1 ∧ (es_m 17).2.2.1 = (Option.none : Option Jvm.ClassFile.FieldType) ∧ (es_m 17).2.2.2.1 = false ∧ ee_sig 17 = some 0 ∧ es_own 7 = (es_m 17).1.cls := by decide +kernel
/-- HeadServo$Text.empty -/
theorem rn_17 {P : Nat → Nat → List Value → ee_W → Option (List Value × ee_W)} {d : Nat} {w : ee_W} {h : Nat} (hh : es_sh h = (17, 0)) : ee_run ee_B P (d + 1) 17 [.ref h] w = ee_fin (Option.none : Option Jvm.ClassFile.FieldType) (ee_evS es_sh es_rf (ee_run ee_B P d) bd_17 0 [some (.ref h)] w) := rn_gen (n := 1) mb_17 mf_17.1 mf_17.2.1 (ee_argok_i mf_17.2.2.1 mf_17.2.2.2.1 rfl hh mf_17.2.2.2.2) (Nat.le_of_ble_eq_true rfl)
theorem mb_43 : ee_B 43 = some bd_43 := rfl
set_option maxRecDepth 100000 in
theorem mf_43 : (es_m 43).2.1 = 4 ∧ (es_m 43).2.2.1 = (Option.none : Option Jvm.ClassFile.FieldType) ∧ (es_m 43).2.2.2.1 = false ∧ ee_sig 43 = some 3 ∧ es_own 7 = (es_m 43).1.cls := by decide +kernel
/-- HeadServo$Text.addClause -/
theorem rn_43 {P : Nat → Nat → List Value → ee_W → Option (List Value × ee_W)} {d : Nat} {w : ee_W} {h : Nat} (hh : es_sh h = (17, 0)) (x0 : Int32) (x1 : Int32) (x2 : Int32) : ee_run ee_B P (d + 1) 43 [.ref h, .int x0, .int x1, .int x2] w = ee_fin (Option.none : Option Jvm.ClassFile.FieldType) (ee_evS es_sh es_rf (ee_run ee_B P d) bd_43 0 [some (.ref h), some (.int x0), some (.int x1), some (.int x2)] w) := rn_gen (n := 4) mb_43 mf_43.1 mf_43.2.1 (ee_argok_i mf_43.2.2.1 mf_43.2.2.2.1 rfl hh mf_43.2.2.2.2) (Nat.le_of_ble_eq_true rfl)
theorem mb_49 : ee_B 49 = some bd_49 := rfl
set_option maxRecDepth 100000 in
theorem mf_49 : (es_m 49).2.1 = 4 ∧ (es_m 49).2.2.1 = (Option.some Jvm.ClassFile.FieldType.int) ∧ (es_m 49).2.2.2.1 = false ∧ ee_sig 49 = some 2 ∧ es_own 7 = (es_m 49).1.cls := by decide +kernel
/-- HeadServo$Text.emit -/
theorem rn_49 {P : Nat → Nat → List Value → ee_W → Option (List Value × ee_W)} {d : Nat} {w : ee_W} {h : Nat} (hh : es_sh h = (17, 0)) (x0 : Int32) (x1 : Int32) : ee_run ee_B P (d + 1) 49 [.ref h, .int x0, .int x1] w = ee_fin (Option.some Jvm.ClassFile.FieldType.int) (ee_evS es_sh es_rf (ee_run ee_B P d) bd_49 0 [some (.ref h), some (.int x0), some (.int x1), none] w) := rn_gen (n := 4) mb_49 mf_49.1 mf_49.2.1 (ee_argok_i mf_49.2.2.1 mf_49.2.2.2.1 rfl hh mf_49.2.2.2.2) (Nat.le_of_ble_eq_true rfl)
theorem mb_56 : ee_B 56 = some bd_56 := rfl
set_option maxRecDepth 100000 in
theorem mf_56 : (es_m 56).2.1 = 3 ∧ (es_m 56).2.2.1 = (Option.none : Option Jvm.ClassFile.FieldType) ∧ (es_m 56).2.2.2.1 = false ∧ ee_sig 56 = some 2 ∧ es_own 7 = (es_m 56).1.cls := by decide +kernel
/-- HeadServo$Text.leadHere -/
theorem rn_56 {P : Nat → Nat → List Value → ee_W → Option (List Value × ee_W)} {d : Nat} {w : ee_W} {h : Nat} (hh : es_sh h = (17, 0)) (x0 : Int32) (x1 : Int32) : ee_run ee_B P (d + 1) 56 [.ref h, .int x0, .int x1] w = ee_fin (Option.none : Option Jvm.ClassFile.FieldType) (ee_evS es_sh es_rf (ee_run ee_B P d) bd_56 0 [some (.ref h), some (.int x0), some (.int x1)] w) := rn_gen (n := 3) mb_56 mf_56.1 mf_56.2.1 (ee_argok_i mf_56.2.2.1 mf_56.2.2.2.1 rfl hh mf_56.2.2.2.2) (Nat.le_of_ble_eq_true rfl)
theorem mb_16 : ee_B 16 = some bd_16 := rfl
set_option maxRecDepth 100000 in
theorem mf_16 : (es_m 16).2.1 = 5 ∧ (es_m 16).2.2.1 = (Option.some Jvm.ClassFile.FieldType.boolean) ∧ (es_m 16).2.2.2.1 = false ∧ ee_sig 16 = some 3 ∧ es_own 4 = (es_m 16).1.cls := by decide +kernel
/-- HeadServo$Reader.readTape -/
theorem rn_16 {P : Nat → Nat → List Value → ee_W → Option (List Value × ee_W)} {d : Nat} {w : ee_W} {h : Nat} (hh : es_sh h = (14, 0)) (x0 : Nat) (x1 : Int32) (x2 : Nat) : ee_run ee_B P (d + 1) 16 [.ref h, .ref x0, .int x1, .ref x2] w = ee_fin (Option.some Jvm.ClassFile.FieldType.boolean) (ee_evS es_sh es_rf (ee_run ee_B P d) bd_16 0 [some (.ref h), some (.ref x0), some (.int x1), some (.ref x2), none] w) := rn_gen (n := 5) mb_16 mf_16.1 mf_16.2.1 (ee_argok_i mf_16.2.2.1 mf_16.2.2.2.1 rfl hh mf_16.2.2.2.2) (Nat.le_of_ble_eq_true rfl)
theorem mb_19 : ee_B 19 = some bd_19 := rfl
set_option maxRecDepth 100000 in
theorem mf_19 : (es_m 19).2.1 = 6 ∧ (es_m 19).2.2.1 = (Option.none : Option Jvm.ClassFile.FieldType) ∧ (es_m 19).2.2.2.1 = false ∧ ee_sig 19 = some 2 ∧ es_own 4 = (es_m 19).1.cls := by decide +kernel
/-- HeadServo$Reader.cut -/
theorem rn_19 {P : Nat → Nat → List Value → ee_W → Option (List Value × ee_W)} {d : Nat} {w : ee_W} {h : Nat} (hh : es_sh h = (14, 0)) (x0 : Nat) (x1 : Int32) : ee_run ee_B P (d + 1) 19 [.ref h, .ref x0, .int x1] w = ee_fin (Option.none : Option Jvm.ClassFile.FieldType) (ee_evS es_sh es_rf (ee_run ee_B P d) bd_19 0 [some (.ref h), some (.ref x0), some (.int x1), none, none, none] w) := rn_gen (n := 6) mb_19 mf_19.1 mf_19.2.1 (ee_argok_i mf_19.2.2.1 mf_19.2.2.2.1 rfl hh mf_19.2.2.2.2) (Nat.le_of_ble_eq_true rfl)
theorem mb_34 : ee_B 34 = some bd_34 := rfl
set_option maxRecDepth 100000 in
theorem mf_34 : (es_m 34).2.1 = 4 ∧ (es_m 34).2.2.1 = (Option.none : Option Jvm.ClassFile.FieldType) ∧ (es_m 34).2.2.2.1 = false ∧ ee_sig 34 = some 3 ∧ es_own 4 = (es_m 34).1.cls := by decide +kernel
/-- HeadServo$Reader.add -/
theorem rn_34 {P : Nat → Nat → List Value → ee_W → Option (List Value × ee_W)} {d : Nat} {w : ee_W} {h : Nat} (hh : es_sh h = (14, 0)) (x0 : Int32) (x1 : Int32) (x2 : Int32) : ee_run ee_B P (d + 1) 34 [.ref h, .int x0, .int x1, .int x2] w = ee_fin (Option.none : Option Jvm.ClassFile.FieldType) (ee_evS es_sh es_rf (ee_run ee_B P d) bd_34 0 [some (.ref h), some (.int x0), some (.int x1), some (.int x2)] w) := rn_gen (n := 4) mb_34 mf_34.1 mf_34.2.1 (ee_argok_i mf_34.2.2.1 mf_34.2.2.2.1 rfl hh mf_34.2.2.2.2) (Nat.le_of_ble_eq_true rfl)
theorem mb_21 : ee_B 21 = some bd_21 := rfl
set_option maxRecDepth 100000 in
theorem mf_21 : (es_m 21).2.1 = 6 ∧ (es_m 21).2.2.1 = (Option.some Jvm.ClassFile.FieldType.int) ∧ (es_m 21).2.2.2.1 = false ∧ ee_sig 21 = some 3 ∧ es_own 4 = (es_m 21).1.cls := by decide +kernel
/-- HeadServo$Reader.cutWord -/
theorem rn_21 {P : Nat → Nat → List Value → ee_W → Option (List Value × ee_W)} {d : Nat} {w : ee_W} {h : Nat} (hh : es_sh h = (14, 0)) (x0 : Nat) (x1 : Int32) (x2 : Int32) : ee_run ee_B P (d + 1) 21 [.ref h, .ref x0, .int x1, .int x2] w = ee_fin (Option.some Jvm.ClassFile.FieldType.int) (ee_evS es_sh es_rf (ee_run ee_B P d) bd_21 0 [some (.ref h), some (.ref x0), some (.int x1), some (.int x2), none, none] w) := rn_gen (n := 6) mb_21 mf_21.1 mf_21.2.1 (ee_argok_i mf_21.2.2.1 mf_21.2.2.2.1 rfl hh mf_21.2.2.2.2) (Nat.le_of_ble_eq_true rfl)
theorem mb_22 : ee_B 22 = some bd_22 := rfl
set_option maxRecDepth 100000 in
theorem mf_22 : (es_m 22).2.1 = 8 ∧ (es_m 22).2.2.1 = (Option.some Jvm.ClassFile.FieldType.int) ∧ (es_m 22).2.2.2.1 = true ∧ ee_sig 22 = some 3 := by decide +kernel
/-- HeadServo$Reader.wordNumber -/
theorem rn_22 {P : Nat → Nat → List Value → ee_W → Option (List Value × ee_W)} {d : Nat} {w : ee_W} (x0 : Nat) (x1 : Int32) (x2 : Int32) : ee_run ee_B P (d + 1) 22 [.ref x0, .int x1, .int x2] w = ee_fin (Option.some Jvm.ClassFile.FieldType.int) (ee_evS es_sh es_rf (ee_run ee_B P d) bd_22 0 [some (.ref x0), some (.int x1), some (.int x2), none, none, none, none, none] w) := rn_gen (n := 8) mb_22 mf_22.1 mf_22.2.1 (ee_argok_s mf_22.2.2.1 mf_22.2.2.2 rfl) (Nat.le_of_ble_eq_true rfl)
theorem mb_36 : ee_B 36 = some bd_36 := rfl
set_option maxRecDepth 100000 in
theorem mf_36 : (es_m 36).2.1 = 6 ∧ (es_m 36).2.2.1 = (Option.some Jvm.ClassFile.FieldType.int) ∧ (es_m 36).2.2.2.1 = false ∧ ee_sig 36 = some 3 ∧ es_own 4 = (es_m 36).1.cls := by decide +kernel
/-- HeadServo$Reader.cutNumber -/
theorem rn_36 {P : Nat → Nat → List Value → ee_W → Option (List Value × ee_W)} {d : Nat} {w : ee_W} {h : Nat} (hh : es_sh h = (14, 0)) (x0 : Nat) (x1 : Int32) (x2 : Int32) : ee_run ee_B P (d + 1) 36 [.ref h, .ref x0, .int x1, .int x2] w = ee_fin (Option.some Jvm.ClassFile.FieldType.int) (ee_evS es_sh es_rf (ee_run ee_B P d) bd_36 0 [some (.ref h), some (.ref x0), some (.int x1), some (.int x2), none, none] w) := rn_gen (n := 6) mb_36 mf_36.1 mf_36.2.1 (ee_argok_i mf_36.2.2.1 mf_36.2.2.2.1 rfl hh mf_36.2.2.2.2) (Nat.le_of_ble_eq_true rfl)
theorem mb_37 : ee_B 37 = some bd_37 := rfl
set_option maxRecDepth 100000 in
theorem mf_37 : (es_m 37).2.1 = 6 ∧ (es_m 37).2.2.1 = (Option.some Jvm.ClassFile.FieldType.int) ∧ (es_m 37).2.2.2.1 = false ∧ ee_sig 37 = some 3 ∧ es_own 4 = (es_m 37).1.cls := by decide +kernel
/-- HeadServo$Reader.cutSign -/
theorem rn_37 {P : Nat → Nat → List Value → ee_W → Option (List Value × ee_W)} {d : Nat} {w : ee_W} {h : Nat} (hh : es_sh h = (14, 0)) (x0 : Nat) (x1 : Int32) (x2 : Int32) : ee_run ee_B P (d + 1) 37 [.ref h, .ref x0, .int x1, .int x2] w = ee_fin (Option.some Jvm.ClassFile.FieldType.int) (ee_evS es_sh es_rf (ee_run ee_B P d) bd_37 0 [some (.ref h), some (.ref x0), some (.int x1), some (.int x2), none, none] w) := rn_gen (n := 6) mb_37 mf_37.1 mf_37.2.1 (ee_argok_i mf_37.2.2.1 mf_37.2.2.2.1 rfl hh mf_37.2.2.2.2) (Nat.le_of_ble_eq_true rfl)
theorem mb_38 : ee_B 38 = some bd_38 := rfl
set_option maxRecDepth 100000 in
theorem mf_38 : (es_m 38).2.1 = 1 ∧ (es_m 38).2.2.1 = (Option.some Jvm.ClassFile.FieldType.int) ∧ (es_m 38).2.2.2.1 = true ∧ ee_sig 38 = some 1 := by decide +kernel
/-- HeadServo$Reader.signKind -/
theorem rn_38 {P : Nat → Nat → List Value → ee_W → Option (List Value × ee_W)} {d : Nat} {w : ee_W} (x0 : Int32) : ee_run ee_B P (d + 1) 38 [.int x0] w = ee_fin (Option.some Jvm.ClassFile.FieldType.int) (ee_evS es_sh es_rf (ee_run ee_B P d) bd_38 0 [some (.int x0)] w) := rn_gen (n := 1) mb_38 mf_38.1 mf_38.2.1 (ee_argok_s mf_38.2.2.1 mf_38.2.2.2 rfl) (Nat.le_of_ble_eq_true rfl)
theorem mb_20 : ee_B 20 = some bd_20 := rfl
set_option maxRecDepth 100000 in
theorem mf_20 : (es_m 20).2.1 = 1 ∧ (es_m 20).2.2.1 = (Option.some Jvm.ClassFile.FieldType.boolean) ∧ (es_m 20).2.2.2.1 = true ∧ ee_sig 20 = some 1 := by decide +kernel
/-- HeadServo$Reader.isLetter -/
theorem rn_20 {P : Nat → Nat → List Value → ee_W → Option (List Value × ee_W)} {d : Nat} {w : ee_W} (x0 : Int32) : ee_run ee_B P (d + 1) 20 [.int x0] w = ee_fin (Option.some Jvm.ClassFile.FieldType.boolean) (ee_evS es_sh es_rf (ee_run ee_B P d) bd_20 0 [some (.int x0)] w) := rn_gen (n := 1) mb_20 mf_20.1 mf_20.2.1 (ee_argok_s mf_20.2.2.1 mf_20.2.2.2 rfl) (Nat.le_of_ble_eq_true rfl)
theorem mb_35 : ee_B 35 = some bd_35 := rfl
set_option maxRecDepth 100000 in
theorem mf_35 : (es_m 35).2.1 = 1 ∧ (es_m 35).2.2.1 = (Option.some Jvm.ClassFile.FieldType.boolean) ∧ (es_m 35).2.2.2.1 = true ∧ ee_sig 35 = some 1 := by decide +kernel
/-- HeadServo$Reader.isDigit -/
theorem rn_35 {P : Nat → Nat → List Value → ee_W → Option (List Value × ee_W)} {d : Nat} {w : ee_W} (x0 : Int32) : ee_run ee_B P (d + 1) 35 [.int x0] w = ee_fin (Option.some Jvm.ClassFile.FieldType.boolean) (ee_evS es_sh es_rf (ee_run ee_B P d) bd_35 0 [some (.int x0)] w) := rn_gen (n := 1) mb_35 mf_35.1 mf_35.2.1 (ee_argok_s mf_35.2.2.1 mf_35.2.2.2 rfl) (Nat.le_of_ble_eq_true rfl)
theorem mb_39 : ee_B 39 = some bd_39 := rfl
set_option maxRecDepth 100000 in
theorem mf_39 : (es_m 39).2.1 = 1 ∧ (es_m 39).2.2.1 = (Option.some Jvm.ClassFile.FieldType.int) ∧ (es_m 39).2.2.2.1 = false ∧ ee_sig 39 = some 0 ∧ es_own 4 = (es_m 39).1.cls := by decide +kernel
/-- HeadServo$Reader.kind -/
theorem rn_39 {P : Nat → Nat → List Value → ee_W → Option (List Value × ee_W)} {d : Nat} {w : ee_W} {h : Nat} (hh : es_sh h = (14, 0)) : ee_run ee_B P (d + 1) 39 [.ref h] w = ee_fin (Option.some Jvm.ClassFile.FieldType.int) (ee_evS es_sh es_rf (ee_run ee_B P d) bd_39 0 [some (.ref h)] w) := rn_gen (n := 1) mb_39 mf_39.1 mf_39.2.1 (ee_argok_i mf_39.2.2.1 mf_39.2.2.2.1 rfl hh mf_39.2.2.2.2) (Nat.le_of_ble_eq_true rfl)
theorem mb_47 : ee_B 47 = some bd_47 := rfl
set_option maxRecDepth 100000 in
theorem mf_47 : (es_m 47).2.1 = 1 ∧ (es_m 47).2.2.1 = (Option.some Jvm.ClassFile.FieldType.int) ∧ (es_m 47).2.2.2.1 = false ∧ ee_sig 47 = some 0 ∧ es_own 4 = (es_m 47).1.cls := by decide +kernel
/-- HeadServo$Reader.value -/
theorem rn_47 {P : Nat → Nat → List Value → ee_W → Option (List Value × ee_W)} {d : Nat} {w : ee_W} {h : Nat} (hh : es_sh h = (14, 0)) : ee_run ee_B P (d + 1) 47 [.ref h] w = ee_fin (Option.some Jvm.ClassFile.FieldType.int) (ee_evS es_sh es_rf (ee_run ee_B P d) bd_47 0 [some (.ref h)] w) := rn_gen (n := 1) mb_47 mf_47.1 mf_47.2.1 (ee_argok_i mf_47.2.2.1 mf_47.2.2.2.1 rfl hh mf_47.2.2.2.2) (Nat.le_of_ble_eq_true rfl)
theorem mb_41 : ee_B 41 = some bd_41 := rfl
set_option maxRecDepth 100000 in
theorem mf_41 : (es_m 41).2.1 = 2 ∧ (es_m 41).2.2.1 = (Option.some Jvm.ClassFile.FieldType.boolean) ∧ (es_m 41).2.2.2.1 = false ∧ ee_sig 41 = some 1 ∧ es_own 4 = (es_m 41).1.cls := by decide +kernel
/-- HeadServo$Reader.refuse -/
theorem rn_41 {P : Nat → Nat → List Value → ee_W → Option (List Value × ee_W)} {d : Nat} {w : ee_W} {h : Nat} (hh : es_sh h = (14, 0)) (x0 : Int32) : ee_run ee_B P (d + 1) 41 [.ref h, .int x0] w = ee_fin (Option.some Jvm.ClassFile.FieldType.boolean) (ee_evS es_sh es_rf (ee_run ee_B P d) bd_41 0 [some (.ref h), some (.int x0)] w) := rn_gen (n := 2) mb_41 mf_41.1 mf_41.2.1 (ee_argok_i mf_41.2.2.1 mf_41.2.2.2.1 rfl hh mf_41.2.2.2.2) (Nat.le_of_ble_eq_true rfl)
theorem mb_51 : ee_B 51 = some bd_51 := rfl
set_option maxRecDepth 100000 in
theorem mf_51 : (es_m 51).2.1 = 2 ∧ (es_m 51).2.2.1 = (Option.some Jvm.ClassFile.FieldType.boolean) ∧ (es_m 51).2.2.2.1 = false ∧ ee_sig 51 = some 1 ∧ es_own 4 = (es_m 51).1.cls := by decide +kernel
/-- HeadServo$Reader.take -/
theorem rn_51 {P : Nat → Nat → List Value → ee_W → Option (List Value × ee_W)} {d : Nat} {w : ee_W} {h : Nat} (hh : es_sh h = (14, 0)) (x0 : Int32) : ee_run ee_B P (d + 1) 51 [.ref h, .int x0] w = ee_fin (Option.some Jvm.ClassFile.FieldType.boolean) (ee_evS es_sh es_rf (ee_run ee_B P d) bd_51 0 [some (.ref h), some (.int x0)] w) := rn_gen (n := 2) mb_51 mf_51.1 mf_51.2.1 (ee_argok_i mf_51.2.2.1 mf_51.2.2.2.1 rfl hh mf_51.2.2.2.2) (Nat.le_of_ble_eq_true rfl)
theorem mb_40 : ee_B 40 = some bd_40 := rfl
set_option maxRecDepth 100000 in
theorem mf_40 : (es_m 40).2.1 = 3 ∧ (es_m 40).2.2.1 = (Option.some Jvm.ClassFile.FieldType.boolean) ∧ (es_m 40).2.2.2.1 = false ∧ ee_sig 40 = some 1 ∧ es_own 4 = (es_m 40).1.cls := by decide +kernel
/-- HeadServo$Reader.clause -/
theorem rn_40 {P : Nat → Nat → List Value → ee_W → Option (List Value × ee_W)} {d : Nat} {w : ee_W} {h : Nat} (hh : es_sh h = (14, 0)) (x0 : Nat) : ee_run ee_B P (d + 1) 40 [.ref h, .ref x0] w = ee_fin (Option.some Jvm.ClassFile.FieldType.boolean) (ee_evS es_sh es_rf (ee_run ee_B P d) bd_40 0 [some (.ref h), some (.ref x0), none] w) := rn_gen (n := 3) mb_40 mf_40.1 mf_40.2.1 (ee_argok_i mf_40.2.2.1 mf_40.2.2.2.1 rfl hh mf_40.2.2.2.2) (Nat.le_of_ble_eq_true rfl)
theorem mb_42 : ee_B 42 = some bd_42 := rfl
set_option maxRecDepth 100000 in
theorem mf_42 : (es_m 42).2.1 = 4 ∧ (es_m 42).2.2.1 = (Option.some Jvm.ClassFile.FieldType.boolean) ∧ (es_m 42).2.2.2.1 = false ∧ ee_sig 42 = some 2 ∧ es_own 4 = (es_m 42).1.cls := by decide +kernel
/-- HeadServo$Reader.lawClause -/
theorem rn_42 {P : Nat → Nat → List Value → ee_W → Option (List Value × ee_W)} {d : Nat} {w : ee_W} {h : Nat} (hh : es_sh h = (14, 0)) (x0 : Int32) (x1 : Nat) : ee_run ee_B P (d + 1) 42 [.ref h, .int x0, .ref x1] w = ee_fin (Option.some Jvm.ClassFile.FieldType.boolean) (ee_evS es_sh es_rf (ee_run ee_B P d) bd_42 0 [some (.ref h), some (.int x0), some (.ref x1), none] w) := rn_gen (n := 4) mb_42 mf_42.1 mf_42.2.1 (ee_argok_i mf_42.2.2.1 mf_42.2.2.2.1 rfl hh mf_42.2.2.2.2) (Nat.le_of_ble_eq_true rfl)
theorem mb_58 : ee_B 58 = some bd_58 := rfl
set_option maxRecDepth 100000 in
theorem mf_58 : (es_m 58).2.1 = 6 ∧ (es_m 58).2.2.1 = (Option.some Jvm.ClassFile.FieldType.boolean) ∧ (es_m 58).2.2.2.1 = false ∧ ee_sig 58 = some 2 ∧ es_own 4 = (es_m 58).1.cls := by decide +kernel
/-- HeadServo$Reader.scriptClause -/
theorem rn_58 {P : Nat → Nat → List Value → ee_W → Option (List Value × ee_W)} {d : Nat} {w : ee_W} {h : Nat} (hh : es_sh h = (14, 0)) (x0 : Int32) (x1 : Nat) : ee_run ee_B P (d + 1) 58 [.ref h, .int x0, .ref x1] w = ee_fin (Option.some Jvm.ClassFile.FieldType.boolean) (ee_evS es_sh es_rf (ee_run ee_B P d) bd_58 0 [some (.ref h), some (.int x0), some (.ref x1), none, none, none] w) := rn_gen (n := 6) mb_58 mf_58.1 mf_58.2.1 (ee_argok_i mf_58.2.2.1 mf_58.2.2.2.1 rfl hh mf_58.2.2.2.2) (Nat.le_of_ble_eq_true rfl)
theorem mb_59 : ee_B 59 = some bd_59 := rfl
set_option maxRecDepth 100000 in
theorem mf_59 : (es_m 59).2.1 = 4 ∧ (es_m 59).2.2.1 = (Option.some Jvm.ClassFile.FieldType.boolean) ∧ (es_m 59).2.2.2.1 = false ∧ ee_sig 59 = some 1 ∧ es_own 4 = (es_m 59).1.cls := by decide +kernel
/-- HeadServo$Reader.wobbleClause -/
theorem rn_59 {P : Nat → Nat → List Value → ee_W → Option (List Value × ee_W)} {d : Nat} {w : ee_W} {h : Nat} (hh : es_sh h = (14, 0)) (x0 : Nat) : ee_run ee_B P (d + 1) 59 [.ref h, .ref x0] w = ee_fin (Option.some Jvm.ClassFile.FieldType.boolean) (ee_evS es_sh es_rf (ee_run ee_B P d) bd_59 0 [some (.ref h), some (.ref x0), none, none] w) := rn_gen (n := 4) mb_59 mf_59.1 mf_59.2.1 (ee_argok_i mf_59.2.2.1 mf_59.2.2.2.1 rfl hh mf_59.2.2.2.2) (Nat.le_of_ble_eq_true rfl)
theorem mb_48 : ee_B 48 = some bd_48 := rfl
set_option maxRecDepth 100000 in
theorem mf_48 : (es_m 48).2.1 = 3 ∧ (es_m 48).2.2.1 = (Option.some Jvm.ClassFile.FieldType.boolean) ∧ (es_m 48).2.2.2.1 = false ∧ ee_sig 48 = some 2 ∧ es_own 4 = (es_m 48).1.cls := by decide +kernel
/-- HeadServo$Reader.number -/
theorem rn_48 {P : Nat → Nat → List Value → ee_W → Option (List Value × ee_W)} {d : Nat} {w : ee_W} {h : Nat} (hh : es_sh h = (14, 0)) (x0 : Int32) (x1 : Int32) : ee_run ee_B P (d + 1) 48 [.ref h, .int x0, .int x1] w = ee_fin (Option.some Jvm.ClassFile.FieldType.boolean) (ee_evS es_sh es_rf (ee_run ee_B P d) bd_48 0 [some (.ref h), some (.int x0), some (.int x1)] w) := rn_gen (n := 3) mb_48 mf_48.1 mf_48.2.1 (ee_argok_i mf_48.2.2.1 mf_48.2.2.2.1 rfl hh mf_48.2.2.2.2) (Nat.le_of_ble_eq_true rfl)
theorem mb_44 : ee_B 44 = some bd_44 := rfl
set_option maxRecDepth 100000 in
theorem mf_44 : (es_m 44).2.1 = 5 ∧ (es_m 44).2.2.1 = (Option.some Jvm.ClassFile.FieldType.boolean) ∧ (es_m 44).2.2.2.1 = false ∧ ee_sig 44 = some 2 ∧ es_own 4 = (es_m 44).1.cls := by decide +kernel
/-- HeadServo$Reader.sum -/
theorem rn_44 {P : Nat → Nat → List Value → ee_W → Option (List Value × ee_W)} {d : Nat} {w : ee_W} {h : Nat} (hh : es_sh h = (14, 0)) (x0 : Nat) (x1 : Int32) : ee_run ee_B P (d + 1) 44 [.ref h, .ref x0, .int x1] w = ee_fin (Option.some Jvm.ClassFile.FieldType.boolean) (ee_evS es_sh es_rf (ee_run ee_B P d) bd_44 0 [some (.ref h), some (.ref x0), some (.int x1), none, none] w) := rn_gen (n := 5) mb_44 mf_44.1 mf_44.2.1 (ee_argok_i mf_44.2.2.1 mf_44.2.2.2.1 rfl hh mf_44.2.2.2.2) (Nat.le_of_ble_eq_true rfl)
theorem mb_45 : ee_B 45 = some bd_45 := rfl
set_option maxRecDepth 100000 in
theorem mf_45 : (es_m 45).2.1 = 5 ∧ (es_m 45).2.2.1 = (Option.some Jvm.ClassFile.FieldType.boolean) ∧ (es_m 45).2.2.2.1 = false ∧ ee_sig 45 = some 2 ∧ es_own 4 = (es_m 45).1.cls := by decide +kernel
/-- HeadServo$Reader.product -/
theorem rn_45 {P : Nat → Nat → List Value → ee_W → Option (List Value × ee_W)} {d : Nat} {w : ee_W} {h : Nat} (hh : es_sh h = (14, 0)) (x0 : Nat) (x1 : Int32) : ee_run ee_B P (d + 1) 45 [.ref h, .ref x0, .int x1] w = ee_fin (Option.some Jvm.ClassFile.FieldType.boolean) (ee_evS es_sh es_rf (ee_run ee_B P d) bd_45 0 [some (.ref h), some (.ref x0), some (.int x1), none, none] w) := rn_gen (n := 5) mb_45 mf_45.1 mf_45.2.1 (ee_argok_i mf_45.2.2.1 mf_45.2.2.2.1 rfl hh mf_45.2.2.2.2) (Nat.le_of_ble_eq_true rfl)
theorem mb_46 : ee_B 46 = some bd_46 := rfl
set_option maxRecDepth 100000 in
theorem mf_46 : (es_m 46).2.1 = 5 ∧ (es_m 46).2.2.1 = (Option.some Jvm.ClassFile.FieldType.boolean) ∧ (es_m 46).2.2.2.1 = false ∧ ee_sig 46 = some 2 ∧ es_own 4 = (es_m 46).1.cls := by decide +kernel
/-- HeadServo$Reader.one -/
theorem rn_46 {P : Nat → Nat → List Value → ee_W → Option (List Value × ee_W)} {d : Nat} {w : ee_W} {h : Nat} (hh : es_sh h = (14, 0)) (x0 : Nat) (x1 : Int32) : ee_run ee_B P (d + 1) 46 [.ref h, .ref x0, .int x1] w = ee_fin (Option.some Jvm.ClassFile.FieldType.boolean) (ee_evS es_sh es_rf (ee_run ee_B P d) bd_46 0 [some (.ref h), some (.ref x0), some (.int x1), none, none] w) := rn_gen (n := 5) mb_46 mf_46.1 mf_46.2.1 (ee_argok_i mf_46.2.2.1 mf_46.2.2.2.1 rfl hh mf_46.2.2.2.2) (Nat.le_of_ble_eq_true rfl)
theorem mb_50 : ee_B 50 = some bd_50 := rfl
set_option maxRecDepth 100000 in
theorem mf_50 : (es_m 50).2.1 = 2 ∧ (es_m 50).2.2.1 = (Option.some Jvm.ClassFile.FieldType.boolean) ∧ (es_m 50).2.2.2.1 = false ∧ ee_sig 50 = some 1 ∧ es_own 4 = (es_m 50).1.cls := by decide +kernel
/-- HeadServo$Reader.open -/
theorem rn_50 {P : Nat → Nat → List Value → ee_W → Option (List Value × ee_W)} {d : Nat} {w : ee_W} {h : Nat} (hh : es_sh h = (14, 0)) (x0 : Int32) : ee_run ee_B P (d + 1) 50 [.ref h, .int x0] w = ee_fin (Option.some Jvm.ClassFile.FieldType.boolean) (ee_evS es_sh es_rf (ee_run ee_B P d) bd_50 0 [some (.ref h), some (.int x0)] w) := rn_gen (n := 2) mb_50 mf_50.1 mf_50.2.1 (ee_argok_i mf_50.2.2.1 mf_50.2.2.2.1 rfl hh mf_50.2.2.2.2) (Nat.le_of_ble_eq_true rfl)
theorem mb_57 : ee_B 57 = some bd_57 := rfl
set_option maxRecDepth 100000 in
theorem mf_57 : (es_m 57).2.1 = 3 ∧ (es_m 57).2.2.1 = (Option.some Jvm.ClassFile.FieldType.boolean) ∧ (es_m 57).2.2.2.1 = false ∧ ee_sig 57 = some 1 ∧ es_own 4 = (es_m 57).1.cls := by decide +kernel
/-- HeadServo$Reader.name -/
theorem rn_57 {P : Nat → Nat → List Value → ee_W → Option (List Value × ee_W)} {d : Nat} {w : ee_W} {h : Nat} (hh : es_sh h = (14, 0)) (x0 : Nat) : ee_run ee_B P (d + 1) 57 [.ref h, .ref x0] w = ee_fin (Option.some Jvm.ClassFile.FieldType.boolean) (ee_evS es_sh es_rf (ee_run ee_B P d) bd_57 0 [some (.ref h), some (.ref x0), none] w) := rn_gen (n := 3) mb_57 mf_57.1 mf_57.2.1 (ee_argok_i mf_57.2.2.1 mf_57.2.2.2.1 rfl hh mf_57.2.2.2.2) (Nat.le_of_ble_eq_true rfl)
theorem mb_52 : ee_B 52 = some bd_52 := rfl
set_option maxRecDepth 100000 in
theorem mf_52 : (es_m 52).2.1 = 5 ∧ (es_m 52).2.2.1 = (Option.some Jvm.ClassFile.FieldType.boolean) ∧ (es_m 52).2.2.2.1 = false ∧ ee_sig 52 = some 2 ∧ es_own 4 = (es_m 52).1.cls := by decide +kernel
/-- HeadServo$Reader.choice -/
theorem rn_52 {P : Nat → Nat → List Value → ee_W → Option (List Value × ee_W)} {d : Nat} {w : ee_W} {h : Nat} (hh : es_sh h = (14, 0)) (x0 : Nat) (x1 : Int32) : ee_run ee_B P (d + 1) 52 [.ref h, .ref x0, .int x1] w = ee_fin (Option.some Jvm.ClassFile.FieldType.boolean) (ee_evS es_sh es_rf (ee_run ee_B P d) bd_52 0 [some (.ref h), some (.ref x0), some (.int x1), none, none] w) := rn_gen (n := 5) mb_52 mf_52.1 mf_52.2.1 (ee_argok_i mf_52.2.2.1 mf_52.2.2.2.1 rfl hh mf_52.2.2.2.2) (Nat.le_of_ble_eq_true rfl)
theorem mb_53 : ee_B 53 = some bd_53 := rfl
set_option maxRecDepth 100000 in
theorem mf_53 : (es_m 53).2.1 = 4 ∧ (es_m 53).2.2.1 = (Option.some Jvm.ClassFile.FieldType.boolean) ∧ (es_m 53).2.2.2.1 = false ∧ ee_sig 53 = some 2 ∧ es_own 4 = (es_m 53).1.cls := by decide +kernel
/-- HeadServo$Reader.either -/
theorem rn_53 {P : Nat → Nat → List Value → ee_W → Option (List Value × ee_W)} {d : Nat} {w : ee_W} {h : Nat} (hh : es_sh h = (14, 0)) (x0 : Nat) (x1 : Int32) : ee_run ee_B P (d + 1) 53 [.ref h, .ref x0, .int x1] w = ee_fin (Option.some Jvm.ClassFile.FieldType.boolean) (ee_evS es_sh es_rf (ee_run ee_B P d) bd_53 0 [some (.ref h), some (.ref x0), some (.int x1), none] w) := rn_gen (n := 4) mb_53 mf_53.1 mf_53.2.1 (ee_argok_i mf_53.2.2.1 mf_53.2.2.2.1 rfl hh mf_53.2.2.2.2) (Nat.le_of_ble_eq_true rfl)
theorem mb_54 : ee_B 54 = some bd_54 := rfl
set_option maxRecDepth 100000 in
theorem mf_54 : (es_m 54).2.1 = 4 ∧ (es_m 54).2.2.1 = (Option.some Jvm.ClassFile.FieldType.boolean) ∧ (es_m 54).2.2.2.1 = false ∧ ee_sig 54 = some 2 ∧ es_own 4 = (es_m 54).1.cls := by decide +kernel
/-- HeadServo$Reader.both -/
theorem rn_54 {P : Nat → Nat → List Value → ee_W → Option (List Value × ee_W)} {d : Nat} {w : ee_W} {h : Nat} (hh : es_sh h = (14, 0)) (x0 : Nat) (x1 : Int32) : ee_run ee_B P (d + 1) 54 [.ref h, .ref x0, .int x1] w = ee_fin (Option.some Jvm.ClassFile.FieldType.boolean) (ee_evS es_sh es_rf (ee_run ee_B P d) bd_54 0 [some (.ref h), some (.ref x0), some (.int x1), none] w) := rn_gen (n := 4) mb_54 mf_54.1 mf_54.2.1 (ee_argok_i mf_54.2.2.1 mf_54.2.2.2.1 rfl hh mf_54.2.2.2.2) (Nat.le_of_ble_eq_true rfl)
theorem mb_55 : ee_B 55 = some bd_55 := rfl
set_option maxRecDepth 100000 in
theorem mf_55 : (es_m 55).2.1 = 4 ∧ (es_m 55).2.2.1 = (Option.some Jvm.ClassFile.FieldType.boolean) ∧ (es_m 55).2.2.2.1 = false ∧ ee_sig 55 = some 2 ∧ es_own 4 = (es_m 55).1.cls := by decide +kernel
/-- HeadServo$Reader.ask -/
theorem rn_55 {P : Nat → Nat → List Value → ee_W → Option (List Value × ee_W)} {d : Nat} {w : ee_W} {h : Nat} (hh : es_sh h = (14, 0)) (x0 : Nat) (x1 : Int32) : ee_run ee_B P (d + 1) 55 [.ref h, .ref x0, .int x1] w = ee_fin (Option.some Jvm.ClassFile.FieldType.boolean) (ee_evS es_sh es_rf (ee_run ee_B P d) bd_55 0 [some (.ref h), some (.ref x0), some (.int x1), none] w) := rn_gen (n := 4) mb_55 mf_55.1 mf_55.2.1 (ee_argok_i mf_55.2.2.1 mf_55.2.2.2.1 rfl hh mf_55.2.2.2.2) (Nat.le_of_ble_eq_true rfl)
theorem mb_88 : ee_B 88 = some bd_88 := rfl
set_option maxRecDepth 100000 in
theorem mf_88 : (es_m 88).2.1 = 11 ∧ (es_m 88).2.2.1 = (Option.some Jvm.ClassFile.FieldType.int) ∧ (es_m 88).2.2.2.1 = false ∧ ee_sig 88 = some 5 ∧ es_own 3 = (es_m 88).1.cls := by decide +kernel
/-- HeadServo$Machine.work -/
theorem rn_88 {P : Nat → Nat → List Value → ee_W → Option (List Value × ee_W)} {d : Nat} {w : ee_W} {h : Nat} (hh : es_sh h = (13, 0)) (x0 : Nat) (x1 : Int32) (x2 : Int32) (x3 : Nat) (x4 : Int32) : ee_run ee_B P (d + 1) 88 [.ref h, .ref x0, .int x1, .int x2, .ref x3, .int x4] w = ee_fin (Option.some Jvm.ClassFile.FieldType.int) (ee_evS es_sh es_rf (ee_run ee_B P d) bd_88 0 [some (.ref h), some (.ref x0), some (.int x1), some (.int x2), some (.ref x3), some (.int x4), none, none, none, none, none] w) := rn_gen (n := 11) mb_88 mf_88.1 mf_88.2.1 (ee_argok_i mf_88.2.2.1 mf_88.2.2.2.1 rfl hh mf_88.2.2.2.2) (Nat.le_of_ble_eq_true rfl)
theorem mb_89 : ee_B 89 = some bd_89 := rfl
set_option maxRecDepth 100000 in
theorem mf_89 : (es_m 89).2.1 = 2 ∧ (es_m 89).2.2.1 = (Option.none : Option Jvm.ClassFile.FieldType) ∧ (es_m 89).2.2.2.1 = false ∧ ee_sig 89 = some 1 ∧ es_own 3 = (es_m 89).1.cls := by decide +kernel
/-- HeadServo$Machine.push -/
theorem rn_89 {P : Nat → Nat → List Value → ee_W → Option (List Value × ee_W)} {d : Nat} {w : ee_W} {h : Nat} (hh : es_sh h = (13, 0)) (x0 : Int32) : ee_run ee_B P (d + 1) 89 [.ref h, .int x0] w = ee_fin (Option.none : Option Jvm.ClassFile.FieldType) (ee_evS es_sh es_rf (ee_run ee_B P d) bd_89 0 [some (.ref h), some (.int x0)] w) := rn_gen (n := 2) mb_89 mf_89.1 mf_89.2.1 (ee_argok_i mf_89.2.2.1 mf_89.2.2.2.1 rfl hh mf_89.2.2.2.2) (Nat.le_of_ble_eq_true rfl)
theorem mb_90 : ee_B 90 = some bd_90 := rfl
set_option maxRecDepth 100000 in
theorem mf_90 : (es_m 90).2.1 = 1 ∧ (es_m 90).2.2.1 = (Option.some Jvm.ClassFile.FieldType.int) ∧ (es_m 90).2.2.2.1 = false ∧ ee_sig 90 = some 0 ∧ es_own 3 = (es_m 90).1.cls := by decide +kernel
/-- HeadServo$Machine.pop -/
theorem rn_90 {P : Nat → Nat → List Value → ee_W → Option (List Value × ee_W)} {d : Nat} {w : ee_W} {h : Nat} (hh : es_sh h = (13, 0)) : ee_run ee_B P (d + 1) 90 [.ref h] w = ee_fin (Option.some Jvm.ClassFile.FieldType.int) (ee_evS es_sh es_rf (ee_run ee_B P d) bd_90 0 [some (.ref h)] w) := rn_gen (n := 1) mb_90 mf_90.1 mf_90.2.1 (ee_argok_i mf_90.2.2.1 mf_90.2.2.2.1 rfl hh mf_90.2.2.2.2) (Nat.le_of_ble_eq_true rfl)
theorem mb_94 : ee_B 94 = some bd_94 := rfl
set_option maxRecDepth 100000 in
theorem mf_94 : (es_m 94).2.1 = 3 ∧ (es_m 94).2.2.1 = (Option.some Jvm.ClassFile.FieldType.int) ∧ (es_m 94).2.2.2.1 = true ∧ ee_sig 94 = some 3 := by decide +kernel
/-- HeadServo$Machine.join -/
theorem rn_94 {P : Nat → Nat → List Value → ee_W → Option (List Value × ee_W)} {d : Nat} {w : ee_W} (x0 : Int32) (x1 : Int32) (x2 : Int32) : ee_run ee_B P (d + 1) 94 [.int x0, .int x1, .int x2] w = ee_fin (Option.some Jvm.ClassFile.FieldType.int) (ee_evS es_sh es_rf (ee_run ee_B P d) bd_94 0 [some (.int x0), some (.int x1), some (.int x2)] w) := rn_gen (n := 3) mb_94 mf_94.1 mf_94.2.1 (ee_argok_s mf_94.2.2.1 mf_94.2.2.2 rfl) (Nat.le_of_ble_eq_true rfl)
theorem mb_95 : ee_B 95 = some bd_95 := rfl
set_option maxRecDepth 100000 in
theorem mf_95 : (es_m 95).2.1 = 2 ∧ (es_m 95).2.2.1 = (Option.some Jvm.ClassFile.FieldType.int) ∧ (es_m 95).2.2.2.1 = true ∧ ee_sig 95 = some 1 := by decide +kernel
/-- HeadServo$Machine.bound -/
theorem rn_95 {P : Nat → Nat → List Value → ee_W → Option (List Value × ee_W)} {d : Nat} {w : ee_W} (x0 : Int64) : ee_run ee_B P (d + 1) 95 [.long x0] w = ee_fin (Option.some Jvm.ClassFile.FieldType.int) (ee_evS es_sh es_rf (ee_run ee_B P d) bd_95 0 [some (.long x0), none] w) := rn_gen (n := 2) mb_95 mf_95.1 mf_95.2.1 (ee_argok_s mf_95.2.2.1 mf_95.2.2.2 rfl) (Nat.le_of_ble_eq_true rfl)
theorem mb_152 : ee_B 152 = some bd_152 := rfl
set_option maxRecDepth 100000 in
theorem mf_152 : (es_m 152).2.1 = 8 ∧ (es_m 152).2.2.1 = (Option.none : Option Jvm.ClassFile.FieldType) ∧ (es_m 152).2.2.2.1 = false ∧ ee_sig 152 = some 3 ∧ es_own 5 = (es_m 152).1.cls := by decide +kernel
/-- HeadServo$Route.find -/
theorem rn_152 {P : Nat → Nat → List Value → ee_W → Option (List Value × ee_W)} {d : Nat} {w : ee_W} {h : Nat} (hh : es_sh h = (15, 0)) (x0 : Int32) (x1 : Nat) (x2 : Int32) : ee_run ee_B P (d + 1) 152 [.ref h, .int x0, .ref x1, .int x2] w = ee_fin (Option.none : Option Jvm.ClassFile.FieldType) (ee_evS es_sh es_rf (ee_run ee_B P d) bd_152 0 [some (.ref h), some (.int x0), some (.ref x1), some (.int x2), none, none, none, none] w) := rn_gen (n := 8) mb_152 mf_152.1 mf_152.2.1 (ee_argok_i mf_152.2.2.1 mf_152.2.2.2.1 rfl hh mf_152.2.2.2.2) (Nat.le_of_ble_eq_true rfl)
theorem mb_156 : ee_B 156 = some bd_156 := rfl
set_option maxRecDepth 100000 in
theorem mf_156 : (es_m 156).2.1 = 2 ∧ (es_m 156).2.2.1 = (Option.some Jvm.ClassFile.FieldType.int) ∧ (es_m 156).2.2.2.1 = false ∧ ee_sig 156 = some 1 ∧ es_own 5 = (es_m 156).1.cls := by decide +kernel
/-- HeadServo$Route.rowAt -/
theorem rn_156 {P : Nat → Nat → List Value → ee_W → Option (List Value × ee_W)} {d : Nat} {w : ee_W} {h : Nat} (hh : es_sh h = (15, 0)) (x0 : Int32) : ee_run ee_B P (d + 1) 156 [.ref h, .int x0] w = ee_fin (Option.some Jvm.ClassFile.FieldType.int) (ee_evS es_sh es_rf (ee_run ee_B P d) bd_156 0 [some (.ref h), some (.int x0)] w) := rn_gen (n := 2) mb_156 mf_156.1 mf_156.2.1 (ee_argok_i mf_156.2.2.1 mf_156.2.2.2.1 rfl hh mf_156.2.2.2.2) (Nat.le_of_ble_eq_true rfl)
theorem mb_153 : ee_B 153 = some bd_153 := rfl
set_option maxRecDepth 100000 in
theorem mf_153 : (es_m 153).2.1 = 3 ∧ (es_m 153).2.2.1 = (Option.none : Option Jvm.ClassFile.FieldType) ∧ (es_m 153).2.2.2.1 = false ∧ ee_sig 153 = some 1 ∧ es_own 5 = (es_m 153).1.cls := by decide +kernel
/-- HeadServo$Route.insert -/
theorem rn_153 {P : Nat → Nat → List Value → ee_W → Option (List Value × ee_W)} {d : Nat} {w : ee_W} {h : Nat} (hh : es_sh h = (15, 0)) (x0 : Int32) : ee_run ee_B P (d + 1) 153 [.ref h, .int x0] w = ee_fin (Option.none : Option Jvm.ClassFile.FieldType) (ee_evS es_sh es_rf (ee_run ee_B P d) bd_153 0 [some (.ref h), some (.int x0), none] w) := rn_gen (n := 3) mb_153 mf_153.1 mf_153.2.1 (ee_argok_i mf_153.2.2.1 mf_153.2.2.2.1 rfl hh mf_153.2.2.2.2) (Nat.le_of_ble_eq_true rfl)
theorem mb_155 : ee_B 155 = some bd_155 := rfl
set_option maxRecDepth 100000 in
theorem mf_155 : (es_m 155).2.1 = 6 ∧ (es_m 155).2.2.1 = (Option.some Jvm.ClassFile.FieldType.int) ∧ (es_m 155).2.2.2.1 = false ∧ ee_sig 155 = some 2 ∧ es_own 5 = (es_m 155).1.cls := by decide +kernel
/-- HeadServo$Route.lowestNext -/
theorem rn_155 {P : Nat → Nat → List Value → ee_W → Option (List Value × ee_W)} {d : Nat} {w : ee_W} {h : Nat} (hh : es_sh h = (15, 0)) (x0 : Int32) (x1 : Int32) : ee_run ee_B P (d + 1) 155 [.ref h, .int x0, .int x1] w = ee_fin (Option.some Jvm.ClassFile.FieldType.int) (ee_evS es_sh es_rf (ee_run ee_B P d) bd_155 0 [some (.ref h), some (.int x0), some (.int x1), none, none, none] w) := rn_gen (n := 6) mb_155 mf_155.1 mf_155.2.1 (ee_argok_i mf_155.2.2.1 mf_155.2.2.2.1 rfl hh mf_155.2.2.2.2) (Nat.le_of_ble_eq_true rfl)
theorem mb_154 : ee_B 154 = some bd_154 := rfl
set_option maxRecDepth 100000 in
theorem mf_154 : (es_m 154).2.1 = 6 ∧ (es_m 154).2.2.1 = (Option.some Jvm.ClassFile.FieldType.int) ∧ (es_m 154).2.2.2.1 = false ∧ ee_sig 154 = some 2 ∧ es_own 5 = (es_m 154).1.cls := by decide +kernel
/-- HeadServo$Route.leastFrom -/
theorem rn_154 {P : Nat → Nat → List Value → ee_W → Option (List Value × ee_W)} {d : Nat} {w : ee_W} {h : Nat} (hh : es_sh h = (15, 0)) (x0 : Int32) (x1 : Int32) : ee_run ee_B P (d + 1) 154 [.ref h, .int x0, .int x1] w = ee_fin (Option.some Jvm.ClassFile.FieldType.int) (ee_evS es_sh es_rf (ee_run ee_B P d) bd_154 0 [some (.ref h), some (.int x0), some (.int x1), none, none, none] w) := rn_gen (n := 6) mb_154 mf_154.1 mf_154.2.1 (ee_argok_i mf_154.2.2.1 mf_154.2.2.2.1 rfl hh mf_154.2.2.2.2) (Nat.le_of_ble_eq_true rfl)
theorem mb_185 : ee_B 185 = some bd_185 := rfl
set_option maxRecDepth 100000 in
theorem mf_185 : (es_m 185).2.1 = 3 ∧ (es_m 185).2.2.1 = (Option.none : Option Jvm.ClassFile.FieldType) ∧ (es_m 185).2.2.2.1 = true ∧ ee_sig 185 = some 2 := by decide +kernel
/-- HeadServoModel.copy -/
theorem rn_185 {P : Nat → Nat → List Value → ee_W → Option (List Value × ee_W)} {d : Nat} {w : ee_W} (x0 : Nat) (x1 : Nat) : ee_run ee_B P (d + 1) 185 [.ref x0, .ref x1] w = ee_fin (Option.none : Option Jvm.ClassFile.FieldType) (ee_evS es_sh es_rf (ee_run ee_B P d) bd_185 0 [some (.ref x0), some (.ref x1), none] w) := rn_gen (n := 3) mb_185 mf_185.1 mf_185.2.1 (ee_argok_s mf_185.2.2.1 mf_185.2.2.2 rfl) (Nat.le_of_ble_eq_true rfl)
theorem mb_188 : ee_B 188 = some bd_188 := rfl
set_option maxRecDepth 100000 in
theorem mf_188 : (es_m 188).2.1 = 3 ∧ (es_m 188).2.2.1 = (Option.some Jvm.ClassFile.FieldType.boolean) ∧ (es_m 188).2.2.2.1 = true ∧ ee_sig 188 = some 3 := by decide +kernel
/-- HeadServoModel.isIn -/
theorem rn_188 {P : Nat → Nat → List Value → ee_W → Option (List Value × ee_W)} {d : Nat} {w : ee_W} (x0 : Int32) (x1 : Int32) (x2 : Int32) : ee_run ee_B P (d + 1) 188 [.int x0, .int x1, .int x2] w = ee_fin (Option.some Jvm.ClassFile.FieldType.boolean) (ee_evS es_sh es_rf (ee_run ee_B P d) bd_188 0 [some (.int x0), some (.int x1), some (.int x2)] w) := rn_gen (n := 3) mb_188 mf_188.1 mf_188.2.1 (ee_argok_s mf_188.2.2.1 mf_188.2.2.2 rfl) (Nat.le_of_ble_eq_true rfl)
theorem mb_241 : ee_B 241 = some bd_241 := rfl
set_option maxRecDepth 100000 in
theorem mf_241 : (es_m 241).2.1 = 4 ∧ (es_m 241).2.2.1 = (Option.some Jvm.ClassFile.FieldType.int) ∧ (es_m 241).2.2.2.1 = true ∧ ee_sig 241 = some 3 := by decide +kernel
/-- HeadServoModel.held -/
theorem rn_241 {P : Nat → Nat → List Value → ee_W → Option (List Value × ee_W)} {d : Nat} {w : ee_W} (x0 : Int64) (x1 : Int32) (x2 : Int32) : ee_run ee_B P (d + 1) 241 [.long x0, .int x1, .int x2] w = ee_fin (Option.some Jvm.ClassFile.FieldType.int) (ee_evS es_sh es_rf (ee_run ee_B P d) bd_241 0 [some (.long x0), none, some (.int x1), some (.int x2)] w) := rn_gen (n := 4) mb_241 mf_241.1 mf_241.2.1 (ee_argok_s mf_241.2.2.1 mf_241.2.2.2 rfl) (Nat.le_of_ble_eq_true rfl)
theorem mb_208 : ee_B 208 = some bd_208 := rfl
set_option maxRecDepth 100000 in
theorem mf_208 : (es_m 208).2.1 = 2 ∧ (es_m 208).2.2.1 = (Option.some Jvm.ClassFile.FieldType.boolean) ∧ (es_m 208).2.2.2.1 = true ∧ ee_sig 208 = some 2 := by decide +kernel
/-- HeadServoModel.has -/
theorem rn_208 {P : Nat → Nat → List Value → ee_W → Option (List Value × ee_W)} {d : Nat} {w : ee_W} (x0 : Int32) (x1 : Int32) : ee_run ee_B P (d + 1) 208 [.int x0, .int x1] w = ee_fin (Option.some Jvm.ClassFile.FieldType.boolean) (ee_evS es_sh es_rf (ee_run ee_B P d) bd_208 0 [some (.int x0), some (.int x1)] w) := rn_gen (n := 2) mb_208 mf_208.1 mf_208.2.1 (ee_argok_s mf_208.2.2.1 mf_208.2.2.2 rfl) (Nat.le_of_ble_eq_true rfl)
theorem mb_291 : ee_B 291 = some bd_291 := rfl
set_option maxRecDepth 100000 in
theorem mf_291 : (es_m 291).2.1 = 2 ∧ (es_m 291).2.2.1 = (Option.some Jvm.ClassFile.FieldType.int) ∧ (es_m 291).2.2.2.1 = true ∧ ee_sig 291 = some 2 := by decide +kernel
/-- HeadServoModel.apartBy -/
theorem rn_291 {P : Nat → Nat → List Value → ee_W → Option (List Value × ee_W)} {d : Nat} {w : ee_W} (x0 : Int32) (x1 : Int32) : ee_run ee_B P (d + 1) 291 [.int x0, .int x1] w = ee_fin (Option.some Jvm.ClassFile.FieldType.int) (ee_evS es_sh es_rf (ee_run ee_B P d) bd_291 0 [some (.int x0), some (.int x1)] w) := rn_gen (n := 2) mb_291 mf_291.1 mf_291.2.1 (ee_argok_s mf_291.2.2.1 mf_291.2.2.2 rfl) (Nat.le_of_ble_eq_true rfl)
theorem mb_187 : ee_B 187 = some bd_187 := rfl
set_option maxRecDepth 100000 in
theorem mf_187 : (es_m 187).2.1 = 1 ∧ (es_m 187).2.2.1 = (Option.some Jvm.ClassFile.FieldType.boolean) ∧ (es_m 187).2.2.2.1 = true ∧ ee_sig 187 = some 1 := by decide +kernel
/-- HeadServoModel.isSector -/
theorem rn_187 {P : Nat → Nat → List Value → ee_W → Option (List Value × ee_W)} {d : Nat} {w : ee_W} (x0 : Int32) : ee_run ee_B P (d + 1) 187 [.int x0] w = ee_fin (Option.some Jvm.ClassFile.FieldType.boolean) (ee_evS es_sh es_rf (ee_run ee_B P d) bd_187 0 [some (.int x0)] w) := rn_gen (n := 1) mb_187 mf_187.1 mf_187.2.1 (ee_argok_s mf_187.2.2.1 mf_187.2.2.2 rfl) (Nat.le_of_ble_eq_true rfl)
theorem mb_235 : ee_B 235 = some bd_235 := rfl
set_option maxRecDepth 100000 in
theorem mf_235 : (es_m 235).2.1 = 1 ∧ (es_m 235).2.2.1 = (Option.some Jvm.ClassFile.FieldType.boolean) ∧ (es_m 235).2.2.2.1 = true ∧ ee_sig 235 = some 1 := by decide +kernel
/-- HeadServoModel.isTrack -/
theorem rn_235 {P : Nat → Nat → List Value → ee_W → Option (List Value × ee_W)} {d : Nat} {w : ee_W} (x0 : Int32) : ee_run ee_B P (d + 1) 235 [.int x0] w = ee_fin (Option.some Jvm.ClassFile.FieldType.boolean) (ee_evS es_sh es_rf (ee_run ee_B P d) bd_235 0 [some (.int x0)] w) := rn_gen (n := 1) mb_235 mf_235.1 mf_235.2.1 (ee_argok_s mf_235.2.2.1 mf_235.2.2.2 rfl) (Nat.le_of_ble_eq_true rfl)
theorem mb_248 : ee_B 248 = some bd_248 := rfl
set_option maxRecDepth 100000 in
theorem mf_248 : (es_m 248).2.1 = 2 ∧ (es_m 248).2.2.1 = (Option.some Jvm.ClassFile.FieldType.boolean) ∧ (es_m 248).2.2.2.1 = false ∧ ee_sig 248 = some 1 ∧ es_own 8 = (es_m 248).1.cls := by decide +kernel
/-- HeadServoModel.isLost -/
theorem rn_248 {P : Nat → Nat → List Value → ee_W → Option (List Value × ee_W)} {d : Nat} {w : ee_W} {h : Nat} (hh : es_sh h = (18, 0)) (x0 : Int32) : ee_run ee_B P (d + 1) 248 [.ref h, .int x0] w = ee_fin (Option.some Jvm.ClassFile.FieldType.boolean) (ee_evS es_sh es_rf (ee_run ee_B P d) bd_248 0 [some (.ref h), some (.int x0)] w) := rn_gen (n := 2) mb_248 mf_248.1 mf_248.2.1 (ee_argok_i mf_248.2.2.1 mf_248.2.2.2.1 rfl hh mf_248.2.2.2.2) (Nat.le_of_ble_eq_true rfl)
theorem mb_186 : ee_B 186 = some bd_186 := rfl
set_option maxRecDepth 100000 in
theorem mf_186 : (es_m 186).2.1 = 3 ∧ (es_m 186).2.2.1 = (Option.some Jvm.ClassFile.FieldType.boolean) ∧ (es_m 186).2.2.2.1 = false ∧ ee_sig 186 = some 2 ∧ es_own 8 = (es_m 186).1.cls := by decide +kernel
/-- HeadServoModel.wobble -/
theorem rn_186 {P : Nat → Nat → List Value → ee_W → Option (List Value × ee_W)} {d : Nat} {w : ee_W} {h : Nat} (hh : es_sh h = (18, 0)) (x0 : Int32) (x1 : Int32) : ee_run ee_B P (d + 1) 186 [.ref h, .int x0, .int x1] w = ee_fin (Option.some Jvm.ClassFile.FieldType.boolean) (ee_evS es_sh es_rf (ee_run ee_B P d) bd_186 0 [some (.ref h), some (.int x0), some (.int x1)] w) := rn_gen (n := 3) mb_186 mf_186.1 mf_186.2.1 (ee_argok_i mf_186.2.2.1 mf_186.2.2.2.1 rfl hh mf_186.2.2.2.2) (Nat.le_of_ble_eq_true rfl)
theorem mb_189 : ee_B 189 = some bd_189 := rfl
set_option maxRecDepth 100000 in
theorem mf_189 : (es_m 189).2.1 = 2 ∧ (es_m 189).2.2.1 = (Option.some Jvm.ClassFile.FieldType.boolean) ∧ (es_m 189).2.2.2.1 = false ∧ ee_sig 189 = some 1 ∧ es_own 8 = (es_m 189).1.cls := by decide +kernel
/-- HeadServoModel.lose -/
theorem rn_189 {P : Nat → Nat → List Value → ee_W → Option (List Value × ee_W)} {d : Nat} {w : ee_W} {h : Nat} (hh : es_sh h = (18, 0)) (x0 : Int32) : ee_run ee_B P (d + 1) 189 [.ref h, .int x0] w = ee_fin (Option.some Jvm.ClassFile.FieldType.boolean) (ee_evS es_sh es_rf (ee_run ee_B P d) bd_189 0 [some (.ref h), some (.int x0)] w) := rn_gen (n := 2) mb_189 mf_189.1 mf_189.2.1 (ee_argok_i mf_189.2.2.1 mf_189.2.2.2.1 rfl hh mf_189.2.2.2.2) (Nat.le_of_ble_eq_true rfl)
theorem mb_259 : ee_B 259 = some bd_259 := rfl
set_option maxRecDepth 100000 in
theorem mf_259 : (es_m 259).2.1 = 4 ∧ (es_m 259).2.2.1 = (Option.some Jvm.ClassFile.FieldType.int) ∧ (es_m 259).2.2.2.1 = true ∧ ee_sig 259 = some 2 := by decide +kernel
/-- HeadServoModel.wayOf -/
theorem rn_259 {P : Nat → Nat → List Value → ee_W → Option (List Value × ee_W)} {d : Nat} {w : ee_W} (x0 : Int32) (x1 : Int32) : ee_run ee_B P (d + 1) 259 [.int x0, .int x1] w = ee_fin (Option.some Jvm.ClassFile.FieldType.int) (ee_evS es_sh es_rf (ee_run ee_B P d) bd_259 0 [some (.int x0), some (.int x1), none, none] w) := rn_gen (n := 4) mb_259 mf_259.1 mf_259.2.1 (ee_argok_s mf_259.2.2.1 mf_259.2.2.2 rfl) (Nat.le_of_ble_eq_true rfl)
theorem mb_258 : ee_B 258 = some bd_258 := rfl
set_option maxRecDepth 100000 in
theorem mf_258 : (es_m 258).2.1 = 3 ∧ (es_m 258).2.2.1 = (Option.some Jvm.ClassFile.FieldType.int) ∧ (es_m 258).2.2.2.1 = true ∧ ee_sig 258 = some 2 := by decide +kernel
/-- HeadServoModel.curveOf -/
theorem rn_258 {P : Nat → Nat → List Value → ee_W → Option (List Value × ee_W)} {d : Nat} {w : ee_W} (x0 : Int32) (x1 : Int32) : ee_run ee_B P (d + 1) 258 [.int x0, .int x1] w = ee_fin (Option.some Jvm.ClassFile.FieldType.int) (ee_evS es_sh es_rf (ee_run ee_B P d) bd_258 0 [some (.int x0), some (.int x1), none] w) := rn_gen (n := 3) mb_258 mf_258.1 mf_258.2.1 (ee_argok_s mf_258.2.2.1 mf_258.2.2.2 rfl) (Nat.le_of_ble_eq_true rfl)
theorem mb_257 : ee_B 257 = some bd_257 := rfl
set_option maxRecDepth 100000 in
theorem mf_257 : (es_m 257).2.1 = 2 ∧ (es_m 257).2.2.1 = (Option.some Jvm.ClassFile.FieldType.int) ∧ (es_m 257).2.2.2.1 = true ∧ ee_sig 257 = some 1 := by decide +kernel
/-- HeadServoModel.curveBoth -/
theorem rn_257 {P : Nat → Nat → List Value → ee_W → Option (List Value × ee_W)} {d : Nat} {w : ee_W} (x0 : Int64) : ee_run ee_B P (d + 1) 257 [.long x0] w = ee_fin (Option.some Jvm.ClassFile.FieldType.int) (ee_evS es_sh es_rf (ee_run ee_B P d) bd_257 0 [some (.long x0), none] w) := rn_gen (n := 2) mb_257 mf_257.1 mf_257.2.1 (ee_argok_s mf_257.2.2.1 mf_257.2.2.2 rfl) (Nat.le_of_ble_eq_true rfl)
theorem mb_191 : ee_B 191 = some bd_191 := rfl
set_option maxRecDepth 100000 in
theorem mf_191 : (es_m 191).2.1 = 3 ∧ (es_m 191).2.2.1 = (Option.none : Option Jvm.ClassFile.FieldType) ∧ (es_m 191).2.2.2.1 = false ∧ ee_sig 191 = some 1 ∧ es_own 8 = (es_m 191).1.cls := by decide +kernel
/-- HeadServoModel.four -/
theorem rn_191 {P : Nat → Nat → List Value → ee_W → Option (List Value × ee_W)} {d : Nat} {w : ee_W} {h : Nat} (hh : es_sh h = (18, 0)) (x0 : Int32) : ee_run ee_B P (d + 1) 191 [.ref h, .int x0] w = ee_fin (Option.none : Option Jvm.ClassFile.FieldType) (ee_evS es_sh es_rf (ee_run ee_B P d) bd_191 0 [some (.ref h), some (.int x0), none] w) := rn_gen (n := 3) mb_191 mf_191.1 mf_191.2.1 (ee_argok_i mf_191.2.2.1 mf_191.2.2.2.1 rfl hh mf_191.2.2.2.2) (Nat.le_of_ble_eq_true rfl)
theorem mb_190 : ee_B 190 = some bd_190 := rfl
set_option maxRecDepth 100000 in
theorem mf_190 : (es_m 190).2.1 = 6 ∧ (es_m 190).2.2.1 = (Option.some Jvm.ClassFile.FieldType.int) ∧ (es_m 190).2.2.2.1 = false ∧ ee_sig 190 = some 5 ∧ es_own 8 = (es_m 190).1.cls := by decide +kernel
/-- HeadServoModel.feed -/
theorem rn_190 {P : Nat → Nat → List Value → ee_W → Option (List Value × ee_W)} {d : Nat} {w : ee_W} {h : Nat} (hh : es_sh h = (18, 0)) (x0 : Int32) (x1 : Int32) (x2 : Int32) (x3 : Int32) (x4 : Int32) : ee_run ee_B P (d + 1) 190 [.ref h, .int x0, .int x1, .int x2, .int x3, .int x4] w = ee_fin (Option.some Jvm.ClassFile.FieldType.int) (ee_evS es_sh es_rf (ee_run ee_B P d) bd_190 0 [some (.ref h), some (.int x0), some (.int x1), some (.int x2), some (.int x3), some (.int x4)] w) := rn_gen (n := 6) mb_190 mf_190.1 mf_190.2.1 (ee_argok_i mf_190.2.2.1 mf_190.2.2.2.1 rfl hh mf_190.2.2.2.2) (Nat.le_of_ble_eq_true rfl)
theorem mb_192 : ee_B 192 = some bd_192 := rfl
set_option maxRecDepth 100000 in
theorem mf_192 : (es_m 192).2.1 = 2 ∧ (es_m 192).2.2.1 = (Option.some Jvm.ClassFile.FieldType.int) ∧ (es_m 192).2.2.2.1 = false ∧ ee_sig 192 = some 1 ∧ es_own 8 = (es_m 192).1.cls := by decide +kernel
/-- HeadServoModel.end -/
theorem rn_192 {P : Nat → Nat → List Value → ee_W → Option (List Value × ee_W)} {d : Nat} {w : ee_W} {h : Nat} (hh : es_sh h = (18, 0)) (x0 : Int32) : ee_run ee_B P (d + 1) 192 [.ref h, .int x0] w = ee_fin (Option.some Jvm.ClassFile.FieldType.int) (ee_evS es_sh es_rf (ee_run ee_B P d) bd_192 0 [some (.ref h), some (.int x0)] w) := rn_gen (n := 2) mb_192 mf_192.1 mf_192.2.1 (ee_argok_i mf_192.2.2.1 mf_192.2.2.2.1 rfl hh mf_192.2.2.2.2) (Nat.le_of_ble_eq_true rfl)
theorem mb_196 : ee_B 196 = some bd_196 := rfl
set_option maxRecDepth 100000 in
theorem mf_196 : (es_m 196).2.1 = 2 ∧ (es_m 196).2.2.1 = (Option.some Jvm.ClassFile.FieldType.int) ∧ (es_m 196).2.2.2.1 = false ∧ ee_sig 196 = some 1 ∧ es_own 8 = (es_m 196).1.cls := by decide +kernel
/-- HeadServoModel.byteAt -/
theorem rn_196 {P : Nat → Nat → List Value → ee_W → Option (List Value × ee_W)} {d : Nat} {w : ee_W} {h : Nat} (hh : es_sh h = (18, 0)) (x0 : Int32) : ee_run ee_B P (d + 1) 196 [.ref h, .int x0] w = ee_fin (Option.some Jvm.ClassFile.FieldType.int) (ee_evS es_sh es_rf (ee_run ee_B P d) bd_196 0 [some (.ref h), some (.int x0)] w) := rn_gen (n := 2) mb_196 mf_196.1 mf_196.2.1 (ee_argok_i mf_196.2.2.1 mf_196.2.2.2.1 rfl hh mf_196.2.2.2.2) (Nat.le_of_ble_eq_true rfl)
theorem mb_198 : ee_B 198 = some bd_198 := rfl
set_option maxRecDepth 100000 in
theorem mf_198 : (es_m 198).2.1 = 1 ∧ (es_m 198).2.2.1 = (Option.some Jvm.ClassFile.FieldType.boolean) ∧ (es_m 198).2.2.2.1 = true ∧ ee_sig 198 = some 1 := by decide +kernel
/-- HeadServoModel.isLetterByte -/
theorem rn_198 {P : Nat → Nat → List Value → ee_W → Option (List Value × ee_W)} {d : Nat} {w : ee_W} (x0 : Int32) : ee_run ee_B P (d + 1) 198 [.int x0] w = ee_fin (Option.some Jvm.ClassFile.FieldType.boolean) (ee_evS es_sh es_rf (ee_run ee_B P d) bd_198 0 [some (.int x0)] w) := rn_gen (n := 1) mb_198 mf_198.1 mf_198.2.1 (ee_argok_s mf_198.2.2.1 mf_198.2.2.2 rfl) (Nat.le_of_ble_eq_true rfl)
theorem mb_197 : ee_B 197 = some bd_197 := rfl
set_option maxRecDepth 100000 in
theorem mf_197 : (es_m 197).2.1 = 1 ∧ (es_m 197).2.2.1 = (Option.some Jvm.ClassFile.FieldType.boolean) ∧ (es_m 197).2.2.2.1 = true ∧ ee_sig 197 = some 1 := by decide +kernel
/-- HeadServoModel.isFigure -/
theorem rn_197 {P : Nat → Nat → List Value → ee_W → Option (List Value × ee_W)} {d : Nat} {w : ee_W} (x0 : Int32) : ee_run ee_B P (d + 1) 197 [.int x0] w = ee_fin (Option.some Jvm.ClassFile.FieldType.boolean) (ee_evS es_sh es_rf (ee_run ee_B P d) bd_197 0 [some (.int x0)] w) := rn_gen (n := 1) mb_197 mf_197.1 mf_197.2.1 (ee_argok_s mf_197.2.2.1 mf_197.2.2.2 rfl) (Nat.le_of_ble_eq_true rfl)
theorem mb_199 : ee_B 199 = some bd_199 := rfl
set_option maxRecDepth 100000 in
theorem mf_199 : (es_m 199).2.1 = 1 ∧ (es_m 199).2.2.1 = (Option.some Jvm.ClassFile.FieldType.boolean) ∧ (es_m 199).2.2.2.1 = true ∧ ee_sig 199 = some 1 := by decide +kernel
/-- HeadServoModel.isSign -/
theorem rn_199 {P : Nat → Nat → List Value → ee_W → Option (List Value × ee_W)} {d : Nat} {w : ee_W} (x0 : Int32) : ee_run ee_B P (d + 1) 199 [.int x0] w = ee_fin (Option.some Jvm.ClassFile.FieldType.boolean) (ee_evS es_sh es_rf (ee_run ee_B P d) bd_199 0 [some (.int x0)] w) := rn_gen (n := 1) mb_199 mf_199.1 mf_199.2.1 (ee_argok_s mf_199.2.2.1 mf_199.2.2.2 rfl) (Nat.le_of_ble_eq_true rfl)
theorem mb_195 : ee_B 195 = some bd_195 := rfl
set_option maxRecDepth 100000 in
theorem mf_195 : (es_m 195).2.1 = 2 ∧ (es_m 195).2.2.1 = (Option.none : Option Jvm.ClassFile.FieldType) ∧ (es_m 195).2.2.2.1 = false ∧ ee_sig 195 = some 0 ∧ es_own 8 = (es_m 195).1.cls := by decide +kernel
/-- HeadServoModel.nextToken -/
theorem rn_195 {P : Nat → Nat → List Value → ee_W → Option (List Value × ee_W)} {d : Nat} {w : ee_W} {h : Nat} (hh : es_sh h = (18, 0)) : ee_run ee_B P (d + 1) 195 [.ref h] w = ee_fin (Option.none : Option Jvm.ClassFile.FieldType) (ee_evS es_sh es_rf (ee_run ee_B P d) bd_195 0 [some (.ref h), none] w) := rn_gen (n := 2) mb_195 mf_195.1 mf_195.2.1 (ee_argok_i mf_195.2.2.1 mf_195.2.2.2.1 rfl hh mf_195.2.2.2.2) (Nat.le_of_ble_eq_true rfl)
theorem mb_205 : ee_B 205 = some bd_205 := rfl
set_option maxRecDepth 100000 in
theorem mf_205 : (es_m 205).2.1 = 2 ∧ (es_m 205).2.2.1 = (Option.some Jvm.ClassFile.FieldType.long) ∧ (es_m 205).2.2.2.1 = true ∧ ee_sig 205 = some 2 := by decide +kernel
/-- HeadServoModel.w2 -/
theorem rn_205 {P : Nat → Nat → List Value → ee_W → Option (List Value × ee_W)} {d : Nat} {w : ee_W} (x0 : Int32) (x1 : Int32) : ee_run ee_B P (d + 1) 205 [.int x0, .int x1] w = ee_fin (Option.some Jvm.ClassFile.FieldType.long) (ee_evS es_sh es_rf (ee_run ee_B P d) bd_205 0 [some (.int x0), some (.int x1)] w) := rn_gen (n := 2) mb_205 mf_205.1 mf_205.2.1 (ee_argok_s mf_205.2.2.1 mf_205.2.2.2 rfl) (Nat.le_of_ble_eq_true rfl)
theorem mb_204 : ee_B 204 = some bd_204 := rfl
set_option maxRecDepth 100000 in
theorem mf_204 : (es_m 204).2.1 = 3 ∧ (es_m 204).2.2.1 = (Option.some Jvm.ClassFile.FieldType.long) ∧ (es_m 204).2.2.2.1 = true ∧ ee_sig 204 = some 3 := by decide +kernel
/-- HeadServoModel.w3 -/
theorem rn_204 {P : Nat → Nat → List Value → ee_W → Option (List Value × ee_W)} {d : Nat} {w : ee_W} (x0 : Int32) (x1 : Int32) (x2 : Int32) : ee_run ee_B P (d + 1) 204 [.int x0, .int x1, .int x2] w = ee_fin (Option.some Jvm.ClassFile.FieldType.long) (ee_evS es_sh es_rf (ee_run ee_B P d) bd_204 0 [some (.int x0), some (.int x1), some (.int x2)] w) := rn_gen (n := 3) mb_204 mf_204.1 mf_204.2.1 (ee_argok_s mf_204.2.2.1 mf_204.2.2.2 rfl) (Nat.le_of_ble_eq_true rfl)
theorem mb_203 : ee_B 203 = some bd_203 := rfl
set_option maxRecDepth 100000 in
theorem mf_203 : (es_m 203).2.1 = 4 ∧ (es_m 203).2.2.1 = (Option.some Jvm.ClassFile.FieldType.long) ∧ (es_m 203).2.2.2.1 = true ∧ ee_sig 203 = some 4 := by decide +kernel
/-- HeadServoModel.w4 -/
theorem rn_203 {P : Nat → Nat → List Value → ee_W → Option (List Value × ee_W)} {d : Nat} {w : ee_W} (x0 : Int32) (x1 : Int32) (x2 : Int32) (x3 : Int32) : ee_run ee_B P (d + 1) 203 [.int x0, .int x1, .int x2, .int x3] w = ee_fin (Option.some Jvm.ClassFile.FieldType.long) (ee_evS es_sh es_rf (ee_run ee_B P d) bd_203 0 [some (.int x0), some (.int x1), some (.int x2), some (.int x3)] w) := rn_gen (n := 4) mb_203 mf_203.1 mf_203.2.1 (ee_argok_s mf_203.2.2.1 mf_203.2.2.2 rfl) (Nat.le_of_ble_eq_true rfl)
theorem mb_202 : ee_B 202 = some bd_202 := rfl
set_option maxRecDepth 100000 in
theorem mf_202 : (es_m 202).2.1 = 5 ∧ (es_m 202).2.2.1 = (Option.some Jvm.ClassFile.FieldType.long) ∧ (es_m 202).2.2.2.1 = true ∧ ee_sig 202 = some 5 := by decide +kernel
/-- HeadServoModel.w5 -/
theorem rn_202 {P : Nat → Nat → List Value → ee_W → Option (List Value × ee_W)} {d : Nat} {w : ee_W} (x0 : Int32) (x1 : Int32) (x2 : Int32) (x3 : Int32) (x4 : Int32) : ee_run ee_B P (d + 1) 202 [.int x0, .int x1, .int x2, .int x3, .int x4] w = ee_fin (Option.some Jvm.ClassFile.FieldType.long) (ee_evS es_sh es_rf (ee_run ee_B P d) bd_202 0 [some (.int x0), some (.int x1), some (.int x2), some (.int x3), some (.int x4)] w) := rn_gen (n := 5) mb_202 mf_202.1 mf_202.2.1 (ee_argok_s mf_202.2.2.1 mf_202.2.2.2 rfl) (Nat.le_of_ble_eq_true rfl)
theorem mb_207 : ee_B 207 = some bd_207 := rfl
set_option maxRecDepth 100000 in
theorem mf_207 : (es_m 207).2.1 = 6 ∧ (es_m 207).2.2.1 = (Option.some Jvm.ClassFile.FieldType.long) ∧ (es_m 207).2.2.2.1 = true ∧ ee_sig 207 = some 6 := by decide +kernel
/-- HeadServoModel.w6 -/
theorem rn_207 {P : Nat → Nat → List Value → ee_W → Option (List Value × ee_W)} {d : Nat} {w : ee_W} (x0 : Int32) (x1 : Int32) (x2 : Int32) (x3 : Int32) (x4 : Int32) (x5 : Int32) : ee_run ee_B P (d + 1) 207 [.int x0, .int x1, .int x2, .int x3, .int x4, .int x5] w = ee_fin (Option.some Jvm.ClassFile.FieldType.long) (ee_evS es_sh es_rf (ee_run ee_B P d) bd_207 0 [some (.int x0), some (.int x1), some (.int x2), some (.int x3), some (.int x4), some (.int x5)] w) := rn_gen (n := 6) mb_207 mf_207.1 mf_207.2.1 (ee_argok_s mf_207.2.2.1 mf_207.2.2.2 rfl) (Nat.le_of_ble_eq_true rfl)
theorem mb_206 : ee_B 206 = some bd_206 := rfl
set_option maxRecDepth 100000 in
theorem mf_206 : (es_m 206).2.1 = 3 ∧ (es_m 206).2.2.1 = (Option.some Jvm.ClassFile.FieldType.boolean) ∧ (es_m 206).2.2.2.1 = false ∧ ee_sig 206 = some 1 ∧ es_own 8 = (es_m 206).1.cls := by decide +kernel
/-- HeadServoModel.isWord -/
theorem rn_206 {P : Nat → Nat → List Value → ee_W → Option (List Value × ee_W)} {d : Nat} {w : ee_W} {h : Nat} (hh : es_sh h = (18, 0)) (x0 : Int64) : ee_run ee_B P (d + 1) 206 [.ref h, .long x0] w = ee_fin (Option.some Jvm.ClassFile.FieldType.boolean) (ee_evS es_sh es_rf (ee_run ee_B P d) bd_206 0 [some (.ref h), some (.long x0), none] w) := rn_gen (n := 3) mb_206 mf_206.1 mf_206.2.1 (ee_argok_i mf_206.2.2.1 mf_206.2.2.2.1 rfl hh mf_206.2.2.2.2) (Nat.le_of_ble_eq_true rfl)
theorem mb_222 : ee_B 222 = some bd_222 := rfl
set_option maxRecDepth 100000 in
theorem mf_222 : (es_m 222).2.1 = 3 ∧ (es_m 222).2.2.1 = (Option.none : Option Jvm.ClassFile.FieldType) ∧ (es_m 222).2.2.2.1 = false ∧ ee_sig 222 = some 2 ∧ es_own 8 = (es_m 222).1.cls := by decide +kernel
/-- HeadServoModel.emit -/
theorem rn_222 {P : Nat → Nat → List Value → ee_W → Option (List Value × ee_W)} {d : Nat} {w : ee_W} {h : Nat} (hh : es_sh h = (18, 0)) (x0 : Int32) (x1 : Int32) : ee_run ee_B P (d + 1) 222 [.ref h, .int x0, .int x1] w = ee_fin (Option.none : Option Jvm.ClassFile.FieldType) (ee_evS es_sh es_rf (ee_run ee_B P d) bd_222 0 [some (.ref h), some (.int x0), some (.int x1)] w) := rn_gen (n := 3) mb_222 mf_222.1 mf_222.2.1 (ee_argok_i mf_222.2.2.1 mf_222.2.2.2.1 rfl hh mf_222.2.2.2.2) (Nat.le_of_ble_eq_true rfl)
theorem mb_226 : ee_B 226 = some bd_226 := rfl
set_option maxRecDepth 100000 in
theorem mf_226 : (es_m 226).2.1 = 1 ∧ (es_m 226).2.2.1 = (Option.some Jvm.ClassFile.FieldType.boolean) ∧ (es_m 226).2.2.2.1 = false ∧ ee_sig 226 = some 0 ∧ es_own 8 = (es_m 226).1.cls := by decide +kernel
/-- HeadServoModel.isSettledWord -/
theorem rn_226 {P : Nat → Nat → List Value → ee_W → Option (List Value × ee_W)} {d : Nat} {w : ee_W} {h : Nat} (hh : es_sh h = (18, 0)) : ee_run ee_B P (d + 1) 226 [.ref h] w = ee_fin (Option.some Jvm.ClassFile.FieldType.boolean) (ee_evS es_sh es_rf (ee_run ee_B P d) bd_226 0 [some (.ref h)] w) := rn_gen (n := 1) mb_226 mf_226.1 mf_226.2.1 (ee_argok_i mf_226.2.2.1 mf_226.2.2.2.1 rfl hh mf_226.2.2.2.2) (Nat.le_of_ble_eq_true rfl)
theorem mb_225 : ee_B 225 = some bd_225 := rfl
set_option maxRecDepth 100000 in
theorem mf_225 : (es_m 225).2.1 = 1 ∧ (es_m 225).2.2.1 = (Option.some Jvm.ClassFile.FieldType.int) ∧ (es_m 225).2.2.2.1 = false ∧ ee_sig 225 = some 0 ∧ es_own 8 = (es_m 225).1.cls := by decide +kernel
/-- HeadServoModel.nameOf -/
theorem rn_225 {P : Nat → Nat → List Value → ee_W → Option (List Value × ee_W)} {d : Nat} {w : ee_W} {h : Nat} (hh : es_sh h = (18, 0)) : ee_run ee_B P (d + 1) 225 [.ref h] w = ee_fin (Option.some Jvm.ClassFile.FieldType.int) (ee_evS es_sh es_rf (ee_run ee_B P d) bd_225 0 [some (.ref h)] w) := rn_gen (n := 1) mb_225 mf_225.1 mf_225.2.1 (ee_argok_i mf_225.2.2.1 mf_225.2.2.2.1 rfl hh mf_225.2.2.2.2) (Nat.le_of_ble_eq_true rfl)
theorem mb_227 : ee_B 227 = some bd_227 := rfl
set_option maxRecDepth 100000 in
theorem mf_227 : (es_m 227).2.1 = 2 ∧ (es_m 227).2.2.1 = (Option.some Jvm.ClassFile.FieldType.boolean) ∧ (es_m 227).2.2.2.1 = false ∧ ee_sig 227 = some 1 ∧ es_own 8 = (es_m 227).1.cls := by decide +kernel
/-- HeadServoModel.isOf -/
theorem rn_227 {P : Nat → Nat → List Value → ee_W → Option (List Value × ee_W)} {d : Nat} {w : ee_W} {h : Nat} (hh : es_sh h = (18, 0)) (x0 : Int32) : ee_run ee_B P (d + 1) 227 [.ref h, .int x0] w = ee_fin (Option.some Jvm.ClassFile.FieldType.boolean) (ee_evS es_sh es_rf (ee_run ee_B P d) bd_227 0 [some (.ref h), some (.int x0)] w) := rn_gen (n := 2) mb_227 mf_227.1 mf_227.2.1 (ee_argok_i mf_227.2.2.1 mf_227.2.2.2.1 rfl hh mf_227.2.2.2.2) (Nat.le_of_ble_eq_true rfl)
theorem mb_219 : ee_B 219 = some bd_219 := rfl
set_option maxRecDepth 100000 in
theorem mf_219 : (es_m 219).2.1 = 1 ∧ (es_m 219).2.2.1 = (Option.some Jvm.ClassFile.FieldType.int) ∧ (es_m 219).2.2.2.1 = true ∧ ee_sig 219 = some 1 := by decide +kernel
/-- HeadServoModel.rank -/
theorem rn_219 {P : Nat → Nat → List Value → ee_W → Option (List Value × ee_W)} {d : Nat} {w : ee_W} (x0 : Int32) : ee_run ee_B P (d + 1) 219 [.int x0] w = ee_fin (Option.some Jvm.ClassFile.FieldType.int) (ee_evS es_sh es_rf (ee_run ee_B P d) bd_219 0 [some (.int x0)] w) := rn_gen (n := 1) mb_219 mf_219.1 mf_219.2.1 (ee_argok_s mf_219.2.2.1 mf_219.2.2.2 rfl) (Nat.le_of_ble_eq_true rfl)
theorem mb_221 : ee_B 221 = some bd_221 := rfl
set_option maxRecDepth 100000 in
theorem mf_221 : (es_m 221).2.1 = 2 ∧ (es_m 221).2.2.1 = (Option.none : Option Jvm.ClassFile.FieldType) ∧ (es_m 221).2.2.2.1 = false ∧ ee_sig 221 = some 1 ∧ es_own 8 = (es_m 221).1.cls := by decide +kernel
/-- HeadServoModel.settle -/
theorem rn_221 {P : Nat → Nat → List Value → ee_W → Option (List Value × ee_W)} {d : Nat} {w : ee_W} {h : Nat} (hh : es_sh h = (18, 0)) (x0 : Int32) : ee_run ee_B P (d + 1) 221 [.ref h, .int x0] w = ee_fin (Option.none : Option Jvm.ClassFile.FieldType) (ee_evS es_sh es_rf (ee_run ee_B P d) bd_221 0 [some (.ref h), some (.int x0)] w) := rn_gen (n := 2) mb_221 mf_221.1 mf_221.2.1 (ee_argok_i mf_221.2.2.1 mf_221.2.2.2.1 rfl hh mf_221.2.2.2.2) (Nat.le_of_ble_eq_true rfl)
theorem mb_217 : ee_B 217 = some bd_217 := rfl
set_option maxRecDepth 100000 in
theorem mf_217 : (es_m 217).2.1 = 2 ∧ (es_m 217).2.2.1 = (Option.some Jvm.ClassFile.FieldType.int) ∧ (es_m 217).2.2.2.1 = false ∧ ee_sig 217 = some 0 ∧ es_own 8 = (es_m 217).1.cls := by decide +kernel
/-- HeadServoModel.openAt -/
theorem rn_217 {P : Nat → Nat → List Value → ee_W → Option (List Value × ee_W)} {d : Nat} {w : ee_W} {h : Nat} (hh : es_sh h = (18, 0)) : ee_run ee_B P (d + 1) 217 [.ref h] w = ee_fin (Option.some Jvm.ClassFile.FieldType.int) (ee_evS es_sh es_rf (ee_run ee_B P d) bd_217 0 [some (.ref h), none] w) := rn_gen (n := 2) mb_217 mf_217.1 mf_217.2.1 (ee_argok_i mf_217.2.2.1 mf_217.2.2.2.1 rfl hh mf_217.2.2.2.2) (Nat.le_of_ble_eq_true rfl)
theorem mb_216 : ee_B 216 = some bd_216 := rfl
set_option maxRecDepth 100000 in
theorem mf_216 : (es_m 216).2.1 = 1 ∧ (es_m 216).2.2.1 = (Option.some Jvm.ClassFile.FieldType.int) ∧ (es_m 216).2.2.2.1 = false ∧ ee_sig 216 = some 0 ∧ es_own 8 = (es_m 216).1.cls := by decide +kernel
/-- HeadServoModel.openNow -/
theorem rn_216 {P : Nat → Nat → List Value → ee_W → Option (List Value × ee_W)} {d : Nat} {w : ee_W} {h : Nat} (hh : es_sh h = (18, 0)) : ee_run ee_B P (d + 1) 216 [.ref h] w = ee_fin (Option.some Jvm.ClassFile.FieldType.int) (ee_evS es_sh es_rf (ee_run ee_B P d) bd_216 0 [some (.ref h)] w) := rn_gen (n := 1) mb_216 mf_216.1 mf_216.2.1 (ee_argok_i mf_216.2.2.1 mf_216.2.2.2.1 rfl hh mf_216.2.2.2.2) (Nat.le_of_ble_eq_true rfl)
theorem mb_218 : ee_B 218 = some bd_218 := rfl
set_option maxRecDepth 100000 in
theorem mf_218 : (es_m 218).2.1 = 2 ∧ (es_m 218).2.2.1 = (Option.some Jvm.ClassFile.FieldType.boolean) ∧ (es_m 218).2.2.2.1 = false ∧ ee_sig 218 = some 0 ∧ es_own 8 = (es_m 218).1.cls := by decide +kernel
/-- HeadServoModel.isCompared -/
theorem rn_218 {P : Nat → Nat → List Value → ee_W → Option (List Value × ee_W)} {d : Nat} {w : ee_W} {h : Nat} (hh : es_sh h = (18, 0)) : ee_run ee_B P (d + 1) 218 [.ref h] w = ee_fin (Option.some Jvm.ClassFile.FieldType.boolean) (ee_evS es_sh es_rf (ee_run ee_B P d) bd_218 0 [some (.ref h), none] w) := rn_gen (n := 2) mb_218 mf_218.1 mf_218.2.1 (ee_argok_i mf_218.2.2.1 mf_218.2.2.2.1 rfl hh mf_218.2.2.2.2) (Nat.le_of_ble_eq_true rfl)
theorem mb_229 : ee_B 229 = some bd_229 := rfl
set_option maxRecDepth 100000 in
theorem mf_229 : (es_m 229).2.1 = 1 ∧ (es_m 229).2.2.1 = (Option.some Jvm.ClassFile.FieldType.boolean) ∧ (es_m 229).2.2.2.1 = false ∧ ee_sig 229 = some 0 ∧ es_own 8 = (es_m 229).1.cls := by decide +kernel
/-- HeadServoModel.isAskAhead -/
theorem rn_229 {P : Nat → Nat → List Value → ee_W → Option (List Value × ee_W)} {d : Nat} {w : ee_W} {h : Nat} (hh : es_sh h = (18, 0)) : ee_run ee_B P (d + 1) 229 [.ref h] w = ee_fin (Option.some Jvm.ClassFile.FieldType.boolean) (ee_evS es_sh es_rf (ee_run ee_B P d) bd_229 0 [some (.ref h)] w) := rn_gen (n := 1) mb_229 mf_229.1 mf_229.2.1 (ee_argok_i mf_229.2.2.1 mf_229.2.2.2.1 rfl hh mf_229.2.2.2.2) (Nat.le_of_ble_eq_true rfl)
theorem mb_228 : ee_B 228 = some bd_228 := rfl
set_option maxRecDepth 100000 in
theorem mf_228 : (es_m 228).2.1 = 2 ∧ (es_m 228).2.2.1 = (Option.some Jvm.ClassFile.FieldType.int) ∧ (es_m 228).2.2.2.1 = false ∧ ee_sig 228 = some 1 ∧ es_own 8 = (es_m 228).1.cls := by decide +kernel
/-- HeadServoModel.opened -/
theorem rn_228 {P : Nat → Nat → List Value → ee_W → Option (List Value × ee_W)} {d : Nat} {w : ee_W} {h : Nat} (hh : es_sh h = (18, 0)) (x0 : Int32) : ee_run ee_B P (d + 1) 228 [.ref h, .int x0] w = ee_fin (Option.some Jvm.ClassFile.FieldType.int) (ee_evS es_sh es_rf (ee_run ee_B P d) bd_228 0 [some (.ref h), some (.int x0)] w) := rn_gen (n := 2) mb_228 mf_228.1 mf_228.2.1 (ee_argok_i mf_228.2.2.1 mf_228.2.2.2.1 rfl hh mf_228.2.2.2.2) (Nat.le_of_ble_eq_true rfl)
theorem mb_224 : ee_B 224 = some bd_224 := rfl
set_option maxRecDepth 100000 in
theorem mf_224 : (es_m 224).2.1 = 2 ∧ (es_m 224).2.2.1 = (Option.some Jvm.ClassFile.FieldType.int) ∧ (es_m 224).2.2.2.1 = false ∧ ee_sig 224 = some 0 ∧ es_own 8 = (es_m 224).1.cls := by decide +kernel
/-- HeadServoModel.beginOne -/
theorem rn_224 {P : Nat → Nat → List Value → ee_W → Option (List Value × ee_W)} {d : Nat} {w : ee_W} {h : Nat} (hh : es_sh h = (18, 0)) : ee_run ee_B P (d + 1) 224 [.ref h] w = ee_fin (Option.some Jvm.ClassFile.FieldType.int) (ee_evS es_sh es_rf (ee_run ee_B P d) bd_224 0 [some (.ref h), none] w) := rn_gen (n := 2) mb_224 mf_224.1 mf_224.2.1 (ee_argok_i mf_224.2.2.1 mf_224.2.2.2.1 rfl hh mf_224.2.2.2.2) (Nat.le_of_ble_eq_true rfl)
theorem mb_220 : ee_B 220 = some bd_220 := rfl
set_option maxRecDepth 100000 in
theorem mf_220 : (es_m 220).2.1 = 1 ∧ (es_m 220).2.2.1 = (Option.some Jvm.ClassFile.FieldType.int) ∧ (es_m 220).2.2.2.1 = false ∧ ee_sig 220 = some 0 ∧ es_own 8 = (es_m 220).1.cls := by decide +kernel
/-- HeadServoModel.compareOf -/
theorem rn_220 {P : Nat → Nat → List Value → ee_W → Option (List Value × ee_W)} {d : Nat} {w : ee_W} {h : Nat} (hh : es_sh h = (18, 0)) : ee_run ee_B P (d + 1) 220 [.ref h] w = ee_fin (Option.some Jvm.ClassFile.FieldType.int) (ee_evS es_sh es_rf (ee_run ee_B P d) bd_220 0 [some (.ref h)] w) := rn_gen (n := 1) mb_220 mf_220.1 mf_220.2.1 (ee_argok_i mf_220.2.2.1 mf_220.2.2.2.1 rfl hh mf_220.2.2.2.2) (Nat.le_of_ble_eq_true rfl)
theorem mb_215 : ee_B 215 = some bd_215 := rfl
set_option maxRecDepth 100000 in
theorem mf_215 : (es_m 215).2.1 = 1 ∧ (es_m 215).2.2.1 = (Option.some Jvm.ClassFile.FieldType.int) ∧ (es_m 215).2.2.2.1 = false ∧ ee_sig 215 = some 0 ∧ es_own 8 = (es_m 215).1.cls := by decide +kernel
/-- HeadServoModel.betweenOf -/
theorem rn_215 {P : Nat → Nat → List Value → ee_W → Option (List Value × ee_W)} {d : Nat} {w : ee_W} {h : Nat} (hh : es_sh h = (18, 0)) : ee_run ee_B P (d + 1) 215 [.ref h] w = ee_fin (Option.some Jvm.ClassFile.FieldType.int) (ee_evS es_sh es_rf (ee_run ee_B P d) bd_215 0 [some (.ref h)] w) := rn_gen (n := 1) mb_215 mf_215.1 mf_215.2.1 (ee_argok_i mf_215.2.2.1 mf_215.2.2.2.1 rfl hh mf_215.2.2.2.2) (Nat.le_of_ble_eq_true rfl)
theorem mb_223 : ee_B 223 = some bd_223 := rfl
set_option maxRecDepth 100000 in
theorem mf_223 : (es_m 223).2.1 = 2 ∧ (es_m 223).2.2.1 = (Option.some Jvm.ClassFile.FieldType.int) ∧ (es_m 223).2.2.2.1 = false ∧ ee_sig 223 = some 1 ∧ es_own 8 = (es_m 223).1.cls := by decide +kernel
/-- HeadServoModel.partOf -/
theorem rn_223 {P : Nat → Nat → List Value → ee_W → Option (List Value × ee_W)} {d : Nat} {w : ee_W} {h : Nat} (hh : es_sh h = (18, 0)) (x0 : Int32) : ee_run ee_B P (d + 1) 223 [.ref h, .int x0] w = ee_fin (Option.some Jvm.ClassFile.FieldType.int) (ee_evS es_sh es_rf (ee_run ee_B P d) bd_223 0 [some (.ref h), some (.int x0)] w) := rn_gen (n := 2) mb_223 mf_223.1 mf_223.2.1 (ee_argok_i mf_223.2.2.1 mf_223.2.2.2.1 rfl hh mf_223.2.2.2.2) (Nat.le_of_ble_eq_true rfl)
theorem mb_214 : ee_B 214 = some bd_214 := rfl
set_option maxRecDepth 100000 in
theorem mf_214 : (es_m 214).2.1 = 4 ∧ (es_m 214).2.2.1 = (Option.some Jvm.ClassFile.FieldType.boolean) ∧ (es_m 214).2.2.2.1 = false ∧ ee_sig 214 = some 0 ∧ es_own 8 = (es_m 214).1.cls := by decide +kernel
/-- HeadServoModel.behindOne -/
theorem rn_214 {P : Nat → Nat → List Value → ee_W → Option (List Value × ee_W)} {d : Nat} {w : ee_W} {h : Nat} (hh : es_sh h = (18, 0)) : ee_run ee_B P (d + 1) 214 [.ref h] w = ee_fin (Option.some Jvm.ClassFile.FieldType.boolean) (ee_evS es_sh es_rf (ee_run ee_B P d) bd_214 0 [some (.ref h), none, none, none] w) := rn_gen (n := 4) mb_214 mf_214.1 mf_214.2.1 (ee_argok_i mf_214.2.2.1 mf_214.2.2.2.1 rfl hh mf_214.2.2.2.2) (Nat.le_of_ble_eq_true rfl)
theorem mb_213 : ee_B 213 = some bd_213 := rfl
set_option maxRecDepth 100000 in
theorem mf_213 : (es_m 213).2.1 = 2 ∧ (es_m 213).2.2.1 = (Option.some Jvm.ClassFile.FieldType.int) ∧ (es_m 213).2.2.2.1 = false ∧ ee_sig 213 = some 0 ∧ es_own 8 = (es_m 213).1.cls := by decide +kernel
/-- HeadServoModel.summed -/
theorem rn_213 {P : Nat → Nat → List Value → ee_W → Option (List Value × ee_W)} {d : Nat} {w : ee_W} {h : Nat} (hh : es_sh h = (18, 0)) : ee_run ee_B P (d + 1) 213 [.ref h] w = ee_fin (Option.some Jvm.ClassFile.FieldType.int) (ee_evS es_sh es_rf (ee_run ee_B P d) bd_213 0 [some (.ref h), none] w) := rn_gen (n := 2) mb_213 mf_213.1 mf_213.2.1 (ee_argok_i mf_213.2.2.1 mf_213.2.2.2.1 rfl hh mf_213.2.2.2.2) (Nat.le_of_ble_eq_true rfl)
theorem mb_211 : ee_B 211 = some bd_211 := rfl
set_option maxRecDepth 100000 in
theorem mf_211 : (es_m 211).2.1 = 4 ∧ (es_m 211).2.2.1 = (Option.some Jvm.ClassFile.FieldType.int) ∧ (es_m 211).2.2.2.1 = false ∧ ee_sig 211 = some 3 ∧ es_own 8 = (es_m 211).1.cls := by decide +kernel
/-- HeadServoModel.figure -/
theorem rn_211 {P : Nat → Nat → List Value → ee_W → Option (List Value × ee_W)} {d : Nat} {w : ee_W} {h : Nat} (hh : es_sh h = (18, 0)) (x0 : Int32) (x1 : Int32) (x2 : Int32) : ee_run ee_B P (d + 1) 211 [.ref h, .int x0, .int x1, .int x2] w = ee_fin (Option.some Jvm.ClassFile.FieldType.int) (ee_evS es_sh es_rf (ee_run ee_B P d) bd_211 0 [some (.ref h), some (.int x0), some (.int x1), some (.int x2)] w) := rn_gen (n := 4) mb_211 mf_211.1 mf_211.2.1 (ee_argok_i mf_211.2.2.1 mf_211.2.2.2.1 rfl hh mf_211.2.2.2.2) (Nat.le_of_ble_eq_true rfl)
theorem mb_212 : ee_B 212 = some bd_212 := rfl
set_option maxRecDepth 100000 in
theorem mf_212 : (es_m 212).2.1 = 3 ∧ (es_m 212).2.2.1 = (Option.some Jvm.ClassFile.FieldType.int) ∧ (es_m 212).2.2.2.1 = false ∧ ee_sig 212 = some 1 ∧ es_own 8 = (es_m 212).1.cls := by decide +kernel
/-- HeadServoModel.lawClause -/
theorem rn_212 {P : Nat → Nat → List Value → ee_W → Option (List Value × ee_W)} {d : Nat} {w : ee_W} {h : Nat} (hh : es_sh h = (18, 0)) (x0 : Int32) : ee_run ee_B P (d + 1) 212 [.ref h, .int x0] w = ee_fin (Option.some Jvm.ClassFile.FieldType.int) (ee_evS es_sh es_rf (ee_run ee_B P d) bd_212 0 [some (.ref h), some (.int x0), none] w) := rn_gen (n := 3) mb_212 mf_212.1 mf_212.2.1 (ee_argok_i mf_212.2.2.1 mf_212.2.2.2.1 rfl hh mf_212.2.2.2.2) (Nat.le_of_ble_eq_true rfl)
theorem mb_210 : ee_B 210 = some bd_210 := rfl
set_option maxRecDepth 100000 in
theorem mf_210 : (es_m 210).2.1 = 3 ∧ (es_m 210).2.2.1 = (Option.some Jvm.ClassFile.FieldType.int) ∧ (es_m 210).2.2.2.1 = false ∧ ee_sig 210 = some 1 ∧ es_own 8 = (es_m 210).1.cls := by decide +kernel
/-- HeadServoModel.wobbleClause -/
theorem rn_210 {P : Nat → Nat → List Value → ee_W → Option (List Value × ee_W)} {d : Nat} {w : ee_W} {h : Nat} (hh : es_sh h = (18, 0)) (x0 : Int32) : ee_run ee_B P (d + 1) 210 [.ref h, .int x0] w = ee_fin (Option.some Jvm.ClassFile.FieldType.int) (ee_evS es_sh es_rf (ee_run ee_B P d) bd_210 0 [some (.ref h), some (.int x0), none] w) := rn_gen (n := 3) mb_210 mf_210.1 mf_210.2.1 (ee_argok_i mf_210.2.2.1 mf_210.2.2.2.1 rfl hh mf_210.2.2.2.2) (Nat.le_of_ble_eq_true rfl)
theorem mb_209 : ee_B 209 = some bd_209 := rfl
set_option maxRecDepth 100000 in
theorem mf_209 : (es_m 209).2.1 = 3 ∧ (es_m 209).2.2.1 = (Option.some Jvm.ClassFile.FieldType.int) ∧ (es_m 209).2.2.2.1 = false ∧ ee_sig 209 = some 2 ∧ es_own 8 = (es_m 209).1.cls := by decide +kernel
/-- HeadServoModel.body -/
theorem rn_209 {P : Nat → Nat → List Value → ee_W → Option (List Value × ee_W)} {d : Nat} {w : ee_W} {h : Nat} (hh : es_sh h = (18, 0)) (x0 : Int32) (x1 : Int32) : ee_run ee_B P (d + 1) 209 [.ref h, .int x0, .int x1] w = ee_fin (Option.some Jvm.ClassFile.FieldType.int) (ee_evS es_sh es_rf (ee_run ee_B P d) bd_209 0 [some (.ref h), some (.int x0), some (.int x1)] w) := rn_gen (n := 3) mb_209 mf_209.1 mf_209.2.1 (ee_argok_i mf_209.2.2.1 mf_209.2.2.2.1 rfl hh mf_209.2.2.2.2) (Nat.le_of_ble_eq_true rfl)
theorem mb_201 : ee_B 201 = some bd_201 := rfl
set_option maxRecDepth 100000 in
theorem mf_201 : (es_m 201).2.1 = 1 ∧ (es_m 201).2.2.1 = (Option.some Jvm.ClassFile.FieldType.int) ∧ (es_m 201).2.2.2.1 = false ∧ ee_sig 201 = some 0 ∧ es_own 8 = (es_m 201).1.cls := by decide +kernel
/-- HeadServoModel.sortOf -/
theorem rn_201 {P : Nat → Nat → List Value → ee_W → Option (List Value × ee_W)} {d : Nat} {w : ee_W} {h : Nat} (hh : es_sh h = (18, 0)) : ee_run ee_B P (d + 1) 201 [.ref h] w = ee_fin (Option.some Jvm.ClassFile.FieldType.int) (ee_evS es_sh es_rf (ee_run ee_B P d) bd_201 0 [some (.ref h)] w) := rn_gen (n := 1) mb_201 mf_201.1 mf_201.2.1 (ee_argok_i mf_201.2.2.1 mf_201.2.2.2.1 rfl hh mf_201.2.2.2.2) (Nat.le_of_ble_eq_true rfl)
theorem mb_200 : ee_B 200 = some bd_200 := rfl
set_option maxRecDepth 100000 in
theorem mf_200 : (es_m 200).2.1 = 5 ∧ (es_m 200).2.2.1 = (Option.some Jvm.ClassFile.FieldType.int) ∧ (es_m 200).2.2.2.1 = false ∧ ee_sig 200 = some 0 ∧ es_own 8 = (es_m 200).1.cls := by decide +kernel
/-- HeadServoModel.clause -/
theorem rn_200 {P : Nat → Nat → List Value → ee_W → Option (List Value × ee_W)} {d : Nat} {w : ee_W} {h : Nat} (hh : es_sh h = (18, 0)) : ee_run ee_B P (d + 1) 200 [.ref h] w = ee_fin (Option.some Jvm.ClassFile.FieldType.int) (ee_evS es_sh es_rf (ee_run ee_B P d) bd_200 0 [some (.ref h), none, none, none, none] w) := rn_gen (n := 5) mb_200 mf_200.1 mf_200.2.1 (ee_argok_i mf_200.2.2.1 mf_200.2.2.2.1 rfl hh mf_200.2.2.2.2) (Nat.le_of_ble_eq_true rfl)
theorem mb_194 : ee_B 194 = some bd_194 := rfl
set_option maxRecDepth 100000 in
theorem mf_194 : (es_m 194).2.1 = 2 ∧ (es_m 194).2.2.1 = (Option.some Jvm.ClassFile.FieldType.int) ∧ (es_m 194).2.2.2.1 = false ∧ ee_sig 194 = some 0 ∧ es_own 8 = (es_m 194).1.cls := by decide +kernel
/-- HeadServoModel.readText -/
theorem rn_194 {P : Nat → Nat → List Value → ee_W → Option (List Value × ee_W)} {d : Nat} {w : ee_W} {h : Nat} (hh : es_sh h = (18, 0)) : ee_run ee_B P (d + 1) 194 [.ref h] w = ee_fin (Option.some Jvm.ClassFile.FieldType.int) (ee_evS es_sh es_rf (ee_run ee_B P d) bd_194 0 [some (.ref h), none] w) := rn_gen (n := 2) mb_194 mf_194.1 mf_194.2.1 (ee_argok_i mf_194.2.2.1 mf_194.2.2.2.1 rfl hh mf_194.2.2.2.2) (Nat.le_of_ble_eq_true rfl)
theorem mb_193 : ee_B 193 = some bd_193 := rfl
set_option maxRecDepth 100000 in
theorem mf_193 : (es_m 193).2.1 = 1 ∧ (es_m 193).2.2.1 = (Option.some Jvm.ClassFile.FieldType.int) ∧ (es_m 193).2.2.2.1 = false ∧ ee_sig 193 = some 0 ∧ es_own 8 = (es_m 193).1.cls := by decide +kernel
/-- HeadServoModel.text -/
theorem rn_193 {P : Nat → Nat → List Value → ee_W → Option (List Value × ee_W)} {d : Nat} {w : ee_W} {h : Nat} (hh : es_sh h = (18, 0)) : ee_run ee_B P (d + 1) 193 [.ref h] w = ee_fin (Option.some Jvm.ClassFile.FieldType.int) (ee_evS es_sh es_rf (ee_run ee_B P d) bd_193 0 [some (.ref h)] w) := rn_gen (n := 1) mb_193 mf_193.1 mf_193.2.1 (ee_argok_i mf_193.2.2.1 mf_193.2.2.2.1 rfl hh mf_193.2.2.2.2) (Nat.le_of_ble_eq_true rfl)
theorem mb_230 : ee_B 230 = some bd_230 := rfl
set_option maxRecDepth 100000 in
theorem mf_230 : (es_m 230).2.1 = 2 ∧ (es_m 230).2.2.1 = (Option.some Jvm.ClassFile.FieldType.int) ∧ (es_m 230).2.2.2.1 = false ∧ ee_sig 230 = some 1 ∧ es_own 8 = (es_m 230).1.cls := by decide +kernel
/-- HeadServoModel.fault -/
theorem rn_230 {P : Nat → Nat → List Value → ee_W → Option (List Value × ee_W)} {d : Nat} {w : ee_W} {h : Nat} (hh : es_sh h = (18, 0)) (x0 : Int32) : ee_run ee_B P (d + 1) 230 [.ref h, .int x0] w = ee_fin (Option.some Jvm.ClassFile.FieldType.int) (ee_evS es_sh es_rf (ee_run ee_B P d) bd_230 0 [some (.ref h), some (.int x0)] w) := rn_gen (n := 2) mb_230 mf_230.1 mf_230.2.1 (ee_argok_i mf_230.2.2.1 mf_230.2.2.2.1 rfl hh mf_230.2.2.2.2) (Nat.le_of_ble_eq_true rfl)
theorem mb_231 : ee_B 231 = some bd_231 := rfl
set_option maxRecDepth 100000 in
theorem mf_231 : (es_m 231).2.1 = 2 ∧ (es_m 231).2.2.1 = (Option.some Jvm.ClassFile.FieldType.boolean) ∧ (es_m 231).2.2.2.1 = false ∧ ee_sig 231 = some 1 ∧ es_own 8 = (es_m 231).1.cls := by decide +kernel
/-- HeadServoModel.by -/
theorem rn_231 {P : Nat → Nat → List Value → ee_W → Option (List Value × ee_W)} {d : Nat} {w : ee_W} {h : Nat} (hh : es_sh h = (18, 0)) (x0 : Int32) : ee_run ee_B P (d + 1) 231 [.ref h, .int x0] w = ee_fin (Option.some Jvm.ClassFile.FieldType.boolean) (ee_evS es_sh es_rf (ee_run ee_B P d) bd_231 0 [some (.ref h), some (.int x0)] w) := rn_gen (n := 2) mb_231 mf_231.1 mf_231.2.1 (ee_argok_i mf_231.2.2.1 mf_231.2.2.2.1 rfl hh mf_231.2.2.2.2) (Nat.le_of_ble_eq_true rfl)
theorem mb_261 : ee_B 261 = some bd_261 := rfl
set_option maxRecDepth 100000 in
theorem mf_261 : (es_m 261).2.1 = 2 ∧ (es_m 261).2.2.1 = (Option.some Jvm.ClassFile.FieldType.long) ∧ (es_m 261).2.2.2.1 = true ∧ ee_sig 261 = some 1 := by decide +kernel
/-- HeadServoModel.clip -/
theorem rn_261 {P : Nat → Nat → List Value → ee_W → Option (List Value × ee_W)} {d : Nat} {w : ee_W} (x0 : Int64) : ee_run ee_B P (d + 1) 261 [.long x0] w = ee_fin (Option.some Jvm.ClassFile.FieldType.long) (ee_evS es_sh es_rf (ee_run ee_B P d) bd_261 0 [some (.long x0), none] w) := rn_gen (n := 2) mb_261 mf_261.1 mf_261.2.1 (ee_argok_s mf_261.2.2.1 mf_261.2.2.2 rfl) (Nat.le_of_ble_eq_true rfl)
theorem mb_260 : ee_B 260 = some bd_260 := rfl
set_option maxRecDepth 100000 in
theorem mf_260 : (es_m 260).2.1 = 5 ∧ (es_m 260).2.2.1 = (Option.some Jvm.ClassFile.FieldType.long) ∧ (es_m 260).2.2.2.1 = true ∧ ee_sig 260 = some 3 := by decide +kernel
/-- HeadServoModel.two -/
theorem rn_260 {P : Nat → Nat → List Value → ee_W → Option (List Value × ee_W)} {d : Nat} {w : ee_W} (x0 : Int32) (x1 : Int64) (x2 : Int64) : ee_run ee_B P (d + 1) 260 [.int x0, .long x1, .long x2] w = ee_fin (Option.some Jvm.ClassFile.FieldType.long) (ee_evS es_sh es_rf (ee_run ee_B P d) bd_260 0 [some (.int x0), some (.long x1), none, some (.long x2), none] w) := rn_gen (n := 5) mb_260 mf_260.1 mf_260.2.1 (ee_argok_s mf_260.2.2.1 mf_260.2.2.2 rfl) (Nat.le_of_ble_eq_true rfl)
theorem mb_262 : ee_B 262 = some bd_262 := rfl
set_option maxRecDepth 100000 in
theorem mf_262 : (es_m 262).2.1 = 5 ∧ (es_m 262).2.2.1 = (Option.some Jvm.ClassFile.FieldType.boolean) ∧ (es_m 262).2.2.2.1 = true ∧ ee_sig 262 = some 3 := by decide +kernel
/-- HeadServoModel.isAsked -/
theorem rn_262 {P : Nat → Nat → List Value → ee_W → Option (List Value × ee_W)} {d : Nat} {w : ee_W} (x0 : Int32) (x1 : Int64) (x2 : Int64) : ee_run ee_B P (d + 1) 262 [.int x0, .long x1, .long x2] w = ee_fin (Option.some Jvm.ClassFile.FieldType.boolean) (ee_evS es_sh es_rf (ee_run ee_B P d) bd_262 0 [some (.int x0), some (.long x1), none, some (.long x2), none] w) := rn_gen (n := 5) mb_262 mf_262.1 mf_262.2.1 (ee_argok_s mf_262.2.2.1 mf_262.2.2.2 rfl) (Nat.le_of_ble_eq_true rfl)
theorem mb_256 : ee_B 256 = some bd_256 := rfl
set_option maxRecDepth 100000 in
theorem mf_256 : (es_m 256).2.1 = 4 ∧ (es_m 256).2.2.1 = (Option.some Jvm.ClassFile.FieldType.long) ∧ (es_m 256).2.2.2.1 = false ∧ ee_sig 256 = some 2 ∧ es_own 8 = (es_m 256).1.cls := by decide +kernel
/-- HeadServoModel.ofOne -/
theorem rn_256 {P : Nat → Nat → List Value → ee_W → Option (List Value × ee_W)} {d : Nat} {w : ee_W} {h : Nat} (hh : es_sh h = (18, 0)) (x0 : Int32) (x1 : Int64) : ee_run ee_B P (d + 1) 256 [.ref h, .int x0, .long x1] w = ee_fin (Option.some Jvm.ClassFile.FieldType.long) (ee_evS es_sh es_rf (ee_run ee_B P d) bd_256 0 [some (.ref h), some (.int x0), some (.long x1), none] w) := rn_gen (n := 4) mb_256 mf_256.1 mf_256.2.1 (ee_argok_i mf_256.2.2.1 mf_256.2.2.2.1 rfl hh mf_256.2.2.2.2) (Nat.le_of_ble_eq_true rfl)
theorem mb_263 : ee_B 263 = some bd_263 := rfl
set_option maxRecDepth 100000 in
theorem mf_263 : (es_m 263).2.1 = 3 ∧ (es_m 263).2.2.1 = (Option.some Jvm.ClassFile.FieldType.boolean) ∧ (es_m 263).2.2.2.1 = true ∧ ee_sig 263 = some 3 := by decide +kernel
/-- HeadServoModel.joined -/
theorem rn_263 {P : Nat → Nat → List Value → ee_W → Option (List Value × ee_W)} {d : Nat} {w : ee_W} (x0 : Int32) (x1 : Int32) (x2 : Int32) : ee_run ee_B P (d + 1) 263 [.int x0, .int x1, .int x2] w = ee_fin (Option.some Jvm.ClassFile.FieldType.boolean) (ee_evS es_sh es_rf (ee_run ee_B P d) bd_263 0 [some (.int x0), some (.int x1), some (.int x2)] w) := rn_gen (n := 3) mb_263 mf_263.1 mf_263.2.1 (ee_argok_s mf_263.2.2.1 mf_263.2.2.2 rfl) (Nat.le_of_ble_eq_true rfl)
theorem mb_255 : ee_B 255 = some bd_255 := rfl
set_option maxRecDepth 100000 in
theorem mf_255 : (es_m 255).2.1 = 10 ∧ (es_m 255).2.2.1 = (Option.some Jvm.ClassFile.FieldType.long) ∧ (es_m 255).2.2.2.1 = false ∧ ee_sig 255 = some 2 ∧ es_own 8 = (es_m 255).1.cls := by decide +kernel
/-- HeadServoModel.summedUp -/
theorem rn_255 {P : Nat → Nat → List Value → ee_W → Option (List Value × ee_W)} {d : Nat} {w : ee_W} {h : Nat} (hh : es_sh h = (18, 0)) (x0 : Int32) (x1 : Int32) : ee_run ee_B P (d + 1) 255 [.ref h, .int x0, .int x1] w = ee_fin (Option.some Jvm.ClassFile.FieldType.long) (ee_evS es_sh es_rf (ee_run ee_B P d) bd_255 0 [some (.ref h), some (.int x0), some (.int x1), none, none, none, none, none, none, none] w) := rn_gen (n := 10) mb_255 mf_255.1 mf_255.2.1 (ee_argok_i mf_255.2.2.1 mf_255.2.2.2.1 rfl hh mf_255.2.2.2.2) (Nat.le_of_ble_eq_true rfl)
theorem mb_254 : ee_B 254 = some bd_254 := rfl
set_option maxRecDepth 100000 in
theorem mf_254 : (es_m 254).2.1 = 7 ∧ (es_m 254).2.2.1 = (Option.some Jvm.ClassFile.FieldType.int) ∧ (es_m 254).2.2.2.1 = false ∧ ee_sig 254 = some 5 ∧ es_own 8 = (es_m 254).1.cls := by decide +kernel
/-- HeadServoModel.says -/
theorem rn_254 {P : Nat → Nat → List Value → ee_W → Option (List Value × ee_W)} {d : Nat} {w : ee_W} {h : Nat} (hh : es_sh h = (18, 0)) (x0 : Int32) (x1 : Int32) (x2 : Int32) (x3 : Int32) (x4 : Int32) : ee_run ee_B P (d + 1) 254 [.ref h, .int x0, .int x1, .int x2, .int x3, .int x4] w = ee_fin (Option.some Jvm.ClassFile.FieldType.int) (ee_evS es_sh es_rf (ee_run ee_B P d) bd_254 0 [some (.ref h), some (.int x0), some (.int x1), some (.int x2), some (.int x3), some (.int x4), none] w) := rn_gen (n := 7) mb_254 mf_254.1 mf_254.2.1 (ee_argok_i mf_254.2.2.1 mf_254.2.2.2.1 rfl hh mf_254.2.2.2.2) (Nat.le_of_ble_eq_true rfl)
theorem mb_253 : ee_B 253 = some bd_253 := rfl
set_option maxRecDepth 100000 in
theorem mf_253 : (es_m 253).2.1 = 2 ∧ (es_m 253).2.2.1 = (Option.none : Option Jvm.ClassFile.FieldType) ∧ (es_m 253).2.2.2.1 = false ∧ ee_sig 253 = some 1 ∧ es_own 8 = (es_m 253).1.cls := by decide +kernel
/-- HeadServoModel.name -/
theorem rn_253 {P : Nat → Nat → List Value → ee_W → Option (List Value × ee_W)} {d : Nat} {w : ee_W} {h : Nat} (hh : es_sh h = (18, 0)) (x0 : Int32) : ee_run ee_B P (d + 1) 253 [.ref h, .int x0] w = ee_fin (Option.none : Option Jvm.ClassFile.FieldType) (ee_evS es_sh es_rf (ee_run ee_B P d) bd_253 0 [some (.ref h), some (.int x0)] w) := rn_gen (n := 2) mb_253 mf_253.1 mf_253.2.1 (ee_argok_i mf_253.2.2.1 mf_253.2.2.2.1 rfl hh mf_253.2.2.2.2) (Nat.le_of_ble_eq_true rfl)
theorem mb_265 : ee_B 265 = some bd_265 := rfl
set_option maxRecDepth 100000 in
theorem mf_265 : (es_m 265).2.1 = 3 ∧ (es_m 265).2.2.1 = (Option.some Jvm.ClassFile.FieldType.int) ∧ (es_m 265).2.2.2.1 = false ∧ ee_sig 265 = some 2 ∧ es_own 8 = (es_m 265).1.cls := by decide +kernel
/-- HeadServoModel.pullsOf -/
theorem rn_265 {P : Nat → Nat → List Value → ee_W → Option (List Value × ee_W)} {d : Nat} {w : ee_W} {h : Nat} (hh : es_sh h = (18, 0)) (x0 : Int32) (x1 : Int32) : ee_run ee_B P (d + 1) 265 [.ref h, .int x0, .int x1] w = ee_fin (Option.some Jvm.ClassFile.FieldType.int) (ee_evS es_sh es_rf (ee_run ee_B P d) bd_265 0 [some (.ref h), some (.int x0), some (.int x1)] w) := rn_gen (n := 3) mb_265 mf_265.1 mf_265.2.1 (ee_argok_i mf_265.2.2.1 mf_265.2.2.2.1 rfl hh mf_265.2.2.2.2) (Nat.le_of_ble_eq_true rfl)
theorem mb_252 : ee_B 252 = some bd_252 := rfl
set_option maxRecDepth 100000 in
theorem mf_252 : (es_m 252).2.1 = 2 ∧ (es_m 252).2.2.1 = (Option.some Jvm.ClassFile.FieldType.int) ∧ (es_m 252).2.2.2.1 = false ∧ ee_sig 252 = some 1 ∧ es_own 8 = (es_m 252).1.cls := by decide +kernel
/-- HeadServoModel.learnsOf -/
theorem rn_252 {P : Nat → Nat → List Value → ee_W → Option (List Value × ee_W)} {d : Nat} {w : ee_W} {h : Nat} (hh : es_sh h = (18, 0)) (x0 : Int32) : ee_run ee_B P (d + 1) 252 [.ref h, .int x0] w = ee_fin (Option.some Jvm.ClassFile.FieldType.int) (ee_evS es_sh es_rf (ee_run ee_B P d) bd_252 0 [some (.ref h), some (.int x0)] w) := rn_gen (n := 2) mb_252 mf_252.1 mf_252.2.1 (ee_argok_i mf_252.2.2.1 mf_252.2.2.2.1 rfl hh mf_252.2.2.2.2) (Nat.le_of_ble_eq_true rfl)
theorem mb_238 : ee_B 238 = some bd_238 := rfl
set_option maxRecDepth 100000 in
theorem mf_238 : (es_m 238).2.1 = 4 ∧ (es_m 238).2.2.1 = (Option.none : Option Jvm.ClassFile.FieldType) ∧ (es_m 238).2.2.2.1 = false ∧ ee_sig 238 = some 2 ∧ es_own 8 = (es_m 238).1.cls := by decide +kernel
/-- HeadServoModel.writeDown -/
theorem rn_238 {P : Nat → Nat → List Value → ee_W → Option (List Value × ee_W)} {d : Nat} {w : ee_W} {h : Nat} (hh : es_sh h = (18, 0)) (x0 : Int32) (x1 : Int32) : ee_run ee_B P (d + 1) 238 [.ref h, .int x0, .int x1] w = ee_fin (Option.none : Option Jvm.ClassFile.FieldType) (ee_evS es_sh es_rf (ee_run ee_B P d) bd_238 0 [some (.ref h), some (.int x0), some (.int x1), none] w) := rn_gen (n := 4) mb_238 mf_238.1 mf_238.2.1 (ee_argok_i mf_238.2.2.1 mf_238.2.2.2.1 rfl hh mf_238.2.2.2.2) (Nat.le_of_ble_eq_true rfl)
theorem mb_250 : ee_B 250 = some bd_250 := rfl
set_option maxRecDepth 100000 in
theorem mf_250 : (es_m 250).2.1 = 3 ∧ (es_m 250).2.2.1 = (Option.some Jvm.ClassFile.FieldType.int) ∧ (es_m 250).2.2.2.1 = false ∧ ee_sig 250 = some 1 ∧ es_own 8 = (es_m 250).1.cls := by decide +kernel
/-- HeadServoModel.drawnBy -/
theorem rn_250 {P : Nat → Nat → List Value → ee_W → Option (List Value × ee_W)} {d : Nat} {w : ee_W} {h : Nat} (hh : es_sh h = (18, 0)) (x0 : Int32) : ee_run ee_B P (d + 1) 250 [.ref h, .int x0] w = ee_fin (Option.some Jvm.ClassFile.FieldType.int) (ee_evS es_sh es_rf (ee_run ee_B P d) bd_250 0 [some (.ref h), some (.int x0), none] w) := rn_gen (n := 3) mb_250 mf_250.1 mf_250.2.1 (ee_argok_i mf_250.2.2.1 mf_250.2.2.2.1 rfl hh mf_250.2.2.2.2) (Nat.le_of_ble_eq_true rfl)
theorem mb_251 : ee_B 251 = some bd_251 := rfl
set_option maxRecDepth 100000 in
theorem mf_251 : (es_m 251).2.1 = 1 ∧ (es_m 251).2.2.1 = (Option.none : Option Jvm.ClassFile.FieldType) ∧ (es_m 251).2.2.2.1 = false ∧ ee_sig 251 = some 0 ∧ es_own 8 = (es_m 251).1.cls := by decide +kernel
/-- HeadServoModel.anew -/
theorem rn_251 {P : Nat → Nat → List Value → ee_W → Option (List Value × ee_W)} {d : Nat} {w : ee_W} {h : Nat} (hh : es_sh h = (18, 0)) : ee_run ee_B P (d + 1) 251 [.ref h] w = ee_fin (Option.none : Option Jvm.ClassFile.FieldType) (ee_evS es_sh es_rf (ee_run ee_B P d) bd_251 0 [some (.ref h)] w) := rn_gen (n := 1) mb_251 mf_251.1 mf_251.2.1 (ee_argok_i mf_251.2.2.1 mf_251.2.2.2.1 rfl hh mf_251.2.2.2.2) (Nat.le_of_ble_eq_true rfl)
theorem mb_249 : ee_B 249 = some bd_249 := rfl
set_option maxRecDepth 100000 in
theorem mf_249 : (es_m 249).2.1 = 4 ∧ (es_m 249).2.2.1 = (Option.none : Option Jvm.ClassFile.FieldType) ∧ (es_m 249).2.2.2.1 = false ∧ ee_sig 249 = some 1 ∧ es_own 8 = (es_m 249).1.cls := by decide +kernel
/-- HeadServoModel.readNow -/
theorem rn_249 {P : Nat → Nat → List Value → ee_W → Option (List Value × ee_W)} {d : Nat} {w : ee_W} {h : Nat} (hh : es_sh h = (18, 0)) (x0 : Int32) : ee_run ee_B P (d + 1) 249 [.ref h, .int x0] w = ee_fin (Option.none : Option Jvm.ClassFile.FieldType) (ee_evS es_sh es_rf (ee_run ee_B P d) bd_249 0 [some (.ref h), some (.int x0), none, none] w) := rn_gen (n := 4) mb_249 mf_249.1 mf_249.2.1 (ee_argok_i mf_249.2.2.1 mf_249.2.2.2.1 rfl hh mf_249.2.2.2.2) (Nat.le_of_ble_eq_true rfl)
theorem mb_264 : ee_B 264 = some bd_264 := rfl
set_option maxRecDepth 100000 in
theorem mf_264 : (es_m 264).2.1 = 2 ∧ (es_m 264).2.2.1 = (Option.none : Option Jvm.ClassFile.FieldType) ∧ (es_m 264).2.2.2.1 = false ∧ ee_sig 264 = some 0 ∧ es_own 8 = (es_m 264).1.cls := by decide +kernel
/-- HeadServoModel.moveNow -/
theorem rn_264 {P : Nat → Nat → List Value → ee_W → Option (List Value × ee_W)} {d : Nat} {w : ee_W} {h : Nat} (hh : es_sh h = (18, 0)) : ee_run ee_B P (d + 1) 264 [.ref h] w = ee_fin (Option.none : Option Jvm.ClassFile.FieldType) (ee_evS es_sh es_rf (ee_run ee_B P d) bd_264 0 [some (.ref h), none] w) := rn_gen (n := 2) mb_264 mf_264.1 mf_264.2.1 (ee_argok_i mf_264.2.2.1 mf_264.2.2.2.1 rfl hh mf_264.2.2.2.2) (Nat.le_of_ble_eq_true rfl)
theorem mb_247 : ee_B 247 = some bd_247 := rfl
set_option maxRecDepth 100000 in
theorem mf_247 : (es_m 247).2.1 = 2 ∧ (es_m 247).2.2.1 = (Option.none : Option Jvm.ClassFile.FieldType) ∧ (es_m 247).2.2.2.1 = false ∧ ee_sig 247 = some 0 ∧ es_own 8 = (es_m 247).1.cls := by decide +kernel
/-- HeadServoModel.sample -/
theorem rn_247 {P : Nat → Nat → List Value → ee_W → Option (List Value × ee_W)} {d : Nat} {w : ee_W} {h : Nat} (hh : es_sh h = (18, 0)) : ee_run ee_B P (d + 1) 247 [.ref h] w = ee_fin (Option.none : Option Jvm.ClassFile.FieldType) (ee_evS es_sh es_rf (ee_run ee_B P d) bd_247 0 [some (.ref h), none] w) := rn_gen (n := 2) mb_247 mf_247.1 mf_247.2.1 (ee_argok_i mf_247.2.2.1 mf_247.2.2.2.1 rfl hh mf_247.2.2.2.2) (Nat.le_of_ble_eq_true rfl)
theorem mb_234 : ee_B 234 = some bd_234 := rfl
set_option maxRecDepth 100000 in
theorem mf_234 : (es_m 234).2.1 = 2 ∧ (es_m 234).2.2.1 = (Option.some Jvm.ClassFile.FieldType.boolean) ∧ (es_m 234).2.2.2.1 = false ∧ ee_sig 234 = some 1 ∧ es_own 8 = (es_m 234).1.cls := by decide +kernel
/-- HeadServoModel.canSeek -/
theorem rn_234 {P : Nat → Nat → List Value → ee_W → Option (List Value × ee_W)} {d : Nat} {w : ee_W} {h : Nat} (hh : es_sh h = (18, 0)) (x0 : Int32) : ee_run ee_B P (d + 1) 234 [.ref h, .int x0] w = ee_fin (Option.some Jvm.ClassFile.FieldType.boolean) (ee_evS es_sh es_rf (ee_run ee_B P d) bd_234 0 [some (.ref h), some (.int x0)] w) := rn_gen (n := 2) mb_234 mf_234.1 mf_234.2.1 (ee_argok_i mf_234.2.2.1 mf_234.2.2.2.1 rfl hh mf_234.2.2.2.2) (Nat.le_of_ble_eq_true rfl)
theorem mb_237 : ee_B 237 = some bd_237 := rfl
set_option maxRecDepth 100000 in
theorem mf_237 : (es_m 237).2.1 = 2 ∧ (es_m 237).2.2.1 = (Option.none : Option Jvm.ClassFile.FieldType) ∧ (es_m 237).2.2.2.1 = false ∧ ee_sig 237 = some 1 ∧ es_own 8 = (es_m 237).1.cls := by decide +kernel
/-- HeadServoModel.seekNow -/
theorem rn_237 {P : Nat → Nat → List Value → ee_W → Option (List Value × ee_W)} {d : Nat} {w : ee_W} {h : Nat} (hh : es_sh h = (18, 0)) (x0 : Int32) : ee_run ee_B P (d + 1) 237 [.ref h, .int x0] w = ee_fin (Option.none : Option Jvm.ClassFile.FieldType) (ee_evS es_sh es_rf (ee_run ee_B P d) bd_237 0 [some (.ref h), some (.int x0)] w) := rn_gen (n := 2) mb_237 mf_237.1 mf_237.2.1 (ee_argok_i mf_237.2.2.1 mf_237.2.2.2.1 rfl hh mf_237.2.2.2.2) (Nat.le_of_ble_eq_true rfl)
theorem mb_240 : ee_B 240 = some bd_240 := rfl
set_option maxRecDepth 100000 in
theorem mf_240 : (es_m 240).2.1 = 2 ∧ (es_m 240).2.2.1 = (Option.none : Option Jvm.ClassFile.FieldType) ∧ (es_m 240).2.2.2.1 = false ∧ ee_sig 240 = some 1 ∧ es_own 8 = (es_m 240).1.cls := by decide +kernel
/-- HeadServoModel.shakeNow -/
theorem rn_240 {P : Nat → Nat → List Value → ee_W → Option (List Value × ee_W)} {d : Nat} {w : ee_W} {h : Nat} (hh : es_sh h = (18, 0)) (x0 : Int32) : ee_run ee_B P (d + 1) 240 [.ref h, .int x0] w = ee_fin (Option.none : Option Jvm.ClassFile.FieldType) (ee_evS es_sh es_rf (ee_run ee_B P d) bd_240 0 [some (.ref h), some (.int x0)] w) := rn_gen (n := 2) mb_240 mf_240.1 mf_240.2.1 (ee_argok_i mf_240.2.2.1 mf_240.2.2.2.1 rfl hh mf_240.2.2.2.2) (Nat.le_of_ble_eq_true rfl)
theorem mb_243 : ee_B 243 = some bd_243 := rfl
set_option maxRecDepth 100000 in
theorem mf_243 : (es_m 243).2.1 = 1 ∧ (es_m 243).2.2.1 = (Option.some Jvm.ClassFile.FieldType.boolean) ∧ (es_m 243).2.2.2.1 = false ∧ ee_sig 243 = some 0 ∧ es_own 8 = (es_m 243).1.cls := by decide +kernel
/-- HeadServoModel.canWrite -/
theorem rn_243 {P : Nat → Nat → List Value → ee_W → Option (List Value × ee_W)} {d : Nat} {w : ee_W} {h : Nat} (hh : es_sh h = (18, 0)) : ee_run ee_B P (d + 1) 243 [.ref h] w = ee_fin (Option.some Jvm.ClassFile.FieldType.boolean) (ee_evS es_sh es_rf (ee_run ee_B P d) bd_243 0 [some (.ref h)] w) := rn_gen (n := 1) mb_243 mf_243.1 mf_243.2.1 (ee_argok_i mf_243.2.2.1 mf_243.2.2.2.1 rfl hh mf_243.2.2.2.2) (Nat.le_of_ble_eq_true rfl)
theorem mb_244 : ee_B 244 = some bd_244 := rfl
set_option maxRecDepth 100000 in
theorem mf_244 : (es_m 244).2.1 = 1 ∧ (es_m 244).2.2.1 = (Option.none : Option Jvm.ClassFile.FieldType) ∧ (es_m 244).2.2.2.1 = false ∧ ee_sig 244 = some 0 ∧ es_own 8 = (es_m 244).1.cls := by decide +kernel
/-- HeadServoModel.writeNow -/
theorem rn_244 {P : Nat → Nat → List Value → ee_W → Option (List Value × ee_W)} {d : Nat} {w : ee_W} {h : Nat} (hh : es_sh h = (18, 0)) : ee_run ee_B P (d + 1) 244 [.ref h] w = ee_fin (Option.none : Option Jvm.ClassFile.FieldType) (ee_evS es_sh es_rf (ee_run ee_B P d) bd_244 0 [some (.ref h)] w) := rn_gen (n := 1) mb_244 mf_244.1 mf_244.2.1 (ee_argok_i mf_244.2.2.1 mf_244.2.2.2.1 rfl hh mf_244.2.2.2.2) (Nat.le_of_ble_eq_true rfl)
theorem mb_236 : ee_B 236 = some bd_236 := rfl
set_option maxRecDepth 100000 in
theorem mf_236 : (es_m 236).2.1 = 3 ∧ (es_m 236).2.2.1 = (Option.none : Option Jvm.ClassFile.FieldType) ∧ (es_m 236).2.2.2.1 = false ∧ ee_sig 236 = some 0 ∧ es_own 8 = (es_m 236).1.cls := by decide +kernel
/-- HeadServoModel.keep -/
theorem rn_236 {P : Nat → Nat → List Value → ee_W → Option (List Value × ee_W)} {d : Nat} {w : ee_W} {h : Nat} (hh : es_sh h = (18, 0)) : ee_run ee_B P (d + 1) 236 [.ref h] w = ee_fin (Option.none : Option Jvm.ClassFile.FieldType) (ee_evS es_sh es_rf (ee_run ee_B P d) bd_236 0 [some (.ref h), none, none] w) := rn_gen (n := 3) mb_236 mf_236.1 mf_236.2.1 (ee_argok_i mf_236.2.2.1 mf_236.2.2.2.1 rfl hh mf_236.2.2.2.2) (Nat.le_of_ble_eq_true rfl)
theorem mb_232 : ee_B 232 = some bd_232 := rfl
set_option maxRecDepth 100000 in
theorem mf_232 : (es_m 232).2.1 = 3 ∧ (es_m 232).2.2.1 = (Option.some Jvm.ClassFile.FieldType.int) ∧ (es_m 232).2.2.2.1 = false ∧ ee_sig 232 = some 0 ∧ es_own 8 = (es_m 232).1.cls := by decide +kernel
/-- HeadServoModel.undo -/
theorem rn_232 {P : Nat → Nat → List Value → ee_W → Option (List Value × ee_W)} {d : Nat} {w : ee_W} {h : Nat} (hh : es_sh h = (18, 0)) : ee_run ee_B P (d + 1) 232 [.ref h] w = ee_fin (Option.some Jvm.ClassFile.FieldType.int) (ee_evS es_sh es_rf (ee_run ee_B P d) bd_232 0 [some (.ref h), none, none] w) := rn_gen (n := 3) mb_232 mf_232.1 mf_232.2.1 (ee_argok_i mf_232.2.2.1 mf_232.2.2.2.1 rfl hh mf_232.2.2.2.2) (Nat.le_of_ble_eq_true rfl)
theorem mb_233 : ee_B 233 = some bd_233 := rfl
set_option maxRecDepth 100000 in
theorem mf_233 : (es_m 233).2.1 = 2 ∧ (es_m 233).2.2.1 = (Option.some Jvm.ClassFile.FieldType.boolean) ∧ (es_m 233).2.2.2.1 = false ∧ ee_sig 233 = some 1 ∧ es_own 8 = (es_m 233).1.cls := by decide +kernel
/-- HeadServoModel.seek -/
theorem rn_233 {P : Nat → Nat → List Value → ee_W → Option (List Value × ee_W)} {d : Nat} {w : ee_W} {h : Nat} (hh : es_sh h = (18, 0)) (x0 : Int32) : ee_run ee_B P (d + 1) 233 [.ref h, .int x0] w = ee_fin (Option.some Jvm.ClassFile.FieldType.boolean) (ee_evS es_sh es_rf (ee_run ee_B P d) bd_233 0 [some (.ref h), some (.int x0)] w) := rn_gen (n := 2) mb_233 mf_233.1 mf_233.2.1 (ee_argok_i mf_233.2.2.1 mf_233.2.2.2.1 rfl hh mf_233.2.2.2.2) (Nat.le_of_ble_eq_true rfl)
theorem mb_239 : ee_B 239 = some bd_239 := rfl
set_option maxRecDepth 100000 in
theorem mf_239 : (es_m 239).2.1 = 2 ∧ (es_m 239).2.2.1 = (Option.some Jvm.ClassFile.FieldType.int) ∧ (es_m 239).2.2.2.1 = false ∧ ee_sig 239 = some 1 ∧ es_own 8 = (es_m 239).1.cls := by decide +kernel
/-- HeadServoModel.shake -/
theorem rn_239 {P : Nat → Nat → List Value → ee_W → Option (List Value × ee_W)} {d : Nat} {w : ee_W} {h : Nat} (hh : es_sh h = (18, 0)) (x0 : Int32) : ee_run ee_B P (d + 1) 239 [.ref h, .int x0] w = ee_fin (Option.some Jvm.ClassFile.FieldType.int) (ee_evS es_sh es_rf (ee_run ee_B P d) bd_239 0 [some (.ref h), some (.int x0)] w) := rn_gen (n := 2) mb_239 mf_239.1 mf_239.2.1 (ee_argok_i mf_239.2.2.1 mf_239.2.2.2.1 rfl hh mf_239.2.2.2.2) (Nat.le_of_ble_eq_true rfl)
theorem mb_242 : ee_B 242 = some bd_242 := rfl
set_option maxRecDepth 100000 in
theorem mf_242 : (es_m 242).2.1 = 1 ∧ (es_m 242).2.2.1 = (Option.some Jvm.ClassFile.FieldType.int) ∧ (es_m 242).2.2.2.1 = false ∧ ee_sig 242 = some 0 ∧ es_own 8 = (es_m 242).1.cls := by decide +kernel
/-- HeadServoModel.write -/
theorem rn_242 {P : Nat → Nat → List Value → ee_W → Option (List Value × ee_W)} {d : Nat} {w : ee_W} {h : Nat} (hh : es_sh h = (18, 0)) : ee_run ee_B P (d + 1) 242 [.ref h] w = ee_fin (Option.some Jvm.ClassFile.FieldType.int) (ee_evS es_sh es_rf (ee_run ee_B P d) bd_242 0 [some (.ref h)] w) := rn_gen (n := 1) mb_242 mf_242.1 mf_242.2.1 (ee_argok_i mf_242.2.2.1 mf_242.2.2.2.1 rfl hh mf_242.2.2.2.2) (Nat.le_of_ble_eq_true rfl)
theorem mb_246 : ee_B 246 = some bd_246 := rfl
set_option maxRecDepth 100000 in
theorem mf_246 : (es_m 246).2.1 = 3 ∧ (es_m 246).2.2.1 = (Option.some Jvm.ClassFile.FieldType.boolean) ∧ (es_m 246).2.2.2.1 = false ∧ ee_sig 246 = some 1 ∧ es_own 8 = (es_m 246).1.cls := by decide +kernel
/-- HeadServoModel.arePassed -/
theorem rn_246 {P : Nat → Nat → List Value → ee_W → Option (List Value × ee_W)} {d : Nat} {w : ee_W} {h : Nat} (hh : es_sh h = (18, 0)) (x0 : Int32) : ee_run ee_B P (d + 1) 246 [.ref h, .int x0] w = ee_fin (Option.some Jvm.ClassFile.FieldType.boolean) (ee_evS es_sh es_rf (ee_run ee_B P d) bd_246 0 [some (.ref h), some (.int x0), none] w) := rn_gen (n := 3) mb_246 mf_246.1 mf_246.2.1 (ee_argok_i mf_246.2.2.1 mf_246.2.2.2.1 rfl hh mf_246.2.2.2.2) (Nat.le_of_ble_eq_true rfl)
theorem mb_245 : ee_B 245 = some bd_245 := rfl
set_option maxRecDepth 100000 in
theorem mf_245 : (es_m 245).2.1 = 2 ∧ (es_m 245).2.2.1 = (Option.some Jvm.ClassFile.FieldType.int) ∧ (es_m 245).2.2.2.1 = false ∧ ee_sig 245 = some 1 ∧ es_own 8 = (es_m 245).1.cls := by decide +kernel
/-- HeadServoModel.day -/
theorem rn_245 {P : Nat → Nat → List Value → ee_W → Option (List Value × ee_W)} {d : Nat} {w : ee_W} {h : Nat} (hh : es_sh h = (18, 0)) (x0 : Int32) : ee_run ee_B P (d + 1) 245 [.ref h, .int x0] w = ee_fin (Option.some Jvm.ClassFile.FieldType.int) (ee_evS es_sh es_rf (ee_run ee_B P d) bd_245 0 [some (.ref h), some (.int x0)] w) := rn_gen (n := 2) mb_245 mf_245.1 mf_245.2.1 (ee_argok_i mf_245.2.2.1 mf_245.2.2.2.1 rfl hh mf_245.2.2.2.2) (Nat.le_of_ble_eq_true rfl)
theorem mb_267 : ee_B 267 = some bd_267 := rfl
set_option maxRecDepth 100000 in
theorem mf_267 : (es_m 267).2.1 = 3 ∧ (es_m 267).2.2.1 = (Option.some Jvm.ClassFile.FieldType.boolean) ∧ (es_m 267).2.2.2.1 = false ∧ ee_sig 267 = some 1 ∧ es_own 8 = (es_m 267).1.cls := by decide +kernel
/-- HeadServoModel.isPlayed -/
theorem rn_267 {P : Nat → Nat → List Value → ee_W → Option (List Value × ee_W)} {d : Nat} {w : ee_W} {h : Nat} (hh : es_sh h = (18, 0)) (x0 : Int32) : ee_run ee_B P (d + 1) 267 [.ref h, .int x0] w = ee_fin (Option.some Jvm.ClassFile.FieldType.boolean) (ee_evS es_sh es_rf (ee_run ee_B P d) bd_267 0 [some (.ref h), some (.int x0), none] w) := rn_gen (n := 3) mb_267 mf_267.1 mf_267.2.1 (ee_argok_i mf_267.2.2.1 mf_267.2.2.2.1 rfl hh mf_267.2.2.2.2) (Nat.le_of_ble_eq_true rfl)
theorem mb_266 : ee_B 266 = some bd_266 := rfl
set_option maxRecDepth 100000 in
theorem mf_266 : (es_m 266).2.1 = 3 ∧ (es_m 266).2.2.1 = (Option.some Jvm.ClassFile.FieldType.int) ∧ (es_m 266).2.2.2.1 = false ∧ ee_sig 266 = some 1 ∧ es_own 8 = (es_m 266).1.cls := by decide +kernel
/-- HeadServoModel.played -/
theorem rn_266 {P : Nat → Nat → List Value → ee_W → Option (List Value × ee_W)} {d : Nat} {w : ee_W} {h : Nat} (hh : es_sh h = (18, 0)) (x0 : Int32) : ee_run ee_B P (d + 1) 266 [.ref h, .int x0] w = ee_fin (Option.some Jvm.ClassFile.FieldType.int) (ee_evS es_sh es_rf (ee_run ee_B P d) bd_266 0 [some (.ref h), some (.int x0), none] w) := rn_gen (n := 3) mb_266 mf_266.1 mf_266.2.1 (ee_argok_i mf_266.2.2.1 mf_266.2.2.2.1 rfl hh mf_266.2.2.2.2) (Nat.le_of_ble_eq_true rfl)
theorem mb_269 : ee_B 269 = some bd_269 := rfl
set_option maxRecDepth 100000 in
theorem mf_269 : (es_m 269).2.1 = 2 ∧ (es_m 269).2.2.1 = (Option.none : Option Jvm.ClassFile.FieldType) ∧ (es_m 269).2.2.2.1 = false ∧ ee_sig 269 = some 1 ∧ es_own 8 = (es_m 269).1.cls := by decide +kernel
/-- HeadServoModel.happens -/
theorem rn_269 {P : Nat → Nat → List Value → ee_W → Option (List Value × ee_W)} {d : Nat} {w : ee_W} {h : Nat} (hh : es_sh h = (18, 0)) (x0 : Int32) : ee_run ee_B P (d + 1) 269 [.ref h, .int x0] w = ee_fin (Option.none : Option Jvm.ClassFile.FieldType) (ee_evS es_sh es_rf (ee_run ee_B P d) bd_269 0 [some (.ref h), some (.int x0)] w) := rn_gen (n := 2) mb_269 mf_269.1 mf_269.2.1 (ee_argok_i mf_269.2.2.1 mf_269.2.2.2.1 rfl hh mf_269.2.2.2.2) (Nat.le_of_ble_eq_true rfl)
theorem mb_268 : ee_B 268 = some bd_268 := rfl
set_option maxRecDepth 100000 in
theorem mf_268 : (es_m 268).2.1 = 5 ∧ (es_m 268).2.2.1 = (Option.some Jvm.ClassFile.FieldType.int) ∧ (es_m 268).2.2.2.1 = false ∧ ee_sig 268 = some 2 ∧ es_own 8 = (es_m 268).1.cls := by decide +kernel
/-- HeadServoModel.years -/
theorem rn_268 {P : Nat → Nat → List Value → ee_W → Option (List Value × ee_W)} {d : Nat} {w : ee_W} {h : Nat} (hh : es_sh h = (18, 0)) (x0 : Int32) (x1 : Int32) : ee_run ee_B P (d + 1) 268 [.ref h, .int x0, .int x1] w = ee_fin (Option.some Jvm.ClassFile.FieldType.int) (ee_evS es_sh es_rf (ee_run ee_B P d) bd_268 0 [some (.ref h), some (.int x0), some (.int x1), none, none] w) := rn_gen (n := 5) mb_268 mf_268.1 mf_268.2.1 (ee_argok_i mf_268.2.2.1 mf_268.2.2.2.1 rfl hh mf_268.2.2.2.2) (Nat.le_of_ble_eq_true rfl)
theorem mb_270 : ee_B 270 = some bd_270 := rfl
set_option maxRecDepth 100000 in
theorem mf_270 : (es_m 270).2.1 = 3 ∧ (es_m 270).2.2.1 = (Option.some Jvm.ClassFile.FieldType.int) ∧ (es_m 270).2.2.2.1 = false ∧ ee_sig 270 = some 2 ∧ es_own 8 = (es_m 270).1.cls := by decide +kernel
/-- HeadServoModel.of -/
theorem rn_270 {P : Nat → Nat → List Value → ee_W → Option (List Value × ee_W)} {d : Nat} {w : ee_W} {h : Nat} (hh : es_sh h = (18, 0)) (x0 : Int32) (x1 : Int32) : ee_run ee_B P (d + 1) 270 [.ref h, .int x0, .int x1] w = ee_fin (Option.some Jvm.ClassFile.FieldType.int) (ee_evS es_sh es_rf (ee_run ee_B P d) bd_270 0 [some (.ref h), some (.int x0), some (.int x1)] w) := rn_gen (n := 3) mb_270 mf_270.1 mf_270.2.1 (ee_argok_i mf_270.2.2.1 mf_270.2.2.2.1 rfl hh mf_270.2.2.2.2) (Nat.le_of_ble_eq_true rfl)
theorem mb_271 : ee_B 271 = some bd_271 := rfl
set_option maxRecDepth 100000 in
theorem mf_271 : (es_m 271).2.1 = 2 ∧ (es_m 271).2.2.1 = (Option.some Jvm.ClassFile.FieldType.int) ∧ (es_m 271).2.2.2.1 = false ∧ ee_sig 271 = some 1 ∧ es_own 8 = (es_m 271).1.cls := by decide +kernel
/-- HeadServoModel.is -/
theorem rn_271 {P : Nat → Nat → List Value → ee_W → Option (List Value × ee_W)} {d : Nat} {w : ee_W} {h : Nat} (hh : es_sh h = (18, 0)) (x0 : Int32) : ee_run ee_B P (d + 1) 271 [.ref h, .int x0] w = ee_fin (Option.some Jvm.ClassFile.FieldType.int) (ee_evS es_sh es_rf (ee_run ee_B P d) bd_271 0 [some (.ref h), some (.int x0)] w) := rn_gen (n := 2) mb_271 mf_271.1 mf_271.2.1 (ee_argok_i mf_271.2.2.1 mf_271.2.2.2.1 rfl hh mf_271.2.2.2.2) (Nat.le_of_ble_eq_true rfl)
theorem mb_272 : ee_B 272 = some bd_272 := rfl
set_option maxRecDepth 100000 in
theorem mf_272 : (es_m 272).2.1 = 1 ∧ (es_m 272).2.2.1 = (Option.some Jvm.ClassFile.FieldType.int) ∧ (es_m 272).2.2.2.1 = false ∧ ee_sig 272 = some 0 ∧ es_own 8 = (es_m 272).1.cls := by decide +kernel
/-- HeadServoModel.lost -/
theorem rn_272 {P : Nat → Nat → List Value → ee_W → Option (List Value × ee_W)} {d : Nat} {w : ee_W} {h : Nat} (hh : es_sh h = (18, 0)) : ee_run ee_B P (d + 1) 272 [.ref h] w = ee_fin (Option.some Jvm.ClassFile.FieldType.int) (ee_evS es_sh es_rf (ee_run ee_B P d) bd_272 0 [some (.ref h)] w) := rn_gen (n := 1) mb_272 mf_272.1 mf_272.2.1 (ee_argok_i mf_272.2.2.1 mf_272.2.2.2.1 rfl hh mf_272.2.2.2.2) (Nat.le_of_ble_eq_true rfl)
theorem mb_273 : ee_B 273 = some bd_273 := rfl
set_option maxRecDepth 100000 in
theorem mf_273 : (es_m 273).2.1 = 2 ∧ (es_m 273).2.2.1 = (Option.some Jvm.ClassFile.FieldType.int) ∧ (es_m 273).2.2.2.1 = false ∧ ee_sig 273 = some 1 ∧ es_own 8 = (es_m 273).1.cls := by decide +kernel
/-- HeadServoModel.far -/
theorem rn_273 {P : Nat → Nat → List Value → ee_W → Option (List Value × ee_W)} {d : Nat} {w : ee_W} {h : Nat} (hh : es_sh h = (18, 0)) (x0 : Int32) : ee_run ee_B P (d + 1) 273 [.ref h, .int x0] w = ee_fin (Option.some Jvm.ClassFile.FieldType.int) (ee_evS es_sh es_rf (ee_run ee_B P d) bd_273 0 [some (.ref h), some (.int x0)] w) := rn_gen (n := 2) mb_273 mf_273.1 mf_273.2.1 (ee_argok_i mf_273.2.2.1 mf_273.2.2.2.1 rfl hh mf_273.2.2.2.2) (Nat.le_of_ble_eq_true rfl)
theorem mb_274 : ee_B 274 = some bd_274 := rfl
set_option maxRecDepth 100000 in
theorem mf_274 : (es_m 274).2.1 = 1 ∧ (es_m 274).2.2.1 = (Option.some Jvm.ClassFile.FieldType.int) ∧ (es_m 274).2.2.2.1 = false ∧ ee_sig 274 = some 0 ∧ es_own 8 = (es_m 274).1.cls := by decide +kernel
/-- HeadServoModel.pulls -/
theorem rn_274 {P : Nat → Nat → List Value → ee_W → Option (List Value × ee_W)} {d : Nat} {w : ee_W} {h : Nat} (hh : es_sh h = (18, 0)) : ee_run ee_B P (d + 1) 274 [.ref h] w = ee_fin (Option.some Jvm.ClassFile.FieldType.int) (ee_evS es_sh es_rf (ee_run ee_B P d) bd_274 0 [some (.ref h)] w) := rn_gen (n := 1) mb_274 mf_274.1 mf_274.2.1 (ee_argok_i mf_274.2.2.1 mf_274.2.2.2.1 rfl hh mf_274.2.2.2.2) (Nat.le_of_ble_eq_true rfl)
theorem mb_276 : ee_B 276 = some bd_276 := rfl
set_option maxRecDepth 100000 in
theorem mf_276 : (es_m 276).2.1 = 4 ∧ (es_m 276).2.2.1 = (Option.some Jvm.ClassFile.FieldType.int) ∧ (es_m 276).2.2.2.1 = false ∧ ee_sig 276 = some 2 ∧ es_own 8 = (es_m 276).1.cls := by decide +kernel
/-- HeadServoModel.lineOf -/
theorem rn_276 {P : Nat → Nat → List Value → ee_W → Option (List Value × ee_W)} {d : Nat} {w : ee_W} {h : Nat} (hh : es_sh h = (18, 0)) (x0 : Int32) (x1 : Int32) : ee_run ee_B P (d + 1) 276 [.ref h, .int x0, .int x1] w = ee_fin (Option.some Jvm.ClassFile.FieldType.int) (ee_evS es_sh es_rf (ee_run ee_B P d) bd_276 0 [some (.ref h), some (.int x0), some (.int x1), none] w) := rn_gen (n := 4) mb_276 mf_276.1 mf_276.2.1 (ee_argok_i mf_276.2.2.1 mf_276.2.2.2.1 rfl hh mf_276.2.2.2.2) (Nat.le_of_ble_eq_true rfl)
theorem mb_275 : ee_B 275 = some bd_275 := rfl
set_option maxRecDepth 100000 in
theorem mf_275 : (es_m 275).2.1 = 3 ∧ (es_m 275).2.2.1 = (Option.some Jvm.ClassFile.FieldType.int) ∧ (es_m 275).2.2.2.1 = false ∧ ee_sig 275 = some 2 ∧ es_own 8 = (es_m 275).1.cls := by decide +kernel
/-- HeadServoModel.book -/
theorem rn_275 {P : Nat → Nat → List Value → ee_W → Option (List Value × ee_W)} {d : Nat} {w : ee_W} {h : Nat} (hh : es_sh h = (18, 0)) (x0 : Int32) (x1 : Int32) : ee_run ee_B P (d + 1) 275 [.ref h, .int x0, .int x1] w = ee_fin (Option.some Jvm.ClassFile.FieldType.int) (ee_evS es_sh es_rf (ee_run ee_B P d) bd_275 0 [some (.ref h), some (.int x0), some (.int x1)] w) := rn_gen (n := 3) mb_275 mf_275.1 mf_275.2.1 (ee_argok_i mf_275.2.2.1 mf_275.2.2.2.1 rfl hh mf_275.2.2.2.2) (Nat.le_of_ble_eq_true rfl)
theorem mb_278 : ee_B 278 = some bd_278 := rfl
set_option maxRecDepth 100000 in
theorem mf_278 : (es_m 278).2.1 = 4 ∧ (es_m 278).2.2.1 = (Option.some Jvm.ClassFile.FieldType.int) ∧ (es_m 278).2.2.2.1 = false ∧ ee_sig 278 = some 1 ∧ es_own 8 = (es_m 278).1.cls := by decide +kernel
/-- HeadServoModel.linesOf -/
theorem rn_278 {P : Nat → Nat → List Value → ee_W → Option (List Value × ee_W)} {d : Nat} {w : ee_W} {h : Nat} (hh : es_sh h = (18, 0)) (x0 : Int32) : ee_run ee_B P (d + 1) 278 [.ref h, .int x0] w = ee_fin (Option.some Jvm.ClassFile.FieldType.int) (ee_evS es_sh es_rf (ee_run ee_B P d) bd_278 0 [some (.ref h), some (.int x0), none, none] w) := rn_gen (n := 4) mb_278 mf_278.1 mf_278.2.1 (ee_argok_i mf_278.2.2.1 mf_278.2.2.2.1 rfl hh mf_278.2.2.2.2) (Nat.le_of_ble_eq_true rfl)
theorem mb_277 : ee_B 277 = some bd_277 := rfl
set_option maxRecDepth 100000 in
theorem mf_277 : (es_m 277).2.1 = 2 ∧ (es_m 277).2.2.1 = (Option.some Jvm.ClassFile.FieldType.int) ∧ (es_m 277).2.2.2.1 = false ∧ ee_sig 277 = some 1 ∧ es_own 8 = (es_m 277).1.cls := by decide +kernel
/-- HeadServoModel.ledger -/
theorem rn_277 {P : Nat → Nat → List Value → ee_W → Option (List Value × ee_W)} {d : Nat} {w : ee_W} {h : Nat} (hh : es_sh h = (18, 0)) (x0 : Int32) : ee_run ee_B P (d + 1) 277 [.ref h, .int x0] w = ee_fin (Option.some Jvm.ClassFile.FieldType.int) (ee_evS es_sh es_rf (ee_run ee_B P d) bd_277 0 [some (.ref h), some (.int x0)] w) := rn_gen (n := 2) mb_277 mf_277.1 mf_277.2.1 (ee_argok_i mf_277.2.2.1 mf_277.2.2.2.1 rfl hh mf_277.2.2.2.2) (Nat.le_of_ble_eq_true rfl)
theorem mb_280 : ee_B 280 = some bd_280 := rfl
set_option maxRecDepth 100000 in
theorem mf_280 : (es_m 280).2.1 = 5 ∧ (es_m 280).2.2.1 = (Option.some Jvm.ClassFile.FieldType.int) ∧ (es_m 280).2.2.2.1 = false ∧ ee_sig 280 = some 2 ∧ es_own 8 = (es_m 280).1.cls := by decide +kernel
/-- HeadServoModel.linesWith -/
theorem rn_280 {P : Nat → Nat → List Value → ee_W → Option (List Value × ee_W)} {d : Nat} {w : ee_W} {h : Nat} (hh : es_sh h = (18, 0)) (x0 : Int32) (x1 : Int32) : ee_run ee_B P (d + 1) 280 [.ref h, .int x0, .int x1] w = ee_fin (Option.some Jvm.ClassFile.FieldType.int) (ee_evS es_sh es_rf (ee_run ee_B P d) bd_280 0 [some (.ref h), some (.int x0), some (.int x1), none, none] w) := rn_gen (n := 5) mb_280 mf_280.1 mf_280.2.1 (ee_argok_i mf_280.2.2.1 mf_280.2.2.2.1 rfl hh mf_280.2.2.2.2) (Nat.le_of_ble_eq_true rfl)
theorem mb_279 : ee_B 279 = some bd_279 := rfl
set_option maxRecDepth 100000 in
theorem mf_279 : (es_m 279).2.1 = 5 ∧ (es_m 279).2.2.1 = (Option.some Jvm.ClassFile.FieldType.int) ∧ (es_m 279).2.2.2.1 = false ∧ ee_sig 279 = some 1 ∧ es_own 8 = (es_m 279).1.cls := by decide +kernel
/-- HeadServoModel.most -/
theorem rn_279 {P : Nat → Nat → List Value → ee_W → Option (List Value × ee_W)} {d : Nat} {w : ee_W} {h : Nat} (hh : es_sh h = (18, 0)) (x0 : Int32) : ee_run ee_B P (d + 1) 279 [.ref h, .int x0] w = ee_fin (Option.some Jvm.ClassFile.FieldType.int) (ee_evS es_sh es_rf (ee_run ee_B P d) bd_279 0 [some (.ref h), some (.int x0), none, none, none] w) := rn_gen (n := 5) mb_279 mf_279.1 mf_279.2.1 (ee_argok_i mf_279.2.2.1 mf_279.2.2.2.1 rfl hh mf_279.2.2.2.2) (Nat.le_of_ble_eq_true rfl)
theorem mb_282 : ee_B 282 = some bd_282 := rfl
set_option maxRecDepth 100000 in
theorem mf_282 : (es_m 282).2.1 = 2 ∧ (es_m 282).2.2.1 = (Option.none : Option Jvm.ClassFile.FieldType) ∧ (es_m 282).2.2.2.1 = false ∧ ee_sig 282 = some 0 ∧ es_own 8 = (es_m 282).1.cls := by decide +kernel
/-- HeadServoModel.putAside -/
theorem rn_282 {P : Nat → Nat → List Value → ee_W → Option (List Value × ee_W)} {d : Nat} {w : ee_W} {h : Nat} (hh : es_sh h = (18, 0)) : ee_run ee_B P (d + 1) 282 [.ref h] w = ee_fin (Option.none : Option Jvm.ClassFile.FieldType) (ee_evS es_sh es_rf (ee_run ee_B P d) bd_282 0 [some (.ref h), none] w) := rn_gen (n := 2) mb_282 mf_282.1 mf_282.2.1 (ee_argok_i mf_282.2.2.1 mf_282.2.2.2.1 rfl hh mf_282.2.2.2.2) (Nat.le_of_ble_eq_true rfl)
theorem mb_283 : ee_B 283 = some bd_283 := rfl
set_option maxRecDepth 100000 in
theorem mf_283 : (es_m 283).2.1 = 2 ∧ (es_m 283).2.2.1 = (Option.none : Option Jvm.ClassFile.FieldType) ∧ (es_m 283).2.2.2.1 = false ∧ ee_sig 283 = some 0 ∧ es_own 8 = (es_m 283).1.cls := by decide +kernel
/-- HeadServoModel.bringBack -/
theorem rn_283 {P : Nat → Nat → List Value → ee_W → Option (List Value × ee_W)} {d : Nat} {w : ee_W} {h : Nat} (hh : es_sh h = (18, 0)) : ee_run ee_B P (d + 1) 283 [.ref h] w = ee_fin (Option.none : Option Jvm.ClassFile.FieldType) (ee_evS es_sh es_rf (ee_run ee_B P d) bd_283 0 [some (.ref h), none] w) := rn_gen (n := 2) mb_283 mf_283.1 mf_283.2.1 (ee_argok_i mf_283.2.2.1 mf_283.2.2.2.1 rfl hh mf_283.2.2.2.2) (Nat.le_of_ble_eq_true rfl)
theorem mb_281 : ee_B 281 = some bd_281 := rfl
set_option maxRecDepth 100000 in
theorem mf_281 : (es_m 281).2.1 = 4 ∧ (es_m 281).2.2.1 = (Option.some Jvm.ClassFile.FieldType.int) ∧ (es_m 281).2.2.2.1 = false ∧ ee_sig 281 = some 2 ∧ es_own 8 = (es_m 281).1.cls := by decide +kernel
/-- HeadServoModel.foretold -/
theorem rn_281 {P : Nat → Nat → List Value → ee_W → Option (List Value × ee_W)} {d : Nat} {w : ee_W} {h : Nat} (hh : es_sh h = (18, 0)) (x0 : Int32) (x1 : Int32) : ee_run ee_B P (d + 1) 281 [.ref h, .int x0, .int x1] w = ee_fin (Option.some Jvm.ClassFile.FieldType.int) (ee_evS es_sh es_rf (ee_run ee_B P d) bd_281 0 [some (.ref h), some (.int x0), some (.int x1), none] w) := rn_gen (n := 4) mb_281 mf_281.1 mf_281.2.1 (ee_argok_i mf_281.2.2.1 mf_281.2.2.2.1 rfl hh mf_281.2.2.2.2) (Nat.le_of_ble_eq_true rfl)
theorem mb_284 : ee_B 284 = some bd_284 := rfl
set_option maxRecDepth 100000 in
theorem mf_284 : (es_m 284).2.1 = 4 ∧ (es_m 284).2.2.1 = (Option.some Jvm.ClassFile.FieldType.int) ∧ (es_m 284).2.2.2.1 = false ∧ ee_sig 284 = some 1 ∧ es_own 8 = (es_m 284).1.cls := by decide +kernel
/-- HeadServoModel.till -/
theorem rn_284 {P : Nat → Nat → List Value → ee_W → Option (List Value × ee_W)} {d : Nat} {w : ee_W} {h : Nat} (hh : es_sh h = (18, 0)) (x0 : Int32) : ee_run ee_B P (d + 1) 284 [.ref h, .int x0] w = ee_fin (Option.some Jvm.ClassFile.FieldType.int) (ee_evS es_sh es_rf (ee_run ee_B P d) bd_284 0 [some (.ref h), some (.int x0), none, none] w) := rn_gen (n := 4) mb_284 mf_284.1 mf_284.2.1 (ee_argok_i mf_284.2.2.1 mf_284.2.2.2.1 rfl hh mf_284.2.2.2.2) (Nat.le_of_ble_eq_true rfl)
theorem mb_286 : ee_B 286 = some bd_286 := rfl
set_option maxRecDepth 100000 in
theorem mf_286 : (es_m 286).2.1 = 1 ∧ (es_m 286).2.2.1 = (Option.some Jvm.ClassFile.FieldType.int) ∧ (es_m 286).2.2.2.1 = true ∧ ee_sig 286 = some 1 := by decide +kernel
/-- HeadServoModel.codeOf -/
theorem rn_286 {P : Nat → Nat → List Value → ee_W → Option (List Value × ee_W)} {d : Nat} {w : ee_W} (x0 : Int32) : ee_run ee_B P (d + 1) 286 [.int x0] w = ee_fin (Option.some Jvm.ClassFile.FieldType.int) (ee_evS es_sh es_rf (ee_run ee_B P d) bd_286 0 [some (.int x0)] w) := rn_gen (n := 1) mb_286 mf_286.1 mf_286.2.1 (ee_argok_s mf_286.2.2.1 mf_286.2.2.2 rfl) (Nat.le_of_ble_eq_true rfl)
theorem mb_285 : ee_B 285 = some bd_285 := rfl
set_option maxRecDepth 100000 in
theorem mf_285 : (es_m 285).2.1 = 2 ∧ (es_m 285).2.2.1 = (Option.some Jvm.ClassFile.FieldType.int) ∧ (es_m 285).2.2.2.1 = false ∧ ee_sig 285 = some 1 ∧ es_own 8 = (es_m 285).1.cls := by decide +kernel
/-- HeadServoModel.gray -/
theorem rn_285 {P : Nat → Nat → List Value → ee_W → Option (List Value × ee_W)} {d : Nat} {w : ee_W} {h : Nat} (hh : es_sh h = (18, 0)) (x0 : Int32) : ee_run ee_B P (d + 1) 285 [.ref h, .int x0] w = ee_fin (Option.some Jvm.ClassFile.FieldType.int) (ee_evS es_sh es_rf (ee_run ee_B P d) bd_285 0 [some (.ref h), some (.int x0)] w) := rn_gen (n := 2) mb_285 mf_285.1 mf_285.2.1 (ee_argok_i mf_285.2.2.1 mf_285.2.2.2.1 rfl hh mf_285.2.2.2.2) (Nat.le_of_ble_eq_true rfl)
theorem mb_287 : ee_B 287 = some bd_287 := rfl
set_option maxRecDepth 100000 in
theorem mf_287 : (es_m 287).2.1 = 3 ∧ (es_m 287).2.2.1 = (Option.some Jvm.ClassFile.FieldType.int) ∧ (es_m 287).2.2.2.1 = false ∧ ee_sig 287 = some 1 ∧ es_own 8 = (es_m 287).1.cls := by decide +kernel
/-- HeadServoModel.track -/
theorem rn_287 {P : Nat → Nat → List Value → ee_W → Option (List Value × ee_W)} {d : Nat} {w : ee_W} {h : Nat} (hh : es_sh h = (18, 0)) (x0 : Int32) : ee_run ee_B P (d + 1) 287 [.ref h, .int x0] w = ee_fin (Option.some Jvm.ClassFile.FieldType.int) (ee_evS es_sh es_rf (ee_run ee_B P d) bd_287 0 [some (.ref h), some (.int x0), none] w) := rn_gen (n := 3) mb_287 mf_287.1 mf_287.2.1 (ee_argok_i mf_287.2.2.1 mf_287.2.2.2.1 rfl hh mf_287.2.2.2.2) (Nat.le_of_ble_eq_true rfl)
theorem mb_289 : ee_B 289 = some bd_289 := rfl
set_option maxRecDepth 100000 in
theorem mf_289 : (es_m 289).2.1 = 1 ∧ (es_m 289).2.2.1 = (Option.some Jvm.ClassFile.FieldType.boolean) ∧ (es_m 289).2.2.2.1 = true ∧ ee_sig 289 = some 1 := by decide +kernel
/-- HeadServoModel.isPlace -/
theorem rn_289 {P : Nat → Nat → List Value → ee_W → Option (List Value × ee_W)} {d : Nat} {w : ee_W} (x0 : Int32) : ee_run ee_B P (d + 1) 289 [.int x0] w = ee_fin (Option.some Jvm.ClassFile.FieldType.boolean) (ee_evS es_sh es_rf (ee_run ee_B P d) bd_289 0 [some (.int x0)] w) := rn_gen (n := 1) mb_289 mf_289.1 mf_289.2.1 (ee_argok_s mf_289.2.2.1 mf_289.2.2.2 rfl) (Nat.le_of_ble_eq_true rfl)
theorem mb_290 : ee_B 290 = some bd_290 := rfl
set_option maxRecDepth 100000 in
theorem mf_290 : (es_m 290).2.1 = 3 ∧ (es_m 290).2.2.1 = (Option.some Jvm.ClassFile.FieldType.int) ∧ (es_m 290).2.2.2.1 = true ∧ ee_sig 290 = some 2 := by decide +kernel
/-- HeadServoModel.burstOf -/
theorem rn_290 {P : Nat → Nat → List Value → ee_W → Option (List Value × ee_W)} {d : Nat} {w : ee_W} (x0 : Int32) (x1 : Int32) : ee_run ee_B P (d + 1) 290 [.int x0, .int x1] w = ee_fin (Option.some Jvm.ClassFile.FieldType.int) (ee_evS es_sh es_rf (ee_run ee_B P d) bd_290 0 [some (.int x0), some (.int x1), none] w) := rn_gen (n := 3) mb_290 mf_290.1 mf_290.2.1 (ee_argok_s mf_290.2.2.1 mf_290.2.2.2 rfl) (Nat.le_of_ble_eq_true rfl)
theorem mb_288 : ee_B 288 = some bd_288 := rfl
set_option maxRecDepth 100000 in
theorem mf_288 : (es_m 288).2.1 = 3 ∧ (es_m 288).2.2.1 = (Option.some Jvm.ClassFile.FieldType.int) ∧ (es_m 288).2.2.2.1 = false ∧ ee_sig 288 = some 2 ∧ es_own 8 = (es_m 288).1.cls := by decide +kernel
/-- HeadServoModel.burst -/
theorem rn_288 {P : Nat → Nat → List Value → ee_W → Option (List Value × ee_W)} {d : Nat} {w : ee_W} {h : Nat} (hh : es_sh h = (18, 0)) (x0 : Int32) (x1 : Int32) : ee_run ee_B P (d + 1) 288 [.ref h, .int x0, .int x1] w = ee_fin (Option.some Jvm.ClassFile.FieldType.int) (ee_evS es_sh es_rf (ee_run ee_B P d) bd_288 0 [some (.ref h), some (.int x0), some (.int x1)] w) := rn_gen (n := 3) mb_288 mf_288.1 mf_288.2.1 (ee_argok_i mf_288.2.2.1 mf_288.2.2.2.1 rfl hh mf_288.2.2.2.2) (Nat.le_of_ble_eq_true rfl)
theorem mb_293 : ee_B 293 = some bd_293 := rfl
set_option maxRecDepth 100000 in
theorem mf_293 : (es_m 293).2.1 = 3 ∧ (es_m 293).2.2.1 = (Option.some Jvm.ClassFile.FieldType.int) ∧ (es_m 293).2.2.2.1 = true ∧ ee_sig 293 = some 1 := by decide +kernel
/-- HeadServoModel.otherAt -/
theorem rn_293 {P : Nat → Nat → List Value → ee_W → Option (List Value × ee_W)} {d : Nat} {w : ee_W} (x0 : Int32) : ee_run ee_B P (d + 1) 293 [.int x0] w = ee_fin (Option.some Jvm.ClassFile.FieldType.int) (ee_evS es_sh es_rf (ee_run ee_B P d) bd_293 0 [some (.int x0), none, none] w) := rn_gen (n := 3) mb_293 mf_293.1 mf_293.2.1 (ee_argok_s mf_293.2.2.1 mf_293.2.2.2 rfl) (Nat.le_of_ble_eq_true rfl)
theorem mb_292 : ee_B 292 = some bd_292 := rfl
set_option maxRecDepth 100000 in
theorem mf_292 : (es_m 292).2.1 = 3 ∧ (es_m 292).2.2.1 = (Option.some Jvm.ClassFile.FieldType.int) ∧ (es_m 292).2.2.2.1 = false ∧ ee_sig 292 = some 2 ∧ es_own 8 = (es_m 292).1.cls := by decide +kernel
/-- HeadServoModel.reads -/
theorem rn_292 {P : Nat → Nat → List Value → ee_W → Option (List Value × ee_W)} {d : Nat} {w : ee_W} {h : Nat} (hh : es_sh h = (18, 0)) (x0 : Int32) (x1 : Int32) : ee_run ee_B P (d + 1) 292 [.ref h, .int x0, .int x1] w = ee_fin (Option.some Jvm.ClassFile.FieldType.int) (ee_evS es_sh es_rf (ee_run ee_B P d) bd_292 0 [some (.ref h), some (.int x0), some (.int x1)] w) := rn_gen (n := 3) mb_292 mf_292.1 mf_292.2.1 (ee_argok_i mf_292.2.2.1 mf_292.2.2.2.1 rfl hh mf_292.2.2.2.2) (Nat.le_of_ble_eq_true rfl)
theorem mb_299 : ee_B 299 = some bd_299 := rfl
set_option maxRecDepth 100000 in
theorem mf_299 : (es_m 299).2.1 = 3 ∧ (es_m 299).2.2.1 = (Option.some Jvm.ClassFile.FieldType.boolean) ∧ (es_m 299).2.2.2.1 = true ∧ ee_sig 299 = some 3 := by decide +kernel
/-- HeadServoModel.isLike -/
theorem rn_299 {P : Nat → Nat → List Value → ee_W → Option (List Value × ee_W)} {d : Nat} {w : ee_W} (x0 : Int32) (x1 : Int32) (x2 : Int32) : ee_run ee_B P (d + 1) 299 [.int x0, .int x1, .int x2] w = ee_fin (Option.some Jvm.ClassFile.FieldType.boolean) (ee_evS es_sh es_rf (ee_run ee_B P d) bd_299 0 [some (.int x0), some (.int x1), some (.int x2)] w) := rn_gen (n := 3) mb_299 mf_299.1 mf_299.2.1 (ee_argok_s mf_299.2.2.1 mf_299.2.2.2 rfl) (Nat.le_of_ble_eq_true rfl)
theorem mb_296 : ee_B 296 = some bd_296 := rfl
set_option maxRecDepth 100000 in
theorem mf_296 : (es_m 296).2.1 = 1 ∧ (es_m 296).2.2.1 = (Option.some Jvm.ClassFile.FieldType.boolean) ∧ (es_m 296).2.2.2.1 = true ∧ ee_sig 296 = some 1 := by decide +kernel
/-- HeadServoModel.isBurst -/
theorem rn_296 {P : Nat → Nat → List Value → ee_W → Option (List Value × ee_W)} {d : Nat} {w : ee_W} (x0 : Int32) : ee_run ee_B P (d + 1) 296 [.int x0] w = ee_fin (Option.some Jvm.ClassFile.FieldType.boolean) (ee_evS es_sh es_rf (ee_run ee_B P d) bd_296 0 [some (.int x0)] w) := rn_gen (n := 1) mb_296 mf_296.1 mf_296.2.1 (ee_argok_s mf_296.2.2.1 mf_296.2.2.2 rfl) (Nat.le_of_ble_eq_true rfl)
theorem mb_295 : ee_B 295 = some bd_295 := rfl
set_option maxRecDepth 100000 in
theorem mf_295 : (es_m 295).2.1 = 6 ∧ (es_m 295).2.2.1 = (Option.some Jvm.ClassFile.FieldType.boolean) ∧ (es_m 295).2.2.2.1 = false ∧ ee_sig 295 = some 5 ∧ es_own 8 = (es_m 295).1.cls := by decide +kernel
/-- HeadServoModel.areRead -/
theorem rn_295 {P : Nat → Nat → List Value → ee_W → Option (List Value × ee_W)} {d : Nat} {w : ee_W} {h : Nat} (hh : es_sh h = (18, 0)) (x0 : Int32) (x1 : Int32) (x2 : Int32) (x3 : Int32) (x4 : Int32) : ee_run ee_B P (d + 1) 295 [.ref h, .int x0, .int x1, .int x2, .int x3, .int x4] w = ee_fin (Option.some Jvm.ClassFile.FieldType.boolean) (ee_evS es_sh es_rf (ee_run ee_B P d) bd_295 0 [some (.ref h), some (.int x0), some (.int x1), some (.int x2), some (.int x3), some (.int x4)] w) := rn_gen (n := 6) mb_295 mf_295.1 mf_295.2.1 (ee_argok_i mf_295.2.2.1 mf_295.2.2.2.1 rfl hh mf_295.2.2.2.2) (Nat.le_of_ble_eq_true rfl)
theorem mb_297 : ee_B 297 = some bd_297 := rfl
set_option maxRecDepth 100000 in
theorem mf_297 : (es_m 297).2.1 = 7 ∧ (es_m 297).2.2.1 = (Option.some Jvm.ClassFile.FieldType.boolean) ∧ (es_m 297).2.2.2.1 = false ∧ ee_sig 297 = some 6 ∧ es_own 8 = (es_m 297).1.cls := by decide +kernel
/-- HeadServoModel.canBe -/
theorem rn_297 {P : Nat → Nat → List Value → ee_W → Option (List Value × ee_W)} {d : Nat} {w : ee_W} {h : Nat} (hh : es_sh h = (18, 0)) (x0 : Int32) (x1 : Int32) (x2 : Int32) (x3 : Int32) (x4 : Int32) (x5 : Int32) : ee_run ee_B P (d + 1) 297 [.ref h, .int x0, .int x1, .int x2, .int x3, .int x4, .int x5] w = ee_fin (Option.some Jvm.ClassFile.FieldType.boolean) (ee_evS es_sh es_rf (ee_run ee_B P d) bd_297 0 [some (.ref h), some (.int x0), some (.int x1), some (.int x2), some (.int x3), some (.int x4), some (.int x5)] w) := rn_gen (n := 7) mb_297 mf_297.1 mf_297.2.1 (ee_argok_i mf_297.2.2.1 mf_297.2.2.2.1 rfl hh mf_297.2.2.2.2) (Nat.le_of_ble_eq_true rfl)
theorem mb_294 : ee_B 294 = some bd_294 := rfl
set_option maxRecDepth 100000 in
theorem mf_294 : (es_m 294).2.1 = 7 ∧ (es_m 294).2.2.1 = (Option.some Jvm.ClassFile.FieldType.int) ∧ (es_m 294).2.2.2.1 = false ∧ ee_sig 294 = some 5 ∧ es_own 8 = (es_m 294).1.cls := by decide +kernel
/-- HeadServoModel.fit -/
theorem rn_294 {P : Nat → Nat → List Value → ee_W → Option (List Value × ee_W)} {d : Nat} {w : ee_W} {h : Nat} (hh : es_sh h = (18, 0)) (x0 : Int32) (x1 : Int32) (x2 : Int32) (x3 : Int32) (x4 : Int32) : ee_run ee_B P (d + 1) 294 [.ref h, .int x0, .int x1, .int x2, .int x3, .int x4] w = ee_fin (Option.some Jvm.ClassFile.FieldType.int) (ee_evS es_sh es_rf (ee_run ee_B P d) bd_294 0 [some (.ref h), some (.int x0), some (.int x1), some (.int x2), some (.int x3), some (.int x4), none] w) := rn_gen (n := 7) mb_294 mf_294.1 mf_294.2.1 (ee_argok_i mf_294.2.2.1 mf_294.2.2.2.1 rfl hh mf_294.2.2.2.2) (Nat.le_of_ble_eq_true rfl)
theorem mb_300 : ee_B 300 = some bd_300 := rfl
set_option maxRecDepth 100000 in
theorem mf_300 : (es_m 300).2.1 = 8 ∧ (es_m 300).2.2.1 = (Option.some Jvm.ClassFile.FieldType.int) ∧ (es_m 300).2.2.2.1 = false ∧ ee_sig 300 = some 5 ∧ es_own 8 = (es_m 300).1.cls := by decide +kernel
/-- HeadServoModel.fits -/
theorem rn_300 {P : Nat → Nat → List Value → ee_W → Option (List Value × ee_W)} {d : Nat} {w : ee_W} {h : Nat} (hh : es_sh h = (18, 0)) (x0 : Int32) (x1 : Int32) (x2 : Int32) (x3 : Int32) (x4 : Int32) : ee_run ee_B P (d + 1) 300 [.ref h, .int x0, .int x1, .int x2, .int x3, .int x4] w = ee_fin (Option.some Jvm.ClassFile.FieldType.int) (ee_evS es_sh es_rf (ee_run ee_B P d) bd_300 0 [some (.ref h), some (.int x0), some (.int x1), some (.int x2), some (.int x3), some (.int x4), none, none] w) := rn_gen (n := 8) mb_300 mf_300.1 mf_300.2.1 (ee_argok_i mf_300.2.2.1 mf_300.2.2.2.1 rfl hh mf_300.2.2.2.2) (Nat.le_of_ble_eq_true rfl)
theorem mb_301 : ee_B 301 = some bd_301 := rfl
set_option maxRecDepth 100000 in
theorem mf_301 : (es_m 301).2.1 = 5 ∧ (es_m 301).2.2.1 = (Option.some Jvm.ClassFile.FieldType.int) ∧ (es_m 301).2.2.2.1 = false ∧ ee_sig 301 = some 2 ∧ es_own 8 = (es_m 301).1.cls := by decide +kernel
/-- HeadServoModel.unlike -/
theorem rn_301 {P : Nat → Nat → List Value → ee_W → Option (List Value × ee_W)} {d : Nat} {w : ee_W} {h : Nat} (hh : es_sh h = (18, 0)) (x0 : Int32) (x1 : Int32) : ee_run ee_B P (d + 1) 301 [.ref h, .int x0, .int x1] w = ee_fin (Option.some Jvm.ClassFile.FieldType.int) (ee_evS es_sh es_rf (ee_run ee_B P d) bd_301 0 [some (.ref h), some (.int x0), some (.int x1), none, none] w) := rn_gen (n := 5) mb_301 mf_301.1 mf_301.2.1 (ee_argok_i mf_301.2.2.1 mf_301.2.2.2.1 rfl hh mf_301.2.2.2.2) (Nat.le_of_ble_eq_true rfl)
theorem mb_298 : ee_B 298 = some bd_298 := rfl
set_option maxRecDepth 100000 in
theorem mf_298 : (es_m 298).2.1 = 2 ∧ (es_m 298).2.2.1 = (Option.some Jvm.ClassFile.FieldType.boolean) ∧ (es_m 298).2.2.2.1 = true ∧ ee_sig 298 = some 2 := by decide +kernel
/-- HeadServoModel.isReadAt -/
theorem rn_298 {P : Nat → Nat → List Value → ee_W → Option (List Value × ee_W)} {d : Nat} {w : ee_W} (x0 : Int32) (x1 : Int32) : ee_run ee_B P (d + 1) 298 [.int x0, .int x1] w = ee_fin (Option.some Jvm.ClassFile.FieldType.boolean) (ee_evS es_sh es_rf (ee_run ee_B P d) bd_298 0 [some (.int x0), some (.int x1)] w) := rn_gen (n := 2) mb_298 mf_298.1 mf_298.2.1 (ee_argok_s mf_298.2.2.1 mf_298.2.2.2 rfl) (Nat.le_of_ble_eq_true rfl)
theorem mb_302 : ee_B 302 = some bd_302 := rfl
set_option maxRecDepth 100000 in
theorem mf_302 : (es_m 302).2.1 = 4 ∧ (es_m 302).2.2.1 = (Option.some Jvm.ClassFile.FieldType.int) ∧ (es_m 302).2.2.2.1 = false ∧ ee_sig 302 = some 2 ∧ es_own 8 = (es_m 302).1.cls := by decide +kernel
/-- HeadServoModel.rim -/
theorem rn_302 {P : Nat → Nat → List Value → ee_W → Option (List Value × ee_W)} {d : Nat} {w : ee_W} {h : Nat} (hh : es_sh h = (18, 0)) (x0 : Int32) (x1 : Int32) : ee_run ee_B P (d + 1) 302 [.ref h, .int x0, .int x1] w = ee_fin (Option.some Jvm.ClassFile.FieldType.int) (ee_evS es_sh es_rf (ee_run ee_B P d) bd_302 0 [some (.ref h), some (.int x0), some (.int x1), none] w) := rn_gen (n := 4) mb_302 mf_302.1 mf_302.2.1 (ee_argok_i mf_302.2.2.1 mf_302.2.2.2.1 rfl hh mf_302.2.2.2.2) (Nat.le_of_ble_eq_true rfl)
theorem mb_303 : ee_B 303 = some bd_303 := rfl
set_option maxRecDepth 100000 in
theorem mf_303 : (es_m 303).2.1 = 7 ∧ (es_m 303).2.2.1 = (Option.some Jvm.ClassFile.FieldType.int) ∧ (es_m 303).2.2.2.1 = false ∧ ee_sig 303 = some 4 ∧ es_own 8 = (es_m 303).1.cls := by decide +kernel
/-- HeadServoModel.blind -/
theorem rn_303 {P : Nat → Nat → List Value → ee_W → Option (List Value × ee_W)} {d : Nat} {w : ee_W} {h : Nat} (hh : es_sh h = (18, 0)) (x0 : Int32) (x1 : Int32) (x2 : Int32) (x3 : Int32) : ee_run ee_B P (d + 1) 303 [.ref h, .int x0, .int x1, .int x2, .int x3] w = ee_fin (Option.some Jvm.ClassFile.FieldType.int) (ee_evS es_sh es_rf (ee_run ee_B P d) bd_303 0 [some (.ref h), some (.int x0), some (.int x1), some (.int x2), some (.int x3), none, none] w) := rn_gen (n := 7) mb_303 mf_303.1 mf_303.2.1 (ee_argok_i mf_303.2.2.1 mf_303.2.2.2.1 rfl hh mf_303.2.2.2.2) (Nat.le_of_ble_eq_true rfl)
theorem mb_305 : ee_B 305 = some bd_305 := rfl
set_option maxRecDepth 100000 in
theorem mf_305 : (es_m 305).2.1 = 1 ∧ (es_m 305).2.2.1 = (Option.some Jvm.ClassFile.FieldType.boolean) ∧ (es_m 305).2.2.2.1 = true ∧ ee_sig 305 = some 1 := by decide +kernel
/-- HeadServoModel.isPull -/
theorem rn_305 {P : Nat → Nat → List Value → ee_W → Option (List Value × ee_W)} {d : Nat} {w : ee_W} (x0 : Int32) : ee_run ee_B P (d + 1) 305 [.int x0] w = ee_fin (Option.some Jvm.ClassFile.FieldType.boolean) (ee_evS es_sh es_rf (ee_run ee_B P d) bd_305 0 [some (.int x0)] w) := rn_gen (n := 1) mb_305 mf_305.1 mf_305.2.1 (ee_argok_s mf_305.2.2.1 mf_305.2.2.2 rfl) (Nat.le_of_ble_eq_true rfl)
theorem mb_304 : ee_B 304 = some bd_304 := rfl
set_option maxRecDepth 100000 in
theorem mf_304 : (es_m 304).2.1 = 3 ∧ (es_m 304).2.2.1 = (Option.some Jvm.ClassFile.FieldType.int) ∧ (es_m 304).2.2.2.1 = false ∧ ee_sig 304 = some 2 ∧ es_own 8 = (es_m 304).1.cls := by decide +kernel
/-- HeadServoModel.curve -/
theorem rn_304 {P : Nat → Nat → List Value → ee_W → Option (List Value × ee_W)} {d : Nat} {w : ee_W} {h : Nat} (hh : es_sh h = (18, 0)) (x0 : Int32) (x1 : Int32) : ee_run ee_B P (d + 1) 304 [.ref h, .int x0, .int x1] w = ee_fin (Option.some Jvm.ClassFile.FieldType.int) (ee_evS es_sh es_rf (ee_run ee_B P d) bd_304 0 [some (.ref h), some (.int x0), some (.int x1)] w) := rn_gen (n := 3) mb_304 mf_304.1 mf_304.2.1 (ee_argok_i mf_304.2.2.1 mf_304.2.2.2.1 rfl hh mf_304.2.2.2.2) (Nat.le_of_ble_eq_true rfl)
theorem mb_306 : ee_B 306 = some bd_306 := rfl
set_option maxRecDepth 100000 in
theorem mf_306 : (es_m 306).2.1 = 3 ∧ (es_m 306).2.2.1 = (Option.some Jvm.ClassFile.FieldType.int) ∧ (es_m 306).2.2.2.1 = false ∧ ee_sig 306 = some 2 ∧ es_own 8 = (es_m 306).1.cls := by decide +kernel
/-- HeadServoModel.stop -/
theorem rn_306 {P : Nat → Nat → List Value → ee_W → Option (List Value × ee_W)} {d : Nat} {w : ee_W} {h : Nat} (hh : es_sh h = (18, 0)) (x0 : Int32) (x1 : Int32) : ee_run ee_B P (d + 1) 306 [.ref h, .int x0, .int x1] w = ee_fin (Option.some Jvm.ClassFile.FieldType.int) (ee_evS es_sh es_rf (ee_run ee_B P d) bd_306 0 [some (.ref h), some (.int x0), some (.int x1)] w) := rn_gen (n := 3) mb_306 mf_306.1 mf_306.2.1 (ee_argok_i mf_306.2.2.1 mf_306.2.2.2.1 rfl hh mf_306.2.2.2.2) (Nat.le_of_ble_eq_true rfl)
theorem mb_307 : ee_B 307 = some bd_307 := rfl
set_option maxRecDepth 100000 in
theorem mf_307 : (es_m 307).2.1 = 4 ∧ (es_m 307).2.2.1 = (Option.some Jvm.ClassFile.FieldType.int) ∧ (es_m 307).2.2.2.1 = false ∧ ee_sig 307 = some 2 ∧ es_own 8 = (es_m 307).1.cls := by decide +kernel
/-- HeadServoModel.needs -/
theorem rn_307 {P : Nat → Nat → List Value → ee_W → Option (List Value × ee_W)} {d : Nat} {w : ee_W} {h : Nat} (hh : es_sh h = (18, 0)) (x0 : Int32) (x1 : Int32) : ee_run ee_B P (d + 1) 307 [.ref h, .int x0, .int x1] w = ee_fin (Option.some Jvm.ClassFile.FieldType.int) (ee_evS es_sh es_rf (ee_run ee_B P d) bd_307 0 [some (.ref h), some (.int x0), some (.int x1), none] w) := rn_gen (n := 4) mb_307 mf_307.1 mf_307.2.1 (ee_argok_i mf_307.2.2.1 mf_307.2.2.2.1 rfl hh mf_307.2.2.2.2) (Nat.le_of_ble_eq_true rfl)
theorem mb_312 : ee_B 312 = some bd_312 := rfl
set_option maxRecDepth 100000 in
theorem mf_312 : (es_m 312).2.1 = 3 ∧ (es_m 312).2.2.1 = (Option.some Jvm.ClassFile.FieldType.int) ∧ (es_m 312).2.2.2.1 = true ∧ ee_sig 312 = some 3 := by decide +kernel
/-- HeadServoModel.cell -/
theorem rn_312 {P : Nat → Nat → List Value → ee_W → Option (List Value × ee_W)} {d : Nat} {w : ee_W} (x0 : Int32) (x1 : Int32) (x2 : Int32) : ee_run ee_B P (d + 1) 312 [.int x0, .int x1, .int x2] w = ee_fin (Option.some Jvm.ClassFile.FieldType.int) (ee_evS es_sh es_rf (ee_run ee_B P d) bd_312 0 [some (.int x0), some (.int x1), some (.int x2)] w) := rn_gen (n := 3) mb_312 mf_312.1 mf_312.2.1 (ee_argok_s mf_312.2.2.1 mf_312.2.2.2 rfl) (Nat.le_of_ble_eq_true rfl)
theorem mb_311 : ee_B 311 = some bd_311 := rfl
set_option maxRecDepth 100000 in
theorem mf_311 : (es_m 311).2.1 = 4 ∧ (es_m 311).2.2.1 = (Option.some Jvm.ClassFile.FieldType.boolean) ∧ (es_m 311).2.2.2.1 = false ∧ ee_sig 311 = some 3 ∧ es_own 8 = (es_m 311).1.cls := by decide +kernel
/-- HeadServoModel.canGo -/
theorem rn_311 {P : Nat → Nat → List Value → ee_W → Option (List Value × ee_W)} {d : Nat} {w : ee_W} {h : Nat} (hh : es_sh h = (18, 0)) (x0 : Int32) (x1 : Int32) (x2 : Int32) : ee_run ee_B P (d + 1) 311 [.ref h, .int x0, .int x1, .int x2] w = ee_fin (Option.some Jvm.ClassFile.FieldType.boolean) (ee_evS es_sh es_rf (ee_run ee_B P d) bd_311 0 [some (.ref h), some (.int x0), some (.int x1), some (.int x2)] w) := rn_gen (n := 4) mb_311 mf_311.1 mf_311.2.1 (ee_argok_i mf_311.2.2.1 mf_311.2.2.2.1 rfl hh mf_311.2.2.2.2) (Nat.le_of_ble_eq_true rfl)
theorem mb_310 : ee_B 310 = some bd_310 := rfl
set_option maxRecDepth 100000 in
theorem mf_310 : (es_m 310).2.1 = 7 ∧ (es_m 310).2.2.1 = (Option.some Jvm.ClassFile.FieldType.int) ∧ (es_m 310).2.2.2.1 = false ∧ ee_sig 310 = some 2 ∧ es_own 8 = (es_m 310).1.cls := by decide +kernel
/-- HeadServoModel.layPlans -/
theorem rn_310 {P : Nat → Nat → List Value → ee_W → Option (List Value × ee_W)} {d : Nat} {w : ee_W} {h : Nat} (hh : es_sh h = (18, 0)) (x0 : Int32) (x1 : Int32) : ee_run ee_B P (d + 1) 310 [.ref h, .int x0, .int x1] w = ee_fin (Option.some Jvm.ClassFile.FieldType.int) (ee_evS es_sh es_rf (ee_run ee_B P d) bd_310 0 [some (.ref h), some (.int x0), some (.int x1), none, none, none, none] w) := rn_gen (n := 7) mb_310 mf_310.1 mf_310.2.1 (ee_argok_i mf_310.2.2.1 mf_310.2.2.2.1 rfl hh mf_310.2.2.2.2) (Nat.le_of_ble_eq_true rfl)
theorem mb_309 : ee_B 309 = some bd_309 := rfl
set_option maxRecDepth 100000 in
theorem mf_309 : (es_m 309).2.1 = 2 ∧ (es_m 309).2.2.1 = (Option.some Jvm.ClassFile.FieldType.boolean) ∧ (es_m 309).2.2.2.1 = true ∧ ee_sig 309 = some 2 := by decide +kernel
/-- HeadServoModel.isWay -/
theorem rn_309 {P : Nat → Nat → List Value → ee_W → Option (List Value × ee_W)} {d : Nat} {w : ee_W} (x0 : Int32) (x1 : Int32) : ee_run ee_B P (d + 1) 309 [.int x0, .int x1] w = ee_fin (Option.some Jvm.ClassFile.FieldType.boolean) (ee_evS es_sh es_rf (ee_run ee_B P d) bd_309 0 [some (.int x0), some (.int x1)] w) := rn_gen (n := 2) mb_309 mf_309.1 mf_309.2.1 (ee_argok_s mf_309.2.2.1 mf_309.2.2.2 rfl) (Nat.le_of_ble_eq_true rfl)
theorem mb_308 : ee_B 308 = some bd_308 := rfl
set_option maxRecDepth 100000 in
theorem mf_308 : (es_m 308).2.1 = 3 ∧ (es_m 308).2.2.1 = (Option.some Jvm.ClassFile.FieldType.int) ∧ (es_m 308).2.2.2.1 = false ∧ ee_sig 308 = some 2 ∧ es_own 8 = (es_m 308).1.cls := by decide +kernel
/-- HeadServoModel.fewest -/
theorem rn_308 {P : Nat → Nat → List Value → ee_W → Option (List Value × ee_W)} {d : Nat} {w : ee_W} {h : Nat} (hh : es_sh h = (18, 0)) (x0 : Int32) (x1 : Int32) : ee_run ee_B P (d + 1) 308 [.ref h, .int x0, .int x1] w = ee_fin (Option.some Jvm.ClassFile.FieldType.int) (ee_evS es_sh es_rf (ee_run ee_B P d) bd_308 0 [some (.ref h), some (.int x0), some (.int x1)] w) := rn_gen (n := 3) mb_308 mf_308.1 mf_308.2.1 (ee_argok_i mf_308.2.2.1 mf_308.2.2.2.1 rfl hh mf_308.2.2.2.2) (Nat.le_of_ble_eq_true rfl)
theorem mb_313 : ee_B 313 = some bd_313 := rfl
set_option maxRecDepth 100000 in
theorem mf_313 : (es_m 313).2.1 = 9 ∧ (es_m 313).2.2.1 = (Option.some Jvm.ClassFile.FieldType.int) ∧ (es_m 313).2.2.2.1 = false ∧ ee_sig 313 = some 3 ∧ es_own 8 = (es_m 313).1.cls := by decide +kernel
/-- HeadServoModel.plan -/
theorem rn_313 {P : Nat → Nat → List Value → ee_W → Option (List Value × ee_W)} {d : Nat} {w : ee_W} {h : Nat} (hh : es_sh h = (18, 0)) (x0 : Int32) (x1 : Int32) (x2 : Int32) : ee_run ee_B P (d + 1) 313 [.ref h, .int x0, .int x1, .int x2] w = ee_fin (Option.some Jvm.ClassFile.FieldType.int) (ee_evS es_sh es_rf (ee_run ee_B P d) bd_313 0 [some (.ref h), some (.int x0), some (.int x1), some (.int x2), none, none, none, none, none] w) := rn_gen (n := 9) mb_313 mf_313.1 mf_313.2.1 (ee_argok_i mf_313.2.2.1 mf_313.2.2.2.1 rfl hh mf_313.2.2.2.2) (Nat.le_of_ble_eq_true rfl)
theorem mb_315 : ee_B 315 = some bd_315 := rfl
set_option maxRecDepth 100000 in
theorem mf_315 : (es_m 315).2.1 = 2 ∧ (es_m 315).2.2.1 = (Option.some Jvm.ClassFile.FieldType.boolean) ∧ (es_m 315).2.2.2.1 = true ∧ ee_sig 315 = some 2 := by decide +kernel
/-- HeadServoModel.isOff -/
theorem rn_315 {P : Nat → Nat → List Value → ee_W → Option (List Value × ee_W)} {d : Nat} {w : ee_W} (x0 : Int32) (x1 : Int32) : ee_run ee_B P (d + 1) 315 [.int x0, .int x1] w = ee_fin (Option.some Jvm.ClassFile.FieldType.boolean) (ee_evS es_sh es_rf (ee_run ee_B P d) bd_315 0 [some (.int x0), some (.int x1)] w) := rn_gen (n := 2) mb_315 mf_315.1 mf_315.2.1 (ee_argok_s mf_315.2.2.1 mf_315.2.2.2 rfl) (Nat.le_of_ble_eq_true rfl)
theorem mb_317 : ee_B 317 = some bd_317 := rfl
set_option maxRecDepth 100000 in
theorem mf_317 : (es_m 317).2.1 = 3 ∧ (es_m 317).2.2.1 = (Option.some Jvm.ClassFile.FieldType.int) ∧ (es_m 317).2.2.2.1 = true ∧ ee_sig 317 = some 3 := by decide +kernel
/-- HeadServoModel.oneTurn -/
theorem rn_317 {P : Nat → Nat → List Value → ee_W → Option (List Value × ee_W)} {d : Nat} {w : ee_W} (x0 : Int32) (x1 : Int32) (x2 : Int32) : ee_run ee_B P (d + 1) 317 [.int x0, .int x1, .int x2] w = ee_fin (Option.some Jvm.ClassFile.FieldType.int) (ee_evS es_sh es_rf (ee_run ee_B P d) bd_317 0 [some (.int x0), some (.int x1), some (.int x2)] w) := rn_gen (n := 3) mb_317 mf_317.1 mf_317.2.1 (ee_argok_s mf_317.2.2.1 mf_317.2.2.2 rfl) (Nat.le_of_ble_eq_true rfl)
theorem mb_316 : ee_B 316 = some bd_316 := rfl
set_option maxRecDepth 100000 in
theorem mf_316 : (es_m 316).2.1 = 5 ∧ (es_m 316).2.2.1 = (Option.some Jvm.ClassFile.FieldType.int) ∧ (es_m 316).2.2.2.1 = true ∧ ee_sig 316 = some 3 := by decide +kernel
/-- HeadServoModel.learntBy -/
theorem rn_316 {P : Nat → Nat → List Value → ee_W → Option (List Value × ee_W)} {d : Nat} {w : ee_W} (x0 : Int32) (x1 : Int32) (x2 : Int32) : ee_run ee_B P (d + 1) 316 [.int x0, .int x1, .int x2] w = ee_fin (Option.some Jvm.ClassFile.FieldType.int) (ee_evS es_sh es_rf (ee_run ee_B P d) bd_316 0 [some (.int x0), some (.int x1), some (.int x2), none, none] w) := rn_gen (n := 5) mb_316 mf_316.1 mf_316.2.1 (ee_argok_s mf_316.2.2.1 mf_316.2.2.2 rfl) (Nat.le_of_ble_eq_true rfl)
theorem mb_319 : ee_B 319 = some bd_319 := rfl
set_option maxRecDepth 100000 in
theorem mf_319 : (es_m 319).2.1 = 4 ∧ (es_m 319).2.2.1 = (Option.some Jvm.ClassFile.FieldType.int) ∧ (es_m 319).2.2.2.1 = true ∧ ee_sig 319 = some 2 := by decide +kernel
/-- HeadServoModel.restsBy -/
theorem rn_319 {P : Nat → Nat → List Value → ee_W → Option (List Value × ee_W)} {d : Nat} {w : ee_W} (x0 : Int32) (x1 : Int32) : ee_run ee_B P (d + 1) 319 [.int x0, .int x1] w = ee_fin (Option.some Jvm.ClassFile.FieldType.int) (ee_evS es_sh es_rf (ee_run ee_B P d) bd_319 0 [some (.int x0), some (.int x1), none, none] w) := rn_gen (n := 4) mb_319 mf_319.1 mf_319.2.1 (ee_argok_s mf_319.2.2.1 mf_319.2.2.2 rfl) (Nat.le_of_ble_eq_true rfl)
theorem mb_314 : ee_B 314 = some bd_314 := rfl
set_option maxRecDepth 100000 in
theorem mf_314 : (es_m 314).2.1 = 4 ∧ (es_m 314).2.2.1 = (Option.some Jvm.ClassFile.FieldType.int) ∧ (es_m 314).2.2.2.1 = false ∧ ee_sig 314 = some 3 ∧ es_own 8 = (es_m 314).1.cls := by decide +kernel
/-- HeadServoModel.learn -/
theorem rn_314 {P : Nat → Nat → List Value → ee_W → Option (List Value × ee_W)} {d : Nat} {w : ee_W} {h : Nat} (hh : es_sh h = (18, 0)) (x0 : Int32) (x1 : Int32) (x2 : Int32) : ee_run ee_B P (d + 1) 314 [.ref h, .int x0, .int x1, .int x2] w = ee_fin (Option.some Jvm.ClassFile.FieldType.int) (ee_evS es_sh es_rf (ee_run ee_B P d) bd_314 0 [some (.ref h), some (.int x0), some (.int x1), some (.int x2)] w) := rn_gen (n := 4) mb_314 mf_314.1 mf_314.2.1 (ee_argok_i mf_314.2.2.1 mf_314.2.2.2.1 rfl hh mf_314.2.2.2.2) (Nat.le_of_ble_eq_true rfl)
theorem mb_318 : ee_B 318 = some bd_318 := rfl
set_option maxRecDepth 100000 in
theorem mf_318 : (es_m 318).2.1 = 3 ∧ (es_m 318).2.2.1 = (Option.some Jvm.ClassFile.FieldType.int) ∧ (es_m 318).2.2.2.1 = false ∧ ee_sig 318 = some 2 ∧ es_own 8 = (es_m 318).1.cls := by decide +kernel
/-- HeadServoModel.rests -/
theorem rn_318 {P : Nat → Nat → List Value → ee_W → Option (List Value × ee_W)} {d : Nat} {w : ee_W} {h : Nat} (hh : es_sh h = (18, 0)) (x0 : Int32) (x1 : Int32) : ee_run ee_B P (d + 1) 318 [.ref h, .int x0, .int x1] w = ee_fin (Option.some Jvm.ClassFile.FieldType.int) (ee_evS es_sh es_rf (ee_run ee_B P d) bd_318 0 [some (.ref h), some (.int x0), some (.int x1)] w) := rn_gen (n := 3) mb_318 mf_318.1 mf_318.2.1 (ee_argok_i mf_318.2.2.1 mf_318.2.2.2.1 rfl hh mf_318.2.2.2.2) (Nat.le_of_ble_eq_true rfl)
theorem mb_320 : ee_B 320 = some bd_320 := rfl
set_option maxRecDepth 100000 in
theorem mf_320 : (es_m 320).2.1 = 7 ∧ (es_m 320).2.2.1 = (Option.some Jvm.ClassFile.FieldType.int) ∧ (es_m 320).2.2.2.1 = false ∧ ee_sig 320 = some 1 ∧ es_own 8 = (es_m 320).1.cls := by decide +kernel
/-- HeadServoModel.gain -/
theorem rn_320 {P : Nat → Nat → List Value → ee_W → Option (List Value × ee_W)} {d : Nat} {w : ee_W} {h : Nat} (hh : es_sh h = (18, 0)) (x0 : Int32) : ee_run ee_B P (d + 1) 320 [.ref h, .int x0] w = ee_fin (Option.some Jvm.ClassFile.FieldType.int) (ee_evS es_sh es_rf (ee_run ee_B P d) bd_320 0 [some (.ref h), some (.int x0), none, none, none, none, none] w) := rn_gen (n := 7) mb_320 mf_320.1 mf_320.2.1 (ee_argok_i mf_320.2.2.1 mf_320.2.2.2.1 rfl hh mf_320.2.2.2.2) (Nat.le_of_ble_eq_true rfl)
theorem mb_321 : ee_B 321 = some bd_321 := rfl
set_option maxRecDepth 100000 in
theorem mf_321 : (es_m 321).2.1 = 2 ∧ (es_m 321).2.2.1 = (Option.some Jvm.ClassFile.FieldType.int) ∧ (es_m 321).2.2.2.1 = false ∧ ee_sig 321 = some 1 ∧ es_own 8 = (es_m 321).1.cls := by decide +kernel
/-- HeadServoModel.request -/
theorem rn_321 {P : Nat → Nat → List Value → ee_W → Option (List Value × ee_W)} {d : Nat} {w : ee_W} {h : Nat} (hh : es_sh h = (18, 0)) (x0 : Int32) : ee_run ee_B P (d + 1) 321 [.ref h, .int x0] w = ee_fin (Option.some Jvm.ClassFile.FieldType.int) (ee_evS es_sh es_rf (ee_run ee_B P d) bd_321 0 [some (.ref h), some (.int x0)] w) := rn_gen (n := 2) mb_321 mf_321.1 mf_321.2.1 (ee_argok_i mf_321.2.2.1 mf_321.2.2.2.1 rfl hh mf_321.2.2.2.2) (Nat.le_of_ble_eq_true rfl)
theorem mb_324 : ee_B 324 = some bd_324 := rfl
set_option maxRecDepth 100000 in
theorem mf_324 : (es_m 324).2.1 = 4 ∧ (es_m 324).2.2.1 = (Option.none : Option Jvm.ClassFile.FieldType) ∧ (es_m 324).2.2.2.1 = false ∧ ee_sig 324 = some 2 ∧ es_own 8 = (es_m 324).1.cls := by decide +kernel
/-- HeadServoModel.swap -/
theorem rn_324 {P : Nat → Nat → List Value → ee_W → Option (List Value × ee_W)} {d : Nat} {w : ee_W} {h : Nat} (hh : es_sh h = (18, 0)) (x0 : Int32) (x1 : Int32) : ee_run ee_B P (d + 1) 324 [.ref h, .int x0, .int x1] w = ee_fin (Option.none : Option Jvm.ClassFile.FieldType) (ee_evS es_sh es_rf (ee_run ee_B P d) bd_324 0 [some (.ref h), some (.int x0), some (.int x1), none] w) := rn_gen (n := 4) mb_324 mf_324.1 mf_324.2.1 (ee_argok_i mf_324.2.2.1 mf_324.2.2.2.1 rfl hh mf_324.2.2.2.2) (Nat.le_of_ble_eq_true rfl)
theorem mb_323 : ee_B 323 = some bd_323 := rfl
set_option maxRecDepth 100000 in
theorem mf_323 : (es_m 323).2.1 = 3 ∧ (es_m 323).2.2.1 = (Option.none : Option Jvm.ClassFile.FieldType) ∧ (es_m 323).2.2.2.1 = false ∧ ee_sig 323 = some 0 ∧ es_own 8 = (es_m 323).1.cls := by decide +kernel
/-- HeadServoModel.layRow -/
theorem rn_323 {P : Nat → Nat → List Value → ee_W → Option (List Value × ee_W)} {d : Nat} {w : ee_W} {h : Nat} (hh : es_sh h = (18, 0)) : ee_run ee_B P (d + 1) 323 [.ref h] w = ee_fin (Option.none : Option Jvm.ClassFile.FieldType) (ee_evS es_sh es_rf (ee_run ee_B P d) bd_323 0 [some (.ref h), none, none] w) := rn_gen (n := 3) mb_323 mf_323.1 mf_323.2.1 (ee_argok_i mf_323.2.2.1 mf_323.2.2.2.1 rfl hh mf_323.2.2.2.2) (Nat.le_of_ble_eq_true rfl)
theorem mb_327 : ee_B 327 = some bd_327 := rfl
set_option maxRecDepth 100000 in
theorem mf_327 : (es_m 327).2.1 = 6 ∧ (es_m 327).2.2.1 = (Option.some Jvm.ClassFile.FieldType.boolean) ∧ (es_m 327).2.2.2.1 = false ∧ ee_sig 327 = some 1 ∧ es_own 8 = (es_m 327).1.cls := by decide +kernel
/-- HeadServoModel.isNextRow -/
theorem rn_327 {P : Nat → Nat → List Value → ee_W → Option (List Value × ee_W)} {d : Nat} {w : ee_W} {h : Nat} (hh : es_sh h = (18, 0)) (x0 : Int32) : ee_run ee_B P (d + 1) 327 [.ref h, .int x0] w = ee_fin (Option.some Jvm.ClassFile.FieldType.boolean) (ee_evS es_sh es_rf (ee_run ee_B P d) bd_327 0 [some (.ref h), some (.int x0), none, none, none, none] w) := rn_gen (n := 6) mb_327 mf_327.1 mf_327.2.1 (ee_argok_i mf_327.2.2.1 mf_327.2.2.2.1 rfl hh mf_327.2.2.2.2) (Nat.le_of_ble_eq_true rfl)
theorem mb_326 : ee_B 326 = some bd_326 := rfl
set_option maxRecDepth 100000 in
theorem mf_326 : (es_m 326).2.1 = 1 ∧ (es_m 326).2.2.1 = (Option.some Jvm.ClassFile.FieldType.int) ∧ (es_m 326).2.2.2.1 = false ∧ ee_sig 326 = some 0 ∧ es_own 8 = (es_m 326).1.cls := by decide +kernel
/-- HeadServoModel.trackNow -/
theorem rn_326 {P : Nat → Nat → List Value → ee_W → Option (List Value × ee_W)} {d : Nat} {w : ee_W} {h : Nat} (hh : es_sh h = (18, 0)) : ee_run ee_B P (d + 1) 326 [.ref h] w = ee_fin (Option.some Jvm.ClassFile.FieldType.int) (ee_evS es_sh es_rf (ee_run ee_B P d) bd_326 0 [some (.ref h)] w) := rn_gen (n := 1) mb_326 mf_326.1 mf_326.2.1 (ee_argok_i mf_326.2.2.1 mf_326.2.2.2.1 rfl hh mf_326.2.2.2.2) (Nat.le_of_ble_eq_true rfl)
theorem mb_325 : ee_B 325 = some bd_325 := rfl
set_option maxRecDepth 100000 in
theorem mf_325 : (es_m 325).2.1 = 4 ∧ (es_m 325).2.2.1 = (Option.some Jvm.ClassFile.FieldType.int) ∧ (es_m 325).2.2.2.1 = false ∧ ee_sig 325 = some 0 ∧ es_own 8 = (es_m 325).1.cls := by decide +kernel
/-- HeadServoModel.rowLength -/
theorem rn_325 {P : Nat → Nat → List Value → ee_W → Option (List Value × ee_W)} {d : Nat} {w : ee_W} {h : Nat} (hh : es_sh h = (18, 0)) : ee_run ee_B P (d + 1) 325 [.ref h] w = ee_fin (Option.some Jvm.ClassFile.FieldType.int) (ee_evS es_sh es_rf (ee_run ee_B P d) bd_325 0 [some (.ref h), none, none, none] w) := rn_gen (n := 4) mb_325 mf_325.1 mf_325.2.1 (ee_argok_i mf_325.2.2.1 mf_325.2.2.2.1 rfl hh mf_325.2.2.2.2) (Nat.le_of_ble_eq_true rfl)
theorem mb_322 : ee_B 322 = some bd_322 := rfl
set_option maxRecDepth 100000 in
theorem mf_322 : (es_m 322).2.1 = 5 ∧ (es_m 322).2.2.1 = (Option.some Jvm.ClassFile.FieldType.int) ∧ (es_m 322).2.2.2.1 = false ∧ ee_sig 322 = some 1 ∧ es_own 8 = (es_m 322).1.cls := by decide +kernel
/-- HeadServoModel.order -/
theorem rn_322 {P : Nat → Nat → List Value → ee_W → Option (List Value × ee_W)} {d : Nat} {w : ee_W} {h : Nat} (hh : es_sh h = (18, 0)) (x0 : Int32) : ee_run ee_B P (d + 1) 322 [.ref h, .int x0] w = ee_fin (Option.some Jvm.ClassFile.FieldType.int) (ee_evS es_sh es_rf (ee_run ee_B P d) bd_322 0 [some (.ref h), some (.int x0), none, none, none] w) := rn_gen (n := 5) mb_322 mf_322.1 mf_322.2.1 (ee_argok_i mf_322.2.2.1 mf_322.2.2.2.1 rfl hh mf_322.2.2.2.2) (Nat.le_of_ble_eq_true rfl)
theorem mb_328 : ee_B 328 = some bd_328 := rfl
set_option maxRecDepth 100000 in
theorem mf_328 : (es_m 328).2.1 = 7 ∧ (es_m 328).2.2.1 = (Option.some Jvm.ClassFile.FieldType.int) ∧ (es_m 328).2.2.2.1 = false ∧ ee_sig 328 = some 1 ∧ es_own 8 = (es_m 328).1.cls := by decide +kernel
/-- HeadServoModel.sweep -/
theorem rn_328 {P : Nat → Nat → List Value → ee_W → Option (List Value × ee_W)} {d : Nat} {w : ee_W} {h : Nat} (hh : es_sh h = (18, 0)) (x0 : Int32) : ee_run ee_B P (d + 1) 328 [.ref h, .int x0] w = ee_fin (Option.some Jvm.ClassFile.FieldType.int) (ee_evS es_sh es_rf (ee_run ee_B P d) bd_328 0 [some (.ref h), some (.int x0), none, none, none, none, none] w) := rn_gen (n := 7) mb_328 mf_328.1 mf_328.2.1 (ee_argok_i mf_328.2.2.1 mf_328.2.2.2.1 rfl hh mf_328.2.2.2.2) (Nat.le_of_ble_eq_true rfl)
theorem mb_329 : ee_B 329 = some bd_329 := rfl
set_option maxRecDepth 100000 in
theorem mf_329 : (es_m 329).2.1 = 7 ∧ (es_m 329).2.2.1 = (Option.some Jvm.ClassFile.FieldType.int) ∧ (es_m 329).2.2.2.1 = false ∧ ee_sig 329 = some 0 ∧ es_own 8 = (es_m 329).1.cls := by decide +kernel
/-- HeadServoModel.nearest -/
theorem rn_329 {P : Nat → Nat → List Value → ee_W → Option (List Value × ee_W)} {d : Nat} {w : ee_W} {h : Nat} (hh : es_sh h = (18, 0)) : ee_run ee_B P (d + 1) 329 [.ref h] w = ee_fin (Option.some Jvm.ClassFile.FieldType.int) (ee_evS es_sh es_rf (ee_run ee_B P d) bd_329 0 [some (.ref h), none, none, none, none, none, none] w) := rn_gen (n := 7) mb_329 mf_329.1 mf_329.2.1 (ee_argok_i mf_329.2.2.1 mf_329.2.2.2.1 rfl hh mf_329.2.2.2.2) (Nat.le_of_ble_eq_true rfl)
theorem mb_331 : ee_B 331 = some bd_331 := rfl
set_option maxRecDepth 100000 in
theorem mf_331 : (es_m 331).2.1 = 2 ∧ (es_m 331).2.2.1 = (Option.some Jvm.ClassFile.FieldType.int) ∧ (es_m 331).2.2.2.1 = false ∧ ee_sig 331 = some 1 ∧ es_own 8 = (es_m 331).1.cls := by decide +kernel
/-- HeadServoModel.leftOf -/
theorem rn_331 {P : Nat → Nat → List Value → ee_W → Option (List Value × ee_W)} {d : Nat} {w : ee_W} {h : Nat} (hh : es_sh h = (18, 0)) (x0 : Int32) : ee_run ee_B P (d + 1) 331 [.ref h, .int x0] w = ee_fin (Option.some Jvm.ClassFile.FieldType.int) (ee_evS es_sh es_rf (ee_run ee_B P d) bd_331 0 [some (.ref h), some (.int x0)] w) := rn_gen (n := 2) mb_331 mf_331.1 mf_331.2.1 (ee_argok_i mf_331.2.2.1 mf_331.2.2.2.1 rfl hh mf_331.2.2.2.2) (Nat.le_of_ble_eq_true rfl)
theorem mb_330 : ee_B 330 = some bd_330 := rfl
set_option maxRecDepth 100000 in
theorem mf_330 : (es_m 330).2.1 = 3 ∧ (es_m 330).2.2.1 = (Option.some Jvm.ClassFile.FieldType.int) ∧ (es_m 330).2.2.2.1 = false ∧ ee_sig 330 = some 0 ∧ es_own 8 = (es_m 330).1.cls := by decide +kernel
/-- HeadServoModel.steady -/
theorem rn_330 {P : Nat → Nat → List Value → ee_W → Option (List Value × ee_W)} {d : Nat} {w : ee_W} {h : Nat} (hh : es_sh h = (18, 0)) : ee_run ee_B P (d + 1) 330 [.ref h] w = ee_fin (Option.some Jvm.ClassFile.FieldType.int) (ee_evS es_sh es_rf (ee_run ee_B P d) bd_330 0 [some (.ref h), none, none] w) := rn_gen (n := 3) mb_330 mf_330.1 mf_330.2.1 (ee_argok_i mf_330.2.2.1 mf_330.2.2.2.1 rfl hh mf_330.2.2.2.2) (Nat.le_of_ble_eq_true rfl)
theorem mb_332 : ee_B 332 = some bd_332 := rfl
set_option maxRecDepth 100000 in
theorem mf_332 : (es_m 332).2.1 = 6 ∧ (es_m 332).2.2.1 = (Option.some Jvm.ClassFile.FieldType.int) ∧ (es_m 332).2.2.2.1 = false ∧ ee_sig 332 = some 1 ∧ es_own 8 = (es_m 332).1.cls := by decide +kernel
/-- HeadServoModel.spread -/
theorem rn_332 {P : Nat → Nat → List Value → ee_W → Option (List Value × ee_W)} {d : Nat} {w : ee_W} {h : Nat} (hh : es_sh h = (18, 0)) (x0 : Int32) : ee_run ee_B P (d + 1) 332 [.ref h, .int x0] w = ee_fin (Option.some Jvm.ClassFile.FieldType.int) (ee_evS es_sh es_rf (ee_run ee_B P d) bd_332 0 [some (.ref h), some (.int x0), none, none, none, none] w) := rn_gen (n := 6) mb_332 mf_332.1 mf_332.2.1 (ee_argok_i mf_332.2.2.1 mf_332.2.2.2.1 rfl hh mf_332.2.2.2.2) (Nat.le_of_ble_eq_true rfl)
theorem mb_333 : ee_B 333 = some bd_333 := rfl
set_option maxRecDepth 100000 in
theorem mf_333 : (es_m 333).2.1 = 3 ∧ (es_m 333).2.2.1 = (Option.some Jvm.ClassFile.FieldType.int) ∧ (es_m 333).2.2.2.1 = false ∧ ee_sig 333 = some 0 ∧ es_own 8 = (es_m 333).1.cls := by decide +kernel
/-- HeadServoModel.worst -/
theorem rn_333 {P : Nat → Nat → List Value → ee_W → Option (List Value × ee_W)} {d : Nat} {w : ee_W} {h : Nat} (hh : es_sh h = (18, 0)) : ee_run ee_B P (d + 1) 333 [.ref h] w = ee_fin (Option.some Jvm.ClassFile.FieldType.int) (ee_evS es_sh es_rf (ee_run ee_B P d) bd_333 0 [some (.ref h), none, none] w) := rn_gen (n := 3) mb_333 mf_333.1 mf_333.2.1 (ee_argok_i mf_333.2.2.1 mf_333.2.2.2.1 rfl hh mf_333.2.2.2.2) (Nat.le_of_ble_eq_true rfl)
theorem mb_335 : ee_B 335 = some bd_335 := rfl
set_option maxRecDepth 100000 in
theorem mf_335 : (es_m 335).2.1 = 10 ∧ (es_m 335).2.2.1 = (Option.some Jvm.ClassFile.FieldType.long) ∧ (es_m 335).2.2.2.1 = true ∧ ee_sig 335 = some 2 := by decide +kernel
/-- HeadServoModel.divisor -/
theorem rn_335 {P : Nat → Nat → List Value → ee_W → Option (List Value × ee_W)} {d : Nat} {w : ee_W} (x0 : Int64) (x1 : Int64) : ee_run ee_B P (d + 1) 335 [.long x0, .long x1] w = ee_fin (Option.some Jvm.ClassFile.FieldType.long) (ee_evS es_sh es_rf (ee_run ee_B P d) bd_335 0 [some (.long x0), none, some (.long x1), none, none, none, none, none, none, none] w) := rn_gen (n := 10) mb_335 mf_335.1 mf_335.2.1 (ee_argok_s mf_335.2.2.1 mf_335.2.2.2 rfl) (Nat.le_of_ble_eq_true rfl)
theorem mb_334 : ee_B 334 = some bd_334 := rfl
set_option maxRecDepth 100000 in
theorem mf_334 : (es_m 334).2.1 = 7 ∧ (es_m 334).2.2.1 = (Option.some Jvm.ClassFile.FieldType.long) ∧ (es_m 334).2.2.2.1 = false ∧ ee_sig 334 = some 1 ∧ es_own 8 = (es_m 334).1.cls := by decide +kernel
/-- HeadServoModel.mean -/
theorem rn_334 {P : Nat → Nat → List Value → ee_W → Option (List Value × ee_W)} {d : Nat} {w : ee_W} {h : Nat} (hh : es_sh h = (18, 0)) (x0 : Int32) : ee_run ee_B P (d + 1) 334 [.ref h, .int x0] w = ee_fin (Option.some Jvm.ClassFile.FieldType.long) (ee_evS es_sh es_rf (ee_run ee_B P d) bd_334 0 [some (.ref h), some (.int x0), none, none, none, none, none] w) := rn_gen (n := 7) mb_334 mf_334.1 mf_334.2.1 (ee_argok_i mf_334.2.2.1 mf_334.2.2.2.1 rfl hh mf_334.2.2.2.2) (Nat.le_of_ble_eq_true rfl)
theorem mb_337 : ee_B 337 = some bd_337 := rfl
set_option maxRecDepth 100000 in
theorem mf_337 : (es_m 337).2.1 = 7 ∧ (es_m 337).2.2.1 = (Option.some Jvm.ClassFile.FieldType.int) ∧ (es_m 337).2.2.2.1 = false ∧ ee_sig 337 = some 2 ∧ es_own 8 = (es_m 337).1.cls := by decide +kernel
/-- HeadServoModel.farthestFrom -/
theorem rn_337 {P : Nat → Nat → List Value → ee_W → Option (List Value × ee_W)} {d : Nat} {w : ee_W} {h : Nat} (hh : es_sh h = (18, 0)) (x0 : Int32) (x1 : Int32) : ee_run ee_B P (d + 1) 337 [.ref h, .int x0, .int x1] w = ee_fin (Option.some Jvm.ClassFile.FieldType.int) (ee_evS es_sh es_rf (ee_run ee_B P d) bd_337 0 [some (.ref h), some (.int x0), some (.int x1), none, none, none, none] w) := rn_gen (n := 7) mb_337 mf_337.1 mf_337.2.1 (ee_argok_i mf_337.2.2.1 mf_337.2.2.2.1 rfl hh mf_337.2.2.2.2) (Nat.le_of_ble_eq_true rfl)
theorem mb_336 : ee_B 336 = some bd_336 := rfl
set_option maxRecDepth 100000 in
theorem mf_336 : (es_m 336).2.1 = 5 ∧ (es_m 336).2.2.1 = (Option.some Jvm.ClassFile.FieldType.int) ∧ (es_m 336).2.2.2.1 = false ∧ ee_sig 336 = some 1 ∧ es_own 8 = (es_m 336).1.cls := by decide +kernel
/-- HeadServoModel.window -/
theorem rn_336 {P : Nat → Nat → List Value → ee_W → Option (List Value × ee_W)} {d : Nat} {w : ee_W} {h : Nat} (hh : es_sh h = (18, 0)) (x0 : Int32) : ee_run ee_B P (d + 1) 336 [.ref h, .int x0] w = ee_fin (Option.some Jvm.ClassFile.FieldType.int) (ee_evS es_sh es_rf (ee_run ee_B P d) bd_336 0 [some (.ref h), some (.int x0), none, none, none] w) := rn_gen (n := 5) mb_336 mf_336.1 mf_336.2.1 (ee_argok_i mf_336.2.2.1 mf_336.2.2.2.1 rfl hh mf_336.2.2.2.2) (Nat.le_of_ble_eq_true rfl)
theorem mb_338 : ee_B 338 = some bd_338 := rfl
set_option maxRecDepth 100000 in
theorem mf_338 : (es_m 338).2.1 = 5 ∧ (es_m 338).2.2.1 = (Option.some Jvm.ClassFile.FieldType.int) ∧ (es_m 338).2.2.2.1 = false ∧ ee_sig 338 = some 0 ∧ es_own 8 = (es_m 338).1.cls := by decide +kernel
/-- HeadServoModel.longest -/
theorem rn_338 {P : Nat → Nat → List Value → ee_W → Option (List Value × ee_W)} {d : Nat} {w : ee_W} {h : Nat} (hh : es_sh h = (18, 0)) : ee_run ee_B P (d + 1) 338 [.ref h] w = ee_fin (Option.some Jvm.ClassFile.FieldType.int) (ee_evS es_sh es_rf (ee_run ee_B P d) bd_338 0 [some (.ref h), none, none, none, none] w) := rn_gen (n := 5) mb_338 mf_338.1 mf_338.2.1 (ee_argok_i mf_338.2.2.1 mf_338.2.2.2.1 rfl hh mf_338.2.2.2.2) (Nat.le_of_ble_eq_true rfl)
theorem mb_339 : ee_B 339 = some bd_339 := rfl
set_option maxRecDepth 100000 in
theorem mf_339 : (es_m 339).2.1 = 3 ∧ (es_m 339).2.2.1 = (Option.some Jvm.ClassFile.FieldType.int) ∧ (es_m 339).2.2.2.1 = false ∧ ee_sig 339 = some 2 ∧ es_own 8 = (es_m 339).1.cls := by decide +kernel
/-- HeadServoModel.said -/
theorem rn_339 {P : Nat → Nat → List Value → ee_W → Option (List Value × ee_W)} {d : Nat} {w : ee_W} {h : Nat} (hh : es_sh h = (18, 0)) (x0 : Int32) (x1 : Int32) : ee_run ee_B P (d + 1) 339 [.ref h, .int x0, .int x1] w = ee_fin (Option.some Jvm.ClassFile.FieldType.int) (ee_evS es_sh es_rf (ee_run ee_B P d) bd_339 0 [some (.ref h), some (.int x0), some (.int x1)] w) := rn_gen (n := 3) mb_339 mf_339.1 mf_339.2.1 (ee_argok_i mf_339.2.2.1 mf_339.2.2.2.1 rfl hh mf_339.2.2.2.2) (Nat.le_of_ble_eq_true rfl)
theorem mb_340 : ee_B 340 = some bd_340 := rfl
set_option maxRecDepth 100000 in
theorem mf_340 : (es_m 340).2.1 = 5 ∧ (es_m 340).2.2.1 = (Option.some Jvm.ClassFile.FieldType.int) ∧ (es_m 340).2.2.2.1 = false ∧ ee_sig 340 = some 0 ∧ es_own 8 = (es_m 340).1.cls := by decide +kernel
/-- HeadServoModel.whose -/
theorem rn_340 {P : Nat → Nat → List Value → ee_W → Option (List Value × ee_W)} {d : Nat} {w : ee_W} {h : Nat} (hh : es_sh h = (18, 0)) : ee_run ee_B P (d + 1) 340 [.ref h] w = ee_fin (Option.some Jvm.ClassFile.FieldType.int) (ee_evS es_sh es_rf (ee_run ee_B P d) bd_340 0 [some (.ref h), none, none, none, none] w) := rn_gen (n := 5) mb_340 mf_340.1 mf_340.2.1 (ee_argok_i mf_340.2.2.1 mf_340.2.2.2.1 rfl hh mf_340.2.2.2.2) (Nat.le_of_ble_eq_true rfl)
theorem mb_341 : ee_B 341 = some bd_341 := rfl
set_option maxRecDepth 100000 in
theorem mf_341 : (es_m 341).2.1 = 1 ∧ (es_m 341).2.2.1 = (Option.some Jvm.ClassFile.FieldType.int) ∧ (es_m 341).2.2.2.1 = false ∧ ee_sig 341 = some 0 ∧ es_own 8 = (es_m 341).1.cls := by decide +kernel
/-- HeadServoModel.image -/
theorem rn_341 {P : Nat → Nat → List Value → ee_W → Option (List Value × ee_W)} {d : Nat} {w : ee_W} {h : Nat} (hh : es_sh h = (18, 0)) : ee_run ee_B P (d + 1) 341 [.ref h] w = ee_fin (Option.some Jvm.ClassFile.FieldType.int) (ee_evS es_sh es_rf (ee_run ee_B P d) bd_341 0 [some (.ref h)] w) := rn_gen (n := 1) mb_341 mf_341.1 mf_341.2.1 (ee_argok_i mf_341.2.2.1 mf_341.2.2.2.1 rfl hh mf_341.2.2.2.2) (Nat.le_of_ble_eq_true rfl)
theorem mb_342 : ee_B 342 = some bd_342 := rfl
set_option maxRecDepth 100000 in
theorem mf_342 : (es_m 342).2.1 = 1 ∧ (es_m 342).2.2.1 = (Option.some Jvm.ClassFile.FieldType.int) ∧ (es_m 342).2.2.2.1 = false ∧ ee_sig 342 = some 0 ∧ es_own 8 = (es_m 342).1.cls := by decide +kernel
/-- HeadServoModel.back -/
theorem rn_342 {P : Nat → Nat → List Value → ee_W → Option (List Value × ee_W)} {d : Nat} {w : ee_W} {h : Nat} (hh : es_sh h = (18, 0)) : ee_run ee_B P (d + 1) 342 [.ref h] w = ee_fin (Option.some Jvm.ClassFile.FieldType.int) (ee_evS es_sh es_rf (ee_run ee_B P d) bd_342 0 [some (.ref h)] w) := rn_gen (n := 1) mb_342 mf_342.1 mf_342.2.1 (ee_argok_i mf_342.2.2.1 mf_342.2.2.2.1 rfl hh mf_342.2.2.2.2) (Nat.le_of_ble_eq_true rfl)
theorem mb_343 : ee_B 343 = some bd_343 := rfl
set_option maxRecDepth 100000 in
theorem mf_343 : (es_m 343).2.1 = 2 ∧ (es_m 343).2.2.1 = (Option.some Jvm.ClassFile.FieldType.int) ∧ (es_m 343).2.2.2.1 = false ∧ ee_sig 343 = some 1 ∧ es_own 8 = (es_m 343).1.cls := by decide +kernel
/-- HeadServoModel.about -/
theorem rn_343 {P : Nat → Nat → List Value → ee_W → Option (List Value × ee_W)} {d : Nat} {w : ee_W} {h : Nat} (hh : es_sh h = (18, 0)) (x0 : Int32) : ee_run ee_B P (d + 1) 343 [.ref h, .int x0] w = ee_fin (Option.some Jvm.ClassFile.FieldType.int) (ee_evS es_sh es_rf (ee_run ee_B P d) bd_343 0 [some (.ref h), some (.int x0)] w) := rn_gen (n := 2) mb_343 mf_343.1 mf_343.2.1 (ee_argok_i mf_343.2.2.1 mf_343.2.2.2.1 rfl hh mf_343.2.2.2.2) (Nat.le_of_ble_eq_true rfl)
theorem mb_74 : ee_B 74 = some bd_74 := rfl
set_option maxRecDepth 100000 in
theorem mf_74 : (es_m 74).2.1 = 2 ∧ (es_m 74).2.2.1 = (Option.some Jvm.ClassFile.FieldType.int) ∧ (es_m 74).2.2.2.1 = true ∧ ee_sig 74 = some 2 := by decide +kernel
/-- java/lang/Math.max -/
theorem rn_74 {P : Nat → Nat → List Value → ee_W → Option (List Value × ee_W)} {d : Nat} {w : ee_W} (x0 : Int32) (x1 : Int32) : ee_run ee_B P (d + 1) 74 [.int x0, .int x1] w = ee_fin (Option.some Jvm.ClassFile.FieldType.int) (ee_evS es_sh es_rf (ee_run ee_B P d) bd_74 0 [some (.int x0), some (.int x1)] w) := rn_gen (n := 2) mb_74 mf_74.1 mf_74.2.1 (ee_argok_s mf_74.2.2.1 mf_74.2.2.2 rfl) (Nat.le_of_ble_eq_true rfl)
theorem mb_18 : ee_B 18 = some bd_18 := rfl
set_option maxRecDepth 100000 in
theorem mf_18 : (es_m 18).2.1 = 2 ∧ (es_m 18).2.2.1 = (Option.some Jvm.ClassFile.FieldType.int) ∧ (es_m 18).2.2.2.1 = true ∧ ee_sig 18 = some 2 := by decide +kernel
/-- java/lang/Math.min -/
theorem rn_18 {P : Nat → Nat → List Value → ee_W → Option (List Value × ee_W)} {d : Nat} {w : ee_W} (x0 : Int32) (x1 : Int32) : ee_run ee_B P (d + 1) 18 [.int x0, .int x1] w = ee_fin (Option.some Jvm.ClassFile.FieldType.int) (ee_evS es_sh es_rf (ee_run ee_B P d) bd_18 0 [some (.int x0), some (.int x1)] w) := rn_gen (n := 2) mb_18 mf_18.1 mf_18.2.1 (ee_argok_s mf_18.2.2.1 mf_18.2.2.2 rfl) (Nat.le_of_ble_eq_true rfl)
theorem mb_97 : ee_B 97 = some bd_97 := rfl
set_option maxRecDepth 100000 in
theorem mf_97 : (es_m 97).2.1 = 4 ∧ (es_m 97).2.2.1 = (Option.some Jvm.ClassFile.FieldType.long) ∧ (es_m 97).2.2.2.1 = true ∧ ee_sig 97 = some 2 := by decide +kernel
/-- java/lang/Math.max -/
theorem rn_97 {P : Nat → Nat → List Value → ee_W → Option (List Value × ee_W)} {d : Nat} {w : ee_W} (x0 : Int64) (x1 : Int64) : ee_run ee_B P (d + 1) 97 [.long x0, .long x1] w = ee_fin (Option.some Jvm.ClassFile.FieldType.long) (ee_evS es_sh es_rf (ee_run ee_B P d) bd_97 0 [some (.long x0), none, some (.long x1), none] w) := rn_gen (n := 4) mb_97 mf_97.1 mf_97.2.1 (ee_argok_s mf_97.2.2.1 mf_97.2.2.2 rfl) (Nat.le_of_ble_eq_true rfl)
theorem mb_96 : ee_B 96 = some bd_96 := rfl
set_option maxRecDepth 100000 in
theorem mf_96 : (es_m 96).2.1 = 4 ∧ (es_m 96).2.2.1 = (Option.some Jvm.ClassFile.FieldType.long) ∧ (es_m 96).2.2.2.1 = true ∧ ee_sig 96 = some 2 := by decide +kernel
/-- java/lang/Math.min -/
theorem rn_96 {P : Nat → Nat → List Value → ee_W → Option (List Value × ee_W)} {d : Nat} {w : ee_W} (x0 : Int64) (x1 : Int64) : ee_run ee_B P (d + 1) 96 [.long x0, .long x1] w = ee_fin (Option.some Jvm.ClassFile.FieldType.long) (ee_evS es_sh es_rf (ee_run ee_B P d) bd_96 0 [some (.long x0), none, some (.long x1), none] w) := rn_gen (n := 4) mb_96 mf_96.1 mf_96.2.1 (ee_argok_s mf_96.2.2.1 mf_96.2.2.2 rfl) (Nat.le_of_ble_eq_true rfl)
theorem mb_92 : ee_B 92 = some bd_92 := rfl
set_option maxRecDepth 100000 in
theorem mf_92 : (es_m 92).2.1 = 1 ∧ (es_m 92).2.2.1 = (Option.some Jvm.ClassFile.FieldType.int) ∧ (es_m 92).2.2.2.1 = true ∧ ee_sig 92 = some 1 := by decide +kernel
/-- java/lang/Math.abs -/
theorem rn_92 {P : Nat → Nat → List Value → ee_W → Option (List Value × ee_W)} {d : Nat} {w : ee_W} (x0 : Int32) : ee_run ee_B P (d + 1) 92 [.int x0] w = ee_fin (Option.some Jvm.ClassFile.FieldType.int) (ee_evS es_sh es_rf (ee_run ee_B P d) bd_92 0 [some (.int x0)] w) := rn_gen (n := 1) mb_92 mf_92.1 mf_92.2.1 (ee_argok_s mf_92.2.2.1 mf_92.2.2.2 rfl) (Nat.le_of_ble_eq_true rfl)
theorem mb_67 : ee_B 67 = some bd_67 := rfl
set_option maxRecDepth 100000 in
theorem mf_67 : (es_m 67).2.1 = 3 ∧ (es_m 67).2.2.1 = (Option.some Jvm.ClassFile.FieldType.int) ∧ (es_m 67).2.2.2.1 = true ∧ ee_sig 67 = some 2 := by decide +kernel
/-- java/lang/Math.floorMod -/
theorem rn_67 {P : Nat → Nat → List Value → ee_W → Option (List Value × ee_W)} {d : Nat} {w : ee_W} (x0 : Int32) (x1 : Int32) : ee_run ee_B P (d + 1) 67 [.int x0, .int x1] w = ee_fin (Option.some Jvm.ClassFile.FieldType.int) (ee_evS es_sh es_rf (ee_run ee_B P d) bd_67 0 [some (.int x0), some (.int x1), none] w) := rn_gen (n := 3) mb_67 mf_67.1 mf_67.2.1 (ee_argok_s mf_67.2.2.1 mf_67.2.2.2 rfl) (Nat.le_of_ble_eq_true rfl)
theorem mb_130 : ee_B 130 = some bd_130 := rfl
set_option maxRecDepth 100000 in
theorem mf_130 : (es_m 130).2.1 = 1 ∧ (es_m 130).2.2.1 = (Option.some Jvm.ClassFile.FieldType.int) ∧ (es_m 130).2.2.2.1 = true ∧ ee_sig 130 = some 1 := by decide +kernel
/-- java/lang/Integer.bitCount -/
theorem rn_130 {P : Nat → Nat → List Value → ee_W → Option (List Value × ee_W)} {d : Nat} {w : ee_W} (x0 : Int32) : ee_run ee_B P (d + 1) 130 [.int x0] w = ee_fin (Option.some Jvm.ClassFile.FieldType.int) (ee_evS es_sh es_rf (ee_run ee_B P d) bd_130 0 [some (.int x0)] w) := rn_gen (n := 1) mb_130 mf_130.1 mf_130.2.1 (ee_argok_s mf_130.2.2.1 mf_130.2.2.2 rfl) (Nat.le_of_ble_eq_true rfl)
