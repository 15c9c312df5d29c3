/-! what constructors make: tables, printed by wip/whole/gen/c3.py -/
/-- links of classes: own, place, class -/
def cn_N : List (Nat × Nat × Nat) := [(9, 7, 0), (0, 7, 1), (1, 9, 2), (1, 18, 6), (6, 9, 2), (0, 19, 7), (0, 25, 2), (0, 32, 4), (0, 39, 3), (0, 46, 5), (9, 10, 8)]
set_option maxRecDepth 100000 in
theorem cn_N_0 : Cond.classLink (es_own 9) 7 (es_own 0) ∈ es_big := es_big_a (pos := 1017) (by decide +kernel) (by decide +kernel)
set_option maxRecDepth 100000 in
theorem cn_N_1 : Cond.classLink (es_own 0) 7 (es_own 1) ∈ es_big := es_big_a (pos := 1025) (by decide +kernel) (by decide +kernel)
set_option maxRecDepth 100000 in
theorem cn_N_2 : Cond.classLink (es_own 1) 9 (es_own 2) ∈ es_big := es_big_a (pos := 1031) (by decide +kernel) (by decide +kernel)
set_option maxRecDepth 100000 in
theorem cn_N_3 : Cond.classLink (es_own 1) 18 (es_own 6) ∈ es_big := es_big_a (pos := 1090) (by decide +kernel) (by decide +kernel)
set_option maxRecDepth 100000 in
theorem cn_N_4 : Cond.classLink (es_own 6) 9 (es_own 2) ∈ es_big := es_big_a (pos := 1096) (by decide +kernel) (by decide +kernel)
set_option maxRecDepth 100000 in
theorem cn_N_5 : Cond.classLink (es_own 0) 19 (es_own 7) ∈ es_big := es_big_a (pos := 1155) (by decide +kernel) (by decide +kernel)
set_option maxRecDepth 100000 in
theorem cn_N_6 : Cond.classLink (es_own 0) 25 (es_own 2) ∈ es_big := es_big_a (pos := 1157) (by decide +kernel) (by decide +kernel)
set_option maxRecDepth 100000 in
theorem cn_N_7 : Cond.classLink (es_own 0) 32 (es_own 4) ∈ es_big := es_big_a (pos := 1159) (by decide +kernel) (by decide +kernel)
set_option maxRecDepth 100000 in
theorem cn_N_8 : Cond.classLink (es_own 0) 39 (es_own 3) ∈ es_big := es_big_a (pos := 1192) (by decide +kernel) (by decide +kernel)
set_option maxRecDepth 100000 in
theorem cn_N_9 : Cond.classLink (es_own 0) 46 (es_own 5) ∈ es_big := es_big_a (pos := 1205) (by decide +kernel) (by decide +kernel)
set_option maxRecDepth 100000 in
theorem cn_N_10 : Cond.classLink (es_own 9) 10 (es_own 8) ∈ es_big := es_big_a (pos := 5055) (by decide +kernel) (by decide +kernel)
set_option maxRecDepth 100000 in
theorem cn_I_0 : Cond.instantiable (es_own 0) (es_nf 0) ∈ es_big ∧ Cond.initialized (es_own 0) ∈ es_big := ⟨es_big_a (pos := 1018) (by decide +kernel) (by decide +kernel), es_big_a (pos := 1001) (by decide +kernel) (by decide +kernel)⟩
set_option maxRecDepth 100000 in
theorem cn_I_1 : Cond.instantiable (es_own 1) (es_nf 1) ∈ es_big ∧ Cond.initialized (es_own 1) ∈ es_big := ⟨es_big_a (pos := 1026) (by decide +kernel) (by decide +kernel), es_big_a (pos := 1002) (by decide +kernel) (by decide +kernel)⟩
set_option maxRecDepth 100000 in
theorem cn_I_2 : Cond.instantiable (es_own 2) (es_nf 2) ∈ es_big ∧ Cond.initialized (es_own 2) ∈ es_big := ⟨es_big_a (pos := 1032) (by decide +kernel) (by decide +kernel), es_big_a (pos := 1003) (by decide +kernel) (by decide +kernel)⟩
set_option maxRecDepth 100000 in
theorem cn_I_3 : Cond.instantiable (es_own 3) (es_nf 3) ∈ es_big ∧ Cond.initialized (es_own 3) ∈ es_big := ⟨es_big_a (pos := 1193) (by decide +kernel) (by decide +kernel), es_big_a (pos := 1006) (by decide +kernel) (by decide +kernel)⟩
set_option maxRecDepth 100000 in
theorem cn_I_4 : Cond.instantiable (es_own 4) (es_nf 4) ∈ es_big ∧ Cond.initialized (es_own 4) ∈ es_big := ⟨es_big_a (pos := 1160) (by decide +kernel) (by decide +kernel), es_big_a (pos := 1005) (by decide +kernel) (by decide +kernel)⟩
set_option maxRecDepth 100000 in
theorem cn_I_5 : Cond.instantiable (es_own 5) (es_nf 5) ∈ es_big ∧ Cond.initialized (es_own 5) ∈ es_big := ⟨es_big_a (pos := 1206) (by decide +kernel) (by decide +kernel), es_big_a (pos := 1007) (by decide +kernel) (by decide +kernel)⟩
set_option maxRecDepth 100000 in
theorem cn_I_6 : Cond.instantiable (es_own 6) (es_nf 6) ∈ es_big ∧ Cond.initialized (es_own 6) ∈ es_big := ⟨es_big_a (pos := 1091) (by decide +kernel) (by decide +kernel), es_big_a (pos := 1004) (by decide +kernel) (by decide +kernel)⟩
set_option maxRecDepth 100000 in
theorem cn_I_7 : Cond.instantiable (es_own 7) (es_nf 7) ∈ es_big ∧ Cond.initialized (es_own 7) ∈ es_big := ⟨es_big_a (pos := 1225) (by decide +kernel) (by decide +kernel), es_big_a (pos := 1008) (by decide +kernel) (by decide +kernel)⟩
set_option maxRecDepth 100000 in
theorem cn_I_8 : Cond.instantiable (es_own 8) (es_nf 8) ∈ es_big ∧ Cond.initialized (es_own 8) ∈ es_big := ⟨es_big_a (pos := 5056) (by decide +kernel) (by decide +kernel), es_big_a (pos := 1009) (by decide +kernel) (by decide +kernel)⟩
theorem cn_I : ∀ c, c < 9 → Cond.instantiable (es_own c) (es_nf c) ∈ es_big ∧ Cond.initialized (es_own c) ∈ es_big := by
  intro c h
  match c, h with
  | 0, _ => exact cn_I_0
  | 1, _ => exact cn_I_1
  | 2, _ => exact cn_I_2
  | 3, _ => exact cn_I_3
  | 4, _ => exact cn_I_4
  | 5, _ => exact cn_I_5
  | 6, _ => exact cn_I_6
  | 7, _ => exact cn_I_7
  | 8, _ => exact cn_I_8
theorem cn_N_ok : ∀ q ∈ cn_N, Cond.classLink (es_own q.1) q.2.1 (es_own q.2.2) ∈ es_big ∧ q.2.2 < 9 := List.forall_mem_cons.mpr ⟨⟨cn_N_0, by decide⟩ , List.forall_mem_cons.mpr ⟨⟨cn_N_1, by decide⟩ , List.forall_mem_cons.mpr ⟨⟨cn_N_2, by decide⟩ , List.forall_mem_cons.mpr ⟨⟨cn_N_3, by decide⟩ , List.forall_mem_cons.mpr ⟨⟨cn_N_4, by decide⟩ , List.forall_mem_cons.mpr ⟨⟨cn_N_5, by decide⟩ , List.forall_mem_cons.mpr ⟨⟨cn_N_6, by decide⟩ , List.forall_mem_cons.mpr ⟨⟨cn_N_7, by decide⟩ , List.forall_mem_cons.mpr ⟨⟨cn_N_8, by decide⟩ , List.forall_mem_cons.mpr ⟨⟨cn_N_9, by decide⟩ , List.forall_mem_cons.mpr ⟨⟨cn_N_10, by decide⟩, fun _ h => absurd h List.not_mem_nil⟩⟩⟩⟩⟩⟩⟩⟩⟩⟩⟩
set_option maxRecDepth 100000 in
theorem cn_A_0 : Cond.arrayClass .int ∈ es_big := es_big_a (pos := 1089) (by decide +kernel) (by decide +kernel)
set_option maxRecDepth 100000 in
theorem cn_A_1 : Cond.arrayClass .boolean ∈ es_big := es_big_a (pos := 5154) (by decide +kernel) (by decide +kernel)
set_option maxRecDepth 100000 in
theorem cn_A_2 : Cond.arrayClass .long ∈ es_big := es_big_a (pos := 5153) (by decide +kernel) (by decide +kernel)
/-- the constructors: method, own -/
def cn_M : List (Nat × Nat) := [(0, 0), (2, 1), (3, 2), (4, 6), (5, 4), (6, 3), (7, 5), (8, 7), (184, 8)]
def cn_mok (mi oc : Nat) : Prop := Cond.initialized (es_m mi).1.cls ∈ es_big ∧ Cond.instanceMethod (es_m mi).1 ∈ es_big ∧ plainFor (es_m mi).1 = true ∧ (es_m mi).1.name = "<init>" ∧ es_own oc = (es_m mi).1.cls ∧ (es_m mi).2.1 ≤ 2 ∧ 1 ≤ (es_m mi).2.1 ∧ (es_m mi).2.2.1 = none ∧ (parseMethodDescriptor (es_m mi).1.desc).map (fun d => d.parameters.length) = some 0 ∧ mi < es_M.length ∧ ((es_m mi).1.cls ≠ "java/lang/invoke/MethodHandle" ∧ (es_m mi).1.cls ≠ "java/lang/invoke/VarHandle")
set_option maxRecDepth 100000 in
theorem cn_M_0 : cn_mok 0 0 := ⟨es_big_a (pos := 1001) (by decide +kernel) (by decide +kernel), es_big_a (pos := 1020) (by decide +kernel) (by decide +kernel), by decide +kernel, by decide +kernel, by decide +kernel, by decide +kernel, by decide +kernel, rfl, by decide +kernel, by decide +kernel, by decide +kernel⟩
set_option maxRecDepth 100000 in
theorem cn_M_2 : cn_mok 2 1 := ⟨es_big_a (pos := 1002) (by decide +kernel) (by decide +kernel), es_big_a (pos := 1028) (by decide +kernel) (by decide +kernel), by decide +kernel, by decide +kernel, by decide +kernel, by decide +kernel, by decide +kernel, rfl, by decide +kernel, by decide +kernel, by decide +kernel⟩
set_option maxRecDepth 100000 in
theorem cn_M_3 : cn_mok 3 2 := ⟨es_big_a (pos := 1003) (by decide +kernel) (by decide +kernel), es_big_a (pos := 1034) (by decide +kernel) (by decide +kernel), by decide +kernel, by decide +kernel, by decide +kernel, by decide +kernel, by decide +kernel, rfl, by decide +kernel, by decide +kernel, by decide +kernel⟩
set_option maxRecDepth 100000 in
theorem cn_M_4 : cn_mok 4 6 := ⟨es_big_a (pos := 1004) (by decide +kernel) (by decide +kernel), es_big_a (pos := 1093) (by decide +kernel) (by decide +kernel), by decide +kernel, by decide +kernel, by decide +kernel, by decide +kernel, by decide +kernel, rfl, by decide +kernel, by decide +kernel, by decide +kernel⟩
set_option maxRecDepth 100000 in
theorem cn_M_5 : cn_mok 5 4 := ⟨es_big_a (pos := 1005) (by decide +kernel) (by decide +kernel), es_big_a (pos := 1162) (by decide +kernel) (by decide +kernel), by decide +kernel, by decide +kernel, by decide +kernel, by decide +kernel, by decide +kernel, rfl, by decide +kernel, by decide +kernel, by decide +kernel⟩
set_option maxRecDepth 100000 in
theorem cn_M_6 : cn_mok 6 3 := ⟨es_big_a (pos := 1006) (by decide +kernel) (by decide +kernel), es_big_a (pos := 1195) (by decide +kernel) (by decide +kernel), by decide +kernel, by decide +kernel, by decide +kernel, by decide +kernel, by decide +kernel, rfl, by decide +kernel, by decide +kernel, by decide +kernel⟩
set_option maxRecDepth 100000 in
theorem cn_M_7 : cn_mok 7 5 := ⟨es_big_a (pos := 1007) (by decide +kernel) (by decide +kernel), es_big_a (pos := 1208) (by decide +kernel) (by decide +kernel), by decide +kernel, by decide +kernel, by decide +kernel, by decide +kernel, by decide +kernel, rfl, by decide +kernel, by decide +kernel, by decide +kernel⟩
set_option maxRecDepth 100000 in
theorem cn_M_8 : cn_mok 8 7 := ⟨es_big_a (pos := 1008) (by decide +kernel) (by decide +kernel), es_big_a (pos := 1227) (by decide +kernel) (by decide +kernel), by decide +kernel, by decide +kernel, by decide +kernel, by decide +kernel, by decide +kernel, rfl, by decide +kernel, by decide +kernel, by decide +kernel⟩
set_option maxRecDepth 100000 in
theorem cn_M_184 : cn_mok 184 8 := ⟨es_big_a (pos := 1009) (by decide +kernel) (by decide +kernel), es_big_a (pos := 5058) (by decide +kernel) (by decide +kernel), by decide +kernel, by decide +kernel, by decide +kernel, by decide +kernel, by decide +kernel, rfl, by decide +kernel, by decide +kernel, by decide +kernel⟩
theorem cn_M_ok : ∀ q ∈ cn_M, cn_mok q.1 q.2 := List.forall_mem_cons.mpr ⟨cn_M_0 , List.forall_mem_cons.mpr ⟨cn_M_2 , List.forall_mem_cons.mpr ⟨cn_M_3 , List.forall_mem_cons.mpr ⟨cn_M_4 , List.forall_mem_cons.mpr ⟨cn_M_5 , List.forall_mem_cons.mpr ⟨cn_M_6 , List.forall_mem_cons.mpr ⟨cn_M_7 , List.forall_mem_cons.mpr ⟨cn_M_8 , List.forall_mem_cons.mpr ⟨cn_M_184, fun _ h => absurd h List.not_mem_nil⟩⟩⟩⟩⟩⟩⟩⟩⟩
set_option maxRecDepth 100000 in
theorem cn_O1 : Cond.instanceMethod Lib.objectInit ∈ es_big := es_big_a (pos := 1023) (by decide +kernel) (by decide +kernel)
set_option maxRecDepth 100000 in
theorem cn_O2 : Cond.code Lib.objectInit ⟨#[0xb1]⟩ 1 none ∈ es_big := es_big_a (pos := 1024) (by decide +kernel) (by decide +kernel)
theorem cn_O3 : (es_m 1).1 = Lib.objectInit := rfl
theorem es_m_codeL {mi : Nat} (hlt : mi < es_M.length) : Cond.code (es_m mi).1 (es_bytes (es_m mi).2.2.2.2) (es_m mi).2.1 (es_m mi).2.2.1 ∈ es_big := by
  have hm : es_m mi ∈ es_M := by
    unfold es_m
    rw [List.getD_eq_getElem?_getD, List.getElem?_eq_getElem hlt]
    exact List.getElem_mem hlt
  have h1 := List.all_eq_true.mp es_M_ok _ hm
  have h2 := List.all_eq_true.mp es_M_good _ hm
  simp only [Bool.and_eq_true] at h1
  have h3 := h1.1
  unfold es_isCode at h3
  unfold es_bytes
  split at h3
  · rename_i x b n r hv
    simp only [Bool.and_eq_true, decide_eq_true_eq] at h3
    obtain ⟨⟨e1, e2⟩, e3⟩ := h3
    rw [hv] at h2
    simp only at h2
    rw [← e1, ← e2, ← e3]
    exact es_big_of (List.mem_append_right _ (es_tb_mem (List.mem_of_getElem? hv))) h2
  · cases h3
theorem ee_goodL {mi : Nat} (h : mi < es_M.length) : GoodIn es_big (ee_mws mi) := by
  intro w hw
  unfold ee_mws at hw
  rcases List.mem_cons.mp hw with rfl | hw
  · exact es_big_good _ (es_m_codeL h)
  · exact es_big_good _ hw
/-- an object as it is made -/
def cn_def (c : Nat) : List Value := (List.range (es_nf c)).map (fun k => match es_fty c k with
  | 0 => .int 0
  | 1 => .long 0
  | 3 => .int 0
  | _ => .null)
set_option maxRecDepth 100000 in
theorem cn_def_ok : ∀ c, c < 9 → ∀ j, j < es_nf c → defaultValue (es_ty c j) = vp_V (cn_def c) j := by decide +kernel
set_option maxRecDepth 100000 in
theorem cn_own : ∀ c, c < 9 → ∀ j, j < es_nf c → (es_T c j).1 = es_own c := by decide +kernel
