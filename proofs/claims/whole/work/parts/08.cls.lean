/-! facts of the classes, printed by wip/whole/gen/emit08.py -/
set_option maxRecDepth 100000 in
theorem es_FL_good : es_FL.all (fun q => q.2.2.2.1 || goodWord (es_flw q)) = true := by decide +kernel
set_option maxRecDepth 100000 in
theorem es_ML_good : es_ML.all (fun q => q.2.2.2.1 || goodWord (es_mlw q)) = true := by decide +kernel
set_option maxRecDepth 100000 in
theorem es_CM_good : es_CM.all (fun q => goodWord (.initialized (es_m q.1).1.cls) && goodWord (.static (es_m q.1).1) && goodWord (.instanceMethod (es_m q.1).1) && goodWord (.selects (es_m q.1).1.cls (es_m q.1).1 (es_m q.1).1)) = true := by decide +kernel
set_option maxRecDepth 100000 in
theorem es_M_good : es_M.all (fun a => match (es_tb (a.2.2.2.2 / 1000))[a.2.2.2.2 % 1000]? with
  | some w => goodWord w
  | none => false) = true := by decide +kernel
set_option maxRecDepth 100000 in
theorem es_K_good : (es_KI.all (fun q => goodWord (.constant (es_own q.1) q.2.1 q.2.2.1)) && es_KL.all (fun q => goodWord (.constantLong (es_own q.1) q.2.1 q.2.2.1)) && es_AC.all (fun q => goodWord (.methodLink (es_own q.1) q.2.1 arraycopyName))) = true := by decide +kernel
theorem es_big_a {pos : Nat} {w : Cond} (h : es_at pos w = true) (hg : goodWord w = true) : w ∈ es_big := es_big_of (List.mem_append_right _ (es_at_mem h)) hg
set_option maxRecDepth 100000 in
theorem es_shL_len : es_shL.length = es_NC := by decide +kernel
def es_T (c : Nat) : u_T := match c with
  | 0 => es_T0
  | 1 => es_T1
  | 2 => es_T2
  | 3 => es_T3
  | 4 => es_T4
  | 5 => es_T5
  | 6 => es_T6
  | 7 => es_T7
  | _ => es_T8
def es_ty (c : Nat) : Nat → FieldType := match c with
  | 0 => es_ty0
  | 1 => es_ty1
  | 2 => es_ty2
  | 3 => es_ty3
  | 4 => es_ty4
  | 5 => es_ty5
  | 6 => es_ty6
  | 7 => es_ty7
  | _ => es_ty8
def es_LP : List (List Nat) := [[2047, 2049, 2051, 2053, 2055, 2057, 2059, 2061, 2063, 2065, 2067], [1132, 1134, 1136, 1138, 1140, 1142, 1144, 1146, 1148, 1150, 1152], [1064, 1066, 1068, 1070, 1072, 1074, 1076, 1078, 1080, 1082, 1084, 1086], [1200, 1202], [1175, 1177, 1179, 1181, 1183, 1185, 1187, 1189], [1216, 1218, 1220, 1222], [1103, 1105, 1107], [2015, 2017, 2019, 2021, 2023, 2025, 2027, 2029, 2031, 2033], [5094, 5096, 5098, 5100, 5102, 5104, 5106, 5108, 5110, 5112, 5114, 5116, 5118, 5120, 5122, 5124, 5126, 5128, 5130, 5132, 5134, 5136, 5138, 5140, 5142, 5144, 5146, 5148, 5150]]
theorem es_cl_at {c : Nat} (h : c < 9) : es_cl[c]? = some (es_own c, es_T c, es_nf c) := by
  match c, h with
  | 0, _ => rfl
  | 1, _ => rfl
  | 2, _ => rfl
  | 3, _ => rfl
  | 4, _ => rfl
  | 5, _ => rfl
  | 6, _ => rfl
  | 7, _ => rfl
  | 8, _ => rfl
set_option maxRecDepth 100000 in
theorem es_lay_ok : ∀ c, c < 9 → ∀ k, k < es_nf c → (es_at ((es_LP.getD c []).getD k 0) (u_lay (es_own c) (es_T c) k) && goodWord (u_lay (es_own c) (es_T c) k)) = true := by decide +kernel
theorem es_lay {c : Nat} (h : c < 9) : ∀ w ∈ u_ws (es_own c) (es_T c) (es_nf c), w ∈ es_big := by
  intro w hw
  obtain ⟨k, hk, rfl⟩ := List.mem_map.mp hw
  have h1 := es_lay_ok c h k (List.mem_range.mp hk)
  rw [Bool.and_eq_true] at h1
  exact es_big_t (es_at_mem h1.1) h1.2
set_option maxRecDepth 100000 in
theorem es_ty_ok : ∀ c, c < 9 → ∀ k, k < es_nf c → parseFieldDescriptor (es_T c k).2.2.1 = some (es_ty c k) := by decide +kernel
set_option maxRecDepth 100000 in
theorem es_nm_ok : ∀ c, c < 9 → ∀ a, a < es_nf c → ∀ b, b < es_nf c → a ≠ b → (es_T c a).2.1 ≠ (es_T c b).2.1 := by decide +kernel
set_option maxRecDepth 100000 in
theorem es_fin_ok : ∀ c, c < 9 → ∀ k, k < es_nf c → (es_fty c k = 0 → es_ty c k = .int ∧ (es_T c k).2.2.2 = false) ∧ (es_fty c k = 1 → es_ty c k = .long ∧ (es_T c k).2.2.2 = false) ∧ (es_fty c k = 3 → es_ty c k = .boolean ∧ (es_T c k).2.2.2 = false) := by decide +kernel
set_option maxRecDepth 100000 in
theorem es_sh_obj : ∀ h, h < es_NC → 10 ≤ (es_sh h).1 → (es_sh h).1 - 10 < 9 := by decide +kernel
set_option maxRecDepth 100000 in
theorem es_sh_arr : ∀ h, h < es_NC → (es_sh h).1 < 5 ∨ 10 ≤ (es_sh h).1 := by decide +kernel
theorem es_sh_out {h : Nat} (hh : es_NC ≤ h) : es_sh h = (8, 0) ∨ es_sh h = (9, 0) := by
  unfold es_sh
  by_cases e : h = es_NC + 1
  · exact Or.inl (if_pos e)
  · refine Or.inr ((if_neg e).trans ?_)
    rw [List.getD_eq_getElem?_getD, List.getElem?_eq_none (by rw [es_shL_len]; exact hh)]
    rfl
theorem es_sh_in {h : Nat} (hk : (es_sh h).1 < 8 ∨ 10 ≤ (es_sh h).1) : h < es_NC := by
  rcases Nat.lt_or_ge h es_NC with q | q
  · exact q
  · rcases es_sh_out q with e | e <;> rw [e] at hk <;> simp at hk
theorem es_sh_scr {h : Nat} (hk : (es_sh h).1 = 8) : h = es_NC + 1 := by
  rcases Nat.lt_or_ge h es_NC with q | q
  · have := es_sh_arr h q
    omega
  · unfold es_sh at hk
    by_cases e : h = es_NC + 1
    · exact e
    · rw [if_neg (by exact e), List.getD_eq_getElem?_getD, List.getElem?_eq_none (by rw [es_shL_len]; exact q)] at hk
      simp at hk
theorem es_fl_mem {oc idx : Nat} {f : Nat × Nat × (Nat × Nat × Nat) × Bool × Nat} (h : ee_fl oc idx = some f) : f.1 = oc ∧ f.2.1 = idx ∧ f ∈ es_FL ∧ (f.2.2.2.1 = false → es_flw f ∈ es_big) ∧ es_fty f.2.2.1.1 f.2.2.1.2.1 = f.2.2.1.2.2 ∧ f.2.2.1.2.1 < es_nf f.2.2.1.1 ∧ f.2.2.1.1 < 9 := by
  unfold ee_fl at h
  have h1 := List.find?_some h
  have h2 := List.mem_of_find?_eq_some h
  have h3 := List.all_eq_true.mp es_FL_ok f h2
  simp only [Bool.and_eq_true, beq_iff_eq, decide_eq_true_eq] at h1 h3
  refine ⟨h1.1, h1.2, h2, fun hn => es_big_a h3.1.1 (by have := List.all_eq_true.mp es_FL_good f h2; rw [hn] at this; exact this), h3.1.2, h3.2, ?_⟩
  · rcases Nat.lt_or_ge f.2.2.1.1 9 with q | q
    · exact q
    · have h4 := h3.2
      unfold es_nf at h4
      rw [List.getD_eq_getElem?_getD, List.getElem?_eq_none (by exact q)] at h4
      exact absurd h4 (Nat.not_lt_zero _)
theorem es_T_cl {c : Nat} (h : c < 9) : (es_cl.getD c ("", es_T0, 0)).2.1 = es_T c := by
  rw [List.getD_eq_getElem?_getD, es_cl_at h]
  rfl

set_option maxRecDepth 100000 in
theorem es_cp_1 : Cond.native arraycopyName ∈ es_big := es_big_a (pos := 3072) (by decide +kernel) (by decide +kernel)
set_option maxRecDepth 100000 in
theorem es_cp_2 : Cond.static arraycopyName ∈ es_big := es_big_a (pos := 3071) (by decide +kernel) (by decide +kernel)
set_option maxRecDepth 100000 in
theorem es_cp_3 : Cond.initialized "java/lang/System" ∈ es_big := es_big_a (pos := 1015) (by decide +kernel) (by decide +kernel)
section EO
variable {C : Nat → List Value → ee_W → Option (List Value × ee_W)} {cc : ByteArray} {oc : Nat} {G : ee_G} {pc : Nat} {env : ee_E} {st : List Value} {w : ee_W}
theorem ee_va_D {ad ca : Nat → Nat} {w : ee_W} {A : Nat → Prop} (hinj : ∀ i j, i < es_NC → j < es_NC → ad i = ad j → i = j) (hadA : ∀ h, h < es_NC → A (ad h)) : va_D A (ee_ws ad ca w) := by
  refine ⟨fun i j p q hp hq he => ?_, fun k q hk => ?_⟩
  · obtain ⟨h1, rfl⟩ := ee_ws_in hp
    obtain ⟨h2, rfl⟩ := ee_ws_in hq
    exact hinj i j h1 h2 he
  · obtain ⟨h1, rfl⟩ := ee_ws_in hk
    exact hadA k h1
theorem ee_cell_obj {ad ca : Nat → Nat} {w : ee_W} {h c : Nat} (hc : (es_sh h).1 = 10 + c) : ee_cell ad ca w h = .inr (c, (List.range (es_nf c)).map (fun k => ee_tr ad (ee_fld es_rf w h k (es_fty c k)))) := by
  unfold ee_cell
  rw [if_neg (by omega), hc, Nat.add_sub_cancel_left]
theorem en_get (X : ee_X C cc oc G) {idx h : Nat} {f : Nat × Nat × (Nat × Nat × Nat) × Bool × Nat} (hd : ee_dec cc pc = some (.getfield idx, 3)) (hf : ee_fl oc idx = some f) (hsh : (es_sh h).1 = 10 + f.2.2.1.1) (k : ee_Wn G (pc + 3) env (ee_fld es_rf w h f.2.2.1.2.1 f.2.2.1.2.2 :: st) w) : ee_Wn G pc env (.ref h :: st) w := by
  obtain ⟨p, l, e, R, s, m, args, below, meth, c, cells, slots, Q, D, ad, ca, adV, A, nL, sc, d, rfl, hx, hb, hml, hown, hts, hK, hinj, hadA, hAs, hStr, hSc, hHM, hR1, hR2, hc1, hc2⟩ := X
  intro H locs ls hP hS hl hw
  have hP : va_P D es_cl (ee_ws ad ca w) H := hP
  obtain ⟨f1, f2, fm, f3, f4, f5, f6⟩ := es_fl_mem hf
  have hh : h < es_NC := es_sh_in (Or.inr (by omega))
  have he := ee_ws_at (ad := ad) (ca := ca) (w := w) hh
  rw [ee_cell_obj hsh] at he
  have hk := k H locs ls hP hS hl hw
  have hv : ((List.range (es_nf f.2.2.1.1)).map (fun k => ee_tr ad (ee_fld es_rf w h k (es_fty f.2.2.1.1 k))))[f.2.2.1.2.1]? = some (ee_tr ad (ee_fld es_rf w h f.2.2.1.2.1 f.2.2.1.2.2)) := by
    rw [List.getElem?_map, List.getElem?_range f5, Option.map_some, f4]
  cases hn : f.2.2.2.1 with
  | true =>
    have hlk := va_Nw.use (A := args) (by unfold es_flw; rw [hn]; rfl) (hStr.2.2.1.1 f fm hn)
    unfold es_flw at hlk
    dsimp only at hlk
    rw [es_T_cl f6, hn, if_pos rfl, f1, f2] at hlk
    exact va_getN (T := es_T f.2.2.1.1) hx hb hts (es_lay f6) hown hK hP h he (es_cl_at f6) f.2.2.1.2.1 f5 hlk (fun _ z => z) hv (ee_dec_ok hd) hk
  | false =>
    have hlk := hts _ (f3 hn)
    unfold es_flw at hlk
    dsimp only at hlk
    rw [es_T_cl f6, hn, if_neg (by decide), f1, f2] at hlk
    exact va_get (T := es_T f.2.2.1.1) hx hb hts (es_lay f6) hown hK hP h he (es_cl_at f6) f.2.2.1.2.1 f5 hlk (fun _ z => z) hv (ee_dec_ok hd) hk
theorem ee_put_cell {ad ca : Nat → Nat} {w w' : ee_W} {h c k ty : Nat} {v : Value} (hc : (es_sh h).1 = 10 + c) (hty : es_fty c k = ty) (hp : ee_put w h k ty v = some w') : ee_cell ad ca w' h = .inr (c, ((List.range (es_nf c)).map (fun k => ee_tr ad (ee_fld es_rf w h k (es_fty c k)))).set k (ee_tr ad v)) := by
  rw [ee_cell_obj hc]
  congr 2
  apply List.ext_getElem?
  intro j
  by_cases e : j = k
  · subst e
    by_cases hj : j < es_nf c
    · rw [List.getElem?_set_self (by simpa using hj), List.getElem?_map, List.getElem?_range hj, Option.map_some, hty]
      congr 1
      unfold ee_put at hp
      split at hp
      · cases hp; simp [ee_fld, ee_wI, ee_up, ee_tr]
      · cases hp; simp [ee_fld, ee_wJ, ee_up, ee_tr]
      · split at hp
        · cases hp; simp [ee_fld, ee_wI, ee_up, ee_tr]
        · cases hp
      · cases hp
    · rw [List.getElem?_eq_none (by simp; omega), List.getElem?_eq_none (by simp; omega)]
  · rw [List.getElem?_set_ne (fun z => e z.symm), List.getElem?_map, List.getElem?_map]
    cases hr : (List.range (es_nf c))[j]? with
    | none => rfl
    | some q =>
      rw [Option.map_some, Option.map_some]
      have hq : q = j := by
        have := List.getElem?_eq_some_iff.mp hr
        obtain ⟨h1, h2⟩ := this
        rw [List.getElem_range] at h2
        exact h2.symm
      subst hq
      congr 2
      unfold ee_put at hp
      split at hp
      · cases hp; simp [ee_fld, ee_wI, ee_up, e]
      · cases hp; simp [ee_fld, ee_wJ, ee_up, e]
      · split at hp
        · cases hp; simp [ee_fld, ee_wI, ee_up, e]
        · cases hp
      · cases hp
theorem ee_put_other {ad ca : Nat → Nat} {w w' : ee_W} {h k ty : Nat} {v : Value} (hp : ee_put w h k ty v = some w') : w'.2.2 = w.2.2 ∧ ∀ h', h' ≠ h → ee_cell ad ca w' h' = ee_cell ad ca w h' := by
  have key : w'.2.2 = w.2.2 ∧ ∀ h', h' ≠ h → w'.1 h' = w.1 h' ∧ w'.2.1 h' = w.2.1 h' := by
    unfold ee_put at hp
    split at hp
    · cases hp; exact ⟨rfl, fun h' e => ⟨by funext j; simp [ee_wI, ee_up, e], rfl⟩⟩
    · cases hp; exact ⟨rfl, fun h' e => ⟨rfl, by funext j; simp [ee_wJ, ee_up, e]⟩⟩
    · split at hp
      · cases hp; exact ⟨rfl, fun h' e => ⟨by funext j; simp [ee_wI, ee_up, e], rfl⟩⟩
      · cases hp
    · cases hp
  refine ⟨key.1, fun h' e => ?_⟩
  obtain ⟨k1, k2⟩ := key.2 h' e
  have k3 : ∀ j ty, ee_fld es_rf w' h' j ty = ee_fld es_rf w h' j ty := by
    intro j ty
    unfold ee_fld
    rw [k1, k2]
  unfold ee_cell
  rw [k1, k2]
  simp only [k3]
theorem ee_put_ty {w w' : ee_W} {h k ty : Nat} {v : Value} (hp : ee_put w h k ty v = some w') (c : Nat) (hc : c < 9) (hk : k < es_nf c) (hty : es_fty c k = ty) (ad : Nat → Nat) : (es_T c k).2.2.2 = false ∧ narrow (es_ty c k) (ee_tr ad v) = ee_tr ad v ∧ fits (es_ty c k) (ee_tr ad v) = true := by
  obtain ⟨g0, g1, g3⟩ := es_fin_ok c hc k hk
  unfold ee_put at hp
  split at hp
  · obtain ⟨a, b⟩ := g0 hty
    exact ⟨b, by rw [a]; rfl, by rw [a]; rfl⟩
  · obtain ⟨a, b⟩ := g1 hty
    exact ⟨b, by rw [a]; rfl, by rw [a]; rfl⟩
  · obtain ⟨a, b⟩ := g3 hty
    split at hp
    · rename_i hx
      rcases hx with rfl | rfl
      · exact ⟨b, by rw [a]; rfl, by rw [a]; rfl⟩
      · exact ⟨b, by rw [a]; rfl, by rw [a]; rfl⟩
    · cases hp
  · cases hp
theorem en_put (X : ee_X C cc oc G) {idx h : Nat} {v : Value} {w' : ee_W} {f : Nat × Nat × (Nat × Nat × Nat) × Bool × Nat} (hd : ee_dec cc pc = some (.putfield idx, 3)) (hf : ee_fl oc idx = some f) (hsh : (es_sh h).1 = 10 + f.2.2.1.1) (hp : ee_put w h f.2.2.1.2.1 f.2.2.1.2.2 v = some w') (k : ee_Wn G (pc + 3) env st w') : ee_Wn G pc env (v :: .ref h :: st) w := by
  obtain ⟨p, l, e, R, s, m, args, below, meth, c, cells, slots, Q, D, ad, ca, adV, A, nL, sc, d, rfl, hx, hb, hml, hown, hts, hK, hinj, hadA, hAs, hStr, hSc, hHM, hR1, hR2, hc1, hc2⟩ := X
  intro H locs ls hP hS hl hw
  have hP : va_P D es_cl (ee_ws ad ca w) H := hP
  have hS : va_S A s.heap H locs := hS
  have hw : w.2.2 = sc := hw
  obtain ⟨f1, f2, fm, f3, f4, f5, f6⟩ := es_fl_mem hf
  have hh : h < es_NC := es_sh_in (Or.inr (by omega))
  have he := ee_ws_at (ad := ad) (ca := ca) (w := w) hh
  rw [ee_cell_obj hsh] at he
  obtain ⟨o1, o2⟩ := ee_put_other (ad := ad) (ca := ca) hp
  have hset := ee_ws_set (ad := ad) (ca := ca) (w := w) (w' := w') (ee_put_cell (ad := ad) (ca := ca) hsh f4 hp) o2
  obtain ⟨t1, t2, t3⟩ := ee_put_ty hp f.2.2.1.1 f6 f5 f4 ad
  have hlen : f.2.2.1.2.1 < ((List.range (es_nf f.2.2.1.1)).map (fun k => ee_tr ad (ee_fld es_rf w h k (es_fty f.2.2.1.1 k)))).length := by simpa using f5
  have kk : ∀ (H1 : Heap) (locs1 : List Loc), va_P D es_cl ((ee_ws ad ca w).set h (ad h, .inr (f.2.2.1.1, ((List.range (es_nf f.2.2.1.1)).map (fun k => ee_tr ad (ee_fld es_rf w h k (es_fty f.2.2.1.1 k)))).set f.2.2.1.2.1 (ee_tr ad v)))) H1 → va_D A ((ee_ws ad ca w).set h (ad h, .inr (f.2.2.1.1, ((List.range (es_nf f.2.2.1.1)).map (fun k => ee_tr ad (ee_fld es_rf w h k (es_fty f.2.2.1.1 k)))).set f.2.2.1.2.1 (ee_tr ad v)))) → va_S A s.heap H1 locs1 → W p l e R s m args below meth c H1 locs1 cells slots Q (F0 m (pc + 3) ls (st.map (ee_tr ad))) := by
    intro H1 locs1 q1 q2 q3
    rw [hset] at q1
    exact k H1 locs1 ls q1 q3 hl (o1.trans hw)
  cases hn : f.2.2.2.1 with
  | true =>
    have hlk := va_Nw.use (A := args) (by unfold es_flw; rw [hn]; rfl) (hStr.2.2.1.1 f fm hn)
    unfold es_flw at hlk
    dsimp only at hlk
    rw [es_T_cl f6, hn, if_pos rfl, f1, f2] at hlk
    exact va_putN (T := es_T f.2.2.1.1) hx hb hts (es_lay f6) (es_ty f.2.2.1.1) (es_ty_ok _ f6) (es_nm_ok _ f6) hown hK hP (ee_va_D hinj hadA) hS h he (es_cl_at f6) f.2.2.1.2.1 f5 hlk (fun _ z => z) t1 (es_ty_ok _ f6 _ f5) t2 t3 hlen (ee_dec_ok hd) kk
  | false =>
    have hlk := hts _ (f3 hn)
    unfold es_flw at hlk
    dsimp only at hlk
    rw [es_T_cl f6, hn, if_neg (by decide), f1, f2] at hlk
    exact va_put (T := es_T f.2.2.1.1) hx hb hts (es_lay f6) (es_ty f.2.2.1.1) (es_ty_ok _ f6) (es_nm_ok _ f6) hown hK hP (ee_va_D hinj hadA) hS h he (es_cl_at f6) f.2.2.1.2.1 f5 hlk (fun _ z => z) t1 (es_ty_ok _ f6 _ f5) t2 t3 hlen (ee_dec_ok hd) kk
end EO
