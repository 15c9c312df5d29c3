/-! the constructors' instructions, printed by wip/whole/gen/c6t.py -/
def cn_d0 : List (Nat × Instr × Nat) := [(0, .aload_n 0, 1), (1, .invokespecial 1, 3), (4, .aload_n 0, 1), (5, .new 7, 3), (8, .dup, 1), (9, .invokespecial 9, 3), (12, .putfield 10, 3), (15, .aload_n 0, 1), (16, .new 7, 3), (19, .dup, 1), (20, .invokespecial 9, 3), (23, .putfield 16, 3), (26, .aload_n 0, 1), (27, .iconst 4, 1), (28, .anewarray 19, 3), (31, .putfield 21, 3), (34, .aload_n 0, 1), (35, .new 25, 3), (38, .dup, 1), (39, .invokespecial 27, 3), (42, .putfield 28, 3), (45, .aload_n 0, 1), (46, .new 32, 3), (49, .dup, 1), (50, .invokespecial 34, 3), (53, .putfield 35, 3), (56, .aload_n 0, 1), (57, .new 39, 3), (60, .dup, 1), (61, .invokespecial 41, 3), (64, .putfield 42, 3), (67, .aload_n 0, 1), (68, .new 46, 3), (71, .dup, 1), (72, .invokespecial 48, 3), (75, .putfield 49, 3), (78, .aload_n 0, 1), (79, .sipush 610, 3), (82, .newarray .int, 2), (84, .putfield 53, 3), (87, .aload_n 0, 1), (88, .sipush 300, 3), (91, .newarray .int, 2), (93, .putfield 57, 3), (96, .aload_n 0, 1), (97, .iconst 0, 1), (98, .putfield 60, 3), (101, .aload_n 0, 1), (102, .iconst 0, 1), (103, .putfield 64, 3), (106, .iconst 0, 1), (107, .istore_n 1, 1), (108, .iload_n 1, 1), (109, .iconst 4, 1), (110, .if_icmp .ge (22), 3), (113, .aload_n 0, 1), (114, .getfield 21, 3), (117, .iload_n 1, 1), (118, .new 19, 3), (121, .dup, 1), (122, .invokespecial 68, 3), (125, .aastore, 1), (126, .iinc 1 1, 3), (129, .goto (-21), 3), (132, .return_, 1)]
def cn_f0 : List (Nat × (Nat × Nat × (Nat × Nat × Nat) × Bool × Nat)) := [(10, (0, 10, (0, 0, 2), false, 2036)), (16, (0, 16, (0, 1, 2), false, 2037)), (21, (0, 21, (0, 2, 2), false, 2038)), (28, (0, 28, (0, 3, 2), false, 2039)), (35, (0, 35, (0, 4, 2), false, 2040)), (42, (0, 42, (0, 5, 2), false, 2041)), (49, (0, 49, (0, 6, 2), false, 2042)), (53, (0, 53, (0, 7, 2), false, 2043)), (57, (0, 57, (0, 8, 2), false, 2044)), (60, (0, 60, (0, 9, 0), false, 2045)), (64, (0, 64, (0, 10, 3), false, 2046))]
def cn_l0 : List (Nat × (Nat × Nat × Nat × Bool × Nat)) := [(1, (0, 1, 1, false, 1022)), (9, (0, 9, 2, true, 1027)), (27, (0, 27, 3, true, 1158)), (34, (0, 34, 5, true, 1161)), (41, (0, 41, 6, true, 1194)), (48, (0, 48, 7, true, 1207)), (68, (0, 68, 8, true, 1226))]
def cn_d2 : List (Nat × Instr × Nat) := [(0, .aload_n 0, 1), (1, .invokespecial 3, 3), (4, .aload_n 0, 1), (5, .new 9, 3), (8, .dup, 1), (9, .invokespecial 11, 3), (12, .putfield 12, 3), (15, .aload_n 0, 1), (16, .new 18, 3), (19, .dup, 1), (20, .invokespecial 20, 3), (23, .putfield 21, 3), (26, .aload_n 0, 1), (27, .bipush 8, 2), (29, .newarray .int, 2), (31, .putfield 25, 3), (34, .aload_n 0, 1), (35, .iconst 0, 1), (36, .putfield 29, 3), (39, .aload_n 0, 1), (40, .iconst 0, 1), (41, .putfield 33, 3), (44, .aload_n 0, 1), (45, .iconst (-1), 1), (46, .putfield 36, 3), (49, .aload_n 0, 1), (50, .bipush 6, 2), (52, .newarray .int, 2), (54, .putfield 39, 3), (57, .aload_n 0, 1), (58, .iconst 0, 1), (59, .putfield 42, 3), (62, .aload_n 0, 1), (63, .bipush 8, 2), (65, .newarray .int, 2), (67, .putfield 45, 3), (70, .aload_n 0, 1), (71, .bipush 8, 2), (73, .newarray .int, 2), (75, .putfield 48, 3), (78, .aload_n 0, 1), (79, .iconst 0, 1), (80, .putfield 51, 3), (83, .return_, 1)]
def cn_f2 : List (Nat × (Nat × Nat × (Nat × Nat × Nat) × Bool × Nat)) := [(12, (1, 12, (1, 0, 2), false, 1110)), (21, (1, 21, (1, 1, 2), false, 1112)), (25, (1, 25, (1, 2, 2), false, 1114)), (29, (1, 29, (1, 3, 0), false, 1116)), (33, (1, 33, (1, 4, 0), false, 1118)), (36, (1, 36, (1, 5, 0), false, 1120)), (39, (1, 39, (1, 6, 2), false, 1122)), (42, (1, 42, (1, 7, 0), false, 1124)), (45, (1, 45, (1, 8, 2), false, 1126)), (48, (1, 48, (1, 9, 2), false, 1128)), (51, (1, 51, (1, 10, 0), false, 1130))]
def cn_l2 : List (Nat × (Nat × Nat × Nat × Bool × Nat)) := [(3, (1, 3, 1, false, 1030)), (11, (1, 11, 3, true, 1033)), (20, (1, 20, 4, true, 1092))]
def cn_d3 : List (Nat × Instr × Nat) := [(0, .aload_n 0, 1), (1, .invokespecial 3, 3), (4, .aload_n 0, 1), (5, .bipush 8, 2), (7, .putfield 9, 3), (10, .aload_n 0, 1), (11, .iconst 0, 1), (12, .putfield 15, 3), (15, .aload_n 0, 1), (16, .iconst 0, 1), (17, .putfield 18, 3), (20, .aload_n 0, 1), (21, .iconst 0, 1), (22, .putfield 21, 3), (25, .aload_n 0, 1), (26, .iconst 0, 1), (27, .putfield 24, 3), (30, .aload_n 0, 1), (31, .iconst 0, 1), (32, .putfield 27, 3), (35, .aload_n 0, 1), (36, .iconst 0, 1), (37, .putfield 30, 3), (40, .aload_n 0, 1), (41, .iconst 0, 1), (42, .putfield 33, 3), (45, .aload_n 0, 1), (46, .sipush 467, 3), (49, .putfield 36, 3), (52, .aload_n 0, 1), (53, .iconst 0, 1), (54, .putfield 39, 3), (57, .aload_n 0, 1), (58, .bipush 8, 2), (60, .newarray .int, 2), (62, .putfield 42, 3), (65, .aload_n 0, 1), (66, .bipush 75, 2), (68, .newarray .int, 2), (70, .putfield 46, 3), (73, .return_, 1)]
def cn_f3 : List (Nat × (Nat × Nat × (Nat × Nat × Nat) × Bool × Nat)) := [(9, (2, 9, (2, 0, 0), false, 1037)), (15, (2, 15, (2, 1, 0), false, 1039)), (18, (2, 18, (2, 2, 0), false, 1042)), (21, (2, 21, (2, 3, 0), false, 1045)), (24, (2, 24, (2, 4, 0), false, 1048)), (27, (2, 27, (2, 5, 0), false, 1051)), (30, (2, 30, (2, 6, 0), false, 1053)), (33, (2, 33, (2, 7, 0), false, 1055)), (36, (2, 36, (2, 8, 0), false, 1058)), (39, (2, 39, (2, 9, 0), false, 1060)), (42, (2, 42, (2, 10, 2), false, 1062)), (46, (2, 46, (2, 11, 2), false, 1063))]
def cn_l3 : List (Nat × (Nat × Nat × Nat × Bool × Nat)) := [(3, (2, 3, 1, false, 1036))]
def cn_d4 : List (Nat × Instr × Nat) := [(0, .aload_n 0, 1), (1, .invokespecial 3, 3), (4, .aload_n 0, 1), (5, .bipush 30, 2), (7, .anewarray 9, 3), (10, .putfield 11, 3), (13, .aload_n 0, 1), (14, .iconst 0, 1), (15, .putfield 17, 3), (18, .aload_n 0, 1), (19, .iconst 0, 1), (20, .putfield 21, 3), (23, .iconst 0, 1), (24, .istore_n 1, 1), (25, .iload_n 1, 1), (26, .bipush 30, 2), (28, .if_icmp .ge (22), 3), (31, .aload_n 0, 1), (32, .getfield 11, 3), (35, .iload_n 1, 1), (36, .new 9, 3), (39, .dup, 1), (40, .invokespecial 24, 3), (43, .aastore, 1), (44, .iinc 1 1, 3), (47, .goto (-22), 3), (50, .return_, 1)]
def cn_f4 : List (Nat × (Nat × Nat × (Nat × Nat × Nat) × Bool × Nat)) := [(11, (6, 11, (6, 0, 2), false, 1099)), (17, (6, 17, (6, 1, 0), false, 1100)), (21, (6, 21, (6, 2, 0), false, 1101))]
def cn_l4 : List (Nat × (Nat × Nat × Nat × Bool × Nat)) := [(3, (6, 3, 1, false, 1095)), (24, (6, 24, 3, true, 1098))]
def cn_d5 : List (Nat × Instr × Nat) := [(0, .aload_n 0, 1), (1, .invokespecial 3, 3), (4, .aload_n 0, 1), (5, .sipush 301, 3), (8, .newarray .int, 2), (10, .putfield 9, 3), (13, .aload_n 0, 1), (14, .sipush 301, 3), (17, .newarray .int, 2), (19, .putfield 15, 3), (22, .aload_n 0, 1), (23, .sipush 301, 3), (26, .newarray .int, 2), (28, .putfield 18, 3), (31, .aload_n 0, 1), (32, .iconst 0, 1), (33, .putfield 21, 3), (36, .aload_n 0, 1), (37, .iconst 0, 1), (38, .putfield 25, 3), (41, .aload_n 0, 1), (42, .iconst (-1), 1), (43, .putfield 28, 3), (46, .aload_n 0, 1), (47, .iconst 0, 1), (48, .putfield 31, 3), (51, .aload_n 0, 1), (52, .iconst (-1), 1), (53, .putfield 34, 3), (56, .return_, 1)]
def cn_f5 : List (Nat × (Nat × Nat × (Nat × Nat × Nat) × Bool × Nat)) := [(9, (4, 9, (4, 0, 2), false, 1165)), (15, (4, 15, (4, 1, 2), false, 1166)), (18, (4, 18, (4, 2, 2), false, 1167)), (21, (4, 21, (4, 3, 0), false, 1168)), (25, (4, 25, (4, 4, 0), false, 1169)), (28, (4, 28, (4, 5, 0), false, 1170)), (31, (4, 31, (4, 6, 0), false, 1171)), (34, (4, 34, (4, 7, 0), false, 1173))]
def cn_l5 : List (Nat × (Nat × Nat × Nat × Bool × Nat)) := [(3, (4, 3, 1, false, 1164))]
def cn_d6 : List (Nat × Instr × Nat) := [(0, .aload_n 0, 1), (1, .invokespecial 3, 3), (4, .aload_n 0, 1), (5, .bipush 64, 2), (7, .newarray .int, 2), (9, .putfield 9, 3), (12, .aload_n 0, 1), (13, .iconst 0, 1), (14, .putfield 15, 3), (17, .return_, 1)]
def cn_f6 : List (Nat × (Nat × Nat × (Nat × Nat × Nat) × Bool × Nat)) := [(9, (3, 9, (3, 0, 2), false, 1198)), (15, (3, 15, (3, 1, 0), false, 1199))]
def cn_l6 : List (Nat × (Nat × Nat × Nat × Bool × Nat)) := [(3, (3, 3, 1, false, 1197))]
def cn_d7 : List (Nat × Instr × Nat) := [(0, .aload_n 0, 1), (1, .invokespecial 3, 3), (4, .aload_n 0, 1), (5, .bipush 6, 2), (7, .newarray .int, 2), (9, .putfield 9, 3), (12, .aload_n 0, 1), (13, .bipush 6, 2), (15, .newarray .int, 2), (17, .putfield 15, 3), (20, .aload_n 0, 1), (21, .iconst 0, 1), (22, .putfield 18, 3), (25, .aload_n 0, 1), (26, .iconst 0, 1), (27, .putfield 22, 3), (30, .return_, 1)]
def cn_f7 : List (Nat × (Nat × Nat × (Nat × Nat × Nat) × Bool × Nat)) := [(9, (5, 9, (5, 0, 2), false, 1211)), (15, (5, 15, (5, 1, 2), false, 1212)), (18, (5, 18, (5, 2, 0), false, 1213)), (22, (5, 22, (5, 3, 0), false, 1214))]
def cn_l7 : List (Nat × (Nat × Nat × Nat × Bool × Nat)) := [(3, (5, 3, 1, false, 1210))]
def cn_d8 : List (Nat × Instr × Nat) := [(0, .aload_n 0, 1), (1, .invokespecial 3, 3), (4, .aload_n 0, 1), (5, .bipush 24, 2), (7, .newarray .int, 2), (9, .putfield 9, 3), (12, .aload_n 0, 1), (13, .bipush 24, 2), (15, .newarray .int, 2), (17, .putfield 15, 3), (20, .aload_n 0, 1), (21, .bipush 24, 2), (23, .newarray .int, 2), (25, .putfield 18, 3), (28, .aload_n 0, 1), (29, .iconst 0, 1), (30, .putfield 21, 3), (33, .aload_n 0, 1), (34, .sipush 300, 3), (37, .newarray .int, 2), (39, .putfield 25, 3), (42, .aload_n 0, 1), (43, .iconst 0, 1), (44, .putfield 28, 3), (47, .aload_n 0, 1), (48, .iconst (-1), 1), (49, .putfield 31, 3), (52, .aload_n 0, 1), (53, .iconst (-1), 1), (54, .putfield 34, 3), (57, .aload_n 0, 1), (58, .iconst (-1), 1), (59, .putfield 37, 3), (62, .aload_n 0, 1), (63, .iconst (-1), 1), (64, .putfield 40, 3), (67, .return_, 1)]
def cn_f8 : List (Nat × (Nat × Nat × (Nat × Nat × Nat) × Bool × Nat)) := [(9, (7, 9, (7, 0, 2), false, 1230)), (15, (7, 15, (7, 1, 2), false, 1232)), (18, (7, 18, (7, 2, 2), false, 1234)), (21, (7, 21, (7, 3, 0), false, 1236)), (25, (7, 25, (7, 4, 2), false, 1239)), (28, (7, 28, (7, 5, 0), false, 2001)), (31, (7, 31, (7, 6, 0), false, 2003)), (34, (7, 34, (7, 7, 0), false, 2006)), (37, (7, 37, (7, 8, 0), false, 2009)), (40, (7, 40, (7, 9, 0), false, 2012))]
def cn_l8 : List (Nat × (Nat × Nat × Nat × Bool × Nat)) := [(3, (7, 3, 1, false, 1229))]
def cn_d184 : List (Nat × Instr × Nat) := [(0, .aload_n 0, 1), (1, .invokespecial 1, 3), (4, .aload_n 0, 1), (5, .sipush 1369, 3), (8, .newarray .int, 2), (10, .putfield 7, 3), (13, .aload_n 0, 1), (14, .sipush 1369, 3), (17, .newarray .int, 2), (19, .putfield 13, 3), (22, .aload_n 0, 1), (23, .sipush 2724, 3), (26, .newarray .int, 2), (28, .putfield 16, 3), (31, .aload_n 0, 1), (32, .sipush 300, 3), (35, .newarray .int, 2), (37, .putfield 19, 3), (40, .aload_n 0, 1), (41, .iconst (-1), 1), (42, .putfield 22, 3), (45, .aload_n 0, 1), (46, .iconst (-1), 1), (47, .putfield 26, 3), (50, .aload_n 0, 1), (51, .sipush 160, 3), (54, .newarray .int, 2), (56, .putfield 29, 3), (59, .aload_n 0, 1), (60, .bipush 7, 2), (62, .newarray .int, 2), (64, .putfield 32, 3), (67, .aload_n 0, 1), (68, .sipush 330, 3), (71, .newarray .long, 2), (73, .putfield 35, 3), (76, .aload_n 0, 1), (77, .sipush 330, 3), (80, .newarray .boolean, 2), (82, .putfield 39, 3), (85, .aload_n 0, 1), (86, .iconst 1, 1), (87, .putfield 43, 3), (90, .aload_n 0, 1), (91, .bipush 18, 2), (93, .newarray .int, 2), (95, .putfield 47, 3), (98, .aload_n 0, 1), (99, .ldc 50, 2), (101, .newarray .boolean, 2), (103, .putfield 51, 3), (106, .aload_n 0, 1), (107, .bipush 6, 2), (109, .newarray .int, 2), (111, .putfield 54, 3), (114, .aload_n 0, 1), (115, .bipush 6, 2), (117, .newarray .int, 2), (119, .putfield 57, 3)]
def cn_f184 : List (Nat × (Nat × Nat × (Nat × Nat × Nat) × Bool × Nat)) := [(7, (8, 7, (8, 0, 2), false, 5065)), (13, (8, 13, (8, 1, 2), false, 5066)), (16, (8, 16, (8, 2, 2), false, 5067)), (19, (8, 19, (8, 3, 2), false, 5068)), (22, (8, 22, (8, 5, 0), false, 5070)), (26, (8, 26, (8, 6, 0), false, 5071)), (29, (8, 29, (8, 15, 2), false, 5080)), (32, (8, 32, (8, 20, 2), false, 5085)), (35, (8, 35, (8, 21, 2), false, 5086)), (39, (8, 39, (8, 22, 2), false, 5087)), (43, (8, 43, (8, 23, 3), false, 5088)), (47, (8, 47, (8, 24, 2), false, 5089)), (51, (8, 51, (8, 25, 2), false, 5090)), (54, (8, 54, (8, 27, 2), false, 5092)), (57, (8, 57, (8, 28, 2), false, 5093))]
def cn_l184 : List (Nat × (Nat × Nat × Nat × Bool × Nat)) := [(1, (8, 1, 1, false, 5060))]
def cn_dL (mi : Nat) : List (Nat × Instr × Nat) := match mi with
  | 0 => cn_d0
  | 2 => cn_d2
  | 3 => cn_d3
  | 4 => cn_d4
  | 5 => cn_d5
  | 6 => cn_d6
  | 7 => cn_d7
  | 8 => cn_d8
  | 184 => cn_d184
  | _ => []
def cn_fL (mi : Nat) : List (Nat × (Nat × Nat × (Nat × Nat × Nat) × Bool × Nat)) := match mi with
  | 0 => cn_f0
  | 2 => cn_f2
  | 3 => cn_f3
  | 4 => cn_f4
  | 5 => cn_f5
  | 6 => cn_f6
  | 7 => cn_f7
  | 8 => cn_f8
  | 184 => cn_f184
  | _ => []
def cn_lL (mi : Nat) : List (Nat × (Nat × Nat × Nat × Bool × Nat)) := match mi with
  | 0 => cn_l0
  | 2 => cn_l2
  | 3 => cn_l3
  | 4 => cn_l4
  | 5 => cn_l5
  | 6 => cn_l6
  | 7 => cn_l7
  | 8 => cn_l8
  | 184 => cn_l184
  | _ => []
def cn_lk {A : Type} (l : List (Nat × A)) (i : Nat) : Option A := (l.find? (fun r => r.1 == i)).map (fun r => r.2)
theorem cn_lk_ok {A : Type} {l : List (Nat × A)} {i : Nat} {a : A} (h : cn_lk l i = some a) : (i, a) ∈ l := by
  unfold cn_lk at h
  rw [Option.map_eq_some_iff] at h
  obtain ⟨r, h1, rfl⟩ := h
  have h2 := List.find?_some h1
  rw [beq_iff_eq] at h2
  rw [← h2]
  exact List.mem_of_find?_eq_some h1
def cn_fck (oc : Nat) (r : Nat × (Nat × Nat × (Nat × Nat × Nat) × Bool × Nat)) : Bool := match ee_fl oc r.1 with
  | some f => decide (f.1 = r.2.1) && (decide (f.2.1 = r.2.2.1) && (decide (f.2.2.1.1 = r.2.2.2.1.1) && (decide (f.2.2.1.2.1 = r.2.2.2.1.2.1) && (decide (f.2.2.1.2.2 = r.2.2.2.1.2.2) && (decide (f.2.2.2.1 = r.2.2.2.2.1) && decide (f.2.2.2.2 = r.2.2.2.2.2))))))
  | none => false
theorem cn_fck_ok {oc : Nat} {r : Nat × (Nat × Nat × (Nat × Nat × Nat) × Bool × Nat)} (h : cn_fck oc r = true) : ee_fl oc r.1 = some r.2 := by
  unfold cn_fck at h
  split at h
  · rename_i f hf
    simp only [Bool.and_eq_true, decide_eq_true_eq] at h
    obtain ⟨h1, h2, h3, h4, h5, h6, h7⟩ := h
    rw [hf]
    obtain ⟨f1, f2, ⟨f3, f4, f5⟩, f6, f7⟩ := f
    obtain ⟨r0, r1, r2, ⟨r3, r4, r5⟩, r6, r7⟩ := r
    dsimp only at h1 h2 h3 h4 h5 h6 h7
    subst h1 h2 h3 h4 h5 h6 h7
    rfl
  · cases h
set_option maxRecDepth 100000 in
theorem cn_d0_ok : ∀ r ∈ cn_d0, ee_dec prog_1_method_1_code r.1 = some r.2 := by decide +kernel
set_option maxRecDepth 100000 in
theorem cn_f0_all : cn_f0.all (cn_fck 0) = true := by decide +kernel
theorem cn_f0_ok (r : Nat × (Nat × Nat × (Nat × Nat × Nat) × Bool × Nat)) (h : r ∈ cn_f0) : ee_fl 0 r.1 = some r.2 := cn_fck_ok (List.all_eq_true.mp cn_f0_all r h)
theorem cn_dL0 : cn_dL 0 = cn_d0 := rfl
theorem cn_fL0 : cn_fL 0 = cn_f0 := rfl
theorem cn_lL0 : cn_lL 0 = cn_l0 := rfl
set_option maxRecDepth 100000 in
theorem cn_l0_ok : ∀ r ∈ cn_l0, ee_ml 0 r.1 = some r.2 := by decide +kernel
theorem cn_b0 : es_bytes (es_m 0).2.2.2.2 = prog_1_method_1_code := rfl
set_option maxRecDepth 100000 in
theorem cn_d2_ok : ∀ r ∈ cn_d2, ee_dec prog_2_method_1_code r.1 = some r.2 := by decide +kernel
set_option maxRecDepth 100000 in
theorem cn_f2_all : cn_f2.all (cn_fck 1) = true := by decide +kernel
theorem cn_f2_ok (r : Nat × (Nat × Nat × (Nat × Nat × Nat) × Bool × Nat)) (h : r ∈ cn_f2) : ee_fl 1 r.1 = some r.2 := cn_fck_ok (List.all_eq_true.mp cn_f2_all r h)
theorem cn_dL2 : cn_dL 2 = cn_d2 := rfl
theorem cn_fL2 : cn_fL 2 = cn_f2 := rfl
theorem cn_lL2 : cn_lL 2 = cn_l2 := rfl
set_option maxRecDepth 100000 in
theorem cn_l2_ok : ∀ r ∈ cn_l2, ee_ml 1 r.1 = some r.2 := by decide +kernel
theorem cn_b2 : es_bytes (es_m 2).2.2.2.2 = prog_2_method_1_code := rfl
set_option maxRecDepth 100000 in
theorem cn_d3_ok : ∀ r ∈ cn_d3, ee_dec prog_3_method_1_code r.1 = some r.2 := by decide +kernel
set_option maxRecDepth 100000 in
theorem cn_f3_all : cn_f3.all (cn_fck 2) = true := by decide +kernel
theorem cn_f3_ok (r : Nat × (Nat × Nat × (Nat × Nat × Nat) × Bool × Nat)) (h : r ∈ cn_f3) : ee_fl 2 r.1 = some r.2 := cn_fck_ok (List.all_eq_true.mp cn_f3_all r h)
theorem cn_dL3 : cn_dL 3 = cn_d3 := rfl
theorem cn_fL3 : cn_fL 3 = cn_f3 := rfl
theorem cn_lL3 : cn_lL 3 = cn_l3 := rfl
set_option maxRecDepth 100000 in
theorem cn_l3_ok : ∀ r ∈ cn_l3, ee_ml 2 r.1 = some r.2 := by decide +kernel
theorem cn_b3 : es_bytes (es_m 3).2.2.2.2 = prog_3_method_1_code := rfl
set_option maxRecDepth 100000 in
theorem cn_d4_ok : ∀ r ∈ cn_d4, ee_dec prog_7_method_1_code r.1 = some r.2 := by decide +kernel
set_option maxRecDepth 100000 in
theorem cn_f4_all : cn_f4.all (cn_fck 6) = true := by decide +kernel
theorem cn_f4_ok (r : Nat × (Nat × Nat × (Nat × Nat × Nat) × Bool × Nat)) (h : r ∈ cn_f4) : ee_fl 6 r.1 = some r.2 := cn_fck_ok (List.all_eq_true.mp cn_f4_all r h)
theorem cn_dL4 : cn_dL 4 = cn_d4 := rfl
theorem cn_fL4 : cn_fL 4 = cn_f4 := rfl
theorem cn_lL4 : cn_lL 4 = cn_l4 := rfl
set_option maxRecDepth 100000 in
theorem cn_l4_ok : ∀ r ∈ cn_l4, ee_ml 6 r.1 = some r.2 := by decide +kernel
theorem cn_b4 : es_bytes (es_m 4).2.2.2.2 = prog_7_method_1_code := rfl
set_option maxRecDepth 100000 in
theorem cn_d5_ok : ∀ r ∈ cn_d5, ee_dec prog_5_method_1_code r.1 = some r.2 := by decide +kernel
set_option maxRecDepth 100000 in
theorem cn_f5_all : cn_f5.all (cn_fck 4) = true := by decide +kernel
theorem cn_f5_ok (r : Nat × (Nat × Nat × (Nat × Nat × Nat) × Bool × Nat)) (h : r ∈ cn_f5) : ee_fl 4 r.1 = some r.2 := cn_fck_ok (List.all_eq_true.mp cn_f5_all r h)
theorem cn_dL5 : cn_dL 5 = cn_d5 := rfl
theorem cn_fL5 : cn_fL 5 = cn_f5 := rfl
theorem cn_lL5 : cn_lL 5 = cn_l5 := rfl
set_option maxRecDepth 100000 in
theorem cn_l5_ok : ∀ r ∈ cn_l5, ee_ml 4 r.1 = some r.2 := by decide +kernel
theorem cn_b5 : es_bytes (es_m 5).2.2.2.2 = prog_5_method_1_code := rfl
set_option maxRecDepth 100000 in
theorem cn_d6_ok : ∀ r ∈ cn_d6, ee_dec prog_4_method_1_code r.1 = some r.2 := by decide +kernel
set_option maxRecDepth 100000 in
theorem cn_f6_all : cn_f6.all (cn_fck 3) = true := by decide +kernel
theorem cn_f6_ok (r : Nat × (Nat × Nat × (Nat × Nat × Nat) × Bool × Nat)) (h : r ∈ cn_f6) : ee_fl 3 r.1 = some r.2 := cn_fck_ok (List.all_eq_true.mp cn_f6_all r h)
theorem cn_dL6 : cn_dL 6 = cn_d6 := rfl
theorem cn_fL6 : cn_fL 6 = cn_f6 := rfl
theorem cn_lL6 : cn_lL 6 = cn_l6 := rfl
set_option maxRecDepth 100000 in
theorem cn_l6_ok : ∀ r ∈ cn_l6, ee_ml 3 r.1 = some r.2 := by decide +kernel
theorem cn_b6 : es_bytes (es_m 6).2.2.2.2 = prog_4_method_1_code := rfl
set_option maxRecDepth 100000 in
theorem cn_d7_ok : ∀ r ∈ cn_d7, ee_dec prog_6_method_1_code r.1 = some r.2 := by decide +kernel
set_option maxRecDepth 100000 in
theorem cn_f7_all : cn_f7.all (cn_fck 5) = true := by decide +kernel
theorem cn_f7_ok (r : Nat × (Nat × Nat × (Nat × Nat × Nat) × Bool × Nat)) (h : r ∈ cn_f7) : ee_fl 5 r.1 = some r.2 := cn_fck_ok (List.all_eq_true.mp cn_f7_all r h)
theorem cn_dL7 : cn_dL 7 = cn_d7 := rfl
theorem cn_fL7 : cn_fL 7 = cn_f7 := rfl
theorem cn_lL7 : cn_lL 7 = cn_l7 := rfl
set_option maxRecDepth 100000 in
theorem cn_l7_ok : ∀ r ∈ cn_l7, ee_ml 5 r.1 = some r.2 := by decide +kernel
theorem cn_b7 : es_bytes (es_m 7).2.2.2.2 = prog_6_method_1_code := rfl
set_option maxRecDepth 100000 in
theorem cn_d8_ok : ∀ r ∈ cn_d8, ee_dec prog_8_method_1_code r.1 = some r.2 := by decide +kernel
set_option maxRecDepth 100000 in
theorem cn_f8_all : cn_f8.all (cn_fck 7) = true := by decide +kernel
theorem cn_f8_ok (r : Nat × (Nat × Nat × (Nat × Nat × Nat) × Bool × Nat)) (h : r ∈ cn_f8) : ee_fl 7 r.1 = some r.2 := cn_fck_ok (List.all_eq_true.mp cn_f8_all r h)
theorem cn_dL8 : cn_dL 8 = cn_d8 := rfl
theorem cn_fL8 : cn_fL 8 = cn_f8 := rfl
theorem cn_lL8 : cn_lL 8 = cn_l8 := rfl
set_option maxRecDepth 100000 in
theorem cn_l8_ok : ∀ r ∈ cn_l8, ee_ml 7 r.1 = some r.2 := by decide +kernel
theorem cn_b8 : es_bytes (es_m 8).2.2.2.2 = prog_8_method_1_code := rfl
set_option maxRecDepth 100000 in
theorem cn_d184_ok : ∀ r ∈ cn_d184, ee_dec prog_10_method_1_code r.1 = some r.2 := by decide +kernel
set_option maxRecDepth 100000 in
theorem cn_f184_all : cn_f184.all (cn_fck 8) = true := by decide +kernel
theorem cn_f184_ok (r : Nat × (Nat × Nat × (Nat × Nat × Nat) × Bool × Nat)) (h : r ∈ cn_f184) : ee_fl 8 r.1 = some r.2 := cn_fck_ok (List.all_eq_true.mp cn_f184_all r h)
theorem cn_dL184 : cn_dL 184 = cn_d184 := rfl
theorem cn_fL184 : cn_fL 184 = cn_f184 := rfl
theorem cn_lL184 : cn_lL 184 = cn_l184 := rfl
set_option maxRecDepth 100000 in
theorem cn_l184_ok : ∀ r ∈ cn_l184, ee_ml 8 r.1 = some r.2 := by decide +kernel
theorem cn_b184 : es_bytes (es_m 184).2.2.2.2 = prog_10_method_1_code := rfl
theorem cn_tabs {mi oc : Nat} (h : (mi, oc) ∈ cn_M) : (∀ pc x, cn_lk (cn_dL mi) pc = some x → ee_dec (es_bytes (es_m mi).2.2.2.2) pc = some x) ∧ (∀ i f, cn_lk (cn_fL mi) i = some f → ee_fl oc i = some f) ∧ (∀ i f, cn_lk (cn_lL mi) i = some f → ee_ml oc i = some f) := by
  simp only [cn_M, List.mem_cons, Prod.mk.injEq, List.mem_nil_iff, or_false] at h
  rcases h with ⟨rfl, rfl⟩ | ⟨rfl, rfl⟩ | ⟨rfl, rfl⟩ | ⟨rfl, rfl⟩ | ⟨rfl, rfl⟩ | ⟨rfl, rfl⟩ | ⟨rfl, rfl⟩ | ⟨rfl, rfl⟩ | ⟨rfl, rfl⟩
  · rw [cn_b0, cn_dL0, cn_fL0, cn_lL0]
    exact ⟨fun pc x h => cn_d0_ok (pc, x) (cn_lk_ok h), fun i f h => cn_f0_ok (i, f) (cn_lk_ok h), fun i f h => cn_l0_ok (i, f) (cn_lk_ok h)⟩
  · rw [cn_b2, cn_dL2, cn_fL2, cn_lL2]
    exact ⟨fun pc x h => cn_d2_ok (pc, x) (cn_lk_ok h), fun i f h => cn_f2_ok (i, f) (cn_lk_ok h), fun i f h => cn_l2_ok (i, f) (cn_lk_ok h)⟩
  · rw [cn_b3, cn_dL3, cn_fL3, cn_lL3]
    exact ⟨fun pc x h => cn_d3_ok (pc, x) (cn_lk_ok h), fun i f h => cn_f3_ok (i, f) (cn_lk_ok h), fun i f h => cn_l3_ok (i, f) (cn_lk_ok h)⟩
  · rw [cn_b4, cn_dL4, cn_fL4, cn_lL4]
    exact ⟨fun pc x h => cn_d4_ok (pc, x) (cn_lk_ok h), fun i f h => cn_f4_ok (i, f) (cn_lk_ok h), fun i f h => cn_l4_ok (i, f) (cn_lk_ok h)⟩
  · rw [cn_b5, cn_dL5, cn_fL5, cn_lL5]
    exact ⟨fun pc x h => cn_d5_ok (pc, x) (cn_lk_ok h), fun i f h => cn_f5_ok (i, f) (cn_lk_ok h), fun i f h => cn_l5_ok (i, f) (cn_lk_ok h)⟩
  · rw [cn_b6, cn_dL6, cn_fL6, cn_lL6]
    exact ⟨fun pc x h => cn_d6_ok (pc, x) (cn_lk_ok h), fun i f h => cn_f6_ok (i, f) (cn_lk_ok h), fun i f h => cn_l6_ok (i, f) (cn_lk_ok h)⟩
  · rw [cn_b7, cn_dL7, cn_fL7, cn_lL7]
    exact ⟨fun pc x h => cn_d7_ok (pc, x) (cn_lk_ok h), fun i f h => cn_f7_ok (i, f) (cn_lk_ok h), fun i f h => cn_l7_ok (i, f) (cn_lk_ok h)⟩
  · rw [cn_b8, cn_dL8, cn_fL8, cn_lL8]
    exact ⟨fun pc x h => cn_d8_ok (pc, x) (cn_lk_ok h), fun i f h => cn_f8_ok (i, f) (cn_lk_ok h), fun i f h => cn_l8_ok (i, f) (cn_lk_ok h)⟩
  · rw [cn_b184, cn_dL184, cn_fL184, cn_lL184]
    exact ⟨fun pc x h => cn_d184_ok (pc, x) (cn_lk_ok h), fun i f h => cn_f184_ok (i, f) (cn_lk_ok h), fun i f h => cn_l184_ok (i, f) (cn_lk_ok h)⟩
