/-! the reference's row -/
section MO
variable {P : Nat → Nat → List Value → ee_W → Option (List Value × ee_W)} {d : Nat} {w : ee_W} {X : HX} {z : Bool}
theorem tc_0 : (0 : Int32).toNatClampNeg = 0 := rfl
theorem ix_0 (n : Nat) : ee_ix (0 : Int32) n = decide (0 < n) := ixn (n := 0) (by omega)
theorem tc_1 : (1 : Int32).toNatClampNeg = 1 := rfl
theorem ix_1 (n : Nat) : ee_ix (1 : Int32) n = decide (1 < n) := ixn (n := 1) (by omega)
theorem tc_2 : (2 : Int32).toNatClampNeg = 2 := rfl
theorem ix_2 (n : Nat) : ee_ix (2 : Int32) n = decide (2 < n) := ixn (n := 2) (by omega)
theorem tc_3 : (3 : Int32).toNatClampNeg = 3 := rfl
theorem ix_3 (n : Nat) : ee_ix (3 : Int32) n = decide (3 < n) := ixn (n := 3) (by omega)
theorem tc_4 : (4 : Int32).toNatClampNeg = 4 := rfl
theorem ix_4 (n : Nat) : ee_ix (4 : Int32) n = decide (4 < n) := ixn (n := 4) (by omega)
theorem tc_5 : (5 : Int32).toNatClampNeg = 5 := rfl
theorem ix_5 (n : Nat) : ee_ix (5 : Int32) n = decide (5 < n) := ixn (n := 5) (by omega)
theorem tc_6 : (6 : Int32).toNatClampNeg = 6 := rfl
theorem ix_6 (n : Nat) : ee_ix (6 : Int32) n = decide (6 < n) := ixn (n := 6) (by omega)
theorem tc_7 : (7 : Int32).toNatClampNeg = 7 := rfl
theorem ix_7 (n : Nat) : ee_ix (7 : Int32) n = decide (7 < n) := ixn (n := 7) (by omega)
theorem tc_8 : (8 : Int32).toNatClampNeg = 8 := rfl
theorem ix_8 (n : Nat) : ee_ix (8 : Int32) n = decide (8 < n) := ixn (n := 8) (by omega)
theorem tc_9 : (9 : Int32).toNatClampNeg = 9 := rfl
theorem ix_9 (n : Nat) : ee_ix (9 : Int32) n = decide (9 < n) := ixn (n := 9) (by omega)
theorem tc_10 : (10 : Int32).toNatClampNeg = 10 := rfl
theorem ix_10 (n : Nat) : ee_ix (10 : Int32) n = decide (10 < n) := ixn (n := 10) (by omega)
theorem tc_11 : (11 : Int32).toNatClampNeg = 11 := rfl
theorem ix_11 (n : Nat) : ee_ix (11 : Int32) n = decide (11 < n) := ixn (n := 11) (by omega)
theorem tc_12 : (12 : Int32).toNatClampNeg = 12 := rfl
theorem ix_12 (n : Nat) : ee_ix (12 : Int32) n = decide (12 < n) := ixn (n := 12) (by omega)
theorem tc_13 : (13 : Int32).toNatClampNeg = 13 := rfl
theorem ix_13 (n : Nat) : ee_ix (13 : Int32) n = decide (13 < n) := ixn (n := 13) (by omega)
theorem tc_14 : (14 : Int32).toNatClampNeg = 14 := rfl
theorem ix_14 (n : Nat) : ee_ix (14 : Int32) n = decide (14 < n) := ixn (n := 14) (by omega)
theorem tc_15 : (15 : Int32).toNatClampNeg = 15 := rfl
theorem ix_15 (n : Nat) : ee_ix (15 : Int32) n = decide (15 < n) := ixn (n := 15) (by omega)
theorem tc_16 : (16 : Int32).toNatClampNeg = 16 := rfl
theorem ix_16 (n : Nat) : ee_ix (16 : Int32) n = decide (16 < n) := ixn (n := 16) (by omega)
theorem tc_17 : (17 : Int32).toNatClampNeg = 17 := rfl
theorem ix_17 (n : Nat) : ee_ix (17 : Int32) n = decide (17 < n) := ixn (n := 17) (by omega)
theorem tc_18 : (18 : Int32).toNatClampNeg = 18 := rfl
theorem ix_18 (n : Nat) : ee_ix (18 : Int32) n = decide (18 < n) := ixn (n := 18) (by omega)
theorem tc_20 : (20 : Int32).toNatClampNeg = 20 := rfl
theorem ix_20 (n : Nat) : ee_ix (20 : Int32) n = decide (20 < n) := ixn (n := 20) (by omega)
theorem tc_21 : (21 : Int32).toNatClampNeg = 21 := rfl
theorem ix_21 (n : Nat) : ee_ix (21 : Int32) n = decide (21 < n) := ixn (n := 21) (by omega)
theorem tc_22 : (22 : Int32).toNatClampNeg = 22 := rfl
theorem ix_22 (n : Nat) : ee_ix (22 : Int32) n = decide (22 < n) := ixn (n := 22) (by omega)
theorem tc_23 : (23 : Int32).toNatClampNeg = 23 := rfl
theorem ix_23 (n : Nat) : ee_ix (23 : Int32) n = decide (23 < n) := ixn (n := 23) (by omega)
theorem tc_24 : (24 : Int32).toNatClampNeg = 24 := rfl
theorem ix_24 (n : Nat) : ee_ix (24 : Int32) n = decide (24 < n) := ixn (n := 24) (by omega)
theorem tc_25 : (25 : Int32).toNatClampNeg = 25 := rfl
theorem ix_25 (n : Nat) : ee_ix (25 : Int32) n = decide (25 < n) := ixn (n := 25) (by omega)
theorem tc_26 : (26 : Int32).toNatClampNeg = 26 := rfl
theorem ix_26 (n : Nat) : ee_ix (26 : Int32) n = decide (26 < n) := ixn (n := 26) (by omega)
theorem tc_27 : (27 : Int32).toNatClampNeg = 27 := rfl
theorem ix_27 (n : Nat) : ee_ix (27 : Int32) n = decide (27 < n) := ixn (n := 27) (by omega)
theorem tc_28 : (28 : Int32).toNatClampNeg = 28 := rfl
theorem ix_28 (n : Nat) : ee_ix (28 : Int32) n = decide (28 < n) := ixn (n := 28) (by omega)
theorem tc_29 : (29 : Int32).toNatClampNeg = 29 := rfl
theorem ix_29 (n : Nat) : ee_ix (29 : Int32) n = decide (29 < n) := ixn (n := 29) (by omega)
theorem tc_30 : (30 : Int32).toNatClampNeg = 30 := rfl
theorem ix_30 (n : Nat) : ee_ix (30 : Int32) n = decide (30 < n) := ixn (n := 30) (by omega)
theorem tc_31 : (31 : Int32).toNatClampNeg = 31 := rfl
theorem ix_31 (n : Nat) : ee_ix (31 : Int32) n = decide (31 < n) := ixn (n := 31) (by omega)
theorem tc_32 : (32 : Int32).toNatClampNeg = 32 := rfl
theorem ix_32 (n : Nat) : ee_ix (32 : Int32) n = decide (32 < n) := ixn (n := 32) (by omega)
theorem tc_33 : (33 : Int32).toNatClampNeg = 33 := rfl
theorem ix_33 (n : Nat) : ee_ix (33 : Int32) n = decide (33 < n) := ixn (n := 33) (by omega)
theorem tc_34 : (34 : Int32).toNatClampNeg = 34 := rfl
theorem ix_34 (n : Nat) : ee_ix (34 : Int32) n = decide (34 < n) := ixn (n := 34) (by omega)
theorem tc_35 : (35 : Int32).toNatClampNeg = 35 := rfl
theorem ix_35 (n : Nat) : ee_ix (35 : Int32) n = decide (35 < n) := ixn (n := 35) (by omega)
theorem tc_36 : (36 : Int32).toNatClampNeg = 36 := rfl
theorem ix_36 (n : Nat) : ee_ix (36 : Int32) n = decide (36 < n) := ixn (n := 36) (by omega)
theorem tc_37 : (37 : Int32).toNatClampNeg = 37 := rfl
theorem ix_37 (n : Nat) : ee_ix (37 : Int32) n = decide (37 < n) := ixn (n := 37) (by omega)
theorem tc_38 : (38 : Int32).toNatClampNeg = 38 := rfl
theorem ix_38 (n : Nat) : ee_ix (38 : Int32) n = decide (38 < n) := ixn (n := 38) (by omega)
theorem tc_39 : (39 : Int32).toNatClampNeg = 39 := rfl
theorem ix_39 (n : Nat) : ee_ix (39 : Int32) n = decide (39 < n) := ixn (n := 39) (by omega)
theorem tc_40 : (40 : Int32).toNatClampNeg = 40 := rfl
theorem ix_40 (n : Nat) : ee_ix (40 : Int32) n = decide (40 < n) := ixn (n := 40) (by omega)
theorem tc_41 : (41 : Int32).toNatClampNeg = 41 := rfl
theorem ix_41 (n : Nat) : ee_ix (41 : Int32) n = decide (41 < n) := ixn (n := 41) (by omega)
theorem tc_42 : (42 : Int32).toNatClampNeg = 42 := rfl
theorem ix_42 (n : Nat) : ee_ix (42 : Int32) n = decide (42 < n) := ixn (n := 42) (by omega)
theorem tc_43 : (43 : Int32).toNatClampNeg = 43 := rfl
theorem ix_43 (n : Nat) : ee_ix (43 : Int32) n = decide (43 < n) := ixn (n := 43) (by omega)
theorem tc_45 : (45 : Int32).toNatClampNeg = 45 := rfl
theorem ix_45 (n : Nat) : ee_ix (45 : Int32) n = decide (45 < n) := ixn (n := 45) (by omega)
theorem tc_47 : (47 : Int32).toNatClampNeg = 47 := rfl
theorem ix_47 (n : Nat) : ee_ix (47 : Int32) n = decide (47 < n) := ixn (n := 47) (by omega)
theorem tc_48 : (48 : Int32).toNatClampNeg = 48 := rfl
theorem ix_48 (n : Nat) : ee_ix (48 : Int32) n = decide (48 < n) := ixn (n := 48) (by omega)
theorem tc_54 : (54 : Int32).toNatClampNeg = 54 := rfl
theorem ix_54 (n : Nat) : ee_ix (54 : Int32) n = decide (54 < n) := ixn (n := 54) (by omega)
theorem tc_57 : (57 : Int32).toNatClampNeg = 57 := rfl
theorem ix_57 (n : Nat) : ee_ix (57 : Int32) n = decide (57 < n) := ixn (n := 57) (by omega)
theorem tc_59 : (59 : Int32).toNatClampNeg = 59 := rfl
theorem ix_59 (n : Nat) : ee_ix (59 : Int32) n = decide (59 < n) := ixn (n := 59) (by omega)
theorem tc_60 : (60 : Int32).toNatClampNeg = 60 := rfl
theorem ix_60 (n : Nat) : ee_ix (60 : Int32) n = decide (60 < n) := ixn (n := 60) (by omega)
theorem tc_61 : (61 : Int32).toNatClampNeg = 61 := rfl
theorem ix_61 (n : Nat) : ee_ix (61 : Int32) n = decide (61 < n) := ixn (n := 61) (by omega)
theorem tc_62 : (62 : Int32).toNatClampNeg = 62 := rfl
theorem ix_62 (n : Nat) : ee_ix (62 : Int32) n = decide (62 < n) := ixn (n := 62) (by omega)
theorem tc_63 : (63 : Int32).toNatClampNeg = 63 := rfl
theorem ix_63 (n : Nat) : ee_ix (63 : Int32) n = decide (63 < n) := ixn (n := 63) (by omega)
theorem tc_64 : (64 : Int32).toNatClampNeg = 64 := rfl
theorem ix_64 (n : Nat) : ee_ix (64 : Int32) n = decide (64 < n) := ixn (n := 64) (by omega)
theorem tc_65 : (65 : Int32).toNatClampNeg = 65 := rfl
theorem ix_65 (n : Nat) : ee_ix (65 : Int32) n = decide (65 < n) := ixn (n := 65) (by omega)
theorem tc_72 : (72 : Int32).toNatClampNeg = 72 := rfl
theorem ix_72 (n : Nat) : ee_ix (72 : Int32) n = decide (72 < n) := ixn (n := 72) (by omega)
theorem tc_73 : (73 : Int32).toNatClampNeg = 73 := rfl
theorem ix_73 (n : Nat) : ee_ix (73 : Int32) n = decide (73 < n) := ixn (n := 73) (by omega)
theorem tc_75 : (75 : Int32).toNatClampNeg = 75 := rfl
theorem ix_75 (n : Nat) : ee_ix (75 : Int32) n = decide (75 < n) := ixn (n := 75) (by omega)
theorem tc_90 : (90 : Int32).toNatClampNeg = 90 := rfl
theorem ix_90 (n : Nat) : ee_ix (90 : Int32) n = decide (90 < n) := ixn (n := 90) (by omega)
theorem tc_97 : (97 : Int32).toNatClampNeg = 97 := rfl
theorem ix_97 (n : Nat) : ee_ix (97 : Int32) n = decide (97 < n) := ixn (n := 97) (by omega)
theorem tc_98 : (98 : Int32).toNatClampNeg = 98 := rfl
theorem ix_98 (n : Nat) : ee_ix (98 : Int32) n = decide (98 < n) := ixn (n := 98) (by omega)
theorem tc_99 : (99 : Int32).toNatClampNeg = 99 := rfl
theorem ix_99 (n : Nat) : ee_ix (99 : Int32) n = decide (99 < n) := ixn (n := 99) (by omega)
theorem tc_100 : (100 : Int32).toNatClampNeg = 100 := rfl
theorem ix_100 (n : Nat) : ee_ix (100 : Int32) n = decide (100 < n) := ixn (n := 100) (by omega)
theorem tc_101 : (101 : Int32).toNatClampNeg = 101 := rfl
theorem ix_101 (n : Nat) : ee_ix (101 : Int32) n = decide (101 < n) := ixn (n := 101) (by omega)
theorem tc_102 : (102 : Int32).toNatClampNeg = 102 := rfl
theorem ix_102 (n : Nat) : ee_ix (102 : Int32) n = decide (102 < n) := ixn (n := 102) (by omega)
theorem tc_103 : (103 : Int32).toNatClampNeg = 103 := rfl
theorem ix_103 (n : Nat) : ee_ix (103 : Int32) n = decide (103 < n) := ixn (n := 103) (by omega)
theorem tc_104 : (104 : Int32).toNatClampNeg = 104 := rfl
theorem ix_104 (n : Nat) : ee_ix (104 : Int32) n = decide (104 < n) := ixn (n := 104) (by omega)
theorem tc_105 : (105 : Int32).toNatClampNeg = 105 := rfl
theorem ix_105 (n : Nat) : ee_ix (105 : Int32) n = decide (105 < n) := ixn (n := 105) (by omega)
theorem tc_107 : (107 : Int32).toNatClampNeg = 107 := rfl
theorem ix_107 (n : Nat) : ee_ix (107 : Int32) n = decide (107 < n) := ixn (n := 107) (by omega)
theorem tc_108 : (108 : Int32).toNatClampNeg = 108 := rfl
theorem ix_108 (n : Nat) : ee_ix (108 : Int32) n = decide (108 < n) := ixn (n := 108) (by omega)
theorem tc_110 : (110 : Int32).toNatClampNeg = 110 := rfl
theorem ix_110 (n : Nat) : ee_ix (110 : Int32) n = decide (110 < n) := ixn (n := 110) (by omega)
theorem tc_111 : (111 : Int32).toNatClampNeg = 111 := rfl
theorem ix_111 (n : Nat) : ee_ix (111 : Int32) n = decide (111 < n) := ixn (n := 111) (by omega)
theorem tc_112 : (112 : Int32).toNatClampNeg = 112 := rfl
theorem ix_112 (n : Nat) : ee_ix (112 : Int32) n = decide (112 < n) := ixn (n := 112) (by omega)
theorem tc_114 : (114 : Int32).toNatClampNeg = 114 := rfl
theorem ix_114 (n : Nat) : ee_ix (114 : Int32) n = decide (114 < n) := ixn (n := 114) (by omega)
theorem tc_115 : (115 : Int32).toNatClampNeg = 115 := rfl
theorem ix_115 (n : Nat) : ee_ix (115 : Int32) n = decide (115 < n) := ixn (n := 115) (by omega)
theorem tc_116 : (116 : Int32).toNatClampNeg = 116 := rfl
theorem ix_116 (n : Nat) : ee_ix (116 : Int32) n = decide (116 < n) := ixn (n := 116) (by omega)
theorem tc_117 : (117 : Int32).toNatClampNeg = 117 := rfl
theorem ix_117 (n : Nat) : ee_ix (117 : Int32) n = decide (117 < n) := ixn (n := 117) (by omega)
theorem tc_118 : (118 : Int32).toNatClampNeg = 118 := rfl
theorem ix_118 (n : Nat) : ee_ix (118 : Int32) n = decide (118 < n) := ixn (n := 118) (by omega)
theorem tc_119 : (119 : Int32).toNatClampNeg = 119 := rfl
theorem ix_119 (n : Nat) : ee_ix (119 : Int32) n = decide (119 < n) := ixn (n := 119) (by omega)
theorem tc_121 : (121 : Int32).toNatClampNeg = 121 := rfl
theorem ix_121 (n : Nat) : ee_ix (121 : Int32) n = decide (121 < n) := ixn (n := 121) (by omega)
theorem tc_122 : (122 : Int32).toNatClampNeg = 122 := rfl
theorem ix_122 (n : Nat) : ee_ix (122 : Int32) n = decide (122 < n) := ixn (n := 122) (by omega)
theorem tc_200 : (200 : Int32).toNatClampNeg = 200 := rfl
theorem ix_200 (n : Nat) : ee_ix (200 : Int32) n = decide (200 < n) := ixn (n := 200) (by omega)
theorem tc_255 : (255 : Int32).toNatClampNeg = 255 := rfl
theorem ix_255 (n : Nat) : ee_ix (255 : Int32) n = decide (255 < n) := ixn (n := 255) (by omega)
theorem tc_280 : (280 : Int32).toNatClampNeg = 280 := rfl
theorem ix_280 (n : Nat) : ee_ix (280 : Int32) n = decide (280 < n) := ixn (n := 280) (by omega)
theorem tc_299 : (299 : Int32).toNatClampNeg = 299 := rfl
theorem ix_299 (n : Nat) : ee_ix (299 : Int32) n = decide (299 < n) := ixn (n := 299) (by omega)
theorem tc_300 : (300 : Int32).toNatClampNeg = 300 := rfl
theorem ix_300 (n : Nat) : ee_ix (300 : Int32) n = decide (300 < n) := ixn (n := 300) (by omega)
theorem tc_467 : (467 : Int32).toNatClampNeg = 467 := rfl
theorem ix_467 (n : Nat) : ee_ix (467 : Int32) n = decide (467 < n) := ixn (n := 467) (by omega)
theorem tc_601 : (601 : Int32).toNatClampNeg = 601 := rfl
theorem ix_601 (n : Nat) : ee_ix (601 : Int32) n = decide (601 < n) := ixn (n := 601) (by omega)
theorem tc_610 : (610 : Int32).toNatClampNeg = 610 := rfl
theorem ix_610 (n : Nat) : ee_ix (610 : Int32) n = decide (610 < n) := ixn (n := 610) (by omega)
theorem tc_681 : (681 : Int32).toNatClampNeg = 681 := rfl
theorem ix_681 (n : Nat) : ee_ix (681 : Int32) n = decide (681 < n) := ixn (n := 681) (by omega)
theorem tc_739 : (739 : Int32).toNatClampNeg = 739 := rfl
theorem ix_739 (n : Nat) : ee_ix (739 : Int32) n = decide (739 < n) := ixn (n := 739) (by omega)
theorem tc_999 : (999 : Int32).toNatClampNeg = 999 := rfl
theorem ix_999 (n : Nat) : ee_ix (999 : Int32) n = decide (999 < n) := ixn (n := 999) (by omega)
theorem tc_1000 : (1000 : Int32).toNatClampNeg = 1000 := rfl
theorem ix_1000 (n : Nat) : ee_ix (1000 : Int32) n = decide (1000 < n) := ixn (n := 1000) (by omega)
theorem tc_1023 : (1023 : Int32).toNatClampNeg = 1023 := rfl
theorem ix_1023 (n : Nat) : ee_ix (1023 : Int32) n = decide (1023 < n) := ixn (n := 1023) (by omega)
theorem tc_1064 : (1064 : Int32).toNatClampNeg = 1064 := rfl
theorem ix_1064 (n : Nat) : ee_ix (1064 : Int32) n = decide (1064 < n) := ixn (n := 1064) (by omega)
theorem tc_1247 : (1247 : Int32).toNatClampNeg = 1247 := rfl
theorem ix_1247 (n : Nat) : ee_ix (1247 : Int32) n = decide (1247 < n) := ixn (n := 1247) (by omega)
theorem tc_1344 : (1344 : Int32).toNatClampNeg = 1344 := rfl
theorem ix_1344 (n : Nat) : ee_ix (1344 : Int32) n = decide (1344 < n) := ixn (n := 1344) (by omega)
theorem tc_1369 : (1369 : Int32).toNatClampNeg = 1369 := rfl
theorem ix_1369 (n : Nat) : ee_ix (1369 : Int32) n = decide (1369 < n) := ixn (n := 1369) (by omega)
theorem tc_9999 : (9999 : Int32).toNatClampNeg = 9999 := rfl
theorem ix_9999 (n : Nat) : ee_ix (9999 : Int32) n = decide (9999 < n) := ixn (n := 9999) (by omega)
theorem tc_10000 : (10000 : Int32).toNatClampNeg = 10000 := rfl
theorem ix_10000 (n : Nat) : ee_ix (10000 : Int32) n = decide (10000 < n) := ixn (n := 10000) (by omega)
theorem tc_31069 : (31069 : Int32).toNatClampNeg = 31069 := rfl
theorem ix_31069 (n : Nat) : ee_ix (31069 : Int32) n = decide (31069 < n) := ixn (n := 31069) (by omega)
theorem tc_99999 : (99999 : Int32).toNatClampNeg = 99999 := rfl
theorem ix_99999 (n : Nat) : ee_ix (99999 : Int32) n = decide (99999 < n) := ixn (n := 99999) (by omega)
theorem tc_1000000 : (1000000 : Int32).toNatClampNeg = 1000000 := rfl
theorem ix_1000000 (n : Nat) : ee_ix (1000000 : Int32) n = decide (1000000 < n) := ixn (n := 1000000) (by omega)
theorem tc_252645135 : (252645135 : Int32).toNatClampNeg = 252645135 := rfl
theorem ix_252645135 (n : Nat) : ee_ix (252645135 : Int32) n = decide (252645135 < n) := ixn (n := 252645135) (by omega)
theorem tc_858993459 : (858993459 : Int32).toNatClampNeg = 858993459 := rfl
theorem ix_858993459 (n : Nat) : ee_ix (858993459 : Int32) n = decide (858993459 < n) := ixn (n := 858993459) (by omega)
theorem tc_1431655765 : (1431655765 : Int32).toNatClampNeg = 1431655765 := rfl
theorem ix_1431655765 (n : Nat) : ee_ix (1431655765 : Int32) n = decide (1431655765 < n) := ixn (n := 1431655765) (by omega)
theorem mz_0 : es_sh 236 = (18, 0) := by decide +kernel
theorem mz_1 : es_rf 236 0 = some 237 := by decide +kernel
theorem mz_a : es_sh 237 = (0, 1369) := by decide +kernel
/-- what may have changed, place by place -/
def chk (p : Nat → Nat → Prop) (w w' : ee_W) : Prop := (∀ c k, ¬ p c k → w'.1 c k = w.1 c k) ∧ w'.2.2 = w.2.2
theorem chk_refl (p : Nat → Nat → Prop) (w : ee_W) : chk p w w := ⟨fun _ _ _ => rfl, rfl⟩
theorem chk_trans {p : Nat → Nat → Prop} {w w' w'' : ee_W} (h : chk p w w') (h2 : chk p w' w'') : chk p w w'' := ⟨fun c k hp => (h2.1 c k hp).trans (h.1 c k hp), h2.2.trans h.2⟩
theorem chk_mono {p q : Nat → Nat → Prop} {w w' : ee_W} (h : chk p w w') (hpq : ∀ c k, p c k → q c k) : chk q w w' := ⟨fun c k hq => h.1 c k (fun hp => hq (hpq c k hp)), h.2⟩
theorem chk_I {p : Nat → Nat → Prop} {w w1 : ee_W} {h k : Nat} {x : Int32} (hp : p h k) (hc : chk p w w1) : chk p w (ee_wI w1 h k x) := by
  refine ⟨fun c j hj => ?_, hc.2⟩
  rw [wI_at, if_neg (fun z => hj (by rw [z.1, z.2]; exact hp))]
  exact hc.1 c j hj
theorem chk_J {p : Nat → Nat → Prop} {w w1 : ee_W} {h k : Nat} {x : Int64} (hc : chk p w w1) : chk p w (ee_wJ w1 h k x) := ⟨hc.1, hc.2⟩
def MS (w : ee_W) (A b : Nat) (f : Nat → Int32) : Prop := ∀ k, k < 18 → k ≠ 9 → w.1 A (b + k) = f k
def encL (l : Int32 × Int32 × Int32) : Int32 := (l.1 * 5 + l.2.1) * 1064 + l.2.2 + 40
def MB (w : ee_W) (A b bb : Nat) (Y : Nat × (Nat → Int32 × Int32 × Int32)) : Prop := w.1 A (b + 9) = Int32.ofNat Y.1 ∧ ∀ i, i < Y.1 → w.1 A (bb + i) = encL (Y.2 i)
def MHz (z : Bool) (w : ee_W) (X : HX) : Prop := w.1 236 23 = ee_b z ∧ MS w 237 5 X.1 ∧ (z = true → MB w 237 5 1344 X.2 ∧ X.2.1 ≤ 25)
def pb (z : Bool) (c k : Nat) : Prop := z = true ∧ c = 237 ∧ (k = 14 ∨ (1344 ≤ k ∧ k < 1369))
theorem m_note (hd : 1 ≤ d) (hM : MHz z w X) (a b : Int32) : ∃ w', ee_run ee_B P d 238 [.ref 236, .int a, .int b] w = some ([], w') ∧ MHz z w' (xnote X a b) ∧ chk (pb z) w w' := by
  obtain ⟨d, rfl⟩ : ∃ k, d = k + 1 := ⟨d - 1, by omega⟩
  obtain ⟨h1, h2, h3⟩ := hM
  rw [rn_238 mz_0]
  cases z
  · refine ⟨w, ?_, ⟨h1, by rw [xnote_1]; exact h2, fun q => by cases q⟩, chk_refl _ _⟩
    have h1' : w.1 236 23 = 0 := h1
    simp only [h1', be_238, k_1, k_1064, k_1344, k_14, k_25, k_40, k_5, nz_1, nz_1064, nz_1344, nz_14, nz_25, nz_40, nz_5, v_bin, v_cmp, v_get, v_idx, v_int, v_loc, v_not, v_z, w_if, w_inc, w_opa, w_retv, w_seq, w_set, w_skip, w_sto, List.getElem?_cons_zero, List.getElem?_cons_succ, List.set_cons_zero, List.set_cons_succ, ee_cmp0, ee_cmp1, ee_cmp2, ee_cmp3, ee_cmp4, ee_cmp5, ee_cmpL0, ee_cmpL1, ee_cmpL2, ee_cmpL3, ee_cmpL4, ee_cmpL5, ee_tru_eb, decide_eq_true_eq, ib_i, ie_b, ie_f, ie_t, ib_l, fin_i, fin_l, fin_v, fin_z, fin_a, fin_n, ee_b_0, ee_fld0, ee_fld1, ee_fld2, ee_fld3, bi_0, bi_1, bi_2, bi_3, bi_4, bi_5, bi_6, bi_7, bi_8, bi_9, bi_10, bl_20, bl_21, bl_22, bl_23, bl_24, bl_25, bl_26, bl_48, bl_49, un_0, un_1, un_2, un_3, if_true, if_false, ite_true, ite_false, Bool.false_eq_true, Bool.not_eq_false, decide_not, Bool.not_not, reduceCtorEq, st_i, st_l, st_r, st_n, ee_noL, ee_noL.eq_1, List.length_cons, List.length_nil, Nat.reduceAdd, Nat.reduceLT, Nat.zero_add, and_true, true_and, and_self, fin_ite, pu_0, pu_1, pu_3, sto_0, el_0, Bool.not_eq_true, decide_eq_false_iff_not, Bool.decide_eq_true, Bool.decide_eq_false, decide_true, decide_false, Bool.not_true, Bool.not_false, Bool.and_self, Bool.and_true, Bool.and_false, Bool.true_and, Bool.false_and, Bool.or_true, Bool.or_false, Bool.true_or, Bool.false_or, if_true, if_false, Bool.false_eq_true, ix_1, ix_1064, ix_1344, ix_14, ix_25, ix_40, ix_5, tc_1, tc_1064, tc_1344, tc_14, tc_25, tc_40, tc_5, mz_0, mz_1, mz_a, rvs, j_s, j_a, wI_at, Nat.reduceEqDiff, zero_ne_one_n, one_ne_zero_n]
  · obtain ⟨⟨b1, b2⟩, b3⟩ := h3 rfl
    have h1' : w.1 236 23 = 1 := h1
    have b1 : w.1 237 14 = Int32.ofNat X.2.1 := b1
    have h5 : w.1 237 5 = X.1 0 := h2 0 (by omega) (by omega)
    by_cases q : X.2.1 = 25
    · obtain ⟨r, hr, hq⟩ := wh_n (f := ee_turn (ee_ev es_sh es_rf (ee_run ee_B P d) lx_238_1) (ee_evS es_sh es_rf (ee_run ee_B P d) lb_238_1))
        (I := fun n x => ∃ k, n = 25 - k ∧ 1 ≤ k ∧ k ≤ 25 ∧ x.1 = [some (.ref 236), some (.int a), some (.int b), some (.int (Int32.ofNat k))] ∧ (∀ j, j + 1 < k → x.2.1 237 (1344 + j) = w.1 237 (1344 + j + 1)) ∧ chk (fun c j => c = 237 ∧ 1344 ≤ j ∧ j + 1 < 1344 + k) w x.2)
        (Q := fun r => ∃ env' w', r = .inl (env', w') ∧ env' = [some (.ref 236), some (.int a), some (.int b), some (.int (Int32.ofNat 25))] ∧ (∀ j, j < 24 → w'.1 237 (1344 + j) = w.1 237 (1344 + j + 1)) ∧ chk (fun c j => c = 237 ∧ 1344 ≤ j ∧ j < 1368) w w')
        (by
          rintro n ⟨env, x⟩ ⟨k, rfl, k1, k2, he, hj, hc⟩
          dsimp only at he hj hc
          subst he
          have h9 : (Int32.ofNat k < 25) ↔ k < 25 := j_lt (b := 25) (by omega) (by omega)
          by_cases g : k < 25
          · left
            have e1 : (1344 : Int32) + Int32.ofNat k = Int32.ofNat (1344 + k) := j_a 1344 k
            have e2 : Int32.ofNat (1344 + k) - 1 = Int32.ofNat (1344 + k - 1) := j_sub1 (by omega) (by omega)
            have x1 : ee_ix (Int32.ofNat (1344 + k)) 1369 = true := by rw [ixn (by omega)]; exact decide_eq_true (by omega)
            have x2 : ee_ix (Int32.ofNat (1344 + k - 1)) 1369 = true := by rw [ixn (by omega)]; exact decide_eq_true (by omega)
            refine ⟨([some (.ref 236), some (.int a), some (.int b), some (.int (Int32.ofNat (k + 1)))], ee_wI x 237 (1344 + k - 1) (x.1 237 (1344 + k))), 25 - (k + 1), ?_, by omega, k + 1, rfl, by omega, by omega, rfl, ?_, ?_⟩
            · simp only [h9, g, e1, e2, x1, x2, tnc (show 1344 + k < 2147483648 by omega), tnc (show 1344 + k - 1 < 2147483648 by omega), lx_238_1, lb_238_1, ee_turn, k_1, k_1064, k_1344, k_14, k_25, k_40, k_5, nz_1, nz_1064, nz_1344, nz_14, nz_25, nz_40, nz_5, v_bin, v_cmp, v_get, v_idx, v_int, v_loc, v_not, v_z, w_if, w_inc, w_opa, w_retv, w_seq, w_set, w_skip, w_sto, List.getElem?_cons_zero, List.getElem?_cons_succ, List.set_cons_zero, List.set_cons_succ, ee_cmp0, ee_cmp1, ee_cmp2, ee_cmp3, ee_cmp4, ee_cmp5, ee_cmpL0, ee_cmpL1, ee_cmpL2, ee_cmpL3, ee_cmpL4, ee_cmpL5, ee_tru_eb, decide_eq_true_eq, ib_i, ie_b, ie_f, ie_t, ib_l, fin_i, fin_l, fin_v, fin_z, fin_a, fin_n, ee_b_0, ee_fld0, ee_fld1, ee_fld2, ee_fld3, bi_0, bi_1, bi_2, bi_3, bi_4, bi_5, bi_6, bi_7, bi_8, bi_9, bi_10, bl_20, bl_21, bl_22, bl_23, bl_24, bl_25, bl_26, bl_48, bl_49, un_0, un_1, un_2, un_3, if_true, if_false, ite_true, ite_false, Bool.false_eq_true, Bool.not_eq_false, decide_not, Bool.not_not, reduceCtorEq, st_i, st_l, st_r, st_n, ee_noL, ee_noL.eq_1, List.length_cons, List.length_nil, Nat.reduceAdd, Nat.reduceLT, Nat.zero_add, and_true, true_and, and_self, fin_ite, pu_0, pu_1, pu_3, sto_0, el_0, Bool.not_eq_true, decide_eq_false_iff_not, Bool.decide_eq_true, Bool.decide_eq_false, decide_true, decide_false, Bool.not_true, Bool.not_false, Bool.and_self, Bool.and_true, Bool.and_false, Bool.true_and, Bool.false_and, Bool.or_true, Bool.or_false, Bool.true_or, Bool.false_or, if_true, if_false, Bool.false_eq_true, tc_1, ix_1, tc_1064, ix_1064, tc_1344, ix_1344, tc_14, ix_14, tc_25, ix_25, tc_40, ix_40, tc_5, ix_5, mz_0, mz_1, mz_a, rvs, j_s, j_a, wI_at, Nat.reduceEqDiff, zero_ne_one_n, one_ne_zero_n]
            · intro j hj2
              dsimp only
              rw [wI_at]
              by_cases y : 1344 + j = 1344 + k - 1
              · rw [if_pos ⟨rfl, y⟩, hc.1 _ _ (by omega)]
                rw [show 1344 + j + 1 = 1344 + k by omega]
              · rw [if_neg (fun t => y t.2)]
                exact hj j (by omega)
            · exact chk_I (by omega) (chk_mono hc (fun c j hp => by omega))
          · right
            have : k = 25 := by omega
            subst this
            refine ⟨.inl ([some (.ref 236), some (.int a), some (.int b), some (.int (Int32.ofNat 25))], x), by simp +decide only [lx_238_1, lb_238_1, ee_turn, k_1, k_1064, k_1344, k_14, k_25, k_40, k_5, nz_1, nz_1064, nz_1344, nz_14, nz_25, nz_40, nz_5, v_bin, v_cmp, v_get, v_idx, v_int, v_loc, v_not, v_z, w_if, w_inc, w_opa, w_retv, w_seq, w_set, w_skip, w_sto, List.getElem?_cons_zero, List.getElem?_cons_succ, List.set_cons_zero, List.set_cons_succ, ee_cmp0, ee_cmp1, ee_cmp2, ee_cmp3, ee_cmp4, ee_cmp5, ee_cmpL0, ee_cmpL1, ee_cmpL2, ee_cmpL3, ee_cmpL4, ee_cmpL5, ee_tru_eb, decide_eq_true_eq, ib_i, ie_b, ie_f, ie_t, ib_l, fin_i, fin_l, fin_v, fin_z, fin_a, fin_n, ee_b_0, ee_fld0, ee_fld1, ee_fld2, ee_fld3, bi_0, bi_1, bi_2, bi_3, bi_4, bi_5, bi_6, bi_7, bi_8, bi_9, bi_10, bl_20, bl_21, bl_22, bl_23, bl_24, bl_25, bl_26, bl_48, bl_49, un_0, un_1, un_2, un_3, if_true, if_false, ite_true, ite_false, Bool.false_eq_true, Bool.not_eq_false, decide_not, Bool.not_not, reduceCtorEq, st_i, st_l, st_r, st_n, ee_noL, ee_noL.eq_1, List.length_cons, List.length_nil, Nat.reduceAdd, Nat.reduceLT, Nat.zero_add, and_true, true_and, and_self, fin_ite, pu_0, pu_1, pu_3, sto_0, el_0, Bool.not_eq_true, decide_eq_false_iff_not, Bool.decide_eq_true, Bool.decide_eq_false, decide_true, decide_false, Bool.not_true, Bool.not_false, Bool.and_self, Bool.and_true, Bool.and_false, Bool.true_and, Bool.false_and, Bool.or_true, Bool.or_false, Bool.true_or, Bool.false_or, if_true, if_false, Bool.false_eq_true, tc_1, ix_1, tc_1064, ix_1064, tc_1344, ix_1344, tc_14, ix_14, tc_25, ix_25, tc_40, ix_40, tc_5, ix_5, mz_0, mz_1, mz_a, rvs, j_s, j_a, wI_at, Nat.reduceEqDiff, zero_ne_one_n, one_ne_zero_n], _, _, rfl, rfl, fun j hj2 => hj j (by omega), chk_mono hc (fun c j hp => by omega)⟩)
        (25 - 1) ([some (.ref 236), some (.int a), some (.int b), some (.int (Int32.ofNat 1))], w)
        ⟨1, rfl, by omega, by omega, rfl, fun j hj => by omega, chk_refl _ _⟩
      obtain ⟨env', w', rfl, rfl, q1, q2⟩ := hq
      rw [k_1] at hr
      have e14 : w.1 237 14 = 25 := by rw [b1, q]; rfl
      have g14 : w'.1 237 14 = 25 := by rw [q2.1 _ _ (by omega)]; exact e14
      have g5 : w'.1 237 5 = X.1 0 := by rw [q2.1 _ _ (by omega)]; exact h5
      have m1 : (25 : Int32) - 1 = 24 := by decide
      have m2 : (1344 : Int32) + 24 = 1368 := by decide
      have m3 : (24 : Int32) + 1 = 25 := by decide
      have t1 : (1368 : Int32).toNatClampNeg = 1368 := by decide
      have x1 : ee_ix 1368 1369 = true := by decide
      apply Exists.intro
      refine ⟨?_, ⟨?_, ?_, fun _ => ⟨⟨?_, ?_⟩, ?_⟩⟩, ?_⟩
      · simp only [h1', w_while, w_opa, hr, e14, g14, g5, m1, m2, m3, t1, x1, Nat.reduceEqDiff, be_238, k_1, k_1064, k_1344, k_14, k_25, k_40, k_5, nz_1, nz_1064, nz_1344, nz_14, nz_25, nz_40, nz_5, v_bin, v_cmp, v_get, v_idx, v_int, v_loc, v_not, v_z, w_if, w_inc, w_opa, w_retv, w_seq, w_set, w_skip, w_sto, List.getElem?_cons_zero, List.getElem?_cons_succ, List.set_cons_zero, List.set_cons_succ, ee_cmp0, ee_cmp1, ee_cmp2, ee_cmp3, ee_cmp4, ee_cmp5, ee_cmpL0, ee_cmpL1, ee_cmpL2, ee_cmpL3, ee_cmpL4, ee_cmpL5, ee_tru_eb, decide_eq_true_eq, ib_i, ie_b, ie_f, ie_t, ib_l, fin_i, fin_l, fin_v, fin_z, fin_a, fin_n, ee_b_0, ee_fld0, ee_fld1, ee_fld2, ee_fld3, bi_0, bi_1, bi_2, bi_3, bi_4, bi_5, bi_6, bi_7, bi_8, bi_9, bi_10, bl_20, bl_21, bl_22, bl_23, bl_24, bl_25, bl_26, bl_48, bl_49, un_0, un_1, un_2, un_3, if_true, if_false, ite_true, ite_false, Bool.false_eq_true, Bool.not_eq_false, decide_not, Bool.not_not, reduceCtorEq, st_i, st_l, st_r, st_n, ee_noL, ee_noL.eq_1, List.length_cons, List.length_nil, Nat.reduceAdd, Nat.reduceLT, Nat.zero_add, and_true, true_and, and_self, fin_ite, pu_0, pu_1, pu_3, sto_0, el_0, Bool.not_eq_true, decide_eq_false_iff_not, Bool.decide_eq_true, Bool.decide_eq_false, decide_true, decide_false, Bool.not_true, Bool.not_false, Bool.and_self, Bool.and_true, Bool.and_false, Bool.true_and, Bool.false_and, Bool.or_true, Bool.or_false, Bool.true_or, Bool.false_or, if_true, if_false, Bool.false_eq_true, ix_1, ix_1064, ix_1344, ix_14, ix_25, ix_40, ix_5, tc_1, tc_1064, tc_1344, tc_14, tc_25, tc_40, tc_5, mz_0, mz_1, mz_a, rvs, j_s, j_a, wI_at, Nat.reduceEqDiff, zero_ne_one_n, one_ne_zero_n]
        rfl
      · simp only [zz_ce, zz_ec, zz_cf, zz_fc, zz_ef, zz_fe, wI_at, wI_2, wJ_at, wJ_1, wJ_2, and_true, true_and, and_false, false_and, if_true, if_false, Nat.reduceEqDiff, Nat.reduceAdd, zero_ne_one_n, one_ne_zero_n, show (236 = 237) = False from by decide]
        rw [q2.1 _ _ (by omega)]
        exact h1
      · rw [xnote_1]
        intro k k1 k2
        rw [wI_at, if_neg (by omega), wI_at, if_neg (by omega), wI_at, if_neg (by omega), q2.1 _ _ (by omega)]
        exact h2 k k1 k2
      · unfold xnote
        rw [if_pos q, wI_at, if_pos ⟨rfl, rfl⟩]
        rfl
      · intro i hi
        unfold xnote at hi ⊢
        rw [if_pos q] at hi ⊢
        dsimp only at hi ⊢
        rw [wI_at, if_neg (by omega), wI_at]
        by_cases y : i = 24
        · subst y
          rw [if_pos ⟨rfl, by omega⟩, if_pos rfl]
          rfl
        · rw [if_neg (by omega), if_neg y, wI_at, if_neg (by omega), q1 i (by omega)]
          rw [show 1344 + i + 1 = 1344 + (i + 1) by omega]
          exact b2 (i + 1) (by omega)
      · exact xnote_le b3 _ _
      · exact chk_I ⟨rfl, rfl, by omega⟩ (chk_I ⟨rfl, rfl, by omega⟩ (chk_I ⟨rfl, rfl, by omega⟩ (chk_mono q2 (fun c k hp => ⟨rfl, hp.1, by omega⟩))))
    · have ne : ¬ Int32.ofNat X.2.1 = 25 := fun y => by
        have := i32_eq.1 y
        rw [nI_t (by omega), show (25 : Int32).toInt = 25 from rfl] at this
        omega
      have e1 : (1344 : Int32) + Int32.ofNat X.2.1 = Int32.ofNat (1344 + X.2.1) := j_a 1344 X.2.1
      have x1 : ee_ix (Int32.ofNat (1344 + X.2.1)) 1369 = true := by rw [ixn (by omega)]; exact decide_eq_true (by omega)
      have n1 : (14 = 1344 + X.2.1) = False := eq_false (by omega)
      apply Exists.intro
      refine ⟨?_, ⟨?_, ?_, fun _ => ⟨⟨?_, ?_⟩, ?_⟩⟩, ?_⟩
      · simp only [h1', w_opa, b1, h5, ne, e1, x1, n1, tnc (show 1344 + X.2.1 < 2147483648 by omega), and_false, be_238, k_1, k_1064, k_1344, k_14, k_25, k_40, k_5, nz_1, nz_1064, nz_1344, nz_14, nz_25, nz_40, nz_5, v_bin, v_cmp, v_get, v_idx, v_int, v_loc, v_not, v_z, w_if, w_inc, w_opa, w_retv, w_seq, w_set, w_skip, w_sto, List.getElem?_cons_zero, List.getElem?_cons_succ, List.set_cons_zero, List.set_cons_succ, ee_cmp0, ee_cmp1, ee_cmp2, ee_cmp3, ee_cmp4, ee_cmp5, ee_cmpL0, ee_cmpL1, ee_cmpL2, ee_cmpL3, ee_cmpL4, ee_cmpL5, ee_tru_eb, decide_eq_true_eq, ib_i, ie_b, ie_f, ie_t, ib_l, fin_i, fin_l, fin_v, fin_z, fin_a, fin_n, ee_b_0, ee_fld0, ee_fld1, ee_fld2, ee_fld3, bi_0, bi_1, bi_2, bi_3, bi_4, bi_5, bi_6, bi_7, bi_8, bi_9, bi_10, bl_20, bl_21, bl_22, bl_23, bl_24, bl_25, bl_26, bl_48, bl_49, un_0, un_1, un_2, un_3, if_true, if_false, ite_true, ite_false, Bool.false_eq_true, Bool.not_eq_false, decide_not, Bool.not_not, reduceCtorEq, st_i, st_l, st_r, st_n, ee_noL, ee_noL.eq_1, List.length_cons, List.length_nil, Nat.reduceAdd, Nat.reduceLT, Nat.zero_add, and_true, true_and, and_self, fin_ite, pu_0, pu_1, pu_3, sto_0, el_0, Bool.not_eq_true, decide_eq_false_iff_not, Bool.decide_eq_true, Bool.decide_eq_false, decide_true, decide_false, Bool.not_true, Bool.not_false, Bool.and_self, Bool.and_true, Bool.and_false, Bool.true_and, Bool.false_and, Bool.or_true, Bool.or_false, Bool.true_or, Bool.false_or, if_true, if_false, Bool.false_eq_true, ix_1, ix_1064, ix_1344, ix_14, ix_25, ix_40, ix_5, tc_1, tc_1064, tc_1344, tc_14, tc_25, tc_40, tc_5, mz_0, mz_1, mz_a, rvs, j_s, j_a, wI_at, Nat.reduceEqDiff, zero_ne_one_n, one_ne_zero_n]
        rfl
      · simp only [zz_ce, zz_ec, zz_cf, zz_fc, zz_ef, zz_fe, wI_at, wI_2, wJ_at, wJ_1, wJ_2, and_true, true_and, and_false, false_and, if_true, if_false, Nat.reduceEqDiff, Nat.reduceAdd, zero_ne_one_n, one_ne_zero_n, show (236 = 237) = False from by decide]
        exact h1
      · rw [xnote_1]
        intro k k1 k2
        rw [wI_at, if_neg (by omega), wI_at, if_neg (by omega)]
        exact h2 k k1 k2
      · unfold xnote
        rw [if_neg q, wI_at, if_pos ⟨rfl, rfl⟩]
      · intro i hi
        unfold xnote at hi ⊢
        rw [if_neg q] at hi ⊢
        dsimp only at hi ⊢
        rw [wI_at, if_neg (by omega), wI_at]
        by_cases y : i = X.2.1
        · rw [if_pos ⟨rfl, by omega⟩, if_pos y]
          rfl
        · rw [if_neg (by omega), if_neg y]
          exact b2 i (by omega)
      · exact xnote_le b3 _ _
      · exact chk_I ⟨rfl, rfl, by omega⟩ (chk_I ⟨rfl, rfl, by omega⟩ (chk_refl _ _))
end MO
