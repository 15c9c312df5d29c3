/-! the law's tree, case by case -/
theorem ee_ok_case {cc : ByteArray} {oc p q k : Nat} {keys b rest : ee_T} (h1 : (!ee_isC b && ((ee_list keys).all (fun key => match ee_swt cc q (Int32.ofNat key).toInt with
        | some t => ee_arr cc 3 t p
        | none => false) && ee_okS cc oc b p k)) = true) (h2 : ee_isC rest = true) (h3 : ee_okS cc oc rest q k = true) : ee_okS cc oc (s_case p keys b rest) q k = true := by
  simp only [Bool.and_eq_true] at h1
  show ee_okS cc oc (.op (.op (.op (.var 5) (.op (.var p) keys)) b) rest) q k = true
  simp only [ee_okS, Bool.and_eq_true, ee_l, ee_r, ee_n]
  exact ⟨⟨⟨⟨h1.1, h2⟩, h1.2.1⟩, h1.2.2⟩, h3⟩
set_option maxRecDepth 100000 in
theorem el_b0 : (!ee_isC bd_lawb_0 && ((ee_list (n_p (n_n 0) (n_n 0))).all (fun key => match ee_swt code 33 (Int32.ofNat key).toInt with
        | some t => ee_arr code 3 t 272
        | none => false) && ee_okS code 9 bd_lawb_0 272 1861)) = true := by decide +kernel
set_option maxRecDepth 100000 in
theorem el_b1 : (!ee_isC bd_lawb_1 && ((ee_list (n_p (n_n 1) (n_n 0))).all (fun key => match ee_swt code 33 (Int32.ofNat key).toInt with
        | some t => ee_arr code 3 t 305
        | none => false) && ee_okS code 9 bd_lawb_1 305 1861)) = true := by decide +kernel
set_option maxRecDepth 100000 in
theorem el_b2 : (!ee_isC bd_lawb_2 && ((ee_list (n_p (n_n 2) (n_n 0))).all (fun key => match ee_swt code 33 (Int32.ofNat key).toInt with
        | some t => ee_arr code 3 t 328
        | none => false) && ee_okS code 9 bd_lawb_2 328 1861)) = true := by decide +kernel
set_option maxRecDepth 100000 in
theorem el_b3 : (!ee_isC bd_lawb_3 && ((ee_list (n_p (n_n 3) (n_n 0))).all (fun key => match ee_swt code 33 (Int32.ofNat key).toInt with
        | some t => ee_arr code 3 t 391
        | none => false) && ee_okS code 9 bd_lawb_3 391 1861)) = true := by decide +kernel
set_option maxRecDepth 100000 in
theorem el_b4 : (!ee_isC bd_lawb_4 && ((ee_list (n_p (n_n 4) (n_n 0))).all (fun key => match ee_swt code 33 (Int32.ofNat key).toInt with
        | some t => ee_arr code 3 t 414
        | none => false) && ee_okS code 9 bd_lawb_4 414 1861)) = true := by decide +kernel
set_option maxRecDepth 100000 in
theorem el_b5 : (!ee_isC bd_lawb_5 && ((ee_list (n_p (n_n 5) (n_n 0))).all (fun key => match ee_swt code 33 (Int32.ofNat key).toInt with
        | some t => ee_arr code 3 t 427
        | none => false) && ee_okS code 9 bd_lawb_5 427 1861)) = true := by decide +kernel
set_option maxRecDepth 100000 in
theorem el_b6 : (!ee_isC bd_lawb_6 && ((ee_list (n_p (n_n 6) (n_n 0))).all (fun key => match ee_swt code 33 (Int32.ofNat key).toInt with
        | some t => ee_arr code 3 t 450
        | none => false) && ee_okS code 9 bd_lawb_6 450 1861)) = true := by decide +kernel
set_option maxRecDepth 100000 in
theorem el_b7 : (!ee_isC bd_lawb_7 && ((ee_list (n_p (n_n 7) (n_n 0))).all (fun key => match ee_swt code 33 (Int32.ofNat key).toInt with
        | some t => ee_arr code 3 t 473
        | none => false) && ee_okS code 9 bd_lawb_7 473 1861)) = true := by decide +kernel
set_option maxRecDepth 100000 in
theorem el_b8 : (!ee_isC bd_lawb_8 && ((ee_list (n_p (n_n 8) (n_n 0))).all (fun key => match ee_swt code 33 (Int32.ofNat key).toInt with
        | some t => ee_arr code 3 t 496
        | none => false) && ee_okS code 9 bd_lawb_8 496 1861)) = true := by decide +kernel
set_option maxRecDepth 100000 in
theorem el_b9 : (!ee_isC bd_lawb_9 && ((ee_list (n_p (n_n 9) (n_n 0))).all (fun key => match ee_swt code 33 (Int32.ofNat key).toInt with
        | some t => ee_arr code 3 t 519
        | none => false) && ee_okS code 9 bd_lawb_9 519 1861)) = true := by decide +kernel
set_option maxRecDepth 100000 in
theorem el_b10 : (!ee_isC bd_lawb_10 && ((ee_list (n_p (n_n 10) (n_n 0))).all (fun key => match ee_swt code 33 (Int32.ofNat key).toInt with
        | some t => ee_arr code 3 t 532
        | none => false) && ee_okS code 9 bd_lawb_10 532 1861)) = true := by decide +kernel
set_option maxRecDepth 100000 in
theorem el_b11 : (!ee_isC bd_lawb_11 && ((ee_list (n_p (n_n 11) (n_n 0))).all (fun key => match ee_swt code 33 (Int32.ofNat key).toInt with
        | some t => ee_arr code 3 t 555
        | none => false) && ee_okS code 9 bd_lawb_11 555 1861)) = true := by decide +kernel
set_option maxRecDepth 100000 in
theorem el_b12 : (!ee_isC bd_lawb_12 && ((ee_list (n_p (n_n 12) (n_n 0))).all (fun key => match ee_swt code 33 (Int32.ofNat key).toInt with
        | some t => ee_arr code 3 t 578
        | none => false) && ee_okS code 9 bd_lawb_12 578 1861)) = true := by decide +kernel
set_option maxRecDepth 100000 in
theorem el_b13 : (!ee_isC bd_lawb_13 && ((ee_list (n_p (n_n 13) (n_n 0))).all (fun key => match ee_swt code 33 (Int32.ofNat key).toInt with
        | some t => ee_arr code 3 t 611
        | none => false) && ee_okS code 9 bd_lawb_13 611 1861)) = true := by decide +kernel
set_option maxRecDepth 100000 in
theorem el_b14 : (!ee_isC bd_lawb_14 && ((ee_list (n_p (n_n 14) (n_n 0))).all (fun key => match ee_swt code 33 (Int32.ofNat key).toInt with
        | some t => ee_arr code 3 t 624
        | none => false) && ee_okS code 9 bd_lawb_14 624 1861)) = true := by decide +kernel
set_option maxRecDepth 100000 in
theorem el_b15 : (!ee_isC bd_lawb_15 && ((ee_list (n_p (n_n 15) (n_n 0))).all (fun key => match ee_swt code 33 (Int32.ofNat key).toInt with
        | some t => ee_arr code 3 t 657
        | none => false) && ee_okS code 9 bd_lawb_15 657 1861)) = true := by decide +kernel
set_option maxRecDepth 100000 in
theorem el_b16 : (!ee_isC bd_lawb_16 && ((ee_list (n_p (n_n 16) (n_n 0))).all (fun key => match ee_swt code 33 (Int32.ofNat key).toInt with
        | some t => ee_arr code 3 t 680
        | none => false) && ee_okS code 9 bd_lawb_16 680 1861)) = true := by decide +kernel
set_option maxRecDepth 100000 in
theorem el_b17 : (!ee_isC bd_lawb_17 && ((ee_list (n_p (n_n 17) (n_n 0))).all (fun key => match ee_swt code 33 (Int32.ofNat key).toInt with
        | some t => ee_arr code 3 t 693
        | none => false) && ee_okS code 9 bd_lawb_17 693 1861)) = true := by decide +kernel
set_option maxRecDepth 100000 in
theorem el_b18 : (!ee_isC bd_lawb_18 && ((ee_list (n_p (n_n 18) (n_n 0))).all (fun key => match ee_swt code 33 (Int32.ofNat key).toInt with
        | some t => ee_arr code 3 t 726
        | none => false) && ee_okS code 9 bd_lawb_18 726 1861)) = true := by decide +kernel
set_option maxRecDepth 100000 in
theorem el_b19 : (!ee_isC bd_lawb_19 && ((ee_list (n_p (n_n 19) (n_n 0))).all (fun key => match ee_swt code 33 (Int32.ofNat key).toInt with
        | some t => ee_arr code 3 t 759
        | none => false) && ee_okS code 9 bd_lawb_19 759 1861)) = true := by decide +kernel
set_option maxRecDepth 100000 in
theorem el_b20 : (!ee_isC bd_lawb_20 && ((ee_list (n_p (n_n 20) (n_n 0))).all (fun key => match ee_swt code 33 (Int32.ofNat key).toInt with
        | some t => ee_arr code 3 t 782
        | none => false) && ee_okS code 9 bd_lawb_20 782 1861)) = true := by decide +kernel
set_option maxRecDepth 100000 in
theorem el_b21 : (!ee_isC bd_lawb_21 && ((ee_list (n_p (n_n 21) (n_n 0))).all (fun key => match ee_swt code 33 (Int32.ofNat key).toInt with
        | some t => ee_arr code 3 t 805
        | none => false) && ee_okS code 9 bd_lawb_21 805 1861)) = true := by decide +kernel
set_option maxRecDepth 100000 in
theorem el_b22 : (!ee_isC bd_lawb_22 && ((ee_list (n_p (n_n 22) (n_n 0))).all (fun key => match ee_swt code 33 (Int32.ofNat key).toInt with
        | some t => ee_arr code 3 t 828
        | none => false) && ee_okS code 9 bd_lawb_22 828 1861)) = true := by decide +kernel
set_option maxRecDepth 100000 in
theorem el_b23 : (!ee_isC bd_lawb_23 && ((ee_list (n_p (n_n 23) (n_n 0))).all (fun key => match ee_swt code 33 (Int32.ofNat key).toInt with
        | some t => ee_arr code 3 t 861
        | none => false) && ee_okS code 9 bd_lawb_23 861 1861)) = true := by decide +kernel
set_option maxRecDepth 100000 in
theorem el_b24 : (!ee_isC bd_lawb_24 && ((ee_list (n_p (n_n 24) (n_n 0))).all (fun key => match ee_swt code 33 (Int32.ofNat key).toInt with
        | some t => ee_arr code 3 t 910
        | none => false) && ee_okS code 9 bd_lawb_24 910 1861)) = true := by decide +kernel
set_option maxRecDepth 100000 in
theorem el_b25 : (!ee_isC bd_lawb_25 && ((ee_list (n_p (n_n 25) (n_n 0))).all (fun key => match ee_swt code 33 (Int32.ofNat key).toInt with
        | some t => ee_arr code 3 t 973
        | none => false) && ee_okS code 9 bd_lawb_25 973 1861)) = true := by decide +kernel
set_option maxRecDepth 100000 in
theorem el_b26 : (!ee_isC bd_lawb_26 && ((ee_list (n_p (n_n 26) (n_n 0))).all (fun key => match ee_swt code 33 (Int32.ofNat key).toInt with
        | some t => ee_arr code 3 t 1036
        | none => false) && ee_okS code 9 bd_lawb_26 1036 1861)) = true := by decide +kernel
set_option maxRecDepth 100000 in
theorem el_b27 : (!ee_isC bd_lawb_27 && ((ee_list (n_p (n_n 27) (n_n 0))).all (fun key => match ee_swt code 33 (Int32.ofNat key).toInt with
        | some t => ee_arr code 3 t 1069
        | none => false) && ee_okS code 9 bd_lawb_27 1069 1861)) = true := by decide +kernel
set_option maxRecDepth 100000 in
theorem el_b28 : (!ee_isC bd_lawb_28 && ((ee_list (n_p (n_n 28) (n_n 0))).all (fun key => match ee_swt code 33 (Int32.ofNat key).toInt with
        | some t => ee_arr code 3 t 1118
        | none => false) && ee_okS code 9 bd_lawb_28 1118 1861)) = true := by decide +kernel
set_option maxRecDepth 100000 in
theorem el_b29 : (!ee_isC bd_lawb_29 && ((ee_list (n_p (n_n 29) (n_n 0))).all (fun key => match ee_swt code 33 (Int32.ofNat key).toInt with
        | some t => ee_arr code 3 t 1171
        | none => false) && ee_okS code 9 bd_lawb_29 1171 1861)) = true := by decide +kernel
set_option maxRecDepth 100000 in
theorem el_b30 : (!ee_isC bd_lawb_30 && ((ee_list (n_p (n_n 30) (n_n 0))).all (fun key => match ee_swt code 33 (Int32.ofNat key).toInt with
        | some t => ee_arr code 3 t 1204
        | none => false) && ee_okS code 9 bd_lawb_30 1204 1861)) = true := by decide +kernel
set_option maxRecDepth 100000 in
theorem el_b31 : (!ee_isC bd_lawb_31 && ((ee_list (n_p (n_n 31) (n_n 0))).all (fun key => match ee_swt code 33 (Int32.ofNat key).toInt with
        | some t => ee_arr code 3 t 1237
        | none => false) && ee_okS code 9 bd_lawb_31 1237 1861)) = true := by decide +kernel
set_option maxRecDepth 100000 in
theorem el_b32 : (!ee_isC bd_lawb_32 && ((ee_list (n_p (n_n 32) (n_n 0))).all (fun key => match ee_swt code 33 (Int32.ofNat key).toInt with
        | some t => ee_arr code 3 t 1270
        | none => false) && ee_okS code 9 bd_lawb_32 1270 1861)) = true := by decide +kernel
set_option maxRecDepth 100000 in
theorem el_b33 : (!ee_isC bd_lawb_33 && ((ee_list (n_p (n_n 33) (n_n 0))).all (fun key => match ee_swt code 33 (Int32.ofNat key).toInt with
        | some t => ee_arr code 3 t 1303
        | none => false) && ee_okS code 9 bd_lawb_33 1303 1861)) = true := by decide +kernel
set_option maxRecDepth 100000 in
theorem el_b34 : (!ee_isC bd_lawb_34 && ((ee_list (n_p (n_n 34) (n_n 0))).all (fun key => match ee_swt code 33 (Int32.ofNat key).toInt with
        | some t => ee_arr code 3 t 1346
        | none => false) && ee_okS code 9 bd_lawb_34 1346 1861)) = true := by decide +kernel
set_option maxRecDepth 100000 in
theorem el_b35 : (!ee_isC bd_lawb_35 && ((ee_list (n_p (n_n 35) (n_n 0))).all (fun key => match ee_swt code 33 (Int32.ofNat key).toInt with
        | some t => ee_arr code 3 t 1389
        | none => false) && ee_okS code 9 bd_lawb_35 1389 1861)) = true := by decide +kernel
set_option maxRecDepth 100000 in
theorem el_b36 : (!ee_isC bd_lawb_36 && ((ee_list (n_p (n_n 36) (n_n 0))).all (fun key => match ee_swt code 33 (Int32.ofNat key).toInt with
        | some t => ee_arr code 3 t 1422
        | none => false) && ee_okS code 9 bd_lawb_36 1422 1861)) = true := by decide +kernel
set_option maxRecDepth 100000 in
theorem el_b37 : (!ee_isC bd_lawb_37 && ((ee_list (n_p (n_n 37) (n_n 0))).all (fun key => match ee_swt code 33 (Int32.ofNat key).toInt with
        | some t => ee_arr code 3 t 1445
        | none => false) && ee_okS code 9 bd_lawb_37 1445 1861)) = true := by decide +kernel
set_option maxRecDepth 100000 in
theorem el_b38 : (!ee_isC bd_lawb_38 && ((ee_list (n_p (n_n 38) (n_n 0))).all (fun key => match ee_swt code 33 (Int32.ofNat key).toInt with
        | some t => ee_arr code 3 t 1468
        | none => false) && ee_okS code 9 bd_lawb_38 1468 1861)) = true := by decide +kernel
set_option maxRecDepth 100000 in
theorem el_b39 : (!ee_isC bd_lawb_39 && ((ee_list (n_p (n_n 39) (n_n 0))).all (fun key => match ee_swt code 33 (Int32.ofNat key).toInt with
        | some t => ee_arr code 3 t 1491
        | none => false) && ee_okS code 9 bd_lawb_39 1491 1861)) = true := by decide +kernel
set_option maxRecDepth 100000 in
theorem el_b40 : (!ee_isC bd_lawb_40 && ((ee_list (n_p (n_n 40) (n_n 0))).all (fun key => match ee_swt code 33 (Int32.ofNat key).toInt with
        | some t => ee_arr code 3 t 1530
        | none => false) && ee_okS code 9 bd_lawb_40 1530 1861)) = true := by decide +kernel
set_option maxRecDepth 100000 in
theorem el_b41 : (!ee_isC bd_lawb_41 && ((ee_list (n_p (n_n 41) (n_n 0))).all (fun key => match ee_swt code 33 (Int32.ofNat key).toInt with
        | some t => ee_arr code 3 t 1543
        | none => false) && ee_okS code 9 bd_lawb_41 1543 1861)) = true := by decide +kernel
set_option maxRecDepth 100000 in
theorem el_b42 : (!ee_isC bd_lawb_42 && ((ee_list (n_p (n_n 42) (n_n 0))).all (fun key => match ee_swt code 33 (Int32.ofNat key).toInt with
        | some t => ee_arr code 3 t 1556
        | none => false) && ee_okS code 9 bd_lawb_42 1556 1861)) = true := by decide +kernel
set_option maxRecDepth 100000 in
theorem el_b43 : (!ee_isC bd_lawb_43 && ((ee_list (n_p (n_n 43) (n_n 0))).all (fun key => match ee_swt code 33 (Int32.ofNat key).toInt with
        | some t => ee_arr code 3 t 1595
        | none => false) && ee_okS code 9 bd_lawb_43 1595 1861)) = true := by decide +kernel
set_option maxRecDepth 100000 in
theorem el_b44 : (!ee_isC bd_lawb_44 && ((ee_list (n_p (n_n 44) (n_n 0))).all (fun key => match ee_swt code 33 (Int32.ofNat key).toInt with
        | some t => ee_arr code 3 t 1635
        | none => false) && ee_okS code 9 bd_lawb_44 1635 1861)) = true := by decide +kernel
set_option maxRecDepth 100000 in
theorem el_b45 : (!ee_isC bd_lawb_45 && ((ee_list (n_p (n_n 45) (n_n 0))).all (fun key => match ee_swt code 33 (Int32.ofNat key).toInt with
        | some t => ee_arr code 3 t 1658
        | none => false) && ee_okS code 9 bd_lawb_45 1658 1861)) = true := by decide +kernel
set_option maxRecDepth 100000 in
theorem el_b46 : (!ee_isC bd_lawb_46 && ((ee_list (n_p (n_n 46) (n_n 0))).all (fun key => match ee_swt code 33 (Int32.ofNat key).toInt with
        | some t => ee_arr code 3 t 1671
        | none => false) && ee_okS code 9 bd_lawb_46 1671 1861)) = true := by decide +kernel
set_option maxRecDepth 100000 in
theorem el_b47 : (!ee_isC bd_lawb_47 && ((ee_list (n_p (n_n 47) (n_n 0))).all (fun key => match ee_swt code 33 (Int32.ofNat key).toInt with
        | some t => ee_arr code 3 t 1704
        | none => false) && ee_okS code 9 bd_lawb_47 1704 1861)) = true := by decide +kernel
set_option maxRecDepth 100000 in
theorem el_b48 : (!ee_isC bd_lawb_48 && ((ee_list (n_p (n_n 48) (n_n 0))).all (fun key => match ee_swt code 33 (Int32.ofNat key).toInt with
        | some t => ee_arr code 3 t 1717
        | none => false) && ee_okS code 9 bd_lawb_48 1717 1861)) = true := by decide +kernel
set_option maxRecDepth 100000 in
theorem el_b49 : (!ee_isC bd_lawb_49 && ((ee_list (n_p (n_n 49) (n_n 0))).all (fun key => match ee_swt code 33 (Int32.ofNat key).toInt with
        | some t => ee_arr code 3 t 1730
        | none => false) && ee_okS code 9 bd_lawb_49 1730 1861)) = true := by decide +kernel
set_option maxRecDepth 100000 in
theorem el_b50 : (!ee_isC bd_lawb_50 && ((ee_list (n_p (n_n 50) (n_n 0))).all (fun key => match ee_swt code 33 (Int32.ofNat key).toInt with
        | some t => ee_arr code 3 t 1753
        | none => false) && ee_okS code 9 bd_lawb_50 1753 1861)) = true := by decide +kernel
set_option maxRecDepth 100000 in
theorem el_b51 : (!ee_isC bd_lawb_51 && ((ee_list (n_p (n_n 51) (n_n 0))).all (fun key => match ee_swt code 33 (Int32.ofNat key).toInt with
        | some t => ee_arr code 3 t 1766
        | none => false) && ee_okS code 9 bd_lawb_51 1766 1861)) = true := by decide +kernel
set_option maxRecDepth 100000 in
theorem el_b52 : (!ee_isC bd_lawb_52 && ((ee_list (n_p (n_n 52) (n_n 0))).all (fun key => match ee_swt code 33 (Int32.ofNat key).toInt with
        | some t => ee_arr code 3 t 1789
        | none => false) && ee_okS code 9 bd_lawb_52 1789 1861)) = true := by decide +kernel
set_option maxRecDepth 100000 in
theorem el_b53 : (!ee_isC bd_lawb_53 && ((ee_list (n_p (n_n 53) (n_n 0))).all (fun key => match ee_swt code 33 (Int32.ofNat key).toInt with
        | some t => ee_arr code 3 t 1812
        | none => false) && ee_okS code 9 bd_lawb_53 1812 1861)) = true := by decide +kernel
set_option maxRecDepth 100000 in
theorem el_b54 : (!ee_isC bd_lawb_54 && ((ee_list (n_p (n_n 54) (n_n 0))).all (fun key => match ee_swt code 33 (Int32.ofNat key).toInt with
        | some t => ee_arr code 3 t 1825
        | none => false) && ee_okS code 9 bd_lawb_54 1825 1861)) = true := by decide +kernel
set_option maxRecDepth 100000 in
theorem el_b55 : (!ee_isC bd_lawb_55 && ((ee_list (n_p (n_n 55) (n_n 0))).all (fun key => match ee_swt code 33 (Int32.ofNat key).toInt with
        | some t => ee_arr code 3 t 1838
        | none => false) && ee_okS code 9 bd_lawb_55 1838 1861)) = true := by decide +kernel
set_option maxRecDepth 100000 in
theorem el_c56 : ee_okS code 9 bd_lawc_56 33 1861 = true := by decide +kernel
theorem el_c55 : ee_okS code 9 bd_lawc_55 33 1861 = true := ee_ok_case el_b55 rfl el_c56
theorem el_c54 : ee_okS code 9 bd_lawc_54 33 1861 = true := ee_ok_case el_b54 rfl el_c55
theorem el_c53 : ee_okS code 9 bd_lawc_53 33 1861 = true := ee_ok_case el_b53 rfl el_c54
theorem el_c52 : ee_okS code 9 bd_lawc_52 33 1861 = true := ee_ok_case el_b52 rfl el_c53
theorem el_c51 : ee_okS code 9 bd_lawc_51 33 1861 = true := ee_ok_case el_b51 rfl el_c52
theorem el_c50 : ee_okS code 9 bd_lawc_50 33 1861 = true := ee_ok_case el_b50 rfl el_c51
theorem el_c49 : ee_okS code 9 bd_lawc_49 33 1861 = true := ee_ok_case el_b49 rfl el_c50
theorem el_c48 : ee_okS code 9 bd_lawc_48 33 1861 = true := ee_ok_case el_b48 rfl el_c49
theorem el_c47 : ee_okS code 9 bd_lawc_47 33 1861 = true := ee_ok_case el_b47 rfl el_c48
theorem el_c46 : ee_okS code 9 bd_lawc_46 33 1861 = true := ee_ok_case el_b46 rfl el_c47
theorem el_c45 : ee_okS code 9 bd_lawc_45 33 1861 = true := ee_ok_case el_b45 rfl el_c46
theorem el_c44 : ee_okS code 9 bd_lawc_44 33 1861 = true := ee_ok_case el_b44 rfl el_c45
theorem el_c43 : ee_okS code 9 bd_lawc_43 33 1861 = true := ee_ok_case el_b43 rfl el_c44
theorem el_c42 : ee_okS code 9 bd_lawc_42 33 1861 = true := ee_ok_case el_b42 rfl el_c43
theorem el_c41 : ee_okS code 9 bd_lawc_41 33 1861 = true := ee_ok_case el_b41 rfl el_c42
theorem el_c40 : ee_okS code 9 bd_lawc_40 33 1861 = true := ee_ok_case el_b40 rfl el_c41
theorem el_c39 : ee_okS code 9 bd_lawc_39 33 1861 = true := ee_ok_case el_b39 rfl el_c40
theorem el_c38 : ee_okS code 9 bd_lawc_38 33 1861 = true := ee_ok_case el_b38 rfl el_c39
theorem el_c37 : ee_okS code 9 bd_lawc_37 33 1861 = true := ee_ok_case el_b37 rfl el_c38
theorem el_c36 : ee_okS code 9 bd_lawc_36 33 1861 = true := ee_ok_case el_b36 rfl el_c37
theorem el_c35 : ee_okS code 9 bd_lawc_35 33 1861 = true := ee_ok_case el_b35 rfl el_c36
theorem el_c34 : ee_okS code 9 bd_lawc_34 33 1861 = true := ee_ok_case el_b34 rfl el_c35
theorem el_c33 : ee_okS code 9 bd_lawc_33 33 1861 = true := ee_ok_case el_b33 rfl el_c34
theorem el_c32 : ee_okS code 9 bd_lawc_32 33 1861 = true := ee_ok_case el_b32 rfl el_c33
theorem el_c31 : ee_okS code 9 bd_lawc_31 33 1861 = true := ee_ok_case el_b31 rfl el_c32
theorem el_c30 : ee_okS code 9 bd_lawc_30 33 1861 = true := ee_ok_case el_b30 rfl el_c31
theorem el_c29 : ee_okS code 9 bd_lawc_29 33 1861 = true := ee_ok_case el_b29 rfl el_c30
theorem el_c28 : ee_okS code 9 bd_lawc_28 33 1861 = true := ee_ok_case el_b28 rfl el_c29
theorem el_c27 : ee_okS code 9 bd_lawc_27 33 1861 = true := ee_ok_case el_b27 rfl el_c28
theorem el_c26 : ee_okS code 9 bd_lawc_26 33 1861 = true := ee_ok_case el_b26 rfl el_c27
theorem el_c25 : ee_okS code 9 bd_lawc_25 33 1861 = true := ee_ok_case el_b25 rfl el_c26
theorem el_c24 : ee_okS code 9 bd_lawc_24 33 1861 = true := ee_ok_case el_b24 rfl el_c25
theorem el_c23 : ee_okS code 9 bd_lawc_23 33 1861 = true := ee_ok_case el_b23 rfl el_c24
theorem el_c22 : ee_okS code 9 bd_lawc_22 33 1861 = true := ee_ok_case el_b22 rfl el_c23
theorem el_c21 : ee_okS code 9 bd_lawc_21 33 1861 = true := ee_ok_case el_b21 rfl el_c22
theorem el_c20 : ee_okS code 9 bd_lawc_20 33 1861 = true := ee_ok_case el_b20 rfl el_c21
theorem el_c19 : ee_okS code 9 bd_lawc_19 33 1861 = true := ee_ok_case el_b19 rfl el_c20
theorem el_c18 : ee_okS code 9 bd_lawc_18 33 1861 = true := ee_ok_case el_b18 rfl el_c19
theorem el_c17 : ee_okS code 9 bd_lawc_17 33 1861 = true := ee_ok_case el_b17 rfl el_c18
theorem el_c16 : ee_okS code 9 bd_lawc_16 33 1861 = true := ee_ok_case el_b16 rfl el_c17
theorem el_c15 : ee_okS code 9 bd_lawc_15 33 1861 = true := ee_ok_case el_b15 rfl el_c16
theorem el_c14 : ee_okS code 9 bd_lawc_14 33 1861 = true := ee_ok_case el_b14 rfl el_c15
theorem el_c13 : ee_okS code 9 bd_lawc_13 33 1861 = true := ee_ok_case el_b13 rfl el_c14
theorem el_c12 : ee_okS code 9 bd_lawc_12 33 1861 = true := ee_ok_case el_b12 rfl el_c13
theorem el_c11 : ee_okS code 9 bd_lawc_11 33 1861 = true := ee_ok_case el_b11 rfl el_c12
theorem el_c10 : ee_okS code 9 bd_lawc_10 33 1861 = true := ee_ok_case el_b10 rfl el_c11
theorem el_c9 : ee_okS code 9 bd_lawc_9 33 1861 = true := ee_ok_case el_b9 rfl el_c10
theorem el_c8 : ee_okS code 9 bd_lawc_8 33 1861 = true := ee_ok_case el_b8 rfl el_c9
theorem el_c7 : ee_okS code 9 bd_lawc_7 33 1861 = true := ee_ok_case el_b7 rfl el_c8
theorem el_c6 : ee_okS code 9 bd_lawc_6 33 1861 = true := ee_ok_case el_b6 rfl el_c7
theorem el_c5 : ee_okS code 9 bd_lawc_5 33 1861 = true := ee_ok_case el_b5 rfl el_c6
theorem el_c4 : ee_okS code 9 bd_lawc_4 33 1861 = true := ee_ok_case el_b4 rfl el_c5
theorem el_c3 : ee_okS code 9 bd_lawc_3 33 1861 = true := ee_ok_case el_b3 rfl el_c4
theorem el_c2 : ee_okS code 9 bd_lawc_2 33 1861 = true := ee_ok_case el_b2 rfl el_c3
theorem el_c1 : ee_okS code 9 bd_lawc_1 33 1861 = true := ee_ok_case el_b1 rfl el_c2
theorem el_c0 : ee_okS code 9 bd_lawc_0 33 1861 = true := ee_ok_case el_b0 rfl el_c1
set_option maxRecDepth 100000 in
theorem el_e : ee_ok code 9 bd_lawe 27 0 = some [33] := by decide +kernel
