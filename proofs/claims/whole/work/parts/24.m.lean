noncomputable def lb_X8_share_19 : gz_Sx := gz_if (gz_j2 (fun x y => decide (y < x)) (gz_li 3) (gz_i (90))) (gz_sat 45) (gz_if (gz_j2 (fun x y => decide (y < x)) (gz_ib (fun x y => x + y) (gz_cv 8 48 se_X8_leastSum (gz_a1 (gz_a1 (gz_a1 (gz_a0) (gz_la 0)) (gz_li 1)) (gz_li 3))) (gz_li 2)) (gz_li 3)) (gz_inc 3 (1) (gz_sat 19)) (gz_ri (gz_li 3)))
noncomputable def sm_X8_share : gz_Sx := gz_if (gz_j1 (fun x => decide (¬ x = 0)) (gz_cv 8 48 se_X8_isBegun (gz_a1 (gz_a1 (gz_a0) (gz_la 0)) (gz_li 1)))) (gz_seti 2 (gz_cv 8 48 se_X8_betweens (gz_a1 (gz_a1 (gz_a0) (gz_la 0)) (gz_li 1))) (gz_seti 3 (gz_i (20)) (gz_seq 45 0 (gz_loop 19 4 lb_X8_share_19) (gz_ri (gz_i (-1)))))) (gz_ri (gz_i (-1)))
noncomputable def se_X8_share : gz_Me := gz_sem (some .int) 4 sm_X8_share
abbrev rm_X8_share : Room := { frames := 4, cells := 0, slots := 0, locals := 97 }
abbrev M_X8_share : gz_Mi := (cX8_share, 4, RX8, 4, 97, "share", none)
theorem de_X8_share : yX8_share.cls ≠ "java/lang/invoke/MethodHandle" ∧ yX8_share.cls ≠ "java/lang/invoke/VarHandle" ∧ (parseMethodDescriptor yX8_share.desc).map (fun d => d.parameters.length) = some 1 := by decide +kernel
set_option maxRecDepth 100000 in
theorem mt_X8_share : gz_Mt yX8_share cX8_share 4 (some .int) rm_X8_share se_X8_share := by
  have q1 : gz_OkA M_X8_share 0 0 0 0 0 0 _ := ok_a0
  have q2 : gz_OkE M_X8_share 0 0 0 0 1 _ := ok_aload_n (i := 0) dX8_share_0 rfl
  have q3 : gz_OkA M_X8_share 0 0 0 0 1 1 _ := ok_a1 q1 q2
  have q4 : gz_OkE M_X8_share 2 0 0 1 2 _ := ok_iload_n (i := 1) dX8_share_1 rfl
  have q5 : gz_OkA M_X8_share 0 0 0 0 2 2 _ := ok_a1 q3 q4
  have q6 : gz_OkE M_X8_share 0 0 0 0 5 _ := ok_cv q5 mt_X8_isBegun cl_8 wd_835 wd_188 de_X8_isBegun (by decide) (by decide) wd_836 wd_837 wd_838 dX8_share_2 (by decide)
  have q7 : gz_OkJ M_X8_share 0 0 0 0 10 8 _ := ok_if_ne q6 dX8_share_5 (by decide)
  have q8 : gz_OkA M_X8_share 0 0 0 10 10 0 _ := ok_a0
  have q9 : gz_OkE M_X8_share 0 0 0 10 11 _ := ok_aload_n (i := 0) dX8_share_10 rfl
  have q10 : gz_OkA M_X8_share 0 0 0 10 11 1 _ := ok_a1 q8 q9
  have q11 : gz_OkE M_X8_share 2 0 0 11 12 _ := ok_iload_n (i := 1) dX8_share_11 rfl
  have q12 : gz_OkA M_X8_share 0 0 0 10 12 2 _ := ok_a1 q10 q11
  have q13 : gz_OkE M_X8_share 0 0 0 10 15 _ := ok_cv q12 mt_X8_betweens cl_8 wd_810 wd_188 de_X8_betweens (by decide) (by decide) wd_811 wd_812 wd_813 dX8_share_12 (by decide)
  have q14 : gz_OkE M_X8_share 0 0 0 16 18 _ := ok_bipush (v := 20) dX8_share_16 kc_b20
  have q15 : gz_OkE M_X8_share 0 0 0 19 20 _ := ok_iload_n (i := 3) dX8_share_19 rfl
  have q16 : gz_OkE M_X8_share 1 0 0 20 22 _ := ok_bipush (v := 90) dX8_share_20 kc_b90
  have q17 : gz_OkJ M_X8_share 0 0 0 19 45 25 _ := ok_ic_gt q15 q16 dX8_share_22 (by decide)
  have q18 : gz_OkS M_X8_share 0 0 45 _ := ok_at
  have q19 : gz_OkA M_X8_share 0 0 0 25 25 0 _ := ok_a0
  have q20 : gz_OkE M_X8_share 0 0 0 25 26 _ := ok_aload_n (i := 0) dX8_share_25 rfl
  have q21 : gz_OkA M_X8_share 0 0 0 25 26 1 _ := ok_a1 q19 q20
  have q22 : gz_OkE M_X8_share 2 0 0 26 27 _ := ok_iload_n (i := 1) dX8_share_26 rfl
  have q23 : gz_OkA M_X8_share 0 0 0 25 27 2 _ := ok_a1 q21 q22
  have q24 : gz_OkE M_X8_share 4 0 0 27 28 _ := ok_iload_n (i := 3) dX8_share_27 rfl
  have q25 : gz_OkA M_X8_share 0 0 0 25 28 3 _ := ok_a1 q23 q24
  have q26 : gz_OkE M_X8_share 0 0 0 25 31 _ := ok_cv q25 mt_X8_leastSum cl_8 wd_839 wd_188 de_X8_leastSum (by decide) (by decide) wd_840 wd_841 wd_842 dX8_share_28 (by decide)
  have q27 : gz_OkE M_X8_share 1 0 0 31 32 _ := ok_iload_n (i := 2) dX8_share_31 rfl
  have q28 : gz_OkE M_X8_share 0 0 0 25 33 _ := ok_iadd q26 q27 dX8_share_32
  have q29 : gz_OkE M_X8_share 1 0 0 33 34 _ := ok_iload_n (i := 3) dX8_share_33 rfl
  have q30 : gz_OkJ M_X8_share 0 0 0 25 39 37 _ := ok_ic_gt q28 q29 dX8_share_34 (by decide)
  have q31 : gz_OkS M_X8_share 0 0 42 (gz_sat 19) := ok_goto dX8_share_42 (by decide)
  have q32 : gz_OkS M_X8_share 0 0 39 _ := ok_inc (v := 1) dX8_share_39 kc_i1 (by decide) q31
  have q33 : gz_OkE M_X8_share 0 0 0 37 38 _ := ok_iload_n (i := 3) dX8_share_37 rfl
  have q34 : gz_OkS M_X8_share 0 0 37 _ := ok_ri q33 dX8_share_38
  have q35 : gz_OkS M_X8_share 0 0 25 _ := ok_if q30 q32 q34
  have q36 : gz_OkS M_X8_share 0 0 19 _ := ok_if q17 q18 q35
  have q37 : gz_OkS M_X8_share 0 0 19 lb_X8_share_19 := q36
  have q38 : gz_OkS M_X8_share 0 0 19 _ := ok_loop (k := 4) q37 rfl rfl
  have q39 : gz_OkE M_X8_share 0 0 0 45 46 _ := ok_iconst (v := -1) dX8_share_45 kc_im1
  have q40 : gz_OkS M_X8_share 0 0 45 _ := ok_ri q39 dX8_share_46
  have q41 : gz_OkS M_X8_share 0 0 19 _ := ok_seq (L := 45) (k := 0) q38 q40
  have q42 : gz_OkS M_X8_share 0 0 16 _ := ok_seti_n (k := 3) q14 dX8_share_18 rfl (by decide) q41
  have q43 : gz_OkS M_X8_share 0 0 10 _ := ok_seti_n (k := 2) q13 dX8_share_15 rfl (by decide) q42
  have q44 : gz_OkE M_X8_share 0 0 0 8 9 _ := ok_iconst (v := -1) dX8_share_8 kc_im1
  have q45 : gz_OkS M_X8_share 0 0 8 _ := ok_ri q44 dX8_share_9
  have q46 : gz_OkS M_X8_share 0 0 0 _ := ok_if q7 q43 q45
  have z : gz_OkS M_X8_share 0 0 0 sm_X8_share := q46
  exact gz_met (plainFor_of_name (by decide)) z (by decide) (by decide)
noncomputable def lb_X8_tries_25 : gz_Sx := gz_if (gz_j2 (fun x y => decide (y ≤ x)) (gz_li 9) (gz_ald 100 (gz_get 8 48 11 (gz_la 0)) (gz_li 1))) (gz_sat 74) (gz_seq 68 10 (gz_if (gz_j2 (fun x y => decide (¬ x = y)) (gz_ib (fun x y => x &&& y) (gz_ib (fun x y => x >>> (y &&& 31)) (gz_ald 100 (gz_get 8 48 12 (gz_la 0)) (gz_ib (fun x y => x + y) (gz_ib (fun x y => x * y) (gz_i (4)) (gz_li 1)) (gz_li 9))) (gz_li 7)) (gz_i (1))) (gz_i (1))) (gz_sat 68) (gz_seti 8 (gz_ib (fun x y => x + y) (gz_li 8) (gz_ald 100 (gz_get 8 48 25 (gz_la 0)) (gz_li 9))) (gz_sat 68))) (gz_inc 9 (1) (gz_sat 25)))
noncomputable def lb_X8_tries_8 : gz_Sx := gz_if (gz_j2 (fun x y => decide (y ≤ x)) (gz_li 7) (gz_ald 100 (gz_get 8 48 2 (gz_la 0)) (gz_li 1))) (gz_sat 148) (gz_seti 8 (gz_i (0)) (gz_seti 9 (gz_i (0)) (gz_seq 74 9 (gz_loop 25 10 lb_X8_tries_25) (gz_seq 142 8 (gz_if (gz_j1 (fun x => decide (¬ x = 0)) (gz_li 8)) (gz_set2 9 (gz_lb (fun x y => x * y) (gz_i2l (gz_ald 100 (gz_get 8 48 4 (gz_la 0)) (gz_ib (fun x y => x + y) (gz_ib (fun x y => x * y) (gz_i (8)) (gz_li 1)) (gz_li 7)))) (gz_i2l (gz_li 2))) (gz_set2 11 (gz_lb (fun x y => x * y) (gz_i2l (gz_ald 100 (gz_get 8 48 5 (gz_la 0)) (gz_ib (fun x y => x + y) (gz_ib (fun x y => x * y) (gz_i (8)) (gz_li 1)) (gz_li 7)))) (gz_i2l (gz_li 8))) (gz_if (gz_j1 (fun x => decide (0 < x)) (gz_lc (gz_lb (fun x y => x * y) (gz_ll 9) (gz_ll 5)) (gz_lb (fun x y => x * y) (gz_ll 3) (gz_ll 11)))) (gz_set2 3 (gz_ll 9) (gz_set2 5 (gz_ll 11) (gz_sat 142))) (gz_sat 142)))) (gz_sat 142)) (gz_inc 7 (1) (gz_sat 8))))))
noncomputable def lb_X8_tries_189 : gz_Sx := gz_if (gz_j2 (fun x y => decide (y ≤ x)) (gz_li 7) (gz_ald 100 (gz_get 8 48 11 (gz_la 0)) (gz_li 1))) (gz_sat 220) (gz_ast 100 (gz_get 8 48 26 (gz_la 0)) (gz_li 7) (gz_ald 100 (gz_get 8 48 25 (gz_la 0)) (gz_li 7)) (gz_inc 7 (1) (gz_sat 189)))
noncomputable def sm_X8_tries : gz_Sx := gz_set2 3 (gz_l (0)) (gz_set2 5 (gz_l (1)) (gz_seti 7 (gz_i (0)) (gz_seq 148 6 (gz_loop 8 8 lb_X8_tries_8) (gz_if (gz_jo (gz_j1 (fun x => decide (x ≤ 0)) (gz_lc (gz_get 8 48 28 (gz_la 0)) (gz_l (0)))) (gz_j1 (fun x => decide (x < 0)) (gz_lc (gz_lb (fun x y => x * y) (gz_ll 3) (gz_get 8 48 28 (gz_la 0))) (gz_lb (fun x y => x * y) (gz_get 8 48 27 (gz_la 0)) (gz_ll 5))))) (gz_put 8 48 27 .long (gz_la 0) (gz_ll 3) (gz_put 8 48 28 .long (gz_la 0) (gz_ll 5) (gz_seti 7 (gz_i (0)) (gz_seq 220 0 (gz_loop 189 8 lb_X8_tries_189) (gz_rv))))) (gz_rv)))))
noncomputable def se_X8_tries : gz_Me := gz_sem none 13 sm_X8_tries
abbrev rm_X8_tries : Room := { frames := 0, cells := 0, slots := 0, locals := 0 }
abbrev M_X8_tries : gz_Mi := (cX8_tries, 13, RX8, 0, 0, "tries", none)
theorem de_X8_tries : yX8_tries.cls ≠ "java/lang/invoke/MethodHandle" ∧ yX8_tries.cls ≠ "java/lang/invoke/VarHandle" ∧ (parseMethodDescriptor yX8_tries.desc).map (fun d => d.parameters.length) = some 2 := by decide +kernel
set_option maxRecDepth 100000 in
theorem mt_X8_tries : gz_Mt yX8_tries cX8_tries 13 none rm_X8_tries se_X8_tries := by
  have q1 : gz_OkE M_X8_tries 0 0 0 0 1 _ := ok_lconst (v := 0) dX8_tries_0 kc_l0
  have q2 : gz_OkE M_X8_tries 0 0 0 2 3 _ := ok_lconst (v := 1) dX8_tries_2 kc_l1
  have q3 : gz_OkE M_X8_tries 0 0 0 5 6 _ := ok_iconst (v := 0) dX8_tries_5 kc_i0
  have q4 : gz_OkE M_X8_tries 0 0 0 8 10 _ := ok_iload (i := 7) dX8_tries_8
  have q5 : gz_OkE M_X8_tries 1 0 0 10 11 _ := ok_aload_n (i := 0) dX8_tries_10 rfl
  have q6 : gz_OkE M_X8_tries 1 0 0 10 14 _ := ok_get q5 cl_8 (k := 2) (by decide) in_8 wd_128 dX8_tries_11
  have q7 : gz_OkE M_X8_tries 2 0 0 14 15 _ := ok_iload_n (i := 1) dX8_tries_14 rfl
  have q8 : gz_OkE M_X8_tries 1 0 0 10 16 _ := ok_iald q6 q7 dX8_tries_15
  have q9 : gz_OkJ M_X8_tries 0 0 0 8 148 19 _ := ok_ic_ge q4 q8 dX8_tries_16 (by decide)
  have q10 : gz_OkS M_X8_tries 0 0 148 _ := ok_at
  have q11 : gz_OkE M_X8_tries 0 0 0 19 20 _ := ok_iconst (v := 0) dX8_tries_19 kc_i0
  have q12 : gz_OkE M_X8_tries 0 0 0 22 23 _ := ok_iconst (v := 0) dX8_tries_22 kc_i0
  have q13 : gz_OkE M_X8_tries 0 0 0 25 27 _ := ok_iload (i := 9) dX8_tries_25
  have q14 : gz_OkE M_X8_tries 1 0 0 27 28 _ := ok_aload_n (i := 0) dX8_tries_27 rfl
  have q15 : gz_OkE M_X8_tries 1 0 0 27 31 _ := ok_get q14 cl_8 (k := 11) (by decide) in_8 wd_137 dX8_tries_28
  have q16 : gz_OkE M_X8_tries 2 0 0 31 32 _ := ok_iload_n (i := 1) dX8_tries_31 rfl
  have q17 : gz_OkE M_X8_tries 1 0 0 27 33 _ := ok_iald q15 q16 dX8_tries_32
  have q18 : gz_OkJ M_X8_tries 0 0 0 25 74 36 _ := ok_ic_ge q13 q17 dX8_tries_33 (by decide)
  have q19 : gz_OkS M_X8_tries 0 0 74 _ := ok_at
  have q20 : gz_OkE M_X8_tries 0 0 0 36 37 _ := ok_aload_n (i := 0) dX8_tries_36 rfl
  have q21 : gz_OkE M_X8_tries 0 0 0 36 40 _ := ok_get q20 cl_8 (k := 12) (by decide) in_8 wd_138 dX8_tries_37
  have q22 : gz_OkE M_X8_tries 1 0 0 40 41 _ := ok_iconst (v := 4) dX8_tries_40 kc_i4
  have q23 : gz_OkE M_X8_tries 2 0 0 41 42 _ := ok_iload_n (i := 1) dX8_tries_41 rfl
  have q24 : gz_OkE M_X8_tries 1 0 0 40 43 _ := ok_imul q22 q23 dX8_tries_42
  have q25 : gz_OkE M_X8_tries 2 0 0 43 45 _ := ok_iload (i := 9) dX8_tries_43
  have q26 : gz_OkE M_X8_tries 1 0 0 40 46 _ := ok_iadd q24 q25 dX8_tries_45
  have q27 : gz_OkE M_X8_tries 0 0 0 36 47 _ := ok_iald q21 q26 dX8_tries_46
  have q28 : gz_OkE M_X8_tries 1 0 0 47 49 _ := ok_iload (i := 7) dX8_tries_47
  have q29 : gz_OkE M_X8_tries 0 0 0 36 50 _ := ok_ishr q27 q28 dX8_tries_49
  have q30 : gz_OkE M_X8_tries 1 0 0 50 51 _ := ok_iconst (v := 1) dX8_tries_50 kc_i1
  have q31 : gz_OkE M_X8_tries 0 0 0 36 52 _ := ok_iand q29 q30 dX8_tries_51
  have q32 : gz_OkE M_X8_tries 1 0 0 52 53 _ := ok_iconst (v := 1) dX8_tries_52 kc_i1
  have q33 : gz_OkJ M_X8_tries 0 0 0 36 68 56 _ := ok_ic_ne q31 q32 dX8_tries_53 (by decide)
  have q34 : gz_OkS M_X8_tries 0 0 68 _ := ok_at
  have q35 : gz_OkE M_X8_tries 0 0 0 56 58 _ := ok_iload (i := 8) dX8_tries_56
  have q36 : gz_OkE M_X8_tries 1 0 0 58 59 _ := ok_aload_n (i := 0) dX8_tries_58 rfl
  have q37 : gz_OkE M_X8_tries 1 0 0 58 62 _ := ok_get q36 cl_8 (k := 25) (by decide) in_8 wd_150 dX8_tries_59
  have q38 : gz_OkE M_X8_tries 2 0 0 62 64 _ := ok_iload (i := 9) dX8_tries_62
  have q39 : gz_OkE M_X8_tries 1 0 0 58 65 _ := ok_iald q37 q38 dX8_tries_64
  have q40 : gz_OkE M_X8_tries 0 0 0 56 66 _ := ok_iadd q35 q39 dX8_tries_65
  have q41 : gz_OkS M_X8_tries 0 0 68 _ := ok_at
  have q42 : gz_OkS M_X8_tries 0 0 56 _ := ok_seti (k := 8) q40 dX8_tries_66 (by decide) q41
  have q43 : gz_OkS M_X8_tries 0 0 36 _ := ok_if q33 q34 q42
  have q44 : gz_OkS M_X8_tries 0 0 71 (gz_sat 25) := ok_goto dX8_tries_71 (by decide)
  have q45 : gz_OkS M_X8_tries 0 0 68 _ := ok_inc (v := 1) dX8_tries_68 kc_i1 (by decide) q44
  have q46 : gz_OkS M_X8_tries 0 0 36 _ := ok_seq (L := 68) (k := 10) q43 q45
  have q47 : gz_OkS M_X8_tries 0 0 25 _ := ok_if q18 q19 q46
  have q48 : gz_OkS M_X8_tries 0 0 25 lb_X8_tries_25 := q47
  have q49 : gz_OkS M_X8_tries 0 0 25 _ := ok_loop (k := 10) q48 rfl rfl
  have q50 : gz_OkE M_X8_tries 0 0 0 74 76 _ := ok_iload (i := 8) dX8_tries_74
  have q51 : gz_OkJ M_X8_tries 0 0 0 74 82 79 _ := ok_if_ne q50 dX8_tries_76 (by decide)
  have q52 : gz_OkE M_X8_tries 0 0 0 82 83 _ := ok_aload_n (i := 0) dX8_tries_82 rfl
  have q53 : gz_OkE M_X8_tries 0 0 0 82 86 _ := ok_get q52 cl_8 (k := 4) (by decide) in_8 wd_130 dX8_tries_83
  have q54 : gz_OkE M_X8_tries 1 0 0 86 88 _ := ok_bipush (v := 8) dX8_tries_86 kc_b8
  have q55 : gz_OkE M_X8_tries 2 0 0 88 89 _ := ok_iload_n (i := 1) dX8_tries_88 rfl
  have q56 : gz_OkE M_X8_tries 1 0 0 86 90 _ := ok_imul q54 q55 dX8_tries_89
  have q57 : gz_OkE M_X8_tries 2 0 0 90 92 _ := ok_iload (i := 7) dX8_tries_90
  have q58 : gz_OkE M_X8_tries 1 0 0 86 93 _ := ok_iadd q56 q57 dX8_tries_92
  have q59 : gz_OkE M_X8_tries 0 0 0 82 94 _ := ok_iald q53 q58 dX8_tries_93
  have q60 : gz_OkE M_X8_tries 0 0 0 82 95 _ := ok_i2l q59 dX8_tries_94
  have q61 : gz_OkE M_X8_tries 2 0 0 95 96 _ := ok_iload_n (i := 2) dX8_tries_95 rfl
  have q62 : gz_OkE M_X8_tries 2 0 0 95 97 _ := ok_i2l q61 dX8_tries_96
  have q63 : gz_OkE M_X8_tries 0 0 0 82 98 _ := ok_lmul q60 q62 dX8_tries_97
  have q64 : gz_OkE M_X8_tries 0 0 0 100 101 _ := ok_aload_n (i := 0) dX8_tries_100 rfl
  have q65 : gz_OkE M_X8_tries 0 0 0 100 104 _ := ok_get q64 cl_8 (k := 5) (by decide) in_8 wd_131 dX8_tries_101
  have q66 : gz_OkE M_X8_tries 1 0 0 104 106 _ := ok_bipush (v := 8) dX8_tries_104 kc_b8
  have q67 : gz_OkE M_X8_tries 2 0 0 106 107 _ := ok_iload_n (i := 1) dX8_tries_106 rfl
  have q68 : gz_OkE M_X8_tries 1 0 0 104 108 _ := ok_imul q66 q67 dX8_tries_107
  have q69 : gz_OkE M_X8_tries 2 0 0 108 110 _ := ok_iload (i := 7) dX8_tries_108
  have q70 : gz_OkE M_X8_tries 1 0 0 104 111 _ := ok_iadd q68 q69 dX8_tries_110
  have q71 : gz_OkE M_X8_tries 0 0 0 100 112 _ := ok_iald q65 q70 dX8_tries_111
  have q72 : gz_OkE M_X8_tries 0 0 0 100 113 _ := ok_i2l q71 dX8_tries_112
  have q73 : gz_OkE M_X8_tries 2 0 0 113 115 _ := ok_iload (i := 8) dX8_tries_113
  have q74 : gz_OkE M_X8_tries 2 0 0 113 116 _ := ok_i2l q73 dX8_tries_115
  have q75 : gz_OkE M_X8_tries 0 0 0 100 117 _ := ok_lmul q72 q74 dX8_tries_116
  have q76 : gz_OkE M_X8_tries 0 0 0 119 121 _ := ok_lload (i := 9) dX8_tries_119
  have q77 : gz_OkE M_X8_tries 2 0 0 121 123 _ := ok_lload (i := 5) dX8_tries_121
  have q78 : gz_OkE M_X8_tries 0 0 0 119 124 _ := ok_lmul q76 q77 dX8_tries_123
  have q79 : gz_OkE M_X8_tries 2 0 0 124 125 _ := ok_lload_n (i := 3) dX8_tries_124 rfl
  have q80 : gz_OkE M_X8_tries 4 0 0 125 127 _ := ok_lload (i := 11) dX8_tries_125
  have q81 : gz_OkE M_X8_tries 2 0 0 124 128 _ := ok_lmul q79 q80 dX8_tries_127
  have q82 : gz_OkE M_X8_tries 0 0 0 119 129 _ := ok_lcmp q78 q81 dX8_tries_128
  have q83 : gz_OkJ M_X8_tries 0 0 0 119 135 132 _ := ok_if_gt q82 dX8_tries_129 (by decide)
  have q84 : gz_OkE M_X8_tries 0 0 0 135 137 _ := ok_lload (i := 9) dX8_tries_135
  have q85 : gz_OkE M_X8_tries 0 0 0 138 140 _ := ok_lload (i := 11) dX8_tries_138
  have q86 : gz_OkS M_X8_tries 0 0 142 _ := ok_at
  have q87 : gz_OkS M_X8_tries 0 0 138 _ := ok_setl (k := 5) q85 dX8_tries_140 (by decide) q86
  have q88 : gz_OkS M_X8_tries 0 0 135 _ := ok_setl_n (k := 3) q84 dX8_tries_137 rfl (by decide) q87
  have q89 : gz_OkS M_X8_tries 0 0 132 (gz_sat 142) := ok_goto dX8_tries_132 (by decide)
  have q90 : gz_OkS M_X8_tries 0 0 119 _ := ok_if q83 q88 q89
  have q91 : gz_OkS M_X8_tries 0 0 100 _ := ok_setl (k := 11) q75 dX8_tries_117 (by decide) q90
  have q92 : gz_OkS M_X8_tries 0 0 82 _ := ok_setl (k := 9) q63 dX8_tries_98 (by decide) q91
  have q93 : gz_OkS M_X8_tries 0 0 79 (gz_sat 142) := ok_goto dX8_tries_79 (by decide)
  have q94 : gz_OkS M_X8_tries 0 0 74 _ := ok_if q51 q92 q93
  have q95 : gz_OkS M_X8_tries 0 0 145 (gz_sat 8) := ok_goto dX8_tries_145 (by decide)
  have q96 : gz_OkS M_X8_tries 0 0 142 _ := ok_inc (v := 1) dX8_tries_142 kc_i1 (by decide) q95
  have q97 : gz_OkS M_X8_tries 0 0 74 _ := ok_seq (L := 142) (k := 8) q94 q96
  have q98 : gz_OkS M_X8_tries 0 0 25 _ := ok_seq (L := 74) (k := 9) q49 q97
  have q99 : gz_OkS M_X8_tries 0 0 22 _ := ok_seti (k := 9) q12 dX8_tries_23 (by decide) q98
  have q100 : gz_OkS M_X8_tries 0 0 19 _ := ok_seti (k := 8) q11 dX8_tries_20 (by decide) q99
  have q101 : gz_OkS M_X8_tries 0 0 8 _ := ok_if q9 q10 q100
  have q102 : gz_OkS M_X8_tries 0 0 8 lb_X8_tries_8 := q101
  have q103 : gz_OkS M_X8_tries 0 0 8 _ := ok_loop (k := 8) q102 rfl rfl
  have q104 : gz_OkE M_X8_tries 0 0 0 148 149 _ := ok_aload_n (i := 0) dX8_tries_148 rfl
  have q105 : gz_OkE M_X8_tries 0 0 0 148 152 _ := ok_get q104 cl_8 (k := 28) (by decide) in_8 wd_173 dX8_tries_149
  have q106 : gz_OkE M_X8_tries 2 0 0 152 153 _ := ok_lconst (v := 0) dX8_tries_152 kc_l0
  have q107 : gz_OkE M_X8_tries 0 0 0 148 154 _ := ok_lcmp q105 q106 dX8_tries_153
  have q108 : gz_OkJ M_X8_tries 0 0 0 148 175 157 _ := ok_if_le q107 dX8_tries_154 (by decide)
  have q109 : gz_OkE M_X8_tries 0 0 0 157 158 _ := ok_lload_n (i := 3) dX8_tries_157 rfl
  have q110 : gz_OkE M_X8_tries 2 0 0 158 159 _ := ok_aload_n (i := 0) dX8_tries_158 rfl
  have q111 : gz_OkE M_X8_tries 2 0 0 158 162 _ := ok_get q110 cl_8 (k := 28) (by decide) in_8 wd_173 dX8_tries_159
  have q112 : gz_OkE M_X8_tries 0 0 0 157 163 _ := ok_lmul q109 q111 dX8_tries_162
  have q113 : gz_OkE M_X8_tries 2 0 0 163 164 _ := ok_aload_n (i := 0) dX8_tries_163 rfl
  have q114 : gz_OkE M_X8_tries 2 0 0 163 167 _ := ok_get q113 cl_8 (k := 27) (by decide) in_8 wd_174 dX8_tries_164
  have q115 : gz_OkE M_X8_tries 4 0 0 167 169 _ := ok_lload (i := 5) dX8_tries_167
  have q116 : gz_OkE M_X8_tries 2 0 0 163 170 _ := ok_lmul q114 q115 dX8_tries_169
  have q117 : gz_OkE M_X8_tries 0 0 0 157 171 _ := ok_lcmp q112 q116 dX8_tries_170
  have q118 : gz_OkJ M_X8_tries 0 0 0 157 175 174 _ := ok_if_lt q117 dX8_tries_171 (by decide)
  have q119 : gz_OkJ M_X8_tries 0 0 0 148 175 174 _ := ok_jo q108 q118
  have q120 : gz_OkE M_X8_tries 0 0 0 175 176 _ := ok_aload_n (i := 0) dX8_tries_175 rfl
  have q121 : gz_OkE M_X8_tries 1 0 0 176 177 _ := ok_lload_n (i := 3) dX8_tries_176 rfl
  have q122 : gz_OkE M_X8_tries 0 0 0 180 181 _ := ok_aload_n (i := 0) dX8_tries_180 rfl
  have q123 : gz_OkE M_X8_tries 1 0 0 181 183 _ := ok_lload (i := 5) dX8_tries_181
  have q124 : gz_OkE M_X8_tries 0 0 0 186 187 _ := ok_iconst (v := 0) dX8_tries_186 kc_i0
  have q125 : gz_OkE M_X8_tries 0 0 0 189 191 _ := ok_iload (i := 7) dX8_tries_189
  have q126 : gz_OkE M_X8_tries 1 0 0 191 192 _ := ok_aload_n (i := 0) dX8_tries_191 rfl
  have q127 : gz_OkE M_X8_tries 1 0 0 191 195 _ := ok_get q126 cl_8 (k := 11) (by decide) in_8 wd_137 dX8_tries_192
  have q128 : gz_OkE M_X8_tries 2 0 0 195 196 _ := ok_iload_n (i := 1) dX8_tries_195 rfl
  have q129 : gz_OkE M_X8_tries 1 0 0 191 197 _ := ok_iald q127 q128 dX8_tries_196
  have q130 : gz_OkJ M_X8_tries 0 0 0 189 220 200 _ := ok_ic_ge q125 q129 dX8_tries_197 (by decide)
  have q131 : gz_OkS M_X8_tries 0 0 220 _ := ok_at
  have q132 : gz_OkE M_X8_tries 0 0 0 200 201 _ := ok_aload_n (i := 0) dX8_tries_200 rfl
  have q133 : gz_OkE M_X8_tries 0 0 0 200 204 _ := ok_get q132 cl_8 (k := 26) (by decide) in_8 wd_151 dX8_tries_201
  have q134 : gz_OkE M_X8_tries 1 0 0 204 206 _ := ok_iload (i := 7) dX8_tries_204
  have q135 : gz_OkE M_X8_tries 2 0 0 206 207 _ := ok_aload_n (i := 0) dX8_tries_206 rfl
  have q136 : gz_OkE M_X8_tries 2 0 0 206 210 _ := ok_get q135 cl_8 (k := 25) (by decide) in_8 wd_150 dX8_tries_207
  have q137 : gz_OkE M_X8_tries 3 0 0 210 212 _ := ok_iload (i := 7) dX8_tries_210
  have q138 : gz_OkE M_X8_tries 2 0 0 206 213 _ := ok_iald q136 q137 dX8_tries_212
  have q139 : gz_OkS M_X8_tries 0 0 217 (gz_sat 189) := ok_goto dX8_tries_217 (by decide)
  have q140 : gz_OkS M_X8_tries 0 0 214 _ := ok_inc (v := 1) dX8_tries_214 kc_i1 (by decide) q139
  have q141 : gz_OkS M_X8_tries 0 0 200 _ := ok_iast q133 q134 q138 dX8_tries_213 q140
  have q142 : gz_OkS M_X8_tries 0 0 189 _ := ok_if q130 q131 q141
  have q143 : gz_OkS M_X8_tries 0 0 189 lb_X8_tries_189 := q142
  have q144 : gz_OkS M_X8_tries 0 0 189 _ := ok_loop (k := 8) q143 rfl rfl
  have q145 : gz_OkS M_X8_tries 0 0 220 _ := ok_rv dX8_tries_220
  have q146 : gz_OkS M_X8_tries 0 0 189 _ := ok_seq (L := 220) (k := 0) q144 q145
  have q147 : gz_OkS M_X8_tries 0 0 186 _ := ok_seti (k := 7) q124 dX8_tries_187 (by decide) q146
  have q148 : gz_OkS M_X8_tries 0 0 180 _ := ok_put (ty := .long) q122 q123 cl_8 (k := 28) (by decide) in_8 wd_173 tyX8 tyX8_ok nmX8 rfl rfl dX8_tries_183 q147
  have q149 : gz_OkS M_X8_tries 0 0 175 _ := ok_put (ty := .long) q120 q121 cl_8 (k := 27) (by decide) in_8 wd_174 tyX8 tyX8_ok nmX8 rfl rfl dX8_tries_177 q148
  have q150 : gz_OkS M_X8_tries 0 0 174 _ := ok_rv dX8_tries_174
  have q151 : gz_OkS M_X8_tries 0 0 148 _ := ok_if q119 q149 q150
  have q152 : gz_OkS M_X8_tries 0 0 8 _ := ok_seq (L := 148) (k := 6) q103 q151
  have q153 : gz_OkS M_X8_tries 0 0 5 _ := ok_seti (k := 7) q3 dX8_tries_6 (by decide) q152
  have q154 : gz_OkS M_X8_tries 0 0 2 _ := ok_setl (k := 5) q2 dX8_tries_3 (by decide) q153
  have q155 : gz_OkS M_X8_tries 0 0 0 _ := ok_setl_n (k := 3) q1 dX8_tries_1 rfl (by decide) q154
  have z : gz_OkS M_X8_tries 0 0 0 sm_X8_tries := q155
  exact gz_met (plainFor_of_name (by decide)) z (by decide) (by decide)
noncomputable def lb_X8_fit_161 : gz_Sx := gz_if (gz_j2 (fun x y => decide (y < x)) (gz_li 8) (gz_ib (fun x y => x - y) (gz_ib (fun x y => x - y) (gz_ib (fun x y => x - y) (gz_li 5) (gz_li 6)) (gz_li 7)) (gz_i (1)))) (gz_sat 213) (gz_ast 100 (gz_get 8 48 25 (gz_la 0)) (gz_i (2)) (gz_li 8) (gz_ast 100 (gz_get 8 48 25 (gz_la 0)) (gz_i (3)) (gz_ib (fun x y => x - y) (gz_ib (fun x y => x - y) (gz_ib (fun x y => x - y) (gz_li 5) (gz_li 6)) (gz_li 7)) (gz_li 8)) (gz_vv 8 48 se_X8_tries (gz_a1 (gz_a1 (gz_a1 (gz_a0) (gz_la 0)) (gz_li 3)) (gz_li 2)) (gz_inc 8 (1) (gz_sat 161)))))
noncomputable def lb_X8_fit_106 : gz_Sx := gz_if (gz_j2 (fun x y => decide (y < x)) (gz_li 7) (gz_ib (fun x y => x + y) (gz_ib (fun x y => x - y) (gz_ib (fun x y => x - y) (gz_li 5) (gz_li 6)) (gz_li 4)) (gz_i (2)))) (gz_sat 219) (gz_ast 100 (gz_get 8 48 25 (gz_la 0)) (gz_i (1)) (gz_li 7) (gz_seq 213 8 (gz_if (gz_j2 (fun x y => decide (¬ x = y)) (gz_li 4) (gz_i (3))) (gz_seti 8 (gz_i (1)) (gz_loop 161 9 lb_X8_fit_161)) (gz_ast 100 (gz_get 8 48 25 (gz_la 0)) (gz_i (2)) (gz_ib (fun x y => x - y) (gz_ib (fun x y => x - y) (gz_li 5) (gz_li 6)) (gz_li 7)) (gz_vv 8 48 se_X8_tries (gz_a1 (gz_a1 (gz_a1 (gz_a0) (gz_la 0)) (gz_li 3)) (gz_li 2)) (gz_sat 213)))) (gz_inc 7 (1) (gz_sat 106))))
noncomputable def lb_X8_fit_57 : gz_Sx := gz_if (gz_j2 (fun x y => decide (y < x)) (gz_li 6) (gz_ib (fun x y => x + y) (gz_ib (fun x y => x - y) (gz_li 5) (gz_li 4)) (gz_i (1)))) (gz_sat 225) (gz_ast 100 (gz_get 8 48 25 (gz_la 0)) (gz_i (0)) (gz_li 6) (gz_seq 219 7 (gz_if (gz_j2 (fun x y => decide (¬ x = y)) (gz_li 4) (gz_i (2))) (gz_seti 7 (gz_i (1)) (gz_loop 106 8 lb_X8_fit_106)) (gz_ast 100 (gz_get 8 48 25 (gz_la 0)) (gz_i (1)) (gz_ib (fun x y => x - y) (gz_li 5) (gz_li 6)) (gz_vv 8 48 se_X8_tries (gz_a1 (gz_a1 (gz_a1 (gz_a0) (gz_la 0)) (gz_li 3)) (gz_li 2)) (gz_sat 219)))) (gz_inc 6 (1) (gz_sat 57))))
noncomputable def lb_X8_fit_235 : gz_Sx := gz_if (gz_j2 (fun x y => decide (y ≤ x)) (gz_li 6) (gz_li 4)) (gz_sat 266) (gz_ast 100 (gz_get 8 48 13 (gz_la 0)) (gz_ib (fun x y => x + y) (gz_ib (fun x y => x * y) (gz_i (4)) (gz_li 3)) (gz_li 6)) (gz_ald 100 (gz_get 8 48 26 (gz_la 0)) (gz_li 6)) (gz_inc 6 (1) (gz_sat 235)))
noncomputable def sm_X8_fit : gz_Sx := gz_if (gz_ja (gz_j1 (fun x => decide (x = 0)) (gz_cv 8 48 se_X8_isBegun (gz_a1 (gz_a1 (gz_a0) (gz_la 0)) (gz_li 1)))) (gz_j1 (fun x => decide (¬ x = 0)) (gz_cs se_X8_isIn (gz_a1 (gz_a1 (gz_a1 (gz_a0) (gz_li 2)) (gz_i (20))) (gz_i (90)))))) (gz_seti 3 (gz_li 1) (gz_seti 4 (gz_ald 100 (gz_get 8 48 11 (gz_la 0)) (gz_li 3)) (gz_seti 5 (gz_ib (fun x y => x - y) (gz_li 2) (gz_cv 8 48 se_X8_betweens (gz_a1 (gz_a1 (gz_a0) (gz_la 0)) (gz_li 3)))) (gz_if (gz_j2 (fun x y => decide (y ≤ x)) (gz_li 5) (gz_li 4)) (gz_put 8 48 28 .long (gz_la 0) (gz_l (0)) (gz_seti 6 (gz_i (1)) (gz_seq 225 5 (gz_loop 57 7 lb_X8_fit_57) (gz_ast 100 (gz_get 8 48 10 (gz_la 0)) (gz_li 3) (gz_li 2) (gz_seti 6 (gz_i (0)) (gz_seq 266 0 (gz_loop 235 7 lb_X8_fit_235) (gz_ri (gz_i (1))))))))) (gz_ri (gz_i (0))))))) (gz_ri (gz_i (0)))
noncomputable def se_X8_fit : gz_Me := gz_sem (some .boolean) 9 sm_X8_fit
abbrev rm_X8_fit : Room := { frames := 4, cells := 0, slots := 0, locals := 97 }
abbrev M_X8_fit : gz_Mi := (cX8_fit, 9, RX8, 4, 97, "fit", none)
theorem de_X8_fit : yX8_fit.cls ≠ "java/lang/invoke/MethodHandle" ∧ yX8_fit.cls ≠ "java/lang/invoke/VarHandle" ∧ (parseMethodDescriptor yX8_fit.desc).map (fun d => d.parameters.length) = some 2 := by decide +kernel
set_option maxRecDepth 100000 in
theorem mt_X8_fit : gz_Mt yX8_fit cX8_fit 9 (some .boolean) rm_X8_fit se_X8_fit := by
  have q1 : gz_OkA M_X8_fit 0 0 0 0 0 0 _ := ok_a0
  have q2 : gz_OkE M_X8_fit 0 0 0 0 1 _ := ok_aload_n (i := 0) dX8_fit_0 rfl
  have q3 : gz_OkA M_X8_fit 0 0 0 0 1 1 _ := ok_a1 q1 q2
  have q4 : gz_OkE M_X8_fit 2 0 0 1 2 _ := ok_iload_n (i := 1) dX8_fit_1 rfl
  have q5 : gz_OkA M_X8_fit 0 0 0 0 2 2 _ := ok_a1 q3 q4
  have q6 : gz_OkE M_X8_fit 0 0 0 0 5 _ := ok_cv q5 mt_X8_isBegun cl_8 wd_835 wd_188 de_X8_isBegun (by decide) (by decide) wd_836 wd_837 wd_838 dX8_fit_2 (by decide)
  have q7 : gz_OkJ M_X8_fit 0 0 0 0 19 8 _ := ok_if_eq q6 dX8_fit_5 (by decide)
  have q8 : gz_OkA M_X8_fit 0 0 0 8 8 0 _ := ok_a0
  have q9 : gz_OkE M_X8_fit 0 0 0 8 9 _ := ok_iload_n (i := 2) dX8_fit_8 rfl
  have q10 : gz_OkA M_X8_fit 0 0 0 8 9 1 _ := ok_a1 q8 q9
  have q11 : gz_OkE M_X8_fit 2 0 0 9 11 _ := ok_bipush (v := 20) dX8_fit_9 kc_b20
  have q12 : gz_OkA M_X8_fit 0 0 0 8 11 2 _ := ok_a1 q10 q11
  have q13 : gz_OkE M_X8_fit 4 0 0 11 13 _ := ok_bipush (v := 90) dX8_fit_11 kc_b90
  have q14 : gz_OkA M_X8_fit 0 0 0 8 13 3 _ := ok_a1 q12 q13
  have q15 : gz_OkE M_X8_fit 0 0 0 8 16 _ := ok_cs q14 mt_X8_isIn wd_765 wd_188 de_X8_isIn (by decide) (by decide) wd_766 wd_767 dX8_fit_13 (by decide)
  have q16 : gz_OkJ M_X8_fit 0 0 0 8 21 19 _ := ok_if_ne q15 dX8_fit_16 (by decide)
  have q17 : gz_OkJ M_X8_fit 0 0 0 0 21 19 _ := ok_ja q7 q16
  have q18 : gz_OkE M_X8_fit 0 0 0 21 22 _ := ok_iload_n (i := 1) dX8_fit_21 rfl
  have q19 : gz_OkE M_X8_fit 0 0 0 23 24 _ := ok_aload_n (i := 0) dX8_fit_23 rfl
  have q20 : gz_OkE M_X8_fit 0 0 0 23 27 _ := ok_get q19 cl_8 (k := 11) (by decide) in_8 wd_137 dX8_fit_24
  have q21 : gz_OkE M_X8_fit 1 0 0 27 28 _ := ok_iload_n (i := 3) dX8_fit_27 rfl
  have q22 : gz_OkE M_X8_fit 0 0 0 23 29 _ := ok_iald q20 q21 dX8_fit_28
  have q23 : gz_OkE M_X8_fit 0 0 0 31 32 _ := ok_iload_n (i := 2) dX8_fit_31 rfl
  have q24 : gz_OkA M_X8_fit 1 0 0 32 32 0 _ := ok_a0
  have q25 : gz_OkE M_X8_fit 1 0 0 32 33 _ := ok_aload_n (i := 0) dX8_fit_32 rfl
  have q26 : gz_OkA M_X8_fit 1 0 0 32 33 1 _ := ok_a1 q24 q25
  have q27 : gz_OkE M_X8_fit 3 0 0 33 34 _ := ok_iload_n (i := 3) dX8_fit_33 rfl
  have q28 : gz_OkA M_X8_fit 1 0 0 32 34 2 _ := ok_a1 q26 q27
  have q29 : gz_OkE M_X8_fit 1 0 0 32 37 _ := ok_cv q28 mt_X8_betweens cl_8 wd_810 wd_188 de_X8_betweens (by decide) (by decide) wd_811 wd_812 wd_813 dX8_fit_34 (by decide)
  have q30 : gz_OkE M_X8_fit 0 0 0 31 38 _ := ok_isub q23 q29 dX8_fit_37
  have q31 : gz_OkE M_X8_fit 0 0 0 40 42 _ := ok_iload (i := 5) dX8_fit_40
  have q32 : gz_OkE M_X8_fit 1 0 0 42 44 _ := ok_iload (i := 4) dX8_fit_42
  have q33 : gz_OkJ M_X8_fit 0 0 0 40 49 47 _ := ok_ic_ge q31 q32 dX8_fit_44 (by decide)
  have q34 : gz_OkE M_X8_fit 0 0 0 49 50 _ := ok_aload_n (i := 0) dX8_fit_49 rfl
  have q35 : gz_OkE M_X8_fit 1 0 0 50 51 _ := ok_lconst (v := 0) dX8_fit_50 kc_l0
  have q36 : gz_OkE M_X8_fit 0 0 0 54 55 _ := ok_iconst (v := 1) dX8_fit_54 kc_i1
  have q37 : gz_OkE M_X8_fit 0 0 0 57 59 _ := ok_iload (i := 6) dX8_fit_57
  have q38 : gz_OkE M_X8_fit 1 0 0 59 61 _ := ok_iload (i := 5) dX8_fit_59
  have q39 : gz_OkE M_X8_fit 2 0 0 61 63 _ := ok_iload (i := 4) dX8_fit_61
  have q40 : gz_OkE M_X8_fit 1 0 0 59 64 _ := ok_isub q38 q39 dX8_fit_63
  have q41 : gz_OkE M_X8_fit 2 0 0 64 65 _ := ok_iconst (v := 1) dX8_fit_64 kc_i1
  have q42 : gz_OkE M_X8_fit 1 0 0 59 66 _ := ok_iadd q40 q41 dX8_fit_65
  have q43 : gz_OkJ M_X8_fit 0 0 0 57 225 69 _ := ok_ic_gt q37 q42 dX8_fit_66 (by decide)
  have q44 : gz_OkS M_X8_fit 0 0 225 _ := ok_at
  have q45 : gz_OkE M_X8_fit 0 0 0 69 70 _ := ok_aload_n (i := 0) dX8_fit_69 rfl
  have q46 : gz_OkE M_X8_fit 0 0 0 69 73 _ := ok_get q45 cl_8 (k := 25) (by decide) in_8 wd_150 dX8_fit_70
  have q47 : gz_OkE M_X8_fit 1 0 0 73 74 _ := ok_iconst (v := 0) dX8_fit_73 kc_i0
  have q48 : gz_OkE M_X8_fit 2 0 0 74 76 _ := ok_iload (i := 6) dX8_fit_74
  have q49 : gz_OkE M_X8_fit 0 0 0 77 79 _ := ok_iload (i := 4) dX8_fit_77
  have q50 : gz_OkE M_X8_fit 1 0 0 79 80 _ := ok_iconst (v := 2) dX8_fit_79 kc_i2
  have q51 : gz_OkJ M_X8_fit 0 0 0 77 103 83 _ := ok_ic_ne q49 q50 dX8_fit_80 (by decide)
  have q52 : gz_OkE M_X8_fit 0 0 0 103 104 _ := ok_iconst (v := 1) dX8_fit_103 kc_i1
  have q53 : gz_OkE M_X8_fit 0 0 0 106 108 _ := ok_iload (i := 7) dX8_fit_106
  have q54 : gz_OkE M_X8_fit 1 0 0 108 110 _ := ok_iload (i := 5) dX8_fit_108
  have q55 : gz_OkE M_X8_fit 2 0 0 110 112 _ := ok_iload (i := 6) dX8_fit_110
  have q56 : gz_OkE M_X8_fit 1 0 0 108 113 _ := ok_isub q54 q55 dX8_fit_112
  have q57 : gz_OkE M_X8_fit 2 0 0 113 115 _ := ok_iload (i := 4) dX8_fit_113
  have q58 : gz_OkE M_X8_fit 1 0 0 108 116 _ := ok_isub q56 q57 dX8_fit_115
  have q59 : gz_OkE M_X8_fit 2 0 0 116 117 _ := ok_iconst (v := 2) dX8_fit_116 kc_i2
  have q60 : gz_OkE M_X8_fit 1 0 0 108 118 _ := ok_iadd q58 q59 dX8_fit_117
  have q61 : gz_OkJ M_X8_fit 0 0 0 106 219 121 _ := ok_ic_gt q53 q60 dX8_fit_118 (by decide)
  have q62 : gz_OkS M_X8_fit 0 0 219 _ := ok_at
  have q63 : gz_OkE M_X8_fit 0 0 0 121 122 _ := ok_aload_n (i := 0) dX8_fit_121 rfl
  have q64 : gz_OkE M_X8_fit 0 0 0 121 125 _ := ok_get q63 cl_8 (k := 25) (by decide) in_8 wd_150 dX8_fit_122
  have q65 : gz_OkE M_X8_fit 1 0 0 125 126 _ := ok_iconst (v := 1) dX8_fit_125 kc_i1
  have q66 : gz_OkE M_X8_fit 2 0 0 126 128 _ := ok_iload (i := 7) dX8_fit_126
  have q67 : gz_OkE M_X8_fit 0 0 0 129 131 _ := ok_iload (i := 4) dX8_fit_129
  have q68 : gz_OkE M_X8_fit 1 0 0 131 132 _ := ok_iconst (v := 3) dX8_fit_131 kc_i3
  have q69 : gz_OkJ M_X8_fit 0 0 0 129 158 135 _ := ok_ic_ne q67 q68 dX8_fit_132 (by decide)
  have q70 : gz_OkE M_X8_fit 0 0 0 158 159 _ := ok_iconst (v := 1) dX8_fit_158 kc_i1
  have q71 : gz_OkE M_X8_fit 0 0 0 161 163 _ := ok_iload (i := 8) dX8_fit_161
  have q72 : gz_OkE M_X8_fit 1 0 0 163 165 _ := ok_iload (i := 5) dX8_fit_163
  have q73 : gz_OkE M_X8_fit 2 0 0 165 167 _ := ok_iload (i := 6) dX8_fit_165
  have q74 : gz_OkE M_X8_fit 1 0 0 163 168 _ := ok_isub q72 q73 dX8_fit_167
  have q75 : gz_OkE M_X8_fit 2 0 0 168 170 _ := ok_iload (i := 7) dX8_fit_168
  have q76 : gz_OkE M_X8_fit 1 0 0 163 171 _ := ok_isub q74 q75 dX8_fit_170
  have q77 : gz_OkE M_X8_fit 2 0 0 171 172 _ := ok_iconst (v := 1) dX8_fit_171 kc_i1
  have q78 : gz_OkE M_X8_fit 1 0 0 163 173 _ := ok_isub q76 q77 dX8_fit_172
  have q79 : gz_OkJ M_X8_fit 0 0 0 161 213 176 _ := ok_ic_gt q71 q78 dX8_fit_173 (by decide)
  have q80 : gz_OkS M_X8_fit 0 0 213 _ := ok_at
  have q81 : gz_OkE M_X8_fit 0 0 0 176 177 _ := ok_aload_n (i := 0) dX8_fit_176 rfl
  have q82 : gz_OkE M_X8_fit 0 0 0 176 180 _ := ok_get q81 cl_8 (k := 25) (by decide) in_8 wd_150 dX8_fit_177
  have q83 : gz_OkE M_X8_fit 1 0 0 180 181 _ := ok_iconst (v := 2) dX8_fit_180 kc_i2
  have q84 : gz_OkE M_X8_fit 2 0 0 181 183 _ := ok_iload (i := 8) dX8_fit_181
  have q85 : gz_OkE M_X8_fit 0 0 0 184 185 _ := ok_aload_n (i := 0) dX8_fit_184 rfl
  have q86 : gz_OkE M_X8_fit 0 0 0 184 188 _ := ok_get q85 cl_8 (k := 25) (by decide) in_8 wd_150 dX8_fit_185
  have q87 : gz_OkE M_X8_fit 1 0 0 188 189 _ := ok_iconst (v := 3) dX8_fit_188 kc_i3
  have q88 : gz_OkE M_X8_fit 2 0 0 189 191 _ := ok_iload (i := 5) dX8_fit_189
  have q89 : gz_OkE M_X8_fit 3 0 0 191 193 _ := ok_iload (i := 6) dX8_fit_191
  have q90 : gz_OkE M_X8_fit 2 0 0 189 194 _ := ok_isub q88 q89 dX8_fit_193
  have q91 : gz_OkE M_X8_fit 3 0 0 194 196 _ := ok_iload (i := 7) dX8_fit_194
  have q92 : gz_OkE M_X8_fit 2 0 0 189 197 _ := ok_isub q90 q91 dX8_fit_196
  have q93 : gz_OkE M_X8_fit 3 0 0 197 199 _ := ok_iload (i := 8) dX8_fit_197
  have q94 : gz_OkE M_X8_fit 2 0 0 189 200 _ := ok_isub q92 q93 dX8_fit_199
  have q95 : gz_OkA M_X8_fit 0 0 0 201 201 0 _ := ok_a0
  have q96 : gz_OkE M_X8_fit 0 0 0 201 202 _ := ok_aload_n (i := 0) dX8_fit_201 rfl
  have q97 : gz_OkA M_X8_fit 0 0 0 201 202 1 _ := ok_a1 q95 q96
  have q98 : gz_OkE M_X8_fit 2 0 0 202 203 _ := ok_iload_n (i := 3) dX8_fit_202 rfl
  have q99 : gz_OkA M_X8_fit 0 0 0 201 203 2 _ := ok_a1 q97 q98
  have q100 : gz_OkE M_X8_fit 4 0 0 203 204 _ := ok_iload_n (i := 2) dX8_fit_203 rfl
  have q101 : gz_OkA M_X8_fit 0 0 0 201 204 3 _ := ok_a1 q99 q100
  have q102 : gz_OkS M_X8_fit 0 0 210 (gz_sat 161) := ok_goto dX8_fit_210 (by decide)
  have q103 : gz_OkS M_X8_fit 0 0 207 _ := ok_inc (v := 1) dX8_fit_207 kc_i1 (by decide) q102
  have q104 : gz_OkS M_X8_fit 0 0 201 _ := ok_vv q101 mt_X8_tries cl_8 wd_843 wd_188 de_X8_tries (by decide) (by decide) wd_844 wd_845 wd_846 dX8_fit_204 q103
  have q105 : gz_OkS M_X8_fit 0 0 184 _ := ok_iast q86 q87 q94 dX8_fit_200 q104
  have q106 : gz_OkS M_X8_fit 0 0 176 _ := ok_iast q82 q83 q84 dX8_fit_183 q105
  have q107 : gz_OkS M_X8_fit 0 0 161 _ := ok_if q79 q80 q106
  have q108 : gz_OkS M_X8_fit 0 0 161 lb_X8_fit_161 := q107
  have q109 : gz_OkS M_X8_fit 0 0 161 _ := ok_loop (k := 9) q108 rfl rfl
  have q110 : gz_OkS M_X8_fit 0 0 158 _ := ok_seti (k := 8) q70 dX8_fit_159 (by decide) q109
  have q111 : gz_OkE M_X8_fit 0 0 0 135 136 _ := ok_aload_n (i := 0) dX8_fit_135 rfl
  have q112 : gz_OkE M_X8_fit 0 0 0 135 139 _ := ok_get q111 cl_8 (k := 25) (by decide) in_8 wd_150 dX8_fit_136
  have q113 : gz_OkE M_X8_fit 1 0 0 139 140 _ := ok_iconst (v := 2) dX8_fit_139 kc_i2
  have q114 : gz_OkE M_X8_fit 2 0 0 140 142 _ := ok_iload (i := 5) dX8_fit_140
  have q115 : gz_OkE M_X8_fit 3 0 0 142 144 _ := ok_iload (i := 6) dX8_fit_142
  have q116 : gz_OkE M_X8_fit 2 0 0 140 145 _ := ok_isub q114 q115 dX8_fit_144
  have q117 : gz_OkE M_X8_fit 3 0 0 145 147 _ := ok_iload (i := 7) dX8_fit_145
  have q118 : gz_OkE M_X8_fit 2 0 0 140 148 _ := ok_isub q116 q117 dX8_fit_147
  have q119 : gz_OkA M_X8_fit 0 0 0 149 149 0 _ := ok_a0
  have q120 : gz_OkE M_X8_fit 0 0 0 149 150 _ := ok_aload_n (i := 0) dX8_fit_149 rfl
  have q121 : gz_OkA M_X8_fit 0 0 0 149 150 1 _ := ok_a1 q119 q120
  have q122 : gz_OkE M_X8_fit 2 0 0 150 151 _ := ok_iload_n (i := 3) dX8_fit_150 rfl
  have q123 : gz_OkA M_X8_fit 0 0 0 149 151 2 _ := ok_a1 q121 q122
  have q124 : gz_OkE M_X8_fit 4 0 0 151 152 _ := ok_iload_n (i := 2) dX8_fit_151 rfl
  have q125 : gz_OkA M_X8_fit 0 0 0 149 152 3 _ := ok_a1 q123 q124
  have q126 : gz_OkS M_X8_fit 0 0 155 (gz_sat 213) := ok_goto dX8_fit_155 (by decide)
  have q127 : gz_OkS M_X8_fit 0 0 149 _ := ok_vv q125 mt_X8_tries cl_8 wd_843 wd_188 de_X8_tries (by decide) (by decide) wd_844 wd_845 wd_846 dX8_fit_152 q126
  have q128 : gz_OkS M_X8_fit 0 0 135 _ := ok_iast q112 q113 q118 dX8_fit_148 q127
  have q129 : gz_OkS M_X8_fit 0 0 129 _ := ok_if q69 q110 q128
  have q130 : gz_OkS M_X8_fit 0 0 216 (gz_sat 106) := ok_goto dX8_fit_216 (by decide)
  have q131 : gz_OkS M_X8_fit 0 0 213 _ := ok_inc (v := 1) dX8_fit_213 kc_i1 (by decide) q130
  have q132 : gz_OkS M_X8_fit 0 0 129 _ := ok_seq (L := 213) (k := 8) q129 q131
  have q133 : gz_OkS M_X8_fit 0 0 121 _ := ok_iast q64 q65 q66 dX8_fit_128 q132
  have q134 : gz_OkS M_X8_fit 0 0 106 _ := ok_if q61 q62 q133
  have q135 : gz_OkS M_X8_fit 0 0 106 lb_X8_fit_106 := q134
  have q136 : gz_OkS M_X8_fit 0 0 106 _ := ok_loop (k := 8) q135 rfl rfl
  have q137 : gz_OkS M_X8_fit 0 0 103 _ := ok_seti (k := 7) q52 dX8_fit_104 (by decide) q136
  have q138 : gz_OkE M_X8_fit 0 0 0 83 84 _ := ok_aload_n (i := 0) dX8_fit_83 rfl
  have q139 : gz_OkE M_X8_fit 0 0 0 83 87 _ := ok_get q138 cl_8 (k := 25) (by decide) in_8 wd_150 dX8_fit_84
  have q140 : gz_OkE M_X8_fit 1 0 0 87 88 _ := ok_iconst (v := 1) dX8_fit_87 kc_i1
  have q141 : gz_OkE M_X8_fit 2 0 0 88 90 _ := ok_iload (i := 5) dX8_fit_88
  have q142 : gz_OkE M_X8_fit 3 0 0 90 92 _ := ok_iload (i := 6) dX8_fit_90
  have q143 : gz_OkE M_X8_fit 2 0 0 88 93 _ := ok_isub q141 q142 dX8_fit_92
  have q144 : gz_OkA M_X8_fit 0 0 0 94 94 0 _ := ok_a0
  have q145 : gz_OkE M_X8_fit 0 0 0 94 95 _ := ok_aload_n (i := 0) dX8_fit_94 rfl
  have q146 : gz_OkA M_X8_fit 0 0 0 94 95 1 _ := ok_a1 q144 q145
  have q147 : gz_OkE M_X8_fit 2 0 0 95 96 _ := ok_iload_n (i := 3) dX8_fit_95 rfl
  have q148 : gz_OkA M_X8_fit 0 0 0 94 96 2 _ := ok_a1 q146 q147
  have q149 : gz_OkE M_X8_fit 4 0 0 96 97 _ := ok_iload_n (i := 2) dX8_fit_96 rfl
  have q150 : gz_OkA M_X8_fit 0 0 0 94 97 3 _ := ok_a1 q148 q149
  have q151 : gz_OkS M_X8_fit 0 0 100 (gz_sat 219) := ok_goto dX8_fit_100 (by decide)
  have q152 : gz_OkS M_X8_fit 0 0 94 _ := ok_vv q150 mt_X8_tries cl_8 wd_843 wd_188 de_X8_tries (by decide) (by decide) wd_844 wd_845 wd_846 dX8_fit_97 q151
  have q153 : gz_OkS M_X8_fit 0 0 83 _ := ok_iast q139 q140 q143 dX8_fit_93 q152
  have q154 : gz_OkS M_X8_fit 0 0 77 _ := ok_if q51 q137 q153
  have q155 : gz_OkS M_X8_fit 0 0 222 (gz_sat 57) := ok_goto dX8_fit_222 (by decide)
  have q156 : gz_OkS M_X8_fit 0 0 219 _ := ok_inc (v := 1) dX8_fit_219 kc_i1 (by decide) q155
  have q157 : gz_OkS M_X8_fit 0 0 77 _ := ok_seq (L := 219) (k := 7) q154 q156
  have q158 : gz_OkS M_X8_fit 0 0 69 _ := ok_iast q46 q47 q48 dX8_fit_76 q157
  have q159 : gz_OkS M_X8_fit 0 0 57 _ := ok_if q43 q44 q158
  have q160 : gz_OkS M_X8_fit 0 0 57 lb_X8_fit_57 := q159
  have q161 : gz_OkS M_X8_fit 0 0 57 _ := ok_loop (k := 7) q160 rfl rfl
  have q162 : gz_OkE M_X8_fit 0 0 0 225 226 _ := ok_aload_n (i := 0) dX8_fit_225 rfl
  have q163 : gz_OkE M_X8_fit 0 0 0 225 229 _ := ok_get q162 cl_8 (k := 10) (by decide) in_8 wd_136 dX8_fit_226
  have q164 : gz_OkE M_X8_fit 1 0 0 229 230 _ := ok_iload_n (i := 3) dX8_fit_229 rfl
  have q165 : gz_OkE M_X8_fit 2 0 0 230 231 _ := ok_iload_n (i := 2) dX8_fit_230 rfl
  have q166 : gz_OkE M_X8_fit 0 0 0 232 233 _ := ok_iconst (v := 0) dX8_fit_232 kc_i0
  have q167 : gz_OkE M_X8_fit 0 0 0 235 237 _ := ok_iload (i := 6) dX8_fit_235
  have q168 : gz_OkE M_X8_fit 1 0 0 237 239 _ := ok_iload (i := 4) dX8_fit_237
  have q169 : gz_OkJ M_X8_fit 0 0 0 235 266 242 _ := ok_ic_ge q167 q168 dX8_fit_239 (by decide)
  have q170 : gz_OkS M_X8_fit 0 0 266 _ := ok_at
  have q171 : gz_OkE M_X8_fit 0 0 0 242 243 _ := ok_aload_n (i := 0) dX8_fit_242 rfl
  have q172 : gz_OkE M_X8_fit 0 0 0 242 246 _ := ok_get q171 cl_8 (k := 13) (by decide) in_8 wd_139 dX8_fit_243
  have q173 : gz_OkE M_X8_fit 1 0 0 246 247 _ := ok_iconst (v := 4) dX8_fit_246 kc_i4
  have q174 : gz_OkE M_X8_fit 2 0 0 247 248 _ := ok_iload_n (i := 3) dX8_fit_247 rfl
  have q175 : gz_OkE M_X8_fit 1 0 0 246 249 _ := ok_imul q173 q174 dX8_fit_248
  have q176 : gz_OkE M_X8_fit 2 0 0 249 251 _ := ok_iload (i := 6) dX8_fit_249
  have q177 : gz_OkE M_X8_fit 1 0 0 246 252 _ := ok_iadd q175 q176 dX8_fit_251
  have q178 : gz_OkE M_X8_fit 2 0 0 252 253 _ := ok_aload_n (i := 0) dX8_fit_252 rfl
  have q179 : gz_OkE M_X8_fit 2 0 0 252 256 _ := ok_get q178 cl_8 (k := 26) (by decide) in_8 wd_151 dX8_fit_253
  have q180 : gz_OkE M_X8_fit 3 0 0 256 258 _ := ok_iload (i := 6) dX8_fit_256
  have q181 : gz_OkE M_X8_fit 2 0 0 252 259 _ := ok_iald q179 q180 dX8_fit_258
  have q182 : gz_OkS M_X8_fit 0 0 263 (gz_sat 235) := ok_goto dX8_fit_263 (by decide)
  have q183 : gz_OkS M_X8_fit 0 0 260 _ := ok_inc (v := 1) dX8_fit_260 kc_i1 (by decide) q182
  have q184 : gz_OkS M_X8_fit 0 0 242 _ := ok_iast q172 q177 q181 dX8_fit_259 q183
  have q185 : gz_OkS M_X8_fit 0 0 235 _ := ok_if q169 q170 q184
  have q186 : gz_OkS M_X8_fit 0 0 235 lb_X8_fit_235 := q185
  have q187 : gz_OkS M_X8_fit 0 0 235 _ := ok_loop (k := 7) q186 rfl rfl
  have q188 : gz_OkE M_X8_fit 0 0 0 266 267 _ := ok_iconst (v := 1) dX8_fit_266 kc_i1
  have q189 : gz_OkS M_X8_fit 0 0 266 _ := ok_ri q188 dX8_fit_267
  have q190 : gz_OkS M_X8_fit 0 0 235 _ := ok_seq (L := 266) (k := 0) q187 q189
  have q191 : gz_OkS M_X8_fit 0 0 232 _ := ok_seti (k := 6) q166 dX8_fit_233 (by decide) q190
  have q192 : gz_OkS M_X8_fit 0 0 225 _ := ok_iast q163 q164 q165 dX8_fit_231 q191
  have q193 : gz_OkS M_X8_fit 0 0 57 _ := ok_seq (L := 225) (k := 5) q161 q192
  have q194 : gz_OkS M_X8_fit 0 0 54 _ := ok_seti (k := 6) q36 dX8_fit_55 (by decide) q193
  have q195 : gz_OkS M_X8_fit 0 0 49 _ := ok_put (ty := .long) q34 q35 cl_8 (k := 28) (by decide) in_8 wd_173 tyX8 tyX8_ok nmX8 rfl rfl dX8_fit_51 q194
  have q196 : gz_OkE M_X8_fit 0 0 0 47 48 _ := ok_iconst (v := 0) dX8_fit_47 kc_i0
  have q197 : gz_OkS M_X8_fit 0 0 47 _ := ok_ri q196 dX8_fit_48
  have q198 : gz_OkS M_X8_fit 0 0 40 _ := ok_if q33 q195 q197
  have q199 : gz_OkS M_X8_fit 0 0 31 _ := ok_seti (k := 5) q30 dX8_fit_38 (by decide) q198
  have q200 : gz_OkS M_X8_fit 0 0 23 _ := ok_seti (k := 4) q22 dX8_fit_29 (by decide) q199
  have q201 : gz_OkS M_X8_fit 0 0 21 _ := ok_seti_n (k := 3) q18 dX8_fit_22 rfl (by decide) q200
  have q202 : gz_OkE M_X8_fit 0 0 0 19 20 _ := ok_iconst (v := 0) dX8_fit_19 kc_i0
  have q203 : gz_OkS M_X8_fit 0 0 19 _ := ok_ri q202 dX8_fit_20
  have q204 : gz_OkS M_X8_fit 0 0 0 _ := ok_if q17 q201 q203
  have z : gz_OkS M_X8_fit 0 0 0 sm_X8_fit := q204
  exact gz_met (plainFor_of_name (by decide)) z (by decide) (by decide)
noncomputable def sm_X8_green : gz_Sx := gz_ri (gz_te (gz_jo (gz_j1 (fun x => decide (x = 0)) (gz_cv 8 48 se_X8_isJunction (gz_a1 (gz_a1 (gz_a0) (gz_la 0)) (gz_li 1)))) (gz_jo (gz_j1 (fun x => decide (x = 0)) (gz_ald 101 (gz_get 8 48 9 (gz_la 0)) (gz_li 1))) (gz_jo (gz_j1 (fun x => decide (x < 0)) (gz_li 2)) (gz_j2 (fun x y => decide (y ≤ x)) (gz_li 2) (gz_ald 100 (gz_get 8 48 11 (gz_la 0)) (gz_li 1)))))) (gz_i (-1)) (gz_ald 100 (gz_get 8 48 13 (gz_la 0)) (gz_ib (fun x y => x + y) (gz_ib (fun x y => x * y) (gz_i (4)) (gz_li 1)) (gz_li 2))))
noncomputable def se_X8_green : gz_Me := gz_sem (some .int) 3 sm_X8_green
abbrev rm_X8_green : Room := { frames := 1, cells := 0, slots := 0, locals := 21 }
abbrev M_X8_green : gz_Mi := (cX8_green, 3, RX8, 1, 21, "green", none)
theorem de_X8_green : yX8_green.cls ≠ "java/lang/invoke/MethodHandle" ∧ yX8_green.cls ≠ "java/lang/invoke/VarHandle" ∧ (parseMethodDescriptor yX8_green.desc).map (fun d => d.parameters.length) = some 2 := by decide +kernel
set_option maxRecDepth 100000 in
theorem mt_X8_green : gz_Mt yX8_green cX8_green 3 (some .int) rm_X8_green se_X8_green := by
  have q1 : gz_OkA M_X8_green 0 0 0 0 0 0 _ := ok_a0
  have q2 : gz_OkE M_X8_green 0 0 0 0 1 _ := ok_aload_n (i := 0) dX8_green_0 rfl
  have q3 : gz_OkA M_X8_green 0 0 0 0 1 1 _ := ok_a1 q1 q2
  have q4 : gz_OkE M_X8_green 2 0 0 1 2 _ := ok_iload_n (i := 1) dX8_green_1 rfl
  have q5 : gz_OkA M_X8_green 0 0 0 0 2 2 _ := ok_a1 q3 q4
  have q6 : gz_OkE M_X8_green 0 0 0 0 5 _ := ok_cv q5 mt_X8_isJunction cl_8 wd_761 wd_188 de_X8_isJunction (by decide) (by decide) wd_762 wd_763 wd_764 dX8_green_2 (by decide)
  have q7 : gz_OkJ M_X8_green 0 0 0 0 44 8 _ := ok_if_eq q6 dX8_green_5 (by decide)
  have q8 : gz_OkE M_X8_green 0 0 0 8 9 _ := ok_aload_n (i := 0) dX8_green_8 rfl
  have q9 : gz_OkE M_X8_green 0 0 0 8 12 _ := ok_get q8 cl_8 (k := 9) (by decide) in_8 wd_135 dX8_green_9
  have q10 : gz_OkE M_X8_green 1 0 0 12 13 _ := ok_iload_n (i := 1) dX8_green_12 rfl
  have q11 : gz_OkE M_X8_green 0 0 0 8 14 _ := ok_zald q9 q10 dX8_green_13
  have q12 : gz_OkJ M_X8_green 0 0 0 8 44 17 _ := ok_if_eq q11 dX8_green_14 (by decide)
  have q13 : gz_OkE M_X8_green 0 0 0 17 18 _ := ok_iload_n (i := 2) dX8_green_17 rfl
  have q14 : gz_OkJ M_X8_green 0 0 0 17 44 21 _ := ok_if_lt q13 dX8_green_18 (by decide)
  have q15 : gz_OkE M_X8_green 0 0 0 21 22 _ := ok_iload_n (i := 2) dX8_green_21 rfl
  have q16 : gz_OkE M_X8_green 1 0 0 22 23 _ := ok_aload_n (i := 0) dX8_green_22 rfl
  have q17 : gz_OkE M_X8_green 1 0 0 22 26 _ := ok_get q16 cl_8 (k := 11) (by decide) in_8 wd_137 dX8_green_23
  have q18 : gz_OkE M_X8_green 2 0 0 26 27 _ := ok_iload_n (i := 1) dX8_green_26 rfl
  have q19 : gz_OkE M_X8_green 1 0 0 22 28 _ := ok_iald q17 q18 dX8_green_27
  have q20 : gz_OkJ M_X8_green 0 0 0 21 44 31 _ := ok_ic_ge q15 q19 dX8_green_28 (by decide)
  have q21 : gz_OkJ M_X8_green 0 0 0 17 44 31 _ := ok_jo q14 q20
  have q22 : gz_OkJ M_X8_green 0 0 0 8 44 31 _ := ok_jo q12 q21
  have q23 : gz_OkJ M_X8_green 0 0 0 0 44 31 _ := ok_jo q7 q22
  have q24 : gz_OkE M_X8_green 0 0 0 31 32 _ := ok_aload_n (i := 0) dX8_green_31 rfl
  have q25 : gz_OkE M_X8_green 0 0 0 31 35 _ := ok_get q24 cl_8 (k := 13) (by decide) in_8 wd_139 dX8_green_32
  have q26 : gz_OkE M_X8_green 1 0 0 35 36 _ := ok_iconst (v := 4) dX8_green_35 kc_i4
  have q27 : gz_OkE M_X8_green 2 0 0 36 37 _ := ok_iload_n (i := 1) dX8_green_36 rfl
  have q28 : gz_OkE M_X8_green 1 0 0 35 38 _ := ok_imul q26 q27 dX8_green_37
  have q29 : gz_OkE M_X8_green 2 0 0 38 39 _ := ok_iload_n (i := 2) dX8_green_38 rfl
  have q30 : gz_OkE M_X8_green 1 0 0 35 40 _ := ok_iadd q28 q29 dX8_green_39
  have q31 : gz_OkE M_X8_green 0 0 0 31 41 _ := ok_iald q25 q30 dX8_green_40
  have q32 : gz_OkE M_X8_green 0 0 0 31 45 _ := ok_eg q31 dX8_green_41 (by decide)
  have q33 : gz_OkE M_X8_green 0 0 0 44 45 _ := ok_iconst (v := -1) dX8_green_44 kc_im1
  have q34 : gz_OkE M_X8_green 0 0 0 0 45 _ := ok_te2 q23 q32 q33
  have q35 : gz_OkS M_X8_green 0 0 0 _ := ok_ri q34 dX8_green_45
  have z : gz_OkS M_X8_green 0 0 0 sm_X8_green := q35
  exact gz_met (plainFor_of_name (by decide)) z (by decide) (by decide)
noncomputable def sm_X8_lamp : gz_Sx := gz_if (gz_ja (gz_j1 (fun x => decide (x = 0)) (gz_cv 8 48 se_X8_isStream (gz_a1 (gz_a1 (gz_a1 (gz_a0) (gz_la 0)) (gz_li 1)) (gz_li 2)))) (gz_j1 (fun x => decide (¬ x = 0)) (gz_cs se_X8_isIn (gz_a1 (gz_a1 (gz_a1 (gz_a0) (gz_li 3)) (gz_i (0))) (gz_i (1000000)))))) (gz_ri (gz_te (gz_jo (gz_j1 (fun x => decide (x = 0)) (gz_ald 101 (gz_get 8 48 9 (gz_la 0)) (gz_ib (fun x y => x + y) (gz_i (8)) (gz_li 1)))) (gz_j1 (fun x => decide (x = 0)) (gz_cv 8 48 se_X8_isGreen (gz_a1 (gz_a1 (gz_a1 (gz_a1 (gz_a0) (gz_la 0)) (gz_ib (fun x y => x + y) (gz_i (8)) (gz_li 1))) (gz_li 2)) (gz_ib (fun x y => x - y) (gz_li 3) (gz_ald 100 (gz_get 8 48 14 (gz_la 0)) (gz_ib (fun x y => x + y) (gz_i (8)) (gz_li 1)))))))) (gz_i (0)) (gz_i (1)))) (gz_ri (gz_i (-1)))
noncomputable def se_X8_lamp : gz_Me := gz_sem (some .int) 4 sm_X8_lamp
abbrev rm_X8_lamp : Room := { frames := 2, cells := 0, slots := 0, locals := 45 }
abbrev M_X8_lamp : gz_Mi := (cX8_lamp, 4, RX8, 2, 45, "lamp", none)
theorem de_X8_lamp : yX8_lamp.cls ≠ "java/lang/invoke/MethodHandle" ∧ yX8_lamp.cls ≠ "java/lang/invoke/VarHandle" ∧ (parseMethodDescriptor yX8_lamp.desc).map (fun d => d.parameters.length) = some 3 := by decide +kernel
set_option maxRecDepth 100000 in
theorem mt_X8_lamp : gz_Mt yX8_lamp cX8_lamp 4 (some .int) rm_X8_lamp se_X8_lamp := by
  have q1 : gz_OkA M_X8_lamp 0 0 0 0 0 0 _ := ok_a0
  have q2 : gz_OkE M_X8_lamp 0 0 0 0 1 _ := ok_aload_n (i := 0) dX8_lamp_0 rfl
  have q3 : gz_OkA M_X8_lamp 0 0 0 0 1 1 _ := ok_a1 q1 q2
  have q4 : gz_OkE M_X8_lamp 2 0 0 1 2 _ := ok_iload_n (i := 1) dX8_lamp_1 rfl
  have q5 : gz_OkA M_X8_lamp 0 0 0 0 2 2 _ := ok_a1 q3 q4
  have q6 : gz_OkE M_X8_lamp 4 0 0 2 3 _ := ok_iload_n (i := 2) dX8_lamp_2 rfl
  have q7 : gz_OkA M_X8_lamp 0 0 0 0 3 3 _ := ok_a1 q5 q6
  have q8 : gz_OkE M_X8_lamp 0 0 0 0 6 _ := ok_cv q7 mt_X8_isStream cl_8 wd_781 wd_188 de_X8_isStream (by decide) (by decide) wd_782 wd_783 wd_784 dX8_lamp_3 (by decide)
  have q9 : gz_OkJ M_X8_lamp 0 0 0 0 19 9 _ := ok_if_eq q8 dX8_lamp_6 (by decide)
  have q10 : gz_OkA M_X8_lamp 0 0 0 9 9 0 _ := ok_a0
  have q11 : gz_OkE M_X8_lamp 0 0 0 9 10 _ := ok_iload_n (i := 3) dX8_lamp_9 rfl
  have q12 : gz_OkA M_X8_lamp 0 0 0 9 10 1 _ := ok_a1 q10 q11
  have q13 : gz_OkE M_X8_lamp 2 0 0 10 11 _ := ok_iconst (v := 0) dX8_lamp_10 kc_i0
  have q14 : gz_OkA M_X8_lamp 0 0 0 9 11 2 _ := ok_a1 q12 q13
  have q15 : gz_OkE M_X8_lamp 4 0 0 11 13 _ := ok_ldc (v := 1000000) wd_175 dX8_lamp_11
  have q16 : gz_OkA M_X8_lamp 0 0 0 9 13 3 _ := ok_a1 q14 q15
  have q17 : gz_OkE M_X8_lamp 0 0 0 9 16 _ := ok_cs q16 mt_X8_isIn wd_765 wd_188 de_X8_isIn (by decide) (by decide) wd_766 wd_767 dX8_lamp_13 (by decide)
  have q18 : gz_OkJ M_X8_lamp 0 0 0 9 21 19 _ := ok_if_ne q17 dX8_lamp_16 (by decide)
  have q19 : gz_OkJ M_X8_lamp 0 0 0 0 21 19 _ := ok_ja q9 q18
  have q20 : gz_OkE M_X8_lamp 0 0 0 21 22 _ := ok_aload_n (i := 0) dX8_lamp_21 rfl
  have q21 : gz_OkE M_X8_lamp 0 0 0 21 25 _ := ok_get q20 cl_8 (k := 9) (by decide) in_8 wd_135 dX8_lamp_22
  have q22 : gz_OkE M_X8_lamp 1 0 0 25 27 _ := ok_bipush (v := 8) dX8_lamp_25 kc_b8
  have q23 : gz_OkE M_X8_lamp 2 0 0 27 28 _ := ok_iload_n (i := 1) dX8_lamp_27 rfl
  have q24 : gz_OkE M_X8_lamp 1 0 0 25 29 _ := ok_iadd q22 q23 dX8_lamp_28
  have q25 : gz_OkE M_X8_lamp 0 0 0 21 30 _ := ok_zald q21 q24 dX8_lamp_29
  have q26 : gz_OkJ M_X8_lamp 0 0 0 21 60 33 _ := ok_if_eq q25 dX8_lamp_30 (by decide)
  have q27 : gz_OkA M_X8_lamp 0 0 0 33 33 0 _ := ok_a0
  have q28 : gz_OkE M_X8_lamp 0 0 0 33 34 _ := ok_aload_n (i := 0) dX8_lamp_33 rfl
  have q29 : gz_OkA M_X8_lamp 0 0 0 33 34 1 _ := ok_a1 q27 q28
  have q30 : gz_OkE M_X8_lamp 2 0 0 34 36 _ := ok_bipush (v := 8) dX8_lamp_34 kc_b8
  have q31 : gz_OkE M_X8_lamp 3 0 0 36 37 _ := ok_iload_n (i := 1) dX8_lamp_36 rfl
  have q32 : gz_OkE M_X8_lamp 2 0 0 34 38 _ := ok_iadd q30 q31 dX8_lamp_37
  have q33 : gz_OkA M_X8_lamp 0 0 0 33 38 2 _ := ok_a1 q29 q32
  have q34 : gz_OkE M_X8_lamp 4 0 0 38 39 _ := ok_iload_n (i := 2) dX8_lamp_38 rfl
  have q35 : gz_OkA M_X8_lamp 0 0 0 33 39 3 _ := ok_a1 q33 q34
  have q36 : gz_OkE M_X8_lamp 6 0 0 39 40 _ := ok_iload_n (i := 3) dX8_lamp_39 rfl
  have q37 : gz_OkE M_X8_lamp 7 0 0 40 41 _ := ok_aload_n (i := 0) dX8_lamp_40 rfl
  have q38 : gz_OkE M_X8_lamp 7 0 0 40 44 _ := ok_get q37 cl_8 (k := 14) (by decide) in_8 wd_140 dX8_lamp_41
  have q39 : gz_OkE M_X8_lamp 8 0 0 44 46 _ := ok_bipush (v := 8) dX8_lamp_44 kc_b8
  have q40 : gz_OkE M_X8_lamp 9 0 0 46 47 _ := ok_iload_n (i := 1) dX8_lamp_46 rfl
  have q41 : gz_OkE M_X8_lamp 8 0 0 44 48 _ := ok_iadd q39 q40 dX8_lamp_47
  have q42 : gz_OkE M_X8_lamp 7 0 0 40 49 _ := ok_iald q38 q41 dX8_lamp_48
  have q43 : gz_OkE M_X8_lamp 6 0 0 39 50 _ := ok_isub q36 q42 dX8_lamp_49
  have q44 : gz_OkA M_X8_lamp 0 0 0 33 50 4 _ := ok_a1 q35 q43
  have q45 : gz_OkE M_X8_lamp 0 0 0 33 53 _ := ok_cv q44 mt_X8_isGreen cl_8 wd_802 wd_188 de_X8_isGreen (by decide) (by decide) wd_803 wd_804 wd_805 dX8_lamp_50 (by decide)
  have q46 : gz_OkJ M_X8_lamp 0 0 0 33 60 56 _ := ok_if_eq q45 dX8_lamp_53 (by decide)
  have q47 : gz_OkJ M_X8_lamp 0 0 0 21 60 56 _ := ok_jo q26 q46
  have q48 : gz_OkE M_X8_lamp 0 0 0 56 57 _ := ok_iconst (v := 1) dX8_lamp_56 kc_i1
  have q49 : gz_OkE M_X8_lamp 0 0 0 56 61 _ := ok_eg q48 dX8_lamp_57 (by decide)
  have q50 : gz_OkE M_X8_lamp 0 0 0 60 61 _ := ok_iconst (v := 0) dX8_lamp_60 kc_i0
  have q51 : gz_OkE M_X8_lamp 0 0 0 21 61 _ := ok_te2 q47 q49 q50
  have q52 : gz_OkS M_X8_lamp 0 0 21 _ := ok_ri q51 dX8_lamp_61
  have q53 : gz_OkE M_X8_lamp 0 0 0 19 20 _ := ok_iconst (v := -1) dX8_lamp_19 kc_im1
  have q54 : gz_OkS M_X8_lamp 0 0 19 _ := ok_ri q53 dX8_lamp_20
  have q55 : gz_OkS M_X8_lamp 0 0 0 _ := ok_if q19 q52 q54
  have z : gz_OkS M_X8_lamp 0 0 0 sm_X8_lamp := q55
  exact gz_met (plainFor_of_name (by decide)) z (by decide) (by decide)
noncomputable def sm_X8_street : gz_Sx := gz_if (gz_ja (gz_j1 (fun x => decide (x = 0)) (gz_cv 8 48 se_X8_isStream (gz_a1 (gz_a1 (gz_a1 (gz_a0) (gz_la 0)) (gz_li 1)) (gz_li 2)))) (gz_ja (gz_j1 (fun x => decide (x = 0)) (gz_cv 8 48 se_X8_isStream (gz_a1 (gz_a1 (gz_a1 (gz_a0) (gz_la 0)) (gz_li 3)) (gz_li 4)))) (gz_ja (gz_j2 (fun x y => decide (x = y)) (gz_li 1) (gz_li 3)) (gz_ja (gz_j1 (fun x => decide (x = 0)) (gz_cs se_X8_isIn (gz_a1 (gz_a1 (gz_a1 (gz_a0) (gz_li 5)) (gz_i (1))) (gz_i (60))))) (gz_j1 (fun x => decide (¬ x = 0)) (gz_cs se_X8_isIn (gz_a1 (gz_a1 (gz_a1 (gz_a0) (gz_li 6)) (gz_i (1))) (gz_i (60))))))))) (gz_seti 7 (gz_ib (fun x y => x + y) (gz_ib (fun x y => x * y) (gz_i (8)) (gz_li 1)) (gz_li 2)) (gz_if (gz_ja (gz_j1 (fun x => decide (¬ x = 0)) (gz_ald 101 (gz_get 8 48 29 (gz_la 0)) (gz_li 7))) (gz_j1 (fun x => decide (x ≤ 0)) (gz_get 8 48 1 (gz_la 0)))) (gz_ast 101 (gz_get 8 48 29 (gz_la 0)) (gz_li 7) (gz_i (1)) (gz_ast 100 (gz_get 8 48 30 (gz_la 0)) (gz_li 7) (gz_ib (fun x y => x + y) (gz_ib (fun x y => x * y) (gz_i (8)) (gz_li 3)) (gz_li 4)) (gz_ast 100 (gz_get 8 48 31 (gz_la 0)) (gz_li 7) (gz_li 5) (gz_ast 100 (gz_get 8 48 32 (gz_la 0)) (gz_li 7) (gz_li 6) (gz_ri (gz_i (1))))))) (gz_ri (gz_i (0))))) (gz_ri (gz_i (0)))
noncomputable def se_X8_street : gz_Me := gz_sem (some .boolean) 8 sm_X8_street
abbrev rm_X8_street : Room := { frames := 2, cells := 0, slots := 0, locals := 43 }
abbrev M_X8_street : gz_Mi := (cX8_street, 8, RX8, 2, 43, "street", none)
theorem de_X8_street : yX8_street.cls ≠ "java/lang/invoke/MethodHandle" ∧ yX8_street.cls ≠ "java/lang/invoke/VarHandle" ∧ (parseMethodDescriptor yX8_street.desc).map (fun d => d.parameters.length) = some 6 := by decide +kernel
set_option maxRecDepth 100000 in
theorem mt_X8_street : gz_Mt yX8_street cX8_street 8 (some .boolean) rm_X8_street se_X8_street := by
  have q1 : gz_OkA M_X8_street 0 0 0 0 0 0 _ := ok_a0
  have q2 : gz_OkE M_X8_street 0 0 0 0 1 _ := ok_aload_n (i := 0) dX8_street_0 rfl
  have q3 : gz_OkA M_X8_street 0 0 0 0 1 1 _ := ok_a1 q1 q2
  have q4 : gz_OkE M_X8_street 2 0 0 1 2 _ := ok_iload_n (i := 1) dX8_street_1 rfl
  have q5 : gz_OkA M_X8_street 0 0 0 0 2 2 _ := ok_a1 q3 q4
  have q6 : gz_OkE M_X8_street 4 0 0 2 3 _ := ok_iload_n (i := 2) dX8_street_2 rfl
  have q7 : gz_OkA M_X8_street 0 0 0 0 3 3 _ := ok_a1 q5 q6
  have q8 : gz_OkE M_X8_street 0 0 0 0 6 _ := ok_cv q7 mt_X8_isStream cl_8 wd_781 wd_188 de_X8_isStream (by decide) (by decide) wd_782 wd_783 wd_784 dX8_street_3 (by decide)
  have q9 : gz_OkJ M_X8_street 0 0 0 0 46 9 _ := ok_if_eq q8 dX8_street_6 (by decide)
  have q10 : gz_OkA M_X8_street 0 0 0 9 9 0 _ := ok_a0
  have q11 : gz_OkE M_X8_street 0 0 0 9 10 _ := ok_aload_n (i := 0) dX8_street_9 rfl
  have q12 : gz_OkA M_X8_street 0 0 0 9 10 1 _ := ok_a1 q10 q11
  have q13 : gz_OkE M_X8_street 2 0 0 10 11 _ := ok_iload_n (i := 3) dX8_street_10 rfl
  have q14 : gz_OkA M_X8_street 0 0 0 9 11 2 _ := ok_a1 q12 q13
  have q15 : gz_OkE M_X8_street 4 0 0 11 13 _ := ok_iload (i := 4) dX8_street_11
  have q16 : gz_OkA M_X8_street 0 0 0 9 13 3 _ := ok_a1 q14 q15
  have q17 : gz_OkE M_X8_street 0 0 0 9 16 _ := ok_cv q16 mt_X8_isStream cl_8 wd_781 wd_188 de_X8_isStream (by decide) (by decide) wd_782 wd_783 wd_784 dX8_street_13 (by decide)
  have q18 : gz_OkJ M_X8_street 0 0 0 9 46 19 _ := ok_if_eq q17 dX8_street_16 (by decide)
  have q19 : gz_OkE M_X8_street 0 0 0 19 20 _ := ok_iload_n (i := 1) dX8_street_19 rfl
  have q20 : gz_OkE M_X8_street 1 0 0 20 21 _ := ok_iload_n (i := 3) dX8_street_20 rfl
  have q21 : gz_OkJ M_X8_street 0 0 0 19 46 24 _ := ok_ic_eq q19 q20 dX8_street_21 (by decide)
  have q22 : gz_OkA M_X8_street 0 0 0 24 24 0 _ := ok_a0
  have q23 : gz_OkE M_X8_street 0 0 0 24 26 _ := ok_iload (i := 5) dX8_street_24
  have q24 : gz_OkA M_X8_street 0 0 0 24 26 1 _ := ok_a1 q22 q23
  have q25 : gz_OkE M_X8_street 2 0 0 26 27 _ := ok_iconst (v := 1) dX8_street_26 kc_i1
  have q26 : gz_OkA M_X8_street 0 0 0 24 27 2 _ := ok_a1 q24 q25
  have q27 : gz_OkE M_X8_street 4 0 0 27 29 _ := ok_bipush (v := 60) dX8_street_27 kc_b60
  have q28 : gz_OkA M_X8_street 0 0 0 24 29 3 _ := ok_a1 q26 q27
  have q29 : gz_OkE M_X8_street 0 0 0 24 32 _ := ok_cs q28 mt_X8_isIn wd_765 wd_188 de_X8_isIn (by decide) (by decide) wd_766 wd_767 dX8_street_29 (by decide)
  have q30 : gz_OkJ M_X8_street 0 0 0 24 46 35 _ := ok_if_eq q29 dX8_street_32 (by decide)
  have q31 : gz_OkA M_X8_street 0 0 0 35 35 0 _ := ok_a0
  have q32 : gz_OkE M_X8_street 0 0 0 35 37 _ := ok_iload (i := 6) dX8_street_35
  have q33 : gz_OkA M_X8_street 0 0 0 35 37 1 _ := ok_a1 q31 q32
  have q34 : gz_OkE M_X8_street 2 0 0 37 38 _ := ok_iconst (v := 1) dX8_street_37 kc_i1
  have q35 : gz_OkA M_X8_street 0 0 0 35 38 2 _ := ok_a1 q33 q34
  have q36 : gz_OkE M_X8_street 4 0 0 38 40 _ := ok_bipush (v := 60) dX8_street_38 kc_b60
  have q37 : gz_OkA M_X8_street 0 0 0 35 40 3 _ := ok_a1 q35 q36
  have q38 : gz_OkE M_X8_street 0 0 0 35 43 _ := ok_cs q37 mt_X8_isIn wd_765 wd_188 de_X8_isIn (by decide) (by decide) wd_766 wd_767 dX8_street_40 (by decide)
  have q39 : gz_OkJ M_X8_street 0 0 0 35 48 46 _ := ok_if_ne q38 dX8_street_43 (by decide)
  have q40 : gz_OkJ M_X8_street 0 0 0 24 48 46 _ := ok_ja q30 q39
  have q41 : gz_OkJ M_X8_street 0 0 0 19 48 46 _ := ok_ja q21 q40
  have q42 : gz_OkJ M_X8_street 0 0 0 9 48 46 _ := ok_ja q18 q41
  have q43 : gz_OkJ M_X8_street 0 0 0 0 48 46 _ := ok_ja q9 q42
  have q44 : gz_OkE M_X8_street 0 0 0 48 50 _ := ok_bipush (v := 8) dX8_street_48 kc_b8
  have q45 : gz_OkE M_X8_street 1 0 0 50 51 _ := ok_iload_n (i := 1) dX8_street_50 rfl
  have q46 : gz_OkE M_X8_street 0 0 0 48 52 _ := ok_imul q44 q45 dX8_street_51
  have q47 : gz_OkE M_X8_street 1 0 0 52 53 _ := ok_iload_n (i := 2) dX8_street_52 rfl
  have q48 : gz_OkE M_X8_street 0 0 0 48 54 _ := ok_iadd q46 q47 dX8_street_53
  have q49 : gz_OkE M_X8_street 0 0 0 56 57 _ := ok_aload_n (i := 0) dX8_street_56 rfl
  have q50 : gz_OkE M_X8_street 0 0 0 56 60 _ := ok_get q49 cl_8 (k := 29) (by decide) in_8 wd_152 dX8_street_57
  have q51 : gz_OkE M_X8_street 1 0 0 60 62 _ := ok_iload (i := 7) dX8_street_60
  have q52 : gz_OkE M_X8_street 0 0 0 56 63 _ := ok_zald q50 q51 dX8_street_62
  have q53 : gz_OkJ M_X8_street 0 0 0 56 73 66 _ := ok_if_ne q52 dX8_street_63 (by decide)
  have q54 : gz_OkE M_X8_street 0 0 0 66 67 _ := ok_aload_n (i := 0) dX8_street_66 rfl
  have q55 : gz_OkE M_X8_street 0 0 0 66 70 _ := ok_get q54 cl_8 (k := 1) (by decide) in_8 wd_171 dX8_street_67
  have q56 : gz_OkJ M_X8_street 0 0 0 66 75 73 _ := ok_if_le q55 dX8_street_70 (by decide)
  have q57 : gz_OkJ M_X8_street 0 0 0 56 75 73 _ := ok_ja q53 q56
  have q58 : gz_OkE M_X8_street 0 0 0 75 76 _ := ok_aload_n (i := 0) dX8_street_75 rfl
  have q59 : gz_OkE M_X8_street 0 0 0 75 79 _ := ok_get q58 cl_8 (k := 29) (by decide) in_8 wd_152 dX8_street_76
  have q60 : gz_OkE M_X8_street 1 0 0 79 81 _ := ok_iload (i := 7) dX8_street_79
  have q61 : gz_OkE M_X8_street 2 0 0 81 82 _ := ok_iconst (v := 1) dX8_street_81 kc_i1
  have q62 : gz_OkE M_X8_street 0 0 0 83 84 _ := ok_aload_n (i := 0) dX8_street_83 rfl
  have q63 : gz_OkE M_X8_street 0 0 0 83 87 _ := ok_get q62 cl_8 (k := 30) (by decide) in_8 wd_153 dX8_street_84
  have q64 : gz_OkE M_X8_street 1 0 0 87 89 _ := ok_iload (i := 7) dX8_street_87
  have q65 : gz_OkE M_X8_street 2 0 0 89 91 _ := ok_bipush (v := 8) dX8_street_89 kc_b8
  have q66 : gz_OkE M_X8_street 3 0 0 91 92 _ := ok_iload_n (i := 3) dX8_street_91 rfl
  have q67 : gz_OkE M_X8_street 2 0 0 89 93 _ := ok_imul q65 q66 dX8_street_92
  have q68 : gz_OkE M_X8_street 3 0 0 93 95 _ := ok_iload (i := 4) dX8_street_93
  have q69 : gz_OkE M_X8_street 2 0 0 89 96 _ := ok_iadd q67 q68 dX8_street_95
  have q70 : gz_OkE M_X8_street 0 0 0 97 98 _ := ok_aload_n (i := 0) dX8_street_97 rfl
  have q71 : gz_OkE M_X8_street 0 0 0 97 101 _ := ok_get q70 cl_8 (k := 31) (by decide) in_8 wd_154 dX8_street_98
  have q72 : gz_OkE M_X8_street 1 0 0 101 103 _ := ok_iload (i := 7) dX8_street_101
  have q73 : gz_OkE M_X8_street 2 0 0 103 105 _ := ok_iload (i := 5) dX8_street_103
  have q74 : gz_OkE M_X8_street 0 0 0 106 107 _ := ok_aload_n (i := 0) dX8_street_106 rfl
  have q75 : gz_OkE M_X8_street 0 0 0 106 110 _ := ok_get q74 cl_8 (k := 32) (by decide) in_8 wd_155 dX8_street_107
  have q76 : gz_OkE M_X8_street 1 0 0 110 112 _ := ok_iload (i := 7) dX8_street_110
  have q77 : gz_OkE M_X8_street 2 0 0 112 114 _ := ok_iload (i := 6) dX8_street_112
  have q78 : gz_OkE M_X8_street 0 0 0 115 116 _ := ok_iconst (v := 1) dX8_street_115 kc_i1
  have q79 : gz_OkS M_X8_street 0 0 115 _ := ok_ri q78 dX8_street_116
  have q80 : gz_OkS M_X8_street 0 0 106 _ := ok_iast q75 q76 q77 dX8_street_114 q79
  have q81 : gz_OkS M_X8_street 0 0 97 _ := ok_iast q71 q72 q73 dX8_street_105 q80
  have q82 : gz_OkS M_X8_street 0 0 83 _ := ok_iast q63 q64 q69 dX8_street_96 q81
  have q83 : gz_OkS M_X8_street 0 0 75 _ := ok_zast q59 q60 q61 dX8_street_82 q82
  have q84 : gz_OkE M_X8_street 0 0 0 73 74 _ := ok_iconst (v := 0) dX8_street_73 kc_i0
  have q85 : gz_OkS M_X8_street 0 0 73 _ := ok_ri q84 dX8_street_74
  have q86 : gz_OkS M_X8_street 0 0 56 _ := ok_if q57 q83 q85
  have q87 : gz_OkS M_X8_street 0 0 48 _ := ok_seti (k := 7) q48 dX8_street_54 (by decide) q86
  have q88 : gz_OkE M_X8_street 0 0 0 46 47 _ := ok_iconst (v := 0) dX8_street_46 kc_i0
  have q89 : gz_OkS M_X8_street 0 0 46 _ := ok_ri q88 dX8_street_47
  have q90 : gz_OkS M_X8_street 0 0 0 _ := ok_if q43 q87 q89
  have z : gz_OkS M_X8_street 0 0 0 sm_X8_street := q90
  exact gz_met (plainFor_of_name (by decide)) z (by decide) (by decide)
noncomputable def sm_X8_comes : gz_Sx := gz_ast 102 (gz_get 8 48 38 (gz_la 0)) (gz_li 1) (gz_lb (fun x y => x + y) (gz_d2 102) (gz_l (1))) (gz_seq 35 2 (gz_if (gz_ja (gz_j1 (fun x => decide (x = 0)) (gz_li 2)) (gz_j1 (fun x => decide (x ≤ 0)) (gz_lc (gz_ald 102 (gz_get 8 48 37 (gz_la 0)) (gz_li 1)) (gz_l (0))))) (gz_sat 35) (gz_ast 102 (gz_get 8 48 41 (gz_la 0)) (gz_li 1) (gz_lb (fun x y => x + y) (gz_d2 102) (gz_l (1))) (gz_sat 35))) (gz_ast 102 (gz_get 8 48 37 (gz_la 0)) (gz_li 1) (gz_lb (fun x y => x + y) (gz_d2 102) (gz_l (1))) (gz_rv)))
noncomputable def se_X8_comes : gz_Me := gz_sem none 3 sm_X8_comes
abbrev rm_X8_comes : Room := { frames := 0, cells := 0, slots := 0, locals := 0 }
abbrev M_X8_comes : gz_Mi := (cX8_comes, 3, RX8, 0, 0, "comes", none)
theorem de_X8_comes : yX8_comes.cls ≠ "java/lang/invoke/MethodHandle" ∧ yX8_comes.cls ≠ "java/lang/invoke/VarHandle" ∧ (parseMethodDescriptor yX8_comes.desc).map (fun d => d.parameters.length) = some 2 := by decide +kernel
set_option maxRecDepth 100000 in
theorem mt_X8_comes : gz_Mt yX8_comes cX8_comes 3 none rm_X8_comes se_X8_comes := by
  have q1 : gz_OkE M_X8_comes 0 0 0 0 1 _ := ok_aload_n (i := 0) dX8_comes_0 rfl
  have q2 : gz_OkE M_X8_comes 0 0 0 0 4 _ := ok_get q1 cl_8 (k := 38) (by decide) in_8 wd_161 dX8_comes_1
  have q3 : gz_OkE M_X8_comes 1 0 0 4 5 _ := ok_iload_n (i := 1) dX8_comes_4 rfl
  have q4 : gz_OkE M_X8_comes 2 0 0 5 7 _ := ok_d2lald dX8_comes_5 dX8_comes_6
  have q5 : gz_OkE M_X8_comes 4 0 0 7 8 _ := ok_lconst (v := 1) dX8_comes_7 kc_l1
  have q6 : gz_OkE M_X8_comes 2 0 0 5 9 _ := ok_ladd q4 q5 dX8_comes_8
  have q7 : gz_OkE M_X8_comes 0 0 0 10 11 _ := ok_iload_n (i := 2) dX8_comes_10 rfl
  have q8 : gz_OkJ M_X8_comes 0 0 0 10 25 14 _ := ok_if_eq q7 dX8_comes_11 (by decide)
  have q9 : gz_OkE M_X8_comes 0 0 0 14 15 _ := ok_aload_n (i := 0) dX8_comes_14 rfl
  have q10 : gz_OkE M_X8_comes 0 0 0 14 18 _ := ok_get q9 cl_8 (k := 37) (by decide) in_8 wd_160 dX8_comes_15
  have q11 : gz_OkE M_X8_comes 1 0 0 18 19 _ := ok_iload_n (i := 1) dX8_comes_18 rfl
  have q12 : gz_OkE M_X8_comes 0 0 0 14 20 _ := ok_lald q10 q11 dX8_comes_19
  have q13 : gz_OkE M_X8_comes 2 0 0 20 21 _ := ok_lconst (v := 0) dX8_comes_20 kc_l0
  have q14 : gz_OkE M_X8_comes 0 0 0 14 22 _ := ok_lcmp q12 q13 dX8_comes_21
  have q15 : gz_OkJ M_X8_comes 0 0 0 14 35 25 _ := ok_if_le q14 dX8_comes_22 (by decide)
  have q16 : gz_OkJ M_X8_comes 0 0 0 10 35 25 _ := ok_ja q8 q15
  have q17 : gz_OkS M_X8_comes 0 0 35 _ := ok_at
  have q18 : gz_OkE M_X8_comes 0 0 0 25 26 _ := ok_aload_n (i := 0) dX8_comes_25 rfl
  have q19 : gz_OkE M_X8_comes 0 0 0 25 29 _ := ok_get q18 cl_8 (k := 41) (by decide) in_8 wd_164 dX8_comes_26
  have q20 : gz_OkE M_X8_comes 1 0 0 29 30 _ := ok_iload_n (i := 1) dX8_comes_29 rfl
  have q21 : gz_OkE M_X8_comes 2 0 0 30 32 _ := ok_d2lald dX8_comes_30 dX8_comes_31
  have q22 : gz_OkE M_X8_comes 4 0 0 32 33 _ := ok_lconst (v := 1) dX8_comes_32 kc_l1
  have q23 : gz_OkE M_X8_comes 2 0 0 30 34 _ := ok_ladd q21 q22 dX8_comes_33
  have q24 : gz_OkS M_X8_comes 0 0 35 _ := ok_at
  have q25 : gz_OkS M_X8_comes 0 0 25 _ := ok_last q19 q20 q23 dX8_comes_34 q24
  have q26 : gz_OkS M_X8_comes 0 0 10 _ := ok_if q16 q17 q25
  have q27 : gz_OkE M_X8_comes 0 0 0 35 36 _ := ok_aload_n (i := 0) dX8_comes_35 rfl
  have q28 : gz_OkE M_X8_comes 0 0 0 35 39 _ := ok_get q27 cl_8 (k := 37) (by decide) in_8 wd_160 dX8_comes_36
  have q29 : gz_OkE M_X8_comes 1 0 0 39 40 _ := ok_iload_n (i := 1) dX8_comes_39 rfl
  have q30 : gz_OkE M_X8_comes 2 0 0 40 42 _ := ok_d2lald dX8_comes_40 dX8_comes_41
  have q31 : gz_OkE M_X8_comes 4 0 0 42 43 _ := ok_lconst (v := 1) dX8_comes_42 kc_l1
  have q32 : gz_OkE M_X8_comes 2 0 0 40 44 _ := ok_ladd q30 q31 dX8_comes_43
  have q33 : gz_OkS M_X8_comes 0 0 45 _ := ok_rv dX8_comes_45
  have q34 : gz_OkS M_X8_comes 0 0 35 _ := ok_last q28 q29 q32 dX8_comes_44 q33
  have q35 : gz_OkS M_X8_comes 0 0 10 _ := ok_seq (L := 35) (k := 2) q26 q34
  have q36 : gz_OkS M_X8_comes 0 0 0 _ := ok_last q2 q3 q6 dX8_comes_9 q35
  have z : gz_OkS M_X8_comes 0 0 0 sm_X8_comes := q36
  exact gz_met (plainFor_of_name (by decide)) z (by decide) (by decide)
noncomputable def sm_X8_isFull : gz_Sx := gz_ri (gz_te (gz_jo (gz_j1 (fun x => decide (x = 0)) (gz_ald 101 (gz_get 8 48 29 (gz_la 0)) (gz_li 1))) (gz_j1 (fun x => decide (x < 0)) (gz_lc (gz_lb (fun x y => x + y) (gz_i2l (gz_ald 100 (gz_get 8 48 33 (gz_la 0)) (gz_li 1))) (gz_ald 102 (gz_get 8 48 37 (gz_la 0)) (gz_ald 100 (gz_get 8 48 30 (gz_la 0)) (gz_li 1)))) (gz_i2l (gz_ald 100 (gz_get 8 48 32 (gz_la 0)) (gz_li 1)))))) (gz_i (0)) (gz_i (1)))
noncomputable def se_X8_isFull : gz_Me := gz_sem (some .boolean) 2 sm_X8_isFull
abbrev rm_X8_isFull : Room := { frames := 0, cells := 0, slots := 0, locals := 0 }
abbrev M_X8_isFull : gz_Mi := (cX8_isFull, 2, RX8, 0, 0, "isFull", none)
theorem de_X8_isFull : yX8_isFull.cls ≠ "java/lang/invoke/MethodHandle" ∧ yX8_isFull.cls ≠ "java/lang/invoke/VarHandle" ∧ (parseMethodDescriptor yX8_isFull.desc).map (fun d => d.parameters.length) = some 1 := by decide +kernel
set_option maxRecDepth 100000 in
theorem mt_X8_isFull : gz_Mt yX8_isFull cX8_isFull 2 (some .boolean) rm_X8_isFull se_X8_isFull := by
  have q1 : gz_OkE M_X8_isFull 0 0 0 0 1 _ := ok_aload_n (i := 0) dX8_isFull_0 rfl
  have q2 : gz_OkE M_X8_isFull 0 0 0 0 4 _ := ok_get q1 cl_8 (k := 29) (by decide) in_8 wd_152 dX8_isFull_1
  have q3 : gz_OkE M_X8_isFull 1 0 0 4 5 _ := ok_iload_n (i := 1) dX8_isFull_4 rfl
  have q4 : gz_OkE M_X8_isFull 0 0 0 0 6 _ := ok_zald q2 q3 dX8_isFull_5
  have q5 : gz_OkJ M_X8_isFull 0 0 0 0 43 9 _ := ok_if_eq q4 dX8_isFull_6 (by decide)
  have q6 : gz_OkE M_X8_isFull 0 0 0 9 10 _ := ok_aload_n (i := 0) dX8_isFull_9 rfl
  have q7 : gz_OkE M_X8_isFull 0 0 0 9 13 _ := ok_get q6 cl_8 (k := 33) (by decide) in_8 wd_156 dX8_isFull_10
  have q8 : gz_OkE M_X8_isFull 1 0 0 13 14 _ := ok_iload_n (i := 1) dX8_isFull_13 rfl
  have q9 : gz_OkE M_X8_isFull 0 0 0 9 15 _ := ok_iald q7 q8 dX8_isFull_14
  have q10 : gz_OkE M_X8_isFull 0 0 0 9 16 _ := ok_i2l q9 dX8_isFull_15
  have q11 : gz_OkE M_X8_isFull 2 0 0 16 17 _ := ok_aload_n (i := 0) dX8_isFull_16 rfl
  have q12 : gz_OkE M_X8_isFull 2 0 0 16 20 _ := ok_get q11 cl_8 (k := 37) (by decide) in_8 wd_160 dX8_isFull_17
  have q13 : gz_OkE M_X8_isFull 3 0 0 20 21 _ := ok_aload_n (i := 0) dX8_isFull_20 rfl
  have q14 : gz_OkE M_X8_isFull 3 0 0 20 24 _ := ok_get q13 cl_8 (k := 30) (by decide) in_8 wd_153 dX8_isFull_21
  have q15 : gz_OkE M_X8_isFull 4 0 0 24 25 _ := ok_iload_n (i := 1) dX8_isFull_24 rfl
  have q16 : gz_OkE M_X8_isFull 3 0 0 20 26 _ := ok_iald q14 q15 dX8_isFull_25
  have q17 : gz_OkE M_X8_isFull 2 0 0 16 27 _ := ok_lald q12 q16 dX8_isFull_26
  have q18 : gz_OkE M_X8_isFull 0 0 0 9 28 _ := ok_ladd q10 q17 dX8_isFull_27
  have q19 : gz_OkE M_X8_isFull 2 0 0 28 29 _ := ok_aload_n (i := 0) dX8_isFull_28 rfl
  have q20 : gz_OkE M_X8_isFull 2 0 0 28 32 _ := ok_get q19 cl_8 (k := 32) (by decide) in_8 wd_155 dX8_isFull_29
  have q21 : gz_OkE M_X8_isFull 3 0 0 32 33 _ := ok_iload_n (i := 1) dX8_isFull_32 rfl
  have q22 : gz_OkE M_X8_isFull 2 0 0 28 34 _ := ok_iald q20 q21 dX8_isFull_33
  have q23 : gz_OkE M_X8_isFull 2 0 0 28 35 _ := ok_i2l q22 dX8_isFull_34
  have q24 : gz_OkE M_X8_isFull 0 0 0 9 36 _ := ok_lcmp q18 q23 dX8_isFull_35
  have q25 : gz_OkJ M_X8_isFull 0 0 0 9 43 39 _ := ok_if_lt q24 dX8_isFull_36 (by decide)
  have q26 : gz_OkJ M_X8_isFull 0 0 0 0 43 39 _ := ok_jo q5 q25
  have q27 : gz_OkE M_X8_isFull 0 0 0 39 40 _ := ok_iconst (v := 1) dX8_isFull_39 kc_i1
  have q28 : gz_OkE M_X8_isFull 0 0 0 39 44 _ := ok_eg q27 dX8_isFull_40 (by decide)
  have q29 : gz_OkE M_X8_isFull 0 0 0 43 44 _ := ok_iconst (v := 0) dX8_isFull_43 kc_i0
  have q30 : gz_OkE M_X8_isFull 0 0 0 0 44 _ := ok_te2 q26 q28 q29
  have q31 : gz_OkS M_X8_isFull 0 0 0 _ := ok_ri q30 dX8_isFull_44
  have z : gz_OkS M_X8_isFull 0 0 0 sm_X8_isFull := q31
  exact gz_met (plainFor_of_name (by decide)) z (by decide) (by decide)
noncomputable def sm_J9_max_f86c9 : gz_Sx := gz_rl (gz_te (gz_j1 (fun x => decide (x < 0)) (gz_lc (gz_ll 0) (gz_ll 2))) (gz_ll 2) (gz_ll 0))
noncomputable def se_J9_max_f86c9 : gz_Me := gz_sem (some .long) 4 sm_J9_max_f86c9
abbrev rm_J9_max_f86c9 : Room := { frames := 0, cells := 0, slots := 0, locals := 0 }
abbrev M_J9_max_f86c9 : gz_Mi := (cJ9_max_f86c9, 4, RJ9, 0, 0, "max", none)
theorem de_J9_max_f86c9 : yJ9_max_f86c9.cls ≠ "java/lang/invoke/MethodHandle" ∧ yJ9_max_f86c9.cls ≠ "java/lang/invoke/VarHandle" ∧ (parseMethodDescriptor yJ9_max_f86c9.desc).map (fun d => d.parameters.length) = some 2 := by decide +kernel
set_option maxRecDepth 100000 in
theorem mt_J9_max_f86c9 : gz_Mt yJ9_max_f86c9 cJ9_max_f86c9 4 (some .long) rm_J9_max_f86c9 se_J9_max_f86c9 := by
  have q1 : gz_OkE M_J9_max_f86c9 0 0 0 0 1 _ := ok_lload_n (i := 0) dJ9_max_f86c9_0 rfl
  have q2 : gz_OkE M_J9_max_f86c9 2 0 0 1 2 _ := ok_lload_n (i := 2) dJ9_max_f86c9_1 rfl
  have q3 : gz_OkE M_J9_max_f86c9 0 0 0 0 3 _ := ok_lcmp q1 q2 dJ9_max_f86c9_2
  have q4 : gz_OkJ M_J9_max_f86c9 0 0 0 0 10 6 _ := ok_if_lt q3 dJ9_max_f86c9_3 (by decide)
  have q5 : gz_OkE M_J9_max_f86c9 0 0 0 6 7 _ := ok_lload_n (i := 0) dJ9_max_f86c9_6 rfl
  have q6 : gz_OkE M_J9_max_f86c9 0 0 0 6 11 _ := ok_eg q5 dJ9_max_f86c9_7 (by decide)
  have q7 : gz_OkE M_J9_max_f86c9 0 0 0 10 11 _ := ok_lload_n (i := 2) dJ9_max_f86c9_10 rfl
  have q8 : gz_OkE M_J9_max_f86c9 0 0 0 0 11 _ := ok_te2 q4 q6 q7
  have q9 : gz_OkS M_J9_max_f86c9 0 0 0 _ := ok_rl q8 dJ9_max_f86c9_11
  have z : gz_OkS M_J9_max_f86c9 0 0 0 sm_J9_max_f86c9 := q9
  exact gz_met (by decide +kernel) z (by decide) (by decide)
noncomputable def lb_X8_runStream_113 : gz_Sx := gz_if (gz_j2 (fun x y => decide (y ≤ x)) (gz_li 4) (gz_ald 100 (gz_get 8 48 33 (gz_la 0)) (gz_li 3))) (gz_sat 156) (gz_ast 100 (gz_get 8 48 34 (gz_la 0)) (gz_ib (fun x y => x + y) (gz_ib (fun x y => x * y) (gz_i (60)) (gz_li 3)) (gz_li 4)) (gz_ald 100 (gz_get 8 48 34 (gz_la 0)) (gz_ib (fun x y => x + y) (gz_ib (fun x y => x + y) (gz_ib (fun x y => x * y) (gz_i (60)) (gz_li 3)) (gz_li 4)) (gz_i (1)))) (gz_inc 4 (1) (gz_sat 113)))
noncomputable def lb_X8_runStream_75 : gz_Sx := gz_if (gz_jo (gz_j1 (fun x => decide (x ≤ 0)) (gz_ald 100 (gz_get 8 48 33 (gz_la 0)) (gz_li 3))) (gz_j2 (fun x y => decide (y < x)) (gz_ald 100 (gz_get 8 48 34 (gz_la 0)) (gz_ib (fun x y => x * y) (gz_i (60)) (gz_li 3))) (gz_get 8 48 1 (gz_la 0)))) (gz_sat 165) (gz_ast 100 (gz_get 8 48 33 (gz_la 0)) (gz_li 3) (gz_ib (fun x y => x - y) (gz_d2 100) (gz_i (1))) (gz_seti 4 (gz_i (0)) (gz_seq 156 4 (gz_loop 113 5 lb_X8_runStream_113) (gz_vv 8 48 se_X8_comes (gz_a1 (gz_a1 (gz_a1 (gz_a0) (gz_la 0)) (gz_li 1)) (gz_li 2)) (gz_sat 75)))))
noncomputable def lb_X8_runStream_47 : gz_Sx := gz_if (gz_j2 (fun x y => decide (y ≤ x)) (gz_li 3) (gz_i (64))) (gz_sat 171) (gz_seq 165 4 (gz_if (gz_j1 (fun x => decide (x = 0)) (gz_ald 101 (gz_get 8 48 29 (gz_la 0)) (gz_li 3))) (gz_sat 165) (gz_if (gz_j2 (fun x y => decide (x = y)) (gz_ald 100 (gz_get 8 48 30 (gz_la 0)) (gz_li 3)) (gz_li 1)) (gz_loop 75 4 lb_X8_runStream_75) (gz_sat 165))) (gz_inc 3 (1) (gz_sat 47)))
noncomputable def sm_X8_runStream : gz_Sx := gz_ast 100 (gz_get 8 48 35 (gz_la 0)) (gz_li 1) (gz_ib (fun x y => x + y) (gz_d2 100) (gz_ald 100 (gz_get 8 48 4 (gz_la 0)) (gz_li 1))) (gz_seq 45 3 (gz_if (gz_j2 (fun x y => decide (x < y)) (gz_ald 100 (gz_get 8 48 35 (gz_la 0)) (gz_li 1)) (gz_i (3600))) (gz_sat 45) (gz_ast 100 (gz_get 8 48 35 (gz_la 0)) (gz_li 1) (gz_ib (fun x y => x - y) (gz_d2 100) (gz_i (3600))) (gz_vv 8 48 se_X8_comes (gz_a1 (gz_a1 (gz_a1 (gz_a0) (gz_la 0)) (gz_li 1)) (gz_li 2)) (gz_sat 45)))) (gz_seti 3 (gz_i (0)) (gz_seq 171 3 (gz_loop 47 4 lb_X8_runStream_47) (gz_ast 100 (gz_get 8 48 36 (gz_la 0)) (gz_li 1) (gz_te (gz_j1 (fun x => decide (x = 0)) (gz_li 2)) (gz_i (0)) (gz_ib (fun x y => x + y) (gz_ald 100 (gz_get 8 48 36 (gz_la 0)) (gz_li 1)) (gz_ald 100 (gz_get 8 48 5 (gz_la 0)) (gz_li 1)))) (gz_seq 307 3 (gz_if (gz_jo (gz_j2 (fun x y => decide (x < y)) (gz_ald 100 (gz_get 8 48 36 (gz_la 0)) (gz_li 1)) (gz_i (3600))) (gz_jo (gz_j1 (fun x => decide (x ≤ 0)) (gz_lc (gz_ald 102 (gz_get 8 48 37 (gz_la 0)) (gz_li 1)) (gz_l (0)))) (gz_j1 (fun x => decide (¬ x = 0)) (gz_cv 8 48 se_X8_isFull (gz_a1 (gz_a1 (gz_a0) (gz_la 0)) (gz_li 1)))))) (gz_sat 307) (gz_ast 100 (gz_get 8 48 36 (gz_la 0)) (gz_li 1) (gz_ib (fun x y => x - y) (gz_d2 100) (gz_i (3600))) (gz_ast 102 (gz_get 8 48 37 (gz_la 0)) (gz_li 1) (gz_lb (fun x y => x - y) (gz_d2 102) (gz_l (1))) (gz_ast 102 (gz_get 8 48 39 (gz_la 0)) (gz_li 1) (gz_lb (fun x y => x + y) (gz_d2 102) (gz_l (1))) (gz_if (gz_j1 (fun x => decide (x = 0)) (gz_ald 101 (gz_get 8 48 29 (gz_la 0)) (gz_li 1))) (gz_sat 307) (gz_ast 100 (gz_get 8 48 34 (gz_la 0)) (gz_ib (fun x y => x + y) (gz_ib (fun x y => x * y) (gz_i (60)) (gz_li 1)) (gz_ald 100 (gz_get 8 48 33 (gz_la 0)) (gz_li 1))) (gz_ib (fun x y => x + y) (gz_get 8 48 1 (gz_la 0)) (gz_ald 100 (gz_get 8 48 31 (gz_la 0)) (gz_li 1))) (gz_ast 100 (gz_get 8 48 33 (gz_la 0)) (gz_li 1) (gz_ib (fun x y => x + y) (gz_d2 100) (gz_i (1))) (gz_sat 307)))))))) (gz_ast 100 (gz_get 8 48 36 (gz_la 0)) (gz_li 1) (gz_cs se_J9_min_7cf53 (gz_a1 (gz_a1 (gz_a0) (gz_ald 100 (gz_get 8 48 36 (gz_la 0)) (gz_li 1))) (gz_i (3600)))) (gz_ast 102 (gz_get 8 48 40 (gz_la 0)) (gz_li 1) (gz_lb (fun x y => x + y) (gz_d2 102) (gz_ald 102 (gz_get 8 48 37 (gz_la 0)) (gz_li 1))) (gz_ast 102 (gz_get 8 48 42 (gz_la 0)) (gz_li 1) (gz_cs se_J9_max_f86c9 (gz_a1 (gz_a1 (gz_a0) (gz_ald 102 (gz_get 8 48 42 (gz_la 0)) (gz_li 1))) (gz_ald 102 (gz_get 8 48 37 (gz_la 0)) (gz_li 1)))) (gz_ast 101 (gz_get 8 48 43 (gz_la 0)) (gz_li 1) (gz_li 2) (gz_rv))))))))))
noncomputable def se_X8_runStream : gz_Me := gz_sem none 5 sm_X8_runStream
abbrev rm_X8_runStream : Room := { frames := 1, cells := 0, slots := 0, locals := 23 }
abbrev M_X8_runStream : gz_Mi := (cX8_runStream, 5, RX8, 1, 23, "runStream", none)
theorem de_X8_runStream : yX8_runStream.cls ≠ "java/lang/invoke/MethodHandle" ∧ yX8_runStream.cls ≠ "java/lang/invoke/VarHandle" ∧ (parseMethodDescriptor yX8_runStream.desc).map (fun d => d.parameters.length) = some 2 := by decide +kernel
set_option maxRecDepth 100000 in
theorem mt_X8_runStream : gz_Mt yX8_runStream cX8_runStream 5 none rm_X8_runStream se_X8_runStream := by
  have q1 : gz_OkE M_X8_runStream 0 0 0 0 1 _ := ok_aload_n (i := 0) dX8_runStream_0 rfl
  have q2 : gz_OkE M_X8_runStream 0 0 0 0 4 _ := ok_get q1 cl_8 (k := 35) (by decide) in_8 wd_158 dX8_runStream_1
  have q3 : gz_OkE M_X8_runStream 1 0 0 4 5 _ := ok_iload_n (i := 1) dX8_runStream_4 rfl
  have q4 : gz_OkE M_X8_runStream 2 0 0 5 7 _ := ok_d2iald dX8_runStream_5 dX8_runStream_6
  have q5 : gz_OkE M_X8_runStream 3 0 0 7 8 _ := ok_aload_n (i := 0) dX8_runStream_7 rfl
  have q6 : gz_OkE M_X8_runStream 3 0 0 7 11 _ := ok_get q5 cl_8 (k := 4) (by decide) in_8 wd_130 dX8_runStream_8
  have q7 : gz_OkE M_X8_runStream 4 0 0 11 12 _ := ok_iload_n (i := 1) dX8_runStream_11 rfl
  have q8 : gz_OkE M_X8_runStream 3 0 0 7 13 _ := ok_iald q6 q7 dX8_runStream_12
  have q9 : gz_OkE M_X8_runStream 2 0 0 5 14 _ := ok_iadd q4 q8 dX8_runStream_13
  have q10 : gz_OkE M_X8_runStream 0 0 0 15 16 _ := ok_aload_n (i := 0) dX8_runStream_15 rfl
  have q11 : gz_OkE M_X8_runStream 0 0 0 15 19 _ := ok_get q10 cl_8 (k := 35) (by decide) in_8 wd_158 dX8_runStream_16
  have q12 : gz_OkE M_X8_runStream 1 0 0 19 20 _ := ok_iload_n (i := 1) dX8_runStream_19 rfl
  have q13 : gz_OkE M_X8_runStream 0 0 0 15 21 _ := ok_iald q11 q12 dX8_runStream_20
  have q14 : gz_OkE M_X8_runStream 1 0 0 21 24 _ := ok_sipush (v := 3600) dX8_runStream_21 kc_s3600
  have q15 : gz_OkJ M_X8_runStream 0 0 0 15 45 27 _ := ok_ic_lt q13 q14 dX8_runStream_24 (by decide)
  have q16 : gz_OkS M_X8_runStream 0 0 45 _ := ok_at
  have q17 : gz_OkE M_X8_runStream 0 0 0 27 28 _ := ok_aload_n (i := 0) dX8_runStream_27 rfl
  have q18 : gz_OkE M_X8_runStream 0 0 0 27 31 _ := ok_get q17 cl_8 (k := 35) (by decide) in_8 wd_158 dX8_runStream_28
  have q19 : gz_OkE M_X8_runStream 1 0 0 31 32 _ := ok_iload_n (i := 1) dX8_runStream_31 rfl
  have q20 : gz_OkE M_X8_runStream 2 0 0 32 34 _ := ok_d2iald dX8_runStream_32 dX8_runStream_33
  have q21 : gz_OkE M_X8_runStream 3 0 0 34 37 _ := ok_sipush (v := 3600) dX8_runStream_34 kc_s3600
  have q22 : gz_OkE M_X8_runStream 2 0 0 32 38 _ := ok_isub q20 q21 dX8_runStream_37
  have q23 : gz_OkA M_X8_runStream 0 0 0 39 39 0 _ := ok_a0
  have q24 : gz_OkE M_X8_runStream 0 0 0 39 40 _ := ok_aload_n (i := 0) dX8_runStream_39 rfl
  have q25 : gz_OkA M_X8_runStream 0 0 0 39 40 1 _ := ok_a1 q23 q24
  have q26 : gz_OkE M_X8_runStream 2 0 0 40 41 _ := ok_iload_n (i := 1) dX8_runStream_40 rfl
  have q27 : gz_OkA M_X8_runStream 0 0 0 39 41 2 _ := ok_a1 q25 q26
  have q28 : gz_OkE M_X8_runStream 4 0 0 41 42 _ := ok_iload_n (i := 2) dX8_runStream_41 rfl
  have q29 : gz_OkA M_X8_runStream 0 0 0 39 42 3 _ := ok_a1 q27 q28
  have q30 : gz_OkS M_X8_runStream 0 0 45 _ := ok_at
  have q31 : gz_OkS M_X8_runStream 0 0 39 _ := ok_vv q29 mt_X8_comes cl_8 wd_847 wd_188 de_X8_comes (by decide) (by decide) wd_848 wd_849 wd_850 dX8_runStream_42 q30
  have q32 : gz_OkS M_X8_runStream 0 0 27 _ := ok_iast q18 q19 q22 dX8_runStream_38 q31
  have q33 : gz_OkS M_X8_runStream 0 0 15 _ := ok_if q15 q16 q32
  have q34 : gz_OkE M_X8_runStream 0 0 0 45 46 _ := ok_iconst (v := 0) dX8_runStream_45 kc_i0
  have q35 : gz_OkE M_X8_runStream 0 0 0 47 48 _ := ok_iload_n (i := 3) dX8_runStream_47 rfl
  have q36 : gz_OkE M_X8_runStream 1 0 0 48 50 _ := ok_bipush (v := 64) dX8_runStream_48 kc_b64
  have q37 : gz_OkJ M_X8_runStream 0 0 0 47 171 53 _ := ok_ic_ge q35 q36 dX8_runStream_50 (by decide)
  have q38 : gz_OkS M_X8_runStream 0 0 171 _ := ok_at
  have q39 : gz_OkE M_X8_runStream 0 0 0 53 54 _ := ok_aload_n (i := 0) dX8_runStream_53 rfl
  have q40 : gz_OkE M_X8_runStream 0 0 0 53 57 _ := ok_get q39 cl_8 (k := 29) (by decide) in_8 wd_152 dX8_runStream_54
  have q41 : gz_OkE M_X8_runStream 1 0 0 57 58 _ := ok_iload_n (i := 3) dX8_runStream_57 rfl
  have q42 : gz_OkE M_X8_runStream 0 0 0 53 59 _ := ok_zald q40 q41 dX8_runStream_58
  have q43 : gz_OkJ M_X8_runStream 0 0 0 53 165 62 _ := ok_if_eq q42 dX8_runStream_59 (by decide)
  have q44 : gz_OkS M_X8_runStream 0 0 165 _ := ok_at
  have q45 : gz_OkE M_X8_runStream 0 0 0 62 63 _ := ok_aload_n (i := 0) dX8_runStream_62 rfl
  have q46 : gz_OkE M_X8_runStream 0 0 0 62 66 _ := ok_get q45 cl_8 (k := 30) (by decide) in_8 wd_153 dX8_runStream_63
  have q47 : gz_OkE M_X8_runStream 1 0 0 66 67 _ := ok_iload_n (i := 3) dX8_runStream_66 rfl
  have q48 : gz_OkE M_X8_runStream 0 0 0 62 68 _ := ok_iald q46 q47 dX8_runStream_67
  have q49 : gz_OkE M_X8_runStream 1 0 0 68 69 _ := ok_iload_n (i := 1) dX8_runStream_68 rfl
  have q50 : gz_OkJ M_X8_runStream 0 0 0 62 75 72 _ := ok_ic_eq q48 q49 dX8_runStream_69 (by decide)
  have q51 : gz_OkE M_X8_runStream 0 0 0 75 76 _ := ok_aload_n (i := 0) dX8_runStream_75 rfl
  have q52 : gz_OkE M_X8_runStream 0 0 0 75 79 _ := ok_get q51 cl_8 (k := 33) (by decide) in_8 wd_156 dX8_runStream_76
  have q53 : gz_OkE M_X8_runStream 1 0 0 79 80 _ := ok_iload_n (i := 3) dX8_runStream_79 rfl
  have q54 : gz_OkE M_X8_runStream 0 0 0 75 81 _ := ok_iald q52 q53 dX8_runStream_80
  have q55 : gz_OkJ M_X8_runStream 0 0 0 75 165 84 _ := ok_if_le q54 dX8_runStream_81 (by decide)
  have q56 : gz_OkE M_X8_runStream 0 0 0 84 85 _ := ok_aload_n (i := 0) dX8_runStream_84 rfl
  have q57 : gz_OkE M_X8_runStream 0 0 0 84 88 _ := ok_get q56 cl_8 (k := 34) (by decide) in_8 wd_157 dX8_runStream_85
  have q58 : gz_OkE M_X8_runStream 1 0 0 88 90 _ := ok_bipush (v := 60) dX8_runStream_88 kc_b60
  have q59 : gz_OkE M_X8_runStream 2 0 0 90 91 _ := ok_iload_n (i := 3) dX8_runStream_90 rfl
  have q60 : gz_OkE M_X8_runStream 1 0 0 88 92 _ := ok_imul q58 q59 dX8_runStream_91
  have q61 : gz_OkE M_X8_runStream 0 0 0 84 93 _ := ok_iald q57 q60 dX8_runStream_92
  have q62 : gz_OkE M_X8_runStream 1 0 0 93 94 _ := ok_aload_n (i := 0) dX8_runStream_93 rfl
  have q63 : gz_OkE M_X8_runStream 1 0 0 93 97 _ := ok_get q62 cl_8 (k := 1) (by decide) in_8 wd_171 dX8_runStream_94
  have q64 : gz_OkJ M_X8_runStream 0 0 0 84 165 100 _ := ok_ic_gt q61 q63 dX8_runStream_97 (by decide)
  have q65 : gz_OkJ M_X8_runStream 0 0 0 75 165 100 _ := ok_jo q55 q64
  have q66 : gz_OkS M_X8_runStream 0 0 165 _ := ok_at
  have q67 : gz_OkE M_X8_runStream 0 0 0 100 101 _ := ok_aload_n (i := 0) dX8_runStream_100 rfl
  have q68 : gz_OkE M_X8_runStream 0 0 0 100 104 _ := ok_get q67 cl_8 (k := 33) (by decide) in_8 wd_156 dX8_runStream_101
  have q69 : gz_OkE M_X8_runStream 1 0 0 104 105 _ := ok_iload_n (i := 3) dX8_runStream_104 rfl
  have q70 : gz_OkE M_X8_runStream 2 0 0 105 107 _ := ok_d2iald dX8_runStream_105 dX8_runStream_106
  have q71 : gz_OkE M_X8_runStream 3 0 0 107 108 _ := ok_iconst (v := 1) dX8_runStream_107 kc_i1
  have q72 : gz_OkE M_X8_runStream 2 0 0 105 109 _ := ok_isub q70 q71 dX8_runStream_108
  have q73 : gz_OkE M_X8_runStream 0 0 0 110 111 _ := ok_iconst (v := 0) dX8_runStream_110 kc_i0
  have q74 : gz_OkE M_X8_runStream 0 0 0 113 115 _ := ok_iload (i := 4) dX8_runStream_113
  have q75 : gz_OkE M_X8_runStream 1 0 0 115 116 _ := ok_aload_n (i := 0) dX8_runStream_115 rfl
  have q76 : gz_OkE M_X8_runStream 1 0 0 115 119 _ := ok_get q75 cl_8 (k := 33) (by decide) in_8 wd_156 dX8_runStream_116
  have q77 : gz_OkE M_X8_runStream 2 0 0 119 120 _ := ok_iload_n (i := 3) dX8_runStream_119 rfl
  have q78 : gz_OkE M_X8_runStream 1 0 0 115 121 _ := ok_iald q76 q77 dX8_runStream_120
  have q79 : gz_OkJ M_X8_runStream 0 0 0 113 156 124 _ := ok_ic_ge q74 q78 dX8_runStream_121 (by decide)
  have q80 : gz_OkS M_X8_runStream 0 0 156 _ := ok_at
  have q81 : gz_OkE M_X8_runStream 0 0 0 124 125 _ := ok_aload_n (i := 0) dX8_runStream_124 rfl
  have q82 : gz_OkE M_X8_runStream 0 0 0 124 128 _ := ok_get q81 cl_8 (k := 34) (by decide) in_8 wd_157 dX8_runStream_125
  have q83 : gz_OkE M_X8_runStream 1 0 0 128 130 _ := ok_bipush (v := 60) dX8_runStream_128 kc_b60
  have q84 : gz_OkE M_X8_runStream 2 0 0 130 131 _ := ok_iload_n (i := 3) dX8_runStream_130 rfl
  have q85 : gz_OkE M_X8_runStream 1 0 0 128 132 _ := ok_imul q83 q84 dX8_runStream_131
  have q86 : gz_OkE M_X8_runStream 2 0 0 132 134 _ := ok_iload (i := 4) dX8_runStream_132
  have q87 : gz_OkE M_X8_runStream 1 0 0 128 135 _ := ok_iadd q85 q86 dX8_runStream_134
  have q88 : gz_OkE M_X8_runStream 2 0 0 135 136 _ := ok_aload_n (i := 0) dX8_runStream_135 rfl
  have q89 : gz_OkE M_X8_runStream 2 0 0 135 139 _ := ok_get q88 cl_8 (k := 34) (by decide) in_8 wd_157 dX8_runStream_136
  have q90 : gz_OkE M_X8_runStream 3 0 0 139 141 _ := ok_bipush (v := 60) dX8_runStream_139 kc_b60
  have q91 : gz_OkE M_X8_runStream 4 0 0 141 142 _ := ok_iload_n (i := 3) dX8_runStream_141 rfl
  have q92 : gz_OkE M_X8_runStream 3 0 0 139 143 _ := ok_imul q90 q91 dX8_runStream_142
  have q93 : gz_OkE M_X8_runStream 4 0 0 143 145 _ := ok_iload (i := 4) dX8_runStream_143
  have q94 : gz_OkE M_X8_runStream 3 0 0 139 146 _ := ok_iadd q92 q93 dX8_runStream_145
  have q95 : gz_OkE M_X8_runStream 4 0 0 146 147 _ := ok_iconst (v := 1) dX8_runStream_146 kc_i1
  have q96 : gz_OkE M_X8_runStream 3 0 0 139 148 _ := ok_iadd q94 q95 dX8_runStream_147
  have q97 : gz_OkE M_X8_runStream 2 0 0 135 149 _ := ok_iald q89 q96 dX8_runStream_148
  have q98 : gz_OkS M_X8_runStream 0 0 153 (gz_sat 113) := ok_goto dX8_runStream_153 (by decide)
  have q99 : gz_OkS M_X8_runStream 0 0 150 _ := ok_inc (v := 1) dX8_runStream_150 kc_i1 (by decide) q98
  have q100 : gz_OkS M_X8_runStream 0 0 124 _ := ok_iast q82 q87 q97 dX8_runStream_149 q99
  have q101 : gz_OkS M_X8_runStream 0 0 113 _ := ok_if q79 q80 q100
  have q102 : gz_OkS M_X8_runStream 0 0 113 lb_X8_runStream_113 := q101
  have q103 : gz_OkS M_X8_runStream 0 0 113 _ := ok_loop (k := 5) q102 rfl rfl
  have q104 : gz_OkA M_X8_runStream 0 0 0 156 156 0 _ := ok_a0
  have q105 : gz_OkE M_X8_runStream 0 0 0 156 157 _ := ok_aload_n (i := 0) dX8_runStream_156 rfl
  have q106 : gz_OkA M_X8_runStream 0 0 0 156 157 1 _ := ok_a1 q104 q105
  have q107 : gz_OkE M_X8_runStream 2 0 0 157 158 _ := ok_iload_n (i := 1) dX8_runStream_157 rfl
  have q108 : gz_OkA M_X8_runStream 0 0 0 156 158 2 _ := ok_a1 q106 q107
  have q109 : gz_OkE M_X8_runStream 4 0 0 158 159 _ := ok_iload_n (i := 2) dX8_runStream_158 rfl
  have q110 : gz_OkA M_X8_runStream 0 0 0 156 159 3 _ := ok_a1 q108 q109
  have q111 : gz_OkS M_X8_runStream 0 0 162 (gz_sat 75) := ok_goto dX8_runStream_162 (by decide)
  have q112 : gz_OkS M_X8_runStream 0 0 156 _ := ok_vv q110 mt_X8_comes cl_8 wd_847 wd_188 de_X8_comes (by decide) (by decide) wd_848 wd_849 wd_850 dX8_runStream_159 q111
  have q113 : gz_OkS M_X8_runStream 0 0 113 _ := ok_seq (L := 156) (k := 4) q103 q112
  have q114 : gz_OkS M_X8_runStream 0 0 110 _ := ok_seti (k := 4) q73 dX8_runStream_111 (by decide) q113
  have q115 : gz_OkS M_X8_runStream 0 0 100 _ := ok_iast q68 q69 q72 dX8_runStream_109 q114
  have q116 : gz_OkS M_X8_runStream 0 0 75 _ := ok_if q65 q66 q115
  have q117 : gz_OkS M_X8_runStream 0 0 75 lb_X8_runStream_75 := q116
  have q118 : gz_OkS M_X8_runStream 0 0 75 _ := ok_loop (k := 4) q117 rfl rfl
  have q119 : gz_OkS M_X8_runStream 0 0 72 (gz_sat 165) := ok_goto dX8_runStream_72 (by decide)
  have q120 : gz_OkS M_X8_runStream 0 0 62 _ := ok_if q50 q118 q119
  have q121 : gz_OkS M_X8_runStream 0 0 53 _ := ok_if q43 q44 q120
  have q122 : gz_OkS M_X8_runStream 0 0 168 (gz_sat 47) := ok_goto dX8_runStream_168 (by decide)
  have q123 : gz_OkS M_X8_runStream 0 0 165 _ := ok_inc (v := 1) dX8_runStream_165 kc_i1 (by decide) q122
  have q124 : gz_OkS M_X8_runStream 0 0 53 _ := ok_seq (L := 165) (k := 4) q121 q123
  have q125 : gz_OkS M_X8_runStream 0 0 47 _ := ok_if q37 q38 q124
  have q126 : gz_OkS M_X8_runStream 0 0 47 lb_X8_runStream_47 := q125
  have q127 : gz_OkS M_X8_runStream 0 0 47 _ := ok_loop (k := 4) q126 rfl rfl
  have q128 : gz_OkE M_X8_runStream 0 0 0 171 172 _ := ok_aload_n (i := 0) dX8_runStream_171 rfl
  have q129 : gz_OkE M_X8_runStream 0 0 0 171 175 _ := ok_get q128 cl_8 (k := 36) (by decide) in_8 wd_159 dX8_runStream_172
  have q130 : gz_OkE M_X8_runStream 1 0 0 175 176 _ := ok_iload_n (i := 1) dX8_runStream_175 rfl
  have q131 : gz_OkE M_X8_runStream 2 0 0 176 177 _ := ok_iload_n (i := 2) dX8_runStream_176 rfl
  have q132 : gz_OkJ M_X8_runStream 2 0 0 176 196 180 _ := ok_if_eq q131 dX8_runStream_177 (by decide)
  have q133 : gz_OkE M_X8_runStream 2 0 0 180 181 _ := ok_aload_n (i := 0) dX8_runStream_180 rfl
  have q134 : gz_OkE M_X8_runStream 2 0 0 180 184 _ := ok_get q133 cl_8 (k := 36) (by decide) in_8 wd_159 dX8_runStream_181
  have q135 : gz_OkE M_X8_runStream 3 0 0 184 185 _ := ok_iload_n (i := 1) dX8_runStream_184 rfl
  have q136 : gz_OkE M_X8_runStream 2 0 0 180 186 _ := ok_iald q134 q135 dX8_runStream_185
  have q137 : gz_OkE M_X8_runStream 3 0 0 186 187 _ := ok_aload_n (i := 0) dX8_runStream_186 rfl
  have q138 : gz_OkE M_X8_runStream 3 0 0 186 190 _ := ok_get q137 cl_8 (k := 5) (by decide) in_8 wd_131 dX8_runStream_187
  have q139 : gz_OkE M_X8_runStream 4 0 0 190 191 _ := ok_iload_n (i := 1) dX8_runStream_190 rfl
  have q140 : gz_OkE M_X8_runStream 3 0 0 186 192 _ := ok_iald q138 q139 dX8_runStream_191
  have q141 : gz_OkE M_X8_runStream 2 0 0 180 193 _ := ok_iadd q136 q140 dX8_runStream_192
  have q142 : gz_OkE M_X8_runStream 2 0 0 180 197 _ := ok_eg q141 dX8_runStream_193 (by decide)
  have q143 : gz_OkE M_X8_runStream 2 0 0 196 197 _ := ok_iconst (v := 0) dX8_runStream_196 kc_i0
  have q144 : gz_OkE M_X8_runStream 2 0 0 176 197 _ := ok_te2 q132 q142 q143
  have q145 : gz_OkE M_X8_runStream 0 0 0 198 199 _ := ok_aload_n (i := 0) dX8_runStream_198 rfl
  have q146 : gz_OkE M_X8_runStream 0 0 0 198 202 _ := ok_get q145 cl_8 (k := 36) (by decide) in_8 wd_159 dX8_runStream_199
  have q147 : gz_OkE M_X8_runStream 1 0 0 202 203 _ := ok_iload_n (i := 1) dX8_runStream_202 rfl
  have q148 : gz_OkE M_X8_runStream 0 0 0 198 204 _ := ok_iald q146 q147 dX8_runStream_203
  have q149 : gz_OkE M_X8_runStream 1 0 0 204 207 _ := ok_sipush (v := 3600) dX8_runStream_204 kc_s3600
  have q150 : gz_OkJ M_X8_runStream 0 0 0 198 307 210 _ := ok_ic_lt q148 q149 dX8_runStream_207 (by decide)
  have q151 : gz_OkE M_X8_runStream 0 0 0 210 211 _ := ok_aload_n (i := 0) dX8_runStream_210 rfl
  have q152 : gz_OkE M_X8_runStream 0 0 0 210 214 _ := ok_get q151 cl_8 (k := 37) (by decide) in_8 wd_160 dX8_runStream_211
  have q153 : gz_OkE M_X8_runStream 1 0 0 214 215 _ := ok_iload_n (i := 1) dX8_runStream_214 rfl
  have q154 : gz_OkE M_X8_runStream 0 0 0 210 216 _ := ok_lald q152 q153 dX8_runStream_215
  have q155 : gz_OkE M_X8_runStream 2 0 0 216 217 _ := ok_lconst (v := 0) dX8_runStream_216 kc_l0
  have q156 : gz_OkE M_X8_runStream 0 0 0 210 218 _ := ok_lcmp q154 q155 dX8_runStream_217
  have q157 : gz_OkJ M_X8_runStream 0 0 0 210 307 221 _ := ok_if_le q156 dX8_runStream_218 (by decide)
  have q158 : gz_OkA M_X8_runStream 0 0 0 221 221 0 _ := ok_a0
  have q159 : gz_OkE M_X8_runStream 0 0 0 221 222 _ := ok_aload_n (i := 0) dX8_runStream_221 rfl
  have q160 : gz_OkA M_X8_runStream 0 0 0 221 222 1 _ := ok_a1 q158 q159
  have q161 : gz_OkE M_X8_runStream 2 0 0 222 223 _ := ok_iload_n (i := 1) dX8_runStream_222 rfl
  have q162 : gz_OkA M_X8_runStream 0 0 0 221 223 2 _ := ok_a1 q160 q161
  have q163 : gz_OkE M_X8_runStream 0 0 0 221 226 _ := ok_cv q162 mt_X8_isFull cl_8 wd_851 wd_188 de_X8_isFull (by decide) (by decide) wd_852 wd_853 wd_854 dX8_runStream_223 (by decide)
  have q164 : gz_OkJ M_X8_runStream 0 0 0 221 307 229 _ := ok_if_ne q163 dX8_runStream_226 (by decide)
  have q165 : gz_OkJ M_X8_runStream 0 0 0 210 307 229 _ := ok_jo q157 q164
  have q166 : gz_OkJ M_X8_runStream 0 0 0 198 307 229 _ := ok_jo q150 q165
  have q167 : gz_OkS M_X8_runStream 0 0 307 _ := ok_at
  have q168 : gz_OkE M_X8_runStream 0 0 0 229 230 _ := ok_aload_n (i := 0) dX8_runStream_229 rfl
  have q169 : gz_OkE M_X8_runStream 0 0 0 229 233 _ := ok_get q168 cl_8 (k := 36) (by decide) in_8 wd_159 dX8_runStream_230
  have q170 : gz_OkE M_X8_runStream 1 0 0 233 234 _ := ok_iload_n (i := 1) dX8_runStream_233 rfl
  have q171 : gz_OkE M_X8_runStream 2 0 0 234 236 _ := ok_d2iald dX8_runStream_234 dX8_runStream_235
  have q172 : gz_OkE M_X8_runStream 3 0 0 236 239 _ := ok_sipush (v := 3600) dX8_runStream_236 kc_s3600
  have q173 : gz_OkE M_X8_runStream 2 0 0 234 240 _ := ok_isub q171 q172 dX8_runStream_239
  have q174 : gz_OkE M_X8_runStream 0 0 0 241 242 _ := ok_aload_n (i := 0) dX8_runStream_241 rfl
  have q175 : gz_OkE M_X8_runStream 0 0 0 241 245 _ := ok_get q174 cl_8 (k := 37) (by decide) in_8 wd_160 dX8_runStream_242
  have q176 : gz_OkE M_X8_runStream 1 0 0 245 246 _ := ok_iload_n (i := 1) dX8_runStream_245 rfl
  have q177 : gz_OkE M_X8_runStream 2 0 0 246 248 _ := ok_d2lald dX8_runStream_246 dX8_runStream_247
  have q178 : gz_OkE M_X8_runStream 4 0 0 248 249 _ := ok_lconst (v := 1) dX8_runStream_248 kc_l1
  have q179 : gz_OkE M_X8_runStream 2 0 0 246 250 _ := ok_lsub q177 q178 dX8_runStream_249
  have q180 : gz_OkE M_X8_runStream 0 0 0 251 252 _ := ok_aload_n (i := 0) dX8_runStream_251 rfl
  have q181 : gz_OkE M_X8_runStream 0 0 0 251 255 _ := ok_get q180 cl_8 (k := 39) (by decide) in_8 wd_162 dX8_runStream_252
  have q182 : gz_OkE M_X8_runStream 1 0 0 255 256 _ := ok_iload_n (i := 1) dX8_runStream_255 rfl
  have q183 : gz_OkE M_X8_runStream 2 0 0 256 258 _ := ok_d2lald dX8_runStream_256 dX8_runStream_257
  have q184 : gz_OkE M_X8_runStream 4 0 0 258 259 _ := ok_lconst (v := 1) dX8_runStream_258 kc_l1
  have q185 : gz_OkE M_X8_runStream 2 0 0 256 260 _ := ok_ladd q183 q184 dX8_runStream_259
  have q186 : gz_OkE M_X8_runStream 0 0 0 261 262 _ := ok_aload_n (i := 0) dX8_runStream_261 rfl
  have q187 : gz_OkE M_X8_runStream 0 0 0 261 265 _ := ok_get q186 cl_8 (k := 29) (by decide) in_8 wd_152 dX8_runStream_262
  have q188 : gz_OkE M_X8_runStream 1 0 0 265 266 _ := ok_iload_n (i := 1) dX8_runStream_265 rfl
  have q189 : gz_OkE M_X8_runStream 0 0 0 261 267 _ := ok_zald q187 q188 dX8_runStream_266
  have q190 : gz_OkJ M_X8_runStream 0 0 0 261 307 270 _ := ok_if_eq q189 dX8_runStream_267 (by decide)
  have q191 : gz_OkS M_X8_runStream 0 0 307 _ := ok_at
  have q192 : gz_OkE M_X8_runStream 0 0 0 270 271 _ := ok_aload_n (i := 0) dX8_runStream_270 rfl
  have q193 : gz_OkE M_X8_runStream 0 0 0 270 274 _ := ok_get q192 cl_8 (k := 34) (by decide) in_8 wd_157 dX8_runStream_271
  have q194 : gz_OkE M_X8_runStream 1 0 0 274 276 _ := ok_bipush (v := 60) dX8_runStream_274 kc_b60
  have q195 : gz_OkE M_X8_runStream 2 0 0 276 277 _ := ok_iload_n (i := 1) dX8_runStream_276 rfl
  have q196 : gz_OkE M_X8_runStream 1 0 0 274 278 _ := ok_imul q194 q195 dX8_runStream_277
  have q197 : gz_OkE M_X8_runStream 2 0 0 278 279 _ := ok_aload_n (i := 0) dX8_runStream_278 rfl
  have q198 : gz_OkE M_X8_runStream 2 0 0 278 282 _ := ok_get q197 cl_8 (k := 33) (by decide) in_8 wd_156 dX8_runStream_279
  have q199 : gz_OkE M_X8_runStream 3 0 0 282 283 _ := ok_iload_n (i := 1) dX8_runStream_282 rfl
  have q200 : gz_OkE M_X8_runStream 2 0 0 278 284 _ := ok_iald q198 q199 dX8_runStream_283
  have q201 : gz_OkE M_X8_runStream 1 0 0 274 285 _ := ok_iadd q196 q200 dX8_runStream_284
  have q202 : gz_OkE M_X8_runStream 2 0 0 285 286 _ := ok_aload_n (i := 0) dX8_runStream_285 rfl
  have q203 : gz_OkE M_X8_runStream 2 0 0 285 289 _ := ok_get q202 cl_8 (k := 1) (by decide) in_8 wd_171 dX8_runStream_286
  have q204 : gz_OkE M_X8_runStream 3 0 0 289 290 _ := ok_aload_n (i := 0) dX8_runStream_289 rfl
  have q205 : gz_OkE M_X8_runStream 3 0 0 289 293 _ := ok_get q204 cl_8 (k := 31) (by decide) in_8 wd_154 dX8_runStream_290
  have q206 : gz_OkE M_X8_runStream 4 0 0 293 294 _ := ok_iload_n (i := 1) dX8_runStream_293 rfl
  have q207 : gz_OkE M_X8_runStream 3 0 0 289 295 _ := ok_iald q205 q206 dX8_runStream_294
  have q208 : gz_OkE M_X8_runStream 2 0 0 285 296 _ := ok_iadd q203 q207 dX8_runStream_295
  have q209 : gz_OkE M_X8_runStream 0 0 0 297 298 _ := ok_aload_n (i := 0) dX8_runStream_297 rfl
  have q210 : gz_OkE M_X8_runStream 0 0 0 297 301 _ := ok_get q209 cl_8 (k := 33) (by decide) in_8 wd_156 dX8_runStream_298
  have q211 : gz_OkE M_X8_runStream 1 0 0 301 302 _ := ok_iload_n (i := 1) dX8_runStream_301 rfl
  have q212 : gz_OkE M_X8_runStream 2 0 0 302 304 _ := ok_d2iald dX8_runStream_302 dX8_runStream_303
  have q213 : gz_OkE M_X8_runStream 3 0 0 304 305 _ := ok_iconst (v := 1) dX8_runStream_304 kc_i1
  have q214 : gz_OkE M_X8_runStream 2 0 0 302 306 _ := ok_iadd q212 q213 dX8_runStream_305
  have q215 : gz_OkS M_X8_runStream 0 0 307 _ := ok_at
  have q216 : gz_OkS M_X8_runStream 0 0 297 _ := ok_iast q210 q211 q214 dX8_runStream_306 q215
  have q217 : gz_OkS M_X8_runStream 0 0 270 _ := ok_iast q193 q201 q208 dX8_runStream_296 q216
  have q218 : gz_OkS M_X8_runStream 0 0 261 _ := ok_if q190 q191 q217
  have q219 : gz_OkS M_X8_runStream 0 0 251 _ := ok_last q181 q182 q185 dX8_runStream_260 q218
  have q220 : gz_OkS M_X8_runStream 0 0 241 _ := ok_last q175 q176 q179 dX8_runStream_250 q219
  have q221 : gz_OkS M_X8_runStream 0 0 229 _ := ok_iast q169 q170 q173 dX8_runStream_240 q220
  have q222 : gz_OkS M_X8_runStream 0 0 198 _ := ok_if q166 q167 q221
  have q223 : gz_OkE M_X8_runStream 0 0 0 307 308 _ := ok_aload_n (i := 0) dX8_runStream_307 rfl
  have q224 : gz_OkE M_X8_runStream 0 0 0 307 311 _ := ok_get q223 cl_8 (k := 36) (by decide) in_8 wd_159 dX8_runStream_308
  have q225 : gz_OkE M_X8_runStream 1 0 0 311 312 _ := ok_iload_n (i := 1) dX8_runStream_311 rfl
  have q226 : gz_OkA M_X8_runStream 2 0 0 312 312 0 _ := ok_a0
  have q227 : gz_OkE M_X8_runStream 2 0 0 312 313 _ := ok_aload_n (i := 0) dX8_runStream_312 rfl
  have q228 : gz_OkE M_X8_runStream 2 0 0 312 316 _ := ok_get q227 cl_8 (k := 36) (by decide) in_8 wd_159 dX8_runStream_313
  have q229 : gz_OkE M_X8_runStream 3 0 0 316 317 _ := ok_iload_n (i := 1) dX8_runStream_316 rfl
  have q230 : gz_OkE M_X8_runStream 2 0 0 312 318 _ := ok_iald q228 q229 dX8_runStream_317
  have q231 : gz_OkA M_X8_runStream 2 0 0 312 318 1 _ := ok_a1 q226 q230
  have q232 : gz_OkE M_X8_runStream 4 0 0 318 321 _ := ok_sipush (v := 3600) dX8_runStream_318 kc_s3600
  have q233 : gz_OkA M_X8_runStream 2 0 0 312 321 2 _ := ok_a1 q231 q232
  have q234 : gz_OkE M_X8_runStream 2 0 0 312 324 _ := ok_cs q233 mt_J9_min_7cf53 wd_425 wd_411 de_J9_min_7cf53 (by decide) (by decide) wd_826 wd_427 dX8_runStream_321 (by decide)
  have q235 : gz_OkE M_X8_runStream 0 0 0 325 326 _ := ok_aload_n (i := 0) dX8_runStream_325 rfl
  have q236 : gz_OkE M_X8_runStream 0 0 0 325 329 _ := ok_get q235 cl_8 (k := 40) (by decide) in_8 wd_163 dX8_runStream_326
  have q237 : gz_OkE M_X8_runStream 1 0 0 329 330 _ := ok_iload_n (i := 1) dX8_runStream_329 rfl
  have q238 : gz_OkE M_X8_runStream 2 0 0 330 332 _ := ok_d2lald dX8_runStream_330 dX8_runStream_331
  have q239 : gz_OkE M_X8_runStream 4 0 0 332 333 _ := ok_aload_n (i := 0) dX8_runStream_332 rfl
  have q240 : gz_OkE M_X8_runStream 4 0 0 332 336 _ := ok_get q239 cl_8 (k := 37) (by decide) in_8 wd_160 dX8_runStream_333
  have q241 : gz_OkE M_X8_runStream 5 0 0 336 337 _ := ok_iload_n (i := 1) dX8_runStream_336 rfl
  have q242 : gz_OkE M_X8_runStream 4 0 0 332 338 _ := ok_lald q240 q241 dX8_runStream_337
  have q243 : gz_OkE M_X8_runStream 2 0 0 330 339 _ := ok_ladd q238 q242 dX8_runStream_338
  have q244 : gz_OkE M_X8_runStream 0 0 0 340 341 _ := ok_aload_n (i := 0) dX8_runStream_340 rfl
  have q245 : gz_OkE M_X8_runStream 0 0 0 340 344 _ := ok_get q244 cl_8 (k := 42) (by decide) in_8 wd_165 dX8_runStream_341
  have q246 : gz_OkE M_X8_runStream 1 0 0 344 345 _ := ok_iload_n (i := 1) dX8_runStream_344 rfl
  have q247 : gz_OkA M_X8_runStream 2 0 0 345 345 0 _ := ok_a0
  have q248 : gz_OkE M_X8_runStream 2 0 0 345 346 _ := ok_aload_n (i := 0) dX8_runStream_345 rfl
  have q249 : gz_OkE M_X8_runStream 2 0 0 345 349 _ := ok_get q248 cl_8 (k := 42) (by decide) in_8 wd_165 dX8_runStream_346
  have q250 : gz_OkE M_X8_runStream 3 0 0 349 350 _ := ok_iload_n (i := 1) dX8_runStream_349 rfl
  have q251 : gz_OkE M_X8_runStream 2 0 0 345 351 _ := ok_lald q249 q250 dX8_runStream_350
  have q252 : gz_OkA M_X8_runStream 2 0 0 345 351 1 _ := ok_a1 q247 q251
  have q253 : gz_OkE M_X8_runStream 4 0 0 351 352 _ := ok_aload_n (i := 0) dX8_runStream_351 rfl
  have q254 : gz_OkE M_X8_runStream 4 0 0 351 355 _ := ok_get q253 cl_8 (k := 37) (by decide) in_8 wd_160 dX8_runStream_352
  have q255 : gz_OkE M_X8_runStream 5 0 0 355 356 _ := ok_iload_n (i := 1) dX8_runStream_355 rfl
  have q256 : gz_OkE M_X8_runStream 4 0 0 351 357 _ := ok_lald q254 q255 dX8_runStream_356
  have q257 : gz_OkA M_X8_runStream 2 0 0 345 357 2 _ := ok_a1 q252 q256
  have q258 : gz_OkE M_X8_runStream 2 0 0 345 360 _ := ok_cs q257 mt_J9_max_f86c9 wd_855 wd_411 de_J9_max_f86c9 (by decide) (by decide) wd_856 wd_857 dX8_runStream_357 (by decide)
  have q259 : gz_OkE M_X8_runStream 0 0 0 361 362 _ := ok_aload_n (i := 0) dX8_runStream_361 rfl
  have q260 : gz_OkE M_X8_runStream 0 0 0 361 365 _ := ok_get q259 cl_8 (k := 43) (by decide) in_8 wd_166 dX8_runStream_362
  have q261 : gz_OkE M_X8_runStream 1 0 0 365 366 _ := ok_iload_n (i := 1) dX8_runStream_365 rfl
  have q262 : gz_OkE M_X8_runStream 2 0 0 366 367 _ := ok_iload_n (i := 2) dX8_runStream_366 rfl
  have q263 : gz_OkS M_X8_runStream 0 0 368 _ := ok_rv dX8_runStream_368
  have q264 : gz_OkS M_X8_runStream 0 0 361 _ := ok_zast q260 q261 q262 dX8_runStream_367 q263
  have q265 : gz_OkS M_X8_runStream 0 0 340 _ := ok_last q245 q246 q258 dX8_runStream_360 q264
  have q266 : gz_OkS M_X8_runStream 0 0 325 _ := ok_last q236 q237 q243 dX8_runStream_339 q265
  have q267 : gz_OkS M_X8_runStream 0 0 307 _ := ok_iast q224 q225 q234 dX8_runStream_324 q266
  have q268 : gz_OkS M_X8_runStream 0 0 198 _ := ok_seq (L := 307) (k := 3) q222 q267
  have q269 : gz_OkS M_X8_runStream 0 0 171 _ := ok_iast q129 q130 q144 dX8_runStream_197 q268
  have q270 : gz_OkS M_X8_runStream 0 0 47 _ := ok_seq (L := 171) (k := 3) q127 q269
  have q271 : gz_OkS M_X8_runStream 0 0 45 _ := ok_seti_n (k := 3) q34 dX8_runStream_46 rfl (by decide) q270
  have q272 : gz_OkS M_X8_runStream 0 0 15 _ := ok_seq (L := 45) (k := 3) q33 q271
  have q273 : gz_OkS M_X8_runStream 0 0 0 _ := ok_iast q2 q3 q9 dX8_runStream_14 q272
  have z : gz_OkS M_X8_runStream 0 0 0 sm_X8_runStream := q273
  exact gz_met (plainFor_of_name (by decide)) z (by decide) (by decide)
noncomputable def lb_X8_runJunction_123 : gz_Sx := gz_if (gz_j2 (fun x y => decide (y ≤ x)) (gz_li 4) (gz_ald 100 (gz_get 8 48 2 (gz_la 0)) (gz_li 1))) (gz_sat 166) (gz_vv 8 48 se_X8_runStream (gz_a1 (gz_a1 (gz_a1 (gz_a0) (gz_la 0)) (gz_ib (fun x y => x + y) (gz_ib (fun x y => x * y) (gz_i (8)) (gz_li 1)) (gz_li 4))) (gz_te (gz_j2 (fun x y => decide (¬ x = y)) (gz_ib (fun x y => x &&& y) (gz_ib (fun x y => x >>> (y &&& 31)) (gz_li 3) (gz_li 4)) (gz_i (1))) (gz_i (1))) (gz_i (0)) (gz_i (1)))) (gz_inc 4 (1) (gz_sat 123)))
noncomputable def sm_X8_runJunction : gz_Sx := gz_seti 2 (gz_ib (fun x y => x + y) (gz_i (8)) (gz_li 1)) (gz_seti 3 (gz_i (0)) (gz_seq 100 4 (gz_if (gz_j1 (fun x => decide (x = 0)) (gz_ald 101 (gz_get 8 48 9 (gz_la 0)) (gz_li 2))) (gz_sat 100) (gz_seti 4 (gz_ib (fun x y => x + y) (gz_ib (fun x y => x * y) (gz_i (90)) (gz_li 2)) (gz_cs se_J9_floorMod_7cf53 (gz_a1 (gz_a1 (gz_a0) (gz_ib (fun x y => x - y) (gz_get 8 48 1 (gz_la 0)) (gz_ald 100 (gz_get 8 48 14 (gz_la 0)) (gz_li 2)))) (gz_ald 100 (gz_get 8 48 10 (gz_la 0)) (gz_li 2))))) (gz_seq 66 5 (gz_if (gz_j2 (fun x y => decide (x < y)) (gz_ald 100 (gz_get 8 48 23 (gz_la 0)) (gz_li 4)) (gz_ald 100 (gz_get 8 48 15 (gz_la 0)) (gz_li 1))) (gz_sat 66) (gz_ast 101 (gz_get 8 48 17 (gz_la 0)) (gz_li 1) (gz_i (1)) (gz_sat 66))) (gz_seti 3 (gz_te (gz_ja (gz_j1 (fun x => decide (¬ x = 0)) (gz_ald 101 (gz_get 8 48 17 (gz_la 0)) (gz_li 1))) (gz_j2 (fun x y => decide (y ≤ x)) (gz_get 8 48 1 (gz_la 0)) (gz_ald 100 (gz_get 8 48 16 (gz_la 0)) (gz_li 1)))) (gz_ald 100 (gz_get 8 48 22 (gz_la 0)) (gz_li 4)) (gz_i (0))) (gz_sat 100))))) (gz_ast 100 (gz_get 8 48 44 (gz_la 0)) (gz_ib (fun x y => x + y) (gz_ib (fun x y => x * y) (gz_i (200)) (gz_li 1)) (gz_iz (fun x y => x - x / y * y) (gz_get 8 48 1 (gz_la 0)) (gz_i (200)))) (gz_li 3) (gz_seti 4 (gz_i (0)) (gz_seq 166 0 (gz_loop 123 5 lb_X8_runJunction_123) (gz_rv))))))
noncomputable def se_X8_runJunction : gz_Me := gz_sem none 5 sm_X8_runJunction
abbrev rm_X8_runJunction : Room := { frames := 2, cells := 0, slots := 0, locals := 47 }
abbrev M_X8_runJunction : gz_Mi := (cX8_runJunction, 5, RX8, 2, 47, "runJunction", none)
theorem de_X8_runJunction : yX8_runJunction.cls ≠ "java/lang/invoke/MethodHandle" ∧ yX8_runJunction.cls ≠ "java/lang/invoke/VarHandle" ∧ (parseMethodDescriptor yX8_runJunction.desc).map (fun d => d.parameters.length) = some 1 := by decide +kernel
set_option maxRecDepth 100000 in
theorem mt_X8_runJunction : gz_Mt yX8_runJunction cX8_runJunction 5 none rm_X8_runJunction se_X8_runJunction := by
  have q1 : gz_OkE M_X8_runJunction 0 0 0 0 2 _ := ok_bipush (v := 8) dX8_runJunction_0 kc_b8
  have q2 : gz_OkE M_X8_runJunction 1 0 0 2 3 _ := ok_iload_n (i := 1) dX8_runJunction_2 rfl
  have q3 : gz_OkE M_X8_runJunction 0 0 0 0 4 _ := ok_iadd q1 q2 dX8_runJunction_3
  have q4 : gz_OkE M_X8_runJunction 0 0 0 5 6 _ := ok_iconst (v := 0) dX8_runJunction_5 kc_i0
  have q5 : gz_OkE M_X8_runJunction 0 0 0 7 8 _ := ok_aload_n (i := 0) dX8_runJunction_7 rfl
  have q6 : gz_OkE M_X8_runJunction 0 0 0 7 11 _ := ok_get q5 cl_8 (k := 9) (by decide) in_8 wd_135 dX8_runJunction_8
  have q7 : gz_OkE M_X8_runJunction 1 0 0 11 12 _ := ok_iload_n (i := 2) dX8_runJunction_11 rfl
  have q8 : gz_OkE M_X8_runJunction 0 0 0 7 13 _ := ok_zald q6 q7 dX8_runJunction_12
  have q9 : gz_OkJ M_X8_runJunction 0 0 0 7 100 16 _ := ok_if_eq q8 dX8_runJunction_13 (by decide)
  have q10 : gz_OkS M_X8_runJunction 0 0 100 _ := ok_at
  have q11 : gz_OkE M_X8_runJunction 0 0 0 16 18 _ := ok_bipush (v := 90) dX8_runJunction_16 kc_b90
  have q12 : gz_OkE M_X8_runJunction 1 0 0 18 19 _ := ok_iload_n (i := 2) dX8_runJunction_18 rfl
  have q13 : gz_OkE M_X8_runJunction 0 0 0 16 20 _ := ok_imul q11 q12 dX8_runJunction_19
  have q14 : gz_OkA M_X8_runJunction 1 0 0 20 20 0 _ := ok_a0
  have q15 : gz_OkE M_X8_runJunction 1 0 0 20 21 _ := ok_aload_n (i := 0) dX8_runJunction_20 rfl
  have q16 : gz_OkE M_X8_runJunction 1 0 0 20 24 _ := ok_get q15 cl_8 (k := 1) (by decide) in_8 wd_171 dX8_runJunction_21
  have q17 : gz_OkE M_X8_runJunction 2 0 0 24 25 _ := ok_aload_n (i := 0) dX8_runJunction_24 rfl
  have q18 : gz_OkE M_X8_runJunction 2 0 0 24 28 _ := ok_get q17 cl_8 (k := 14) (by decide) in_8 wd_140 dX8_runJunction_25
  have q19 : gz_OkE M_X8_runJunction 3 0 0 28 29 _ := ok_iload_n (i := 2) dX8_runJunction_28 rfl
  have q20 : gz_OkE M_X8_runJunction 2 0 0 24 30 _ := ok_iald q18 q19 dX8_runJunction_29
  have q21 : gz_OkE M_X8_runJunction 1 0 0 20 31 _ := ok_isub q16 q20 dX8_runJunction_30
  have q22 : gz_OkA M_X8_runJunction 1 0 0 20 31 1 _ := ok_a1 q14 q21
  have q23 : gz_OkE M_X8_runJunction 3 0 0 31 32 _ := ok_aload_n (i := 0) dX8_runJunction_31 rfl
  have q24 : gz_OkE M_X8_runJunction 3 0 0 31 35 _ := ok_get q23 cl_8 (k := 10) (by decide) in_8 wd_136 dX8_runJunction_32
  have q25 : gz_OkE M_X8_runJunction 4 0 0 35 36 _ := ok_iload_n (i := 2) dX8_runJunction_35 rfl
  have q26 : gz_OkE M_X8_runJunction 3 0 0 31 37 _ := ok_iald q24 q25 dX8_runJunction_36
  have q27 : gz_OkA M_X8_runJunction 1 0 0 20 37 2 _ := ok_a1 q22 q26
  have q28 : gz_OkE M_X8_runJunction 1 0 0 20 40 _ := ok_cs q27 mt_J9_floorMod_7cf53 wd_483 wd_411 de_J9_floorMod_7cf53 (by decide) (by decide) wd_801 wd_485 dX8_runJunction_37 (by decide)
  have q29 : gz_OkE M_X8_runJunction 0 0 0 16 41 _ := ok_iadd q13 q28 dX8_runJunction_40
  have q30 : gz_OkE M_X8_runJunction 0 0 0 43 44 _ := ok_aload_n (i := 0) dX8_runJunction_43 rfl
  have q31 : gz_OkE M_X8_runJunction 0 0 0 43 47 _ := ok_get q30 cl_8 (k := 23) (by decide) in_8 wd_148 dX8_runJunction_44
  have q32 : gz_OkE M_X8_runJunction 1 0 0 47 49 _ := ok_iload (i := 4) dX8_runJunction_47
  have q33 : gz_OkE M_X8_runJunction 0 0 0 43 50 _ := ok_iald q31 q32 dX8_runJunction_49
  have q34 : gz_OkE M_X8_runJunction 1 0 0 50 51 _ := ok_aload_n (i := 0) dX8_runJunction_50 rfl
  have q35 : gz_OkE M_X8_runJunction 1 0 0 50 54 _ := ok_get q34 cl_8 (k := 15) (by decide) in_8 wd_141 dX8_runJunction_51
  have q36 : gz_OkE M_X8_runJunction 2 0 0 54 55 _ := ok_iload_n (i := 1) dX8_runJunction_54 rfl
  have q37 : gz_OkE M_X8_runJunction 1 0 0 50 56 _ := ok_iald q35 q36 dX8_runJunction_55
  have q38 : gz_OkJ M_X8_runJunction 0 0 0 43 66 59 _ := ok_ic_lt q33 q37 dX8_runJunction_56 (by decide)
  have q39 : gz_OkS M_X8_runJunction 0 0 66 _ := ok_at
  have q40 : gz_OkE M_X8_runJunction 0 0 0 59 60 _ := ok_aload_n (i := 0) dX8_runJunction_59 rfl
  have q41 : gz_OkE M_X8_runJunction 0 0 0 59 63 _ := ok_get q40 cl_8 (k := 17) (by decide) in_8 wd_143 dX8_runJunction_60
  have q42 : gz_OkE M_X8_runJunction 1 0 0 63 64 _ := ok_iload_n (i := 1) dX8_runJunction_63 rfl
  have q43 : gz_OkE M_X8_runJunction 2 0 0 64 65 _ := ok_iconst (v := 1) dX8_runJunction_64 kc_i1
  have q44 : gz_OkS M_X8_runJunction 0 0 66 _ := ok_at
  have q45 : gz_OkS M_X8_runJunction 0 0 59 _ := ok_zast q41 q42 q43 dX8_runJunction_65 q44
  have q46 : gz_OkS M_X8_runJunction 0 0 43 _ := ok_if q38 q39 q45
  have q47 : gz_OkE M_X8_runJunction 0 0 0 66 67 _ := ok_aload_n (i := 0) dX8_runJunction_66 rfl
  have q48 : gz_OkE M_X8_runJunction 0 0 0 66 70 _ := ok_get q47 cl_8 (k := 17) (by decide) in_8 wd_143 dX8_runJunction_67
  have q49 : gz_OkE M_X8_runJunction 1 0 0 70 71 _ := ok_iload_n (i := 1) dX8_runJunction_70 rfl
  have q50 : gz_OkE M_X8_runJunction 0 0 0 66 72 _ := ok_zald q48 q49 dX8_runJunction_71
  have q51 : gz_OkJ M_X8_runJunction 0 0 0 66 88 75 _ := ok_if_ne q50 dX8_runJunction_72 (by decide)
  have q52 : gz_OkE M_X8_runJunction 0 0 0 75 76 _ := ok_aload_n (i := 0) dX8_runJunction_75 rfl
  have q53 : gz_OkE M_X8_runJunction 0 0 0 75 79 _ := ok_get q52 cl_8 (k := 1) (by decide) in_8 wd_171 dX8_runJunction_76
  have q54 : gz_OkE M_X8_runJunction 1 0 0 79 80 _ := ok_aload_n (i := 0) dX8_runJunction_79 rfl
  have q55 : gz_OkE M_X8_runJunction 1 0 0 79 83 _ := ok_get q54 cl_8 (k := 16) (by decide) in_8 wd_142 dX8_runJunction_80
  have q56 : gz_OkE M_X8_runJunction 2 0 0 83 84 _ := ok_iload_n (i := 1) dX8_runJunction_83 rfl
  have q57 : gz_OkE M_X8_runJunction 1 0 0 79 85 _ := ok_iald q55 q56 dX8_runJunction_84
  have q58 : gz_OkJ M_X8_runJunction 0 0 0 75 92 88 _ := ok_ic_ge q53 q57 dX8_runJunction_85 (by decide)
  have q59 : gz_OkJ M_X8_runJunction 0 0 0 66 92 88 _ := ok_ja q51 q58
  have q60 : gz_OkE M_X8_runJunction 0 0 0 88 89 _ := ok_iconst (v := 0) dX8_runJunction_88 kc_i0
  have q61 : gz_OkE M_X8_runJunction 0 0 0 88 99 _ := ok_eg q60 dX8_runJunction_89 (by decide)
  have q62 : gz_OkE M_X8_runJunction 0 0 0 92 93 _ := ok_aload_n (i := 0) dX8_runJunction_92 rfl
  have q63 : gz_OkE M_X8_runJunction 0 0 0 92 96 _ := ok_get q62 cl_8 (k := 22) (by decide) in_8 wd_147 dX8_runJunction_93
  have q64 : gz_OkE M_X8_runJunction 1 0 0 96 98 _ := ok_iload (i := 4) dX8_runJunction_96
  have q65 : gz_OkE M_X8_runJunction 0 0 0 92 99 _ := ok_iald q63 q64 dX8_runJunction_98
  have q66 : gz_OkE M_X8_runJunction 0 0 0 66 99 _ := ok_te2 q59 q61 q65
  have q67 : gz_OkS M_X8_runJunction 0 0 100 _ := ok_at
  have q68 : gz_OkS M_X8_runJunction 0 0 66 _ := ok_seti_n (k := 3) q66 dX8_runJunction_99 rfl (by decide) q67
  have q69 : gz_OkS M_X8_runJunction 0 0 43 _ := ok_seq (L := 66) (k := 5) q46 q68
  have q70 : gz_OkS M_X8_runJunction 0 0 16 _ := ok_seti (k := 4) q29 dX8_runJunction_41 (by decide) q69
  have q71 : gz_OkS M_X8_runJunction 0 0 7 _ := ok_if q9 q10 q70
  have q72 : gz_OkE M_X8_runJunction 0 0 0 100 101 _ := ok_aload_n (i := 0) dX8_runJunction_100 rfl
  have q73 : gz_OkE M_X8_runJunction 0 0 0 100 104 _ := ok_get q72 cl_8 (k := 44) (by decide) in_8 wd_167 dX8_runJunction_101
  have q74 : gz_OkE M_X8_runJunction 1 0 0 104 107 _ := ok_sipush (v := 200) dX8_runJunction_104 kc_s200
  have q75 : gz_OkE M_X8_runJunction 2 0 0 107 108 _ := ok_iload_n (i := 1) dX8_runJunction_107 rfl
  have q76 : gz_OkE M_X8_runJunction 1 0 0 104 109 _ := ok_imul q74 q75 dX8_runJunction_108
  have q77 : gz_OkE M_X8_runJunction 2 0 0 109 110 _ := ok_aload_n (i := 0) dX8_runJunction_109 rfl
  have q78 : gz_OkE M_X8_runJunction 2 0 0 109 113 _ := ok_get q77 cl_8 (k := 1) (by decide) in_8 wd_171 dX8_runJunction_110
  have q79 : gz_OkE M_X8_runJunction 3 0 0 113 116 _ := ok_sipush (v := 200) dX8_runJunction_113 kc_s200
  have q80 : gz_OkE M_X8_runJunction 2 0 0 109 117 _ := ok_irem q78 q79 dX8_runJunction_116
  have q81 : gz_OkE M_X8_runJunction 1 0 0 104 118 _ := ok_iadd q76 q80 dX8_runJunction_117
  have q82 : gz_OkE M_X8_runJunction 2 0 0 118 119 _ := ok_iload_n (i := 3) dX8_runJunction_118 rfl
  have q83 : gz_OkE M_X8_runJunction 0 0 0 120 121 _ := ok_iconst (v := 0) dX8_runJunction_120 kc_i0
  have q84 : gz_OkE M_X8_runJunction 0 0 0 123 125 _ := ok_iload (i := 4) dX8_runJunction_123
  have q85 : gz_OkE M_X8_runJunction 1 0 0 125 126 _ := ok_aload_n (i := 0) dX8_runJunction_125 rfl
  have q86 : gz_OkE M_X8_runJunction 1 0 0 125 129 _ := ok_get q85 cl_8 (k := 2) (by decide) in_8 wd_128 dX8_runJunction_126
  have q87 : gz_OkE M_X8_runJunction 2 0 0 129 130 _ := ok_iload_n (i := 1) dX8_runJunction_129 rfl
  have q88 : gz_OkE M_X8_runJunction 1 0 0 125 131 _ := ok_iald q86 q87 dX8_runJunction_130
  have q89 : gz_OkJ M_X8_runJunction 0 0 0 123 166 134 _ := ok_ic_ge q84 q88 dX8_runJunction_131 (by decide)
  have q90 : gz_OkS M_X8_runJunction 0 0 166 _ := ok_at
  have q91 : gz_OkA M_X8_runJunction 0 0 0 134 134 0 _ := ok_a0
  have q92 : gz_OkE M_X8_runJunction 0 0 0 134 135 _ := ok_aload_n (i := 0) dX8_runJunction_134 rfl
  have q93 : gz_OkA M_X8_runJunction 0 0 0 134 135 1 _ := ok_a1 q91 q92
  have q94 : gz_OkE M_X8_runJunction 2 0 0 135 137 _ := ok_bipush (v := 8) dX8_runJunction_135 kc_b8
  have q95 : gz_OkE M_X8_runJunction 3 0 0 137 138 _ := ok_iload_n (i := 1) dX8_runJunction_137 rfl
  have q96 : gz_OkE M_X8_runJunction 2 0 0 135 139 _ := ok_imul q94 q95 dX8_runJunction_138
  have q97 : gz_OkE M_X8_runJunction 3 0 0 139 141 _ := ok_iload (i := 4) dX8_runJunction_139
  have q98 : gz_OkE M_X8_runJunction 2 0 0 135 142 _ := ok_iadd q96 q97 dX8_runJunction_141
  have q99 : gz_OkA M_X8_runJunction 0 0 0 134 142 2 _ := ok_a1 q93 q98
  have q100 : gz_OkE M_X8_runJunction 4 0 0 142 143 _ := ok_iload_n (i := 3) dX8_runJunction_142 rfl
  have q101 : gz_OkE M_X8_runJunction 5 0 0 143 145 _ := ok_iload (i := 4) dX8_runJunction_143
  have q102 : gz_OkE M_X8_runJunction 4 0 0 142 146 _ := ok_ishr q100 q101 dX8_runJunction_145
  have q103 : gz_OkE M_X8_runJunction 5 0 0 146 147 _ := ok_iconst (v := 1) dX8_runJunction_146 kc_i1
  have q104 : gz_OkE M_X8_runJunction 4 0 0 142 148 _ := ok_iand q102 q103 dX8_runJunction_147
  have q105 : gz_OkE M_X8_runJunction 5 0 0 148 149 _ := ok_iconst (v := 1) dX8_runJunction_148 kc_i1
  have q106 : gz_OkJ M_X8_runJunction 4 0 0 142 156 152 _ := ok_ic_ne q104 q105 dX8_runJunction_149 (by decide)
  have q107 : gz_OkE M_X8_runJunction 4 0 0 152 153 _ := ok_iconst (v := 1) dX8_runJunction_152 kc_i1
  have q108 : gz_OkE M_X8_runJunction 4 0 0 152 157 _ := ok_eg q107 dX8_runJunction_153 (by decide)
  have q109 : gz_OkE M_X8_runJunction 4 0 0 156 157 _ := ok_iconst (v := 0) dX8_runJunction_156 kc_i0
  have q110 : gz_OkE M_X8_runJunction 4 0 0 142 157 _ := ok_te2 q106 q108 q109
  have q111 : gz_OkA M_X8_runJunction 0 0 0 134 157 3 _ := ok_a1 q99 q110
  have q112 : gz_OkS M_X8_runJunction 0 0 163 (gz_sat 123) := ok_goto dX8_runJunction_163 (by decide)
  have q113 : gz_OkS M_X8_runJunction 0 0 160 _ := ok_inc (v := 1) dX8_runJunction_160 kc_i1 (by decide) q112
  have q114 : gz_OkS M_X8_runJunction 0 0 134 _ := ok_vv q111 mt_X8_runStream cl_8 wd_858 wd_188 de_X8_runStream (by decide) (by decide) wd_859 wd_860 wd_861 dX8_runJunction_157 q113
  have q115 : gz_OkS M_X8_runJunction 0 0 123 _ := ok_if q89 q90 q114
  have q116 : gz_OkS M_X8_runJunction 0 0 123 lb_X8_runJunction_123 := q115
  have q117 : gz_OkS M_X8_runJunction 0 0 123 _ := ok_loop (k := 5) q116 rfl rfl
  have q118 : gz_OkS M_X8_runJunction 0 0 166 _ := ok_rv dX8_runJunction_166
  have q119 : gz_OkS M_X8_runJunction 0 0 123 _ := ok_seq (L := 166) (k := 0) q117 q118
  have q120 : gz_OkS M_X8_runJunction 0 0 120 _ := ok_seti (k := 4) q83 dX8_runJunction_121 (by decide) q119
  have q121 : gz_OkS M_X8_runJunction 0 0 100 _ := ok_iast q73 q81 q82 dX8_runJunction_119 q120
  have q122 : gz_OkS M_X8_runJunction 0 0 7 _ := ok_seq (L := 100) (k := 4) q71 q121
  have q123 : gz_OkS M_X8_runJunction 0 0 5 _ := ok_seti_n (k := 3) q4 dX8_runJunction_6 rfl (by decide) q122
  have q124 : gz_OkS M_X8_runJunction 0 0 0 _ := ok_seti_n (k := 2) q3 dX8_runJunction_4 rfl (by decide) q123
  have z : gz_OkS M_X8_runJunction 0 0 0 sm_X8_runJunction := q124
  exact gz_met (plainFor_of_name (by decide)) z (by decide) (by decide)
noncomputable def lb_X8_run_33 : gz_Sx := gz_if (gz_j2 (fun x y => decide (y ≤ x)) (gz_li 3) (gz_get 8 48 0 (gz_la 0))) (gz_sat 52) (gz_vv 8 48 se_X8_runJunction (gz_a1 (gz_a1 (gz_a0) (gz_la 0)) (gz_li 3)) (gz_inc 3 (1) (gz_sat 33)))
noncomputable def lb_X8_run_26 : gz_Sx := gz_if (gz_j2 (fun x y => decide (y ≤ x)) (gz_li 2) (gz_li 1)) (gz_sat 68) (gz_seti 3 (gz_i (0)) (gz_seq 52 3 (gz_loop 33 4 lb_X8_run_33) (gz_put 8 48 1 .int (gz_la 0) (gz_ib (fun x y => x + y) (gz_get 8 48 1 (gz_dup)) (gz_i (1))) (gz_inc 2 (1) (gz_sat 26)))))
noncomputable def sm_X8_run : gz_Sx := gz_if (gz_ja (gz_j1 (fun x => decide (x = 0)) (gz_cs se_X8_isIn (gz_a1 (gz_a1 (gz_a1 (gz_a0) (gz_li 1)) (gz_i (0))) (gz_i (300))))) (gz_j2 (fun x y => decide (x ≤ y)) (gz_ib (fun x y => x + y) (gz_get 8 48 1 (gz_la 0)) (gz_li 1)) (gz_i (100000)))) (gz_seti 2 (gz_i (0)) (gz_seq 68 1 (gz_loop 26 3 lb_X8_run_26) (gz_ri (gz_get 8 48 1 (gz_la 0))))) (gz_ri (gz_i (-1)))
noncomputable def se_X8_run : gz_Me := gz_sem (some .int) 4 sm_X8_run
abbrev rm_X8_run : Room := { frames := 3, cells := 0, slots := 0, locals := 71 }
abbrev M_X8_run : gz_Mi := (cX8_run, 4, RX8, 3, 71, "run", none)
theorem de_X8_run : yX8_run.cls ≠ "java/lang/invoke/MethodHandle" ∧ yX8_run.cls ≠ "java/lang/invoke/VarHandle" ∧ (parseMethodDescriptor yX8_run.desc).map (fun d => d.parameters.length) = some 1 := by decide +kernel
set_option maxRecDepth 100000 in
theorem mt_X8_run : gz_Mt yX8_run cX8_run 4 (some .int) rm_X8_run se_X8_run := by
  have q1 : gz_OkA M_X8_run 0 0 0 0 0 0 _ := ok_a0
  have q2 : gz_OkE M_X8_run 0 0 0 0 1 _ := ok_iload_n (i := 1) dX8_run_0 rfl
  have q3 : gz_OkA M_X8_run 0 0 0 0 1 1 _ := ok_a1 q1 q2
  have q4 : gz_OkE M_X8_run 2 0 0 1 2 _ := ok_iconst (v := 0) dX8_run_1 kc_i0
  have q5 : gz_OkA M_X8_run 0 0 0 0 2 2 _ := ok_a1 q3 q4
  have q6 : gz_OkE M_X8_run 4 0 0 2 5 _ := ok_sipush (v := 300) dX8_run_2 kc_s300
  have q7 : gz_OkA M_X8_run 0 0 0 0 5 3 _ := ok_a1 q5 q6
  have q8 : gz_OkE M_X8_run 0 0 0 0 8 _ := ok_cs q7 mt_X8_isIn wd_765 wd_188 de_X8_isIn (by decide) (by decide) wd_766 wd_767 dX8_run_5 (by decide)
  have q9 : gz_OkJ M_X8_run 0 0 0 0 22 11 _ := ok_if_eq q8 dX8_run_8 (by decide)
  have q10 : gz_OkE M_X8_run 0 0 0 11 12 _ := ok_aload_n (i := 0) dX8_run_11 rfl
  have q11 : gz_OkE M_X8_run 0 0 0 11 15 _ := ok_get q10 cl_8 (k := 1) (by decide) in_8 wd_171 dX8_run_12
  have q12 : gz_OkE M_X8_run 1 0 0 15 16 _ := ok_iload_n (i := 1) dX8_run_15 rfl
  have q13 : gz_OkE M_X8_run 0 0 0 11 17 _ := ok_iadd q11 q12 dX8_run_16
  have q14 : gz_OkE M_X8_run 1 0 0 17 19 _ := ok_ldc (v := 100000) wd_176 dX8_run_17
  have q15 : gz_OkJ M_X8_run 0 0 0 11 24 22 _ := ok_ic_le q13 q14 dX8_run_19 (by decide)
  have q16 : gz_OkJ M_X8_run 0 0 0 0 24 22 _ := ok_ja q9 q15
  have q17 : gz_OkE M_X8_run 0 0 0 24 25 _ := ok_iconst (v := 0) dX8_run_24 kc_i0
  have q18 : gz_OkE M_X8_run 0 0 0 26 27 _ := ok_iload_n (i := 2) dX8_run_26 rfl
  have q19 : gz_OkE M_X8_run 1 0 0 27 28 _ := ok_iload_n (i := 1) dX8_run_27 rfl
  have q20 : gz_OkJ M_X8_run 0 0 0 26 68 31 _ := ok_ic_ge q18 q19 dX8_run_28 (by decide)
  have q21 : gz_OkS M_X8_run 0 0 68 _ := ok_at
  have q22 : gz_OkE M_X8_run 0 0 0 31 32 _ := ok_iconst (v := 0) dX8_run_31 kc_i0
  have q23 : gz_OkE M_X8_run 0 0 0 33 34 _ := ok_iload_n (i := 3) dX8_run_33 rfl
  have q24 : gz_OkE M_X8_run 1 0 0 34 35 _ := ok_aload_n (i := 0) dX8_run_34 rfl
  have q25 : gz_OkE M_X8_run 1 0 0 34 38 _ := ok_get q24 cl_8 (k := 0) (by decide) in_8 wd_170 dX8_run_35
  have q26 : gz_OkJ M_X8_run 0 0 0 33 52 41 _ := ok_ic_ge q23 q25 dX8_run_38 (by decide)
  have q27 : gz_OkS M_X8_run 0 0 52 _ := ok_at
  have q28 : gz_OkA M_X8_run 0 0 0 41 41 0 _ := ok_a0
  have q29 : gz_OkE M_X8_run 0 0 0 41 42 _ := ok_aload_n (i := 0) dX8_run_41 rfl
  have q30 : gz_OkA M_X8_run 0 0 0 41 42 1 _ := ok_a1 q28 q29
  have q31 : gz_OkE M_X8_run 2 0 0 42 43 _ := ok_iload_n (i := 3) dX8_run_42 rfl
  have q32 : gz_OkA M_X8_run 0 0 0 41 43 2 _ := ok_a1 q30 q31
  have q33 : gz_OkS M_X8_run 0 0 49 (gz_sat 33) := ok_goto dX8_run_49 (by decide)
  have q34 : gz_OkS M_X8_run 0 0 46 _ := ok_inc (v := 1) dX8_run_46 kc_i1 (by decide) q33
  have q35 : gz_OkS M_X8_run 0 0 41 _ := ok_vv q32 mt_X8_runJunction cl_8 wd_862 wd_188 de_X8_runJunction (by decide) (by decide) wd_863 wd_864 wd_865 dX8_run_43 q34
  have q36 : gz_OkS M_X8_run 0 0 33 _ := ok_if q26 q27 q35
  have q37 : gz_OkS M_X8_run 0 0 33 lb_X8_run_33 := q36
  have q38 : gz_OkS M_X8_run 0 0 33 _ := ok_loop (k := 4) q37 rfl rfl
  have q39 : gz_OkE M_X8_run 0 0 0 52 53 _ := ok_aload_n (i := 0) dX8_run_52 rfl
  have q40 : gz_OkE M_X8_run 1 0 0 53 54 _ := ok_dup dX8_run_53
  have q41 : gz_OkE M_X8_run 1 0 0 53 57 _ := ok_get q40 cl_8 (k := 1) (by decide) in_8 wd_171 dX8_run_54
  have q42 : gz_OkE M_X8_run 2 0 0 57 58 _ := ok_iconst (v := 1) dX8_run_57 kc_i1
  have q43 : gz_OkE M_X8_run 1 0 0 53 59 _ := ok_iadd q41 q42 dX8_run_58
  have q44 : gz_OkS M_X8_run 0 0 65 (gz_sat 26) := ok_goto dX8_run_65 (by decide)
  have q45 : gz_OkS M_X8_run 0 0 62 _ := ok_inc (v := 1) dX8_run_62 kc_i1 (by decide) q44
  have q46 : gz_OkS M_X8_run 0 0 52 _ := ok_put (ty := .int) q39 q43 cl_8 (k := 1) (by decide) in_8 wd_171 tyX8 tyX8_ok nmX8 rfl rfl dX8_run_59 q45
  have q47 : gz_OkS M_X8_run 0 0 33 _ := ok_seq (L := 52) (k := 3) q38 q46
  have q48 : gz_OkS M_X8_run 0 0 31 _ := ok_seti_n (k := 3) q22 dX8_run_32 rfl (by decide) q47
  have q49 : gz_OkS M_X8_run 0 0 26 _ := ok_if q20 q21 q48
  have q50 : gz_OkS M_X8_run 0 0 26 lb_X8_run_26 := q49
  have q51 : gz_OkS M_X8_run 0 0 26 _ := ok_loop (k := 3) q50 rfl rfl
  have q52 : gz_OkE M_X8_run 0 0 0 68 69 _ := ok_aload_n (i := 0) dX8_run_68 rfl
  have q53 : gz_OkE M_X8_run 0 0 0 68 72 _ := ok_get q52 cl_8 (k := 1) (by decide) in_8 wd_171 dX8_run_69
  have q54 : gz_OkS M_X8_run 0 0 68 _ := ok_ri q53 dX8_run_72
  have q55 : gz_OkS M_X8_run 0 0 26 _ := ok_seq (L := 68) (k := 1) q51 q54
  have q56 : gz_OkS M_X8_run 0 0 24 _ := ok_seti_n (k := 2) q17 dX8_run_25 rfl (by decide) q55
  have q57 : gz_OkE M_X8_run 0 0 0 22 23 _ := ok_iconst (v := -1) dX8_run_22 kc_im1
  have q58 : gz_OkS M_X8_run 0 0 22 _ := ok_ri q57 dX8_run_23
  have q59 : gz_OkS M_X8_run 0 0 0 _ := ok_if q16 q56 q58
  have z : gz_OkS M_X8_run 0 0 0 sm_X8_run := q59
  exact gz_met (plainFor_of_name (by decide)) z (by decide) (by decide)
noncomputable def sm_X8_queue : gz_Sx := gz_if (gz_j1 (fun x => decide (¬ x = 0)) (gz_cv 8 48 se_X8_isStream (gz_a1 (gz_a1 (gz_a1 (gz_a0) (gz_la 0)) (gz_li 1)) (gz_li 2)))) (gz_seti 4 (gz_ib (fun x y => x + y) (gz_ib (fun x y => x * y) (gz_i (8)) (gz_li 1)) (gz_li 2)) (gz_sw (gz_li 3) 0 [gz_rl (gz_ald 102 (gz_get 8 48 37 (gz_la 0)) (gz_li 4)), gz_rl (gz_ald 102 (gz_get 8 48 38 (gz_la 0)) (gz_li 4)), gz_rl (gz_ald 102 (gz_get 8 48 39 (gz_la 0)) (gz_li 4)), gz_rl (gz_ald 102 (gz_get 8 48 40 (gz_la 0)) (gz_li 4)), gz_rl (gz_ald 102 (gz_get 8 48 41 (gz_la 0)) (gz_li 4)), gz_rl (gz_ald 102 (gz_get 8 48 42 (gz_la 0)) (gz_li 4)), gz_rl (gz_te (gz_j1 (fun x => decide (x = 0)) (gz_ald 101 (gz_get 8 48 29 (gz_la 0)) (gz_li 4))) (gz_l (-1)) (gz_i2l (gz_ald 100 (gz_get 8 48 33 (gz_la 0)) (gz_li 4)))), gz_rl (gz_i2l (gz_ald 100 (gz_get 8 48 3 (gz_la 0)) (gz_li 4))), gz_rl (gz_i2l (gz_ald 100 (gz_get 8 48 5 (gz_la 0)) (gz_li 4))), gz_rl (gz_i2l (gz_ald 100 (gz_get 8 48 6 (gz_la 0)) (gz_li 4))), gz_rl (gz_i2l (gz_ald 100 (gz_get 8 48 4 (gz_la 0)) (gz_li 4))), gz_rl (gz_te (gz_j1 (fun x => decide (x = 0)) (gz_ald 101 (gz_get 8 48 43 (gz_la 0)) (gz_li 4))) (gz_l (0)) (gz_l (1)))] (gz_rl (gz_l (-1))))) (gz_rl (gz_l (-1)))
noncomputable def se_X8_queue : gz_Me := gz_sem (some .long) 5 sm_X8_queue
abbrev rm_X8_queue : Room := { frames := 2, cells := 0, slots := 0, locals := 43 }
abbrev M_X8_queue : gz_Mi := (cX8_queue, 5, RX8, 2, 43, "queue", none)
theorem de_X8_queue : yX8_queue.cls ≠ "java/lang/invoke/MethodHandle" ∧ yX8_queue.cls ≠ "java/lang/invoke/VarHandle" ∧ (parseMethodDescriptor yX8_queue.desc).map (fun d => d.parameters.length) = some 3 := by decide +kernel
set_option maxRecDepth 100000 in
theorem mt_X8_queue : gz_Mt yX8_queue cX8_queue 5 (some .long) rm_X8_queue se_X8_queue := by
  have q1 : gz_OkA M_X8_queue 0 0 0 0 0 0 _ := ok_a0
  have q2 : gz_OkE M_X8_queue 0 0 0 0 1 _ := ok_aload_n (i := 0) dX8_queue_0 rfl
  have q3 : gz_OkA M_X8_queue 0 0 0 0 1 1 _ := ok_a1 q1 q2
  have q4 : gz_OkE M_X8_queue 2 0 0 1 2 _ := ok_iload_n (i := 1) dX8_queue_1 rfl
  have q5 : gz_OkA M_X8_queue 0 0 0 0 2 2 _ := ok_a1 q3 q4
  have q6 : gz_OkE M_X8_queue 4 0 0 2 3 _ := ok_iload_n (i := 2) dX8_queue_2 rfl
  have q7 : gz_OkA M_X8_queue 0 0 0 0 3 3 _ := ok_a1 q5 q6
  have q8 : gz_OkE M_X8_queue 0 0 0 0 6 _ := ok_cv q7 mt_X8_isStream cl_8 wd_781 wd_188 de_X8_isStream (by decide) (by decide) wd_782 wd_783 wd_784 dX8_queue_3 (by decide)
  have q9 : gz_OkJ M_X8_queue 0 0 0 0 13 9 _ := ok_if_ne q8 dX8_queue_6 (by decide)
  have q10 : gz_OkE M_X8_queue 0 0 0 13 15 _ := ok_bipush (v := 8) dX8_queue_13 kc_b8
  have q11 : gz_OkE M_X8_queue 1 0 0 15 16 _ := ok_iload_n (i := 1) dX8_queue_15 rfl
  have q12 : gz_OkE M_X8_queue 0 0 0 13 17 _ := ok_imul q10 q11 dX8_queue_16
  have q13 : gz_OkE M_X8_queue 1 0 0 17 18 _ := ok_iload_n (i := 2) dX8_queue_17 rfl
  have q14 : gz_OkE M_X8_queue 0 0 0 13 19 _ := ok_iadd q12 q13 dX8_queue_18
  have q15 : gz_OkE M_X8_queue 0 0 0 21 22 _ := ok_iload_n (i := 3) dX8_queue_21 rfl
  have q16 : gz_OkE M_X8_queue 0 0 0 209 212 _ := ok_ldc2 (v := -1) wd_177 dX8_queue_209
  have q17 : gz_OkS M_X8_queue 0 0 209 _ := ok_rl q16 dX8_queue_212
  have q18 : gz_OkE M_X8_queue 0 0 0 84 85 _ := ok_aload_n (i := 0) dX8_queue_84 rfl
  have q19 : gz_OkE M_X8_queue 0 0 0 84 88 _ := ok_get q18 cl_8 (k := 37) (by decide) in_8 wd_160 dX8_queue_85
  have q20 : gz_OkE M_X8_queue 1 0 0 88 90 _ := ok_iload (i := 4) dX8_queue_88
  have q21 : gz_OkE M_X8_queue 0 0 0 84 91 _ := ok_lald q19 q20 dX8_queue_90
  have q22 : gz_OkS M_X8_queue 0 0 84 _ := ok_rl q21 dX8_queue_91
  have q23 : gz_OkE M_X8_queue 0 0 0 92 93 _ := ok_aload_n (i := 0) dX8_queue_92 rfl
  have q24 : gz_OkE M_X8_queue 0 0 0 92 96 _ := ok_get q23 cl_8 (k := 38) (by decide) in_8 wd_161 dX8_queue_93
  have q25 : gz_OkE M_X8_queue 1 0 0 96 98 _ := ok_iload (i := 4) dX8_queue_96
  have q26 : gz_OkE M_X8_queue 0 0 0 92 99 _ := ok_lald q24 q25 dX8_queue_98
  have q27 : gz_OkS M_X8_queue 0 0 92 _ := ok_rl q26 dX8_queue_99
  have q28 : gz_OkE M_X8_queue 0 0 0 100 101 _ := ok_aload_n (i := 0) dX8_queue_100 rfl
  have q29 : gz_OkE M_X8_queue 0 0 0 100 104 _ := ok_get q28 cl_8 (k := 39) (by decide) in_8 wd_162 dX8_queue_101
  have q30 : gz_OkE M_X8_queue 1 0 0 104 106 _ := ok_iload (i := 4) dX8_queue_104
  have q31 : gz_OkE M_X8_queue 0 0 0 100 107 _ := ok_lald q29 q30 dX8_queue_106
  have q32 : gz_OkS M_X8_queue 0 0 100 _ := ok_rl q31 dX8_queue_107
  have q33 : gz_OkE M_X8_queue 0 0 0 108 109 _ := ok_aload_n (i := 0) dX8_queue_108 rfl
  have q34 : gz_OkE M_X8_queue 0 0 0 108 112 _ := ok_get q33 cl_8 (k := 40) (by decide) in_8 wd_163 dX8_queue_109
  have q35 : gz_OkE M_X8_queue 1 0 0 112 114 _ := ok_iload (i := 4) dX8_queue_112
  have q36 : gz_OkE M_X8_queue 0 0 0 108 115 _ := ok_lald q34 q35 dX8_queue_114
  have q37 : gz_OkS M_X8_queue 0 0 108 _ := ok_rl q36 dX8_queue_115
  have q38 : gz_OkE M_X8_queue 0 0 0 116 117 _ := ok_aload_n (i := 0) dX8_queue_116 rfl
  have q39 : gz_OkE M_X8_queue 0 0 0 116 120 _ := ok_get q38 cl_8 (k := 41) (by decide) in_8 wd_164 dX8_queue_117
  have q40 : gz_OkE M_X8_queue 1 0 0 120 122 _ := ok_iload (i := 4) dX8_queue_120
  have q41 : gz_OkE M_X8_queue 0 0 0 116 123 _ := ok_lald q39 q40 dX8_queue_122
  have q42 : gz_OkS M_X8_queue 0 0 116 _ := ok_rl q41 dX8_queue_123
  have q43 : gz_OkE M_X8_queue 0 0 0 124 125 _ := ok_aload_n (i := 0) dX8_queue_124 rfl
  have q44 : gz_OkE M_X8_queue 0 0 0 124 128 _ := ok_get q43 cl_8 (k := 42) (by decide) in_8 wd_165 dX8_queue_125
  have q45 : gz_OkE M_X8_queue 1 0 0 128 130 _ := ok_iload (i := 4) dX8_queue_128
  have q46 : gz_OkE M_X8_queue 0 0 0 124 131 _ := ok_lald q44 q45 dX8_queue_130
  have q47 : gz_OkS M_X8_queue 0 0 124 _ := ok_rl q46 dX8_queue_131
  have q48 : gz_OkE M_X8_queue 0 0 0 132 133 _ := ok_aload_n (i := 0) dX8_queue_132 rfl
  have q49 : gz_OkE M_X8_queue 0 0 0 132 136 _ := ok_get q48 cl_8 (k := 29) (by decide) in_8 wd_152 dX8_queue_133
  have q50 : gz_OkE M_X8_queue 1 0 0 136 138 _ := ok_iload (i := 4) dX8_queue_136
  have q51 : gz_OkE M_X8_queue 0 0 0 132 139 _ := ok_zald q49 q50 dX8_queue_138
  have q52 : gz_OkJ M_X8_queue 0 0 0 132 153 142 _ := ok_if_eq q51 dX8_queue_139 (by decide)
  have q53 : gz_OkE M_X8_queue 0 0 0 142 143 _ := ok_aload_n (i := 0) dX8_queue_142 rfl
  have q54 : gz_OkE M_X8_queue 0 0 0 142 146 _ := ok_get q53 cl_8 (k := 33) (by decide) in_8 wd_156 dX8_queue_143
  have q55 : gz_OkE M_X8_queue 1 0 0 146 148 _ := ok_iload (i := 4) dX8_queue_146
  have q56 : gz_OkE M_X8_queue 0 0 0 142 149 _ := ok_iald q54 q55 dX8_queue_148
  have q57 : gz_OkE M_X8_queue 0 0 0 142 150 _ := ok_i2l q56 dX8_queue_149
  have q58 : gz_OkE M_X8_queue 0 0 0 142 156 _ := ok_eg q57 dX8_queue_150 (by decide)
  have q59 : gz_OkE M_X8_queue 0 0 0 153 156 _ := ok_ldc2 (v := -1) wd_177 dX8_queue_153
  have q60 : gz_OkE M_X8_queue 0 0 0 132 156 _ := ok_te2 q52 q58 q59
  have q61 : gz_OkS M_X8_queue 0 0 132 _ := ok_rl q60 dX8_queue_156
  have q62 : gz_OkE M_X8_queue 0 0 0 157 158 _ := ok_aload_n (i := 0) dX8_queue_157 rfl
  have q63 : gz_OkE M_X8_queue 0 0 0 157 161 _ := ok_get q62 cl_8 (k := 3) (by decide) in_8 wd_129 dX8_queue_158
  have q64 : gz_OkE M_X8_queue 1 0 0 161 163 _ := ok_iload (i := 4) dX8_queue_161
  have q65 : gz_OkE M_X8_queue 0 0 0 157 164 _ := ok_iald q63 q64 dX8_queue_163
  have q66 : gz_OkE M_X8_queue 0 0 0 157 165 _ := ok_i2l q65 dX8_queue_164
  have q67 : gz_OkS M_X8_queue 0 0 157 _ := ok_rl q66 dX8_queue_165
  have q68 : gz_OkE M_X8_queue 0 0 0 166 167 _ := ok_aload_n (i := 0) dX8_queue_166 rfl
  have q69 : gz_OkE M_X8_queue 0 0 0 166 170 _ := ok_get q68 cl_8 (k := 5) (by decide) in_8 wd_131 dX8_queue_167
  have q70 : gz_OkE M_X8_queue 1 0 0 170 172 _ := ok_iload (i := 4) dX8_queue_170
  have q71 : gz_OkE M_X8_queue 0 0 0 166 173 _ := ok_iald q69 q70 dX8_queue_172
  have q72 : gz_OkE M_X8_queue 0 0 0 166 174 _ := ok_i2l q71 dX8_queue_173
  have q73 : gz_OkS M_X8_queue 0 0 166 _ := ok_rl q72 dX8_queue_174
  have q74 : gz_OkE M_X8_queue 0 0 0 175 176 _ := ok_aload_n (i := 0) dX8_queue_175 rfl
  have q75 : gz_OkE M_X8_queue 0 0 0 175 179 _ := ok_get q74 cl_8 (k := 6) (by decide) in_8 wd_132 dX8_queue_176
  have q76 : gz_OkE M_X8_queue 1 0 0 179 181 _ := ok_iload (i := 4) dX8_queue_179
  have q77 : gz_OkE M_X8_queue 0 0 0 175 182 _ := ok_iald q75 q76 dX8_queue_181
  have q78 : gz_OkE M_X8_queue 0 0 0 175 183 _ := ok_i2l q77 dX8_queue_182
  have q79 : gz_OkS M_X8_queue 0 0 175 _ := ok_rl q78 dX8_queue_183
  have q80 : gz_OkE M_X8_queue 0 0 0 184 185 _ := ok_aload_n (i := 0) dX8_queue_184 rfl
  have q81 : gz_OkE M_X8_queue 0 0 0 184 188 _ := ok_get q80 cl_8 (k := 4) (by decide) in_8 wd_130 dX8_queue_185
  have q82 : gz_OkE M_X8_queue 1 0 0 188 190 _ := ok_iload (i := 4) dX8_queue_188
  have q83 : gz_OkE M_X8_queue 0 0 0 184 191 _ := ok_iald q81 q82 dX8_queue_190
  have q84 : gz_OkE M_X8_queue 0 0 0 184 192 _ := ok_i2l q83 dX8_queue_191
  have q85 : gz_OkS M_X8_queue 0 0 184 _ := ok_rl q84 dX8_queue_192
  have q86 : gz_OkE M_X8_queue 0 0 0 193 194 _ := ok_aload_n (i := 0) dX8_queue_193 rfl
  have q87 : gz_OkE M_X8_queue 0 0 0 193 197 _ := ok_get q86 cl_8 (k := 43) (by decide) in_8 wd_166 dX8_queue_194
  have q88 : gz_OkE M_X8_queue 1 0 0 197 199 _ := ok_iload (i := 4) dX8_queue_197
  have q89 : gz_OkE M_X8_queue 0 0 0 193 200 _ := ok_zald q87 q88 dX8_queue_199
  have q90 : gz_OkJ M_X8_queue 0 0 0 193 207 203 _ := ok_if_eq q89 dX8_queue_200 (by decide)
  have q91 : gz_OkE M_X8_queue 0 0 0 203 204 _ := ok_lconst (v := 1) dX8_queue_203 kc_l1
  have q92 : gz_OkE M_X8_queue 0 0 0 203 208 _ := ok_eg q91 dX8_queue_204 (by decide)
  have q93 : gz_OkE M_X8_queue 0 0 0 207 208 _ := ok_lconst (v := 0) dX8_queue_207 kc_l0
  have q94 : gz_OkE M_X8_queue 0 0 0 193 208 _ := ok_te2 q90 q92 q93
  have q95 : gz_OkS M_X8_queue 0 0 193 _ := ok_rl q94 dX8_queue_208
  have q96 : ∀ q ∈ (List.zip [84, 92, 100, 108, 116, 124, 132, 157, 166, 175, 184, 193] [_, _, _, _, _, _, _, _, _, _, _, _] : List (Nat × gz_Sx)), gz_OkS M_X8_queue 0 0 q.1 q.2 := List.forall_mem_cons.mpr ⟨q22, List.forall_mem_cons.mpr ⟨q27, List.forall_mem_cons.mpr ⟨q32, List.forall_mem_cons.mpr ⟨q37, List.forall_mem_cons.mpr ⟨q42, List.forall_mem_cons.mpr ⟨q47, List.forall_mem_cons.mpr ⟨q61, List.forall_mem_cons.mpr ⟨q67, List.forall_mem_cons.mpr ⟨q73, List.forall_mem_cons.mpr ⟨q79, List.forall_mem_cons.mpr ⟨q85, List.forall_mem_cons.mpr ⟨q95, fun _ h => absurd h List.not_mem_nil⟩⟩⟩⟩⟩⟩⟩⟩⟩⟩⟩⟩
  have q97 : gz_OkS M_X8_queue 0 0 21 _ := ok_sw (ts := [84, 92, 100, 108, 116, 124, 132, 157, 166, 175, 184, 193]) q15 dX8_queue_22 (by first | decide | rfl | simp) (by decide) (by decide) rfl q17 q96
  have q98 : gz_OkS M_X8_queue 0 0 13 _ := ok_seti (k := 4) q14 dX8_queue_19 (by decide) q97
  have q99 : gz_OkE M_X8_queue 0 0 0 9 12 _ := ok_ldc2 (v := -1) wd_177 dX8_queue_9
  have q100 : gz_OkS M_X8_queue 0 0 9 _ := ok_rl q99 dX8_queue_12
  have q101 : gz_OkS M_X8_queue 0 0 0 _ := ok_if q9 q98 q100
  have z : gz_OkS M_X8_queue 0 0 0 sm_X8_queue := q101
  exact gz_met (plainFor_of_name (by decide)) z (by decide) (by decide)
noncomputable def lb_X8_count_30 : gz_Sx := gz_if (gz_j2 (fun x y => decide (y ≤ x)) (gz_li 3) (gz_get 8 48 0 (gz_la 0))) (gz_sat 61) (gz_seti 2 (gz_ib (fun x y => x + y) (gz_li 2) (gz_te (gz_j1 (fun x => decide (x = 0)) (gz_ald 101 (gz_get 8 48 17 (gz_la 0)) (gz_li 3))) (gz_i (0)) (gz_i (1)))) (gz_inc 3 (1) (gz_sat 30)))
noncomputable def sm_X8_count : gz_Sx := gz_if (gz_j1 (fun x => decide (¬ x = 0)) (gz_li 1)) (gz_if (gz_j2 (fun x y => decide (¬ x = y)) (gz_li 1) (gz_i (1))) (gz_if (gz_j2 (fun x y => decide (x = y)) (gz_li 1) (gz_i (2))) (gz_seti 2 (gz_i (0)) (gz_seti 3 (gz_i (0)) (gz_seq 61 3 (gz_loop 30 4 lb_X8_count_30) (gz_ri (gz_li 2))))) (gz_ri (gz_i (-1)))) (gz_ri (gz_get 8 48 1 (gz_la 0)))) (gz_ri (gz_get 8 48 0 (gz_la 0)))
noncomputable def se_X8_count : gz_Me := gz_sem (some .int) 4 sm_X8_count
abbrev rm_X8_count : Room := { frames := 0, cells := 0, slots := 0, locals := 0 }
abbrev M_X8_count : gz_Mi := (cX8_count, 4, RX8, 0, 0, "count", none)
theorem de_X8_count : yX8_count.cls ≠ "java/lang/invoke/MethodHandle" ∧ yX8_count.cls ≠ "java/lang/invoke/VarHandle" ∧ (parseMethodDescriptor yX8_count.desc).map (fun d => d.parameters.length) = some 1 := by decide +kernel
set_option maxRecDepth 100000 in
theorem mt_X8_count : gz_Mt yX8_count cX8_count 4 (some .int) rm_X8_count se_X8_count := by
  have q1 : gz_OkE M_X8_count 0 0 0 0 1 _ := ok_iload_n (i := 1) dX8_count_0 rfl
  have q2 : gz_OkJ M_X8_count 0 0 0 0 9 4 _ := ok_if_ne q1 dX8_count_1 (by decide)
  have q3 : gz_OkE M_X8_count 0 0 0 9 10 _ := ok_iload_n (i := 1) dX8_count_9 rfl
  have q4 : gz_OkE M_X8_count 1 0 0 10 11 _ := ok_iconst (v := 1) dX8_count_10 kc_i1
  have q5 : gz_OkJ M_X8_count 0 0 0 9 19 14 _ := ok_ic_ne q3 q4 dX8_count_11 (by decide)
  have q6 : gz_OkE M_X8_count 0 0 0 19 20 _ := ok_iload_n (i := 1) dX8_count_19 rfl
  have q7 : gz_OkE M_X8_count 1 0 0 20 21 _ := ok_iconst (v := 2) dX8_count_20 kc_i2
  have q8 : gz_OkJ M_X8_count 0 0 0 19 26 24 _ := ok_ic_eq q6 q7 dX8_count_21 (by decide)
  have q9 : gz_OkE M_X8_count 0 0 0 26 27 _ := ok_iconst (v := 0) dX8_count_26 kc_i0
  have q10 : gz_OkE M_X8_count 0 0 0 28 29 _ := ok_iconst (v := 0) dX8_count_28 kc_i0
  have q11 : gz_OkE M_X8_count 0 0 0 30 31 _ := ok_iload_n (i := 3) dX8_count_30 rfl
  have q12 : gz_OkE M_X8_count 1 0 0 31 32 _ := ok_aload_n (i := 0) dX8_count_31 rfl
  have q13 : gz_OkE M_X8_count 1 0 0 31 35 _ := ok_get q12 cl_8 (k := 0) (by decide) in_8 wd_170 dX8_count_32
  have q14 : gz_OkJ M_X8_count 0 0 0 30 61 38 _ := ok_ic_ge q11 q13 dX8_count_35 (by decide)
  have q15 : gz_OkS M_X8_count 0 0 61 _ := ok_at
  have q16 : gz_OkE M_X8_count 0 0 0 38 39 _ := ok_iload_n (i := 2) dX8_count_38 rfl
  have q17 : gz_OkE M_X8_count 1 0 0 39 40 _ := ok_aload_n (i := 0) dX8_count_39 rfl
  have q18 : gz_OkE M_X8_count 1 0 0 39 43 _ := ok_get q17 cl_8 (k := 17) (by decide) in_8 wd_143 dX8_count_40
  have q19 : gz_OkE M_X8_count 2 0 0 43 44 _ := ok_iload_n (i := 3) dX8_count_43 rfl
  have q20 : gz_OkE M_X8_count 1 0 0 39 45 _ := ok_zald q18 q19 dX8_count_44
  have q21 : gz_OkJ M_X8_count 1 0 0 39 52 48 _ := ok_if_eq q20 dX8_count_45 (by decide)
  have q22 : gz_OkE M_X8_count 1 0 0 48 49 _ := ok_iconst (v := 1) dX8_count_48 kc_i1
  have q23 : gz_OkE M_X8_count 1 0 0 48 53 _ := ok_eg q22 dX8_count_49 (by decide)
  have q24 : gz_OkE M_X8_count 1 0 0 52 53 _ := ok_iconst (v := 0) dX8_count_52 kc_i0
  have q25 : gz_OkE M_X8_count 1 0 0 39 53 _ := ok_te2 q21 q23 q24
  have q26 : gz_OkE M_X8_count 0 0 0 38 54 _ := ok_iadd q16 q25 dX8_count_53
  have q27 : gz_OkS M_X8_count 0 0 58 (gz_sat 30) := ok_goto dX8_count_58 (by decide)
  have q28 : gz_OkS M_X8_count 0 0 55 _ := ok_inc (v := 1) dX8_count_55 kc_i1 (by decide) q27
  have q29 : gz_OkS M_X8_count 0 0 38 _ := ok_seti_n (k := 2) q26 dX8_count_54 rfl (by decide) q28
  have q30 : gz_OkS M_X8_count 0 0 30 _ := ok_if q14 q15 q29
  have q31 : gz_OkS M_X8_count 0 0 30 lb_X8_count_30 := q30
  have q32 : gz_OkS M_X8_count 0 0 30 _ := ok_loop (k := 4) q31 rfl rfl
  have q33 : gz_OkE M_X8_count 0 0 0 61 62 _ := ok_iload_n (i := 2) dX8_count_61 rfl
  have q34 : gz_OkS M_X8_count 0 0 61 _ := ok_ri q33 dX8_count_62
  have q35 : gz_OkS M_X8_count 0 0 30 _ := ok_seq (L := 61) (k := 3) q32 q34
  have q36 : gz_OkS M_X8_count 0 0 28 _ := ok_seti_n (k := 3) q10 dX8_count_29 rfl (by decide) q35
  have q37 : gz_OkS M_X8_count 0 0 26 _ := ok_seti_n (k := 2) q9 dX8_count_27 rfl (by decide) q36
  have q38 : gz_OkE M_X8_count 0 0 0 24 25 _ := ok_iconst (v := -1) dX8_count_24 kc_im1
  have q39 : gz_OkS M_X8_count 0 0 24 _ := ok_ri q38 dX8_count_25
  have q40 : gz_OkS M_X8_count 0 0 19 _ := ok_if q8 q37 q39
  have q41 : gz_OkE M_X8_count 0 0 0 14 15 _ := ok_aload_n (i := 0) dX8_count_14 rfl
  have q42 : gz_OkE M_X8_count 0 0 0 14 18 _ := ok_get q41 cl_8 (k := 1) (by decide) in_8 wd_171 dX8_count_15
  have q43 : gz_OkS M_X8_count 0 0 14 _ := ok_ri q42 dX8_count_18
  have q44 : gz_OkS M_X8_count 0 0 9 _ := ok_if q5 q40 q43
  have q45 : gz_OkE M_X8_count 0 0 0 4 5 _ := ok_aload_n (i := 0) dX8_count_4 rfl
  have q46 : gz_OkE M_X8_count 0 0 0 4 8 _ := ok_get q45 cl_8 (k := 0) (by decide) in_8 wd_170 dX8_count_5
  have q47 : gz_OkS M_X8_count 0 0 4 _ := ok_ri q46 dX8_count_8
  have q48 : gz_OkS M_X8_count 0 0 0 _ := ok_if q2 q44 q47
  have z : gz_OkS M_X8_count 0 0 0 sm_X8_count := q48
  exact gz_met (plainFor_of_name (by decide)) z (by decide) (by decide)
noncomputable def sm_X8_flashes : gz_Sx := gz_ri (gz_te (gz_jo (gz_j1 (fun x => decide (x = 0)) (gz_cv 8 48 se_X8_isJunction (gz_a1 (gz_a1 (gz_a0) (gz_la 0)) (gz_li 1)))) (gz_j1 (fun x => decide (x = 0)) (gz_ald 101 (gz_get 8 48 17 (gz_la 0)) (gz_li 1)))) (gz_i (0)) (gz_i (1)))
noncomputable def se_X8_flashes : gz_Me := gz_sem (some .boolean) 2 sm_X8_flashes
abbrev rm_X8_flashes : Room := { frames := 1, cells := 0, slots := 0, locals := 21 }
abbrev M_X8_flashes : gz_Mi := (cX8_flashes, 2, RX8, 1, 21, "flashes", none)
theorem de_X8_flashes : yX8_flashes.cls ≠ "java/lang/invoke/MethodHandle" ∧ yX8_flashes.cls ≠ "java/lang/invoke/VarHandle" ∧ (parseMethodDescriptor yX8_flashes.desc).map (fun d => d.parameters.length) = some 1 := by decide +kernel
set_option maxRecDepth 100000 in
theorem mt_X8_flashes : gz_Mt yX8_flashes cX8_flashes 2 (some .boolean) rm_X8_flashes se_X8_flashes := by
  have q1 : gz_OkA M_X8_flashes 0 0 0 0 0 0 _ := ok_a0
  have q2 : gz_OkE M_X8_flashes 0 0 0 0 1 _ := ok_aload_n (i := 0) dX8_flashes_0 rfl
  have q3 : gz_OkA M_X8_flashes 0 0 0 0 1 1 _ := ok_a1 q1 q2
  have q4 : gz_OkE M_X8_flashes 2 0 0 1 2 _ := ok_iload_n (i := 1) dX8_flashes_1 rfl
  have q5 : gz_OkA M_X8_flashes 0 0 0 0 2 2 _ := ok_a1 q3 q4
  have q6 : gz_OkE M_X8_flashes 0 0 0 0 5 _ := ok_cv q5 mt_X8_isJunction cl_8 wd_761 wd_188 de_X8_isJunction (by decide) (by decide) wd_762 wd_763 wd_764 dX8_flashes_2 (by decide)
  have q7 : gz_OkJ M_X8_flashes 0 0 0 0 21 8 _ := ok_if_eq q6 dX8_flashes_5 (by decide)
  have q8 : gz_OkE M_X8_flashes 0 0 0 8 9 _ := ok_aload_n (i := 0) dX8_flashes_8 rfl
  have q9 : gz_OkE M_X8_flashes 0 0 0 8 12 _ := ok_get q8 cl_8 (k := 17) (by decide) in_8 wd_143 dX8_flashes_9
  have q10 : gz_OkE M_X8_flashes 1 0 0 12 13 _ := ok_iload_n (i := 1) dX8_flashes_12 rfl
  have q11 : gz_OkE M_X8_flashes 0 0 0 8 14 _ := ok_zald q9 q10 dX8_flashes_13
  have q12 : gz_OkJ M_X8_flashes 0 0 0 8 21 17 _ := ok_if_eq q11 dX8_flashes_14 (by decide)
  have q13 : gz_OkJ M_X8_flashes 0 0 0 0 21 17 _ := ok_jo q7 q12
  have q14 : gz_OkE M_X8_flashes 0 0 0 17 18 _ := ok_iconst (v := 1) dX8_flashes_17 kc_i1
  have q15 : gz_OkE M_X8_flashes 0 0 0 17 22 _ := ok_eg q14 dX8_flashes_18 (by decide)
  have q16 : gz_OkE M_X8_flashes 0 0 0 21 22 _ := ok_iconst (v := 0) dX8_flashes_21 kc_i0
  have q17 : gz_OkE M_X8_flashes 0 0 0 0 22 _ := ok_te2 q13 q15 q16
  have q18 : gz_OkS M_X8_flashes 0 0 0 _ := ok_ri q17 dX8_flashes_22
  have z : gz_OkS M_X8_flashes 0 0 0 sm_X8_flashes := q18
  exact gz_met (plainFor_of_name (by decide)) z (by decide) (by decide)
noncomputable def lb_X8_isWay_118 : gz_Sx := gz_if (gz_j2 (fun x y => decide (y ≤ x)) (gz_li 10) (gz_get 8 48 47 (gz_la 0))) (gz_sat 254) (gz_if (gz_ja (gz_j1 (fun x => decide (x = 0)) (gz_cv 8 48 se_X8_isStream (gz_a1 (gz_a1 (gz_a1 (gz_a0) (gz_la 0)) (gz_ald 100 (gz_get 8 48 45 (gz_la 0)) (gz_li 10))) (gz_iz (fun x y => x - x / y * y) (gz_li 8) (gz_i (10)))))) (gz_ja (gz_j1 (fun x => decide (x = 0)) (gz_cv 8 48 se_X8_isStream (gz_a1 (gz_a1 (gz_a1 (gz_a0) (gz_la 0)) (gz_ald 100 (gz_get 8 48 45 (gz_la 0)) (gz_li 10))) (gz_iz (fun x y => x - x / y * y) (gz_li 9) (gz_i (10)))))) (gz_ja (gz_j1 (fun x => decide (x = 0)) (gz_ald 101 (gz_get 8 48 9 (gz_la 0)) (gz_ib (fun x y => x + y) (gz_i (8)) (gz_ald 100 (gz_get 8 48 45 (gz_la 0)) (gz_li 10))))) (gz_j2 (fun x y => decide (x = y)) (gz_ald 100 (gz_get 8 48 10 (gz_la 0)) (gz_ib (fun x y => x + y) (gz_i (8)) (gz_ald 100 (gz_get 8 48 45 (gz_la 0)) (gz_li 10)))) (gz_ald 100 (gz_get 8 48 10 (gz_la 0)) (gz_ib (fun x y => x + y) (gz_i (8)) (gz_li 1))))))) (gz_seti 8 (gz_iz (fun x y => x / y) (gz_li 8) (gz_i (10))) (gz_seti 9 (gz_iz (fun x y => x / y) (gz_li 9) (gz_i (10))) (gz_ast 100 (gz_get 8 48 46 (gz_la 0)) (gz_li 10) (gz_ald 100 (gz_get 8 48 14 (gz_la 0)) (gz_ib (fun x y => x + y) (gz_i (8)) (gz_ald 100 (gz_get 8 48 45 (gz_la 0)) (gz_li 10)))) (gz_inc 10 (1) (gz_sat 118))))) (gz_ri (gz_i (0))))
noncomputable def sm_X8_isWay : gz_Sx := gz_put 8 48 47 .int (gz_la 0) (gz_te (gz_j2 (fun x y => decide (¬ x = y)) (gz_li 3) (gz_i (-1))) (gz_i (3)) (gz_i (2))) (gz_ast 100 (gz_get 8 48 45 (gz_la 0)) (gz_i (0)) (gz_li 1) (gz_ast 100 (gz_get 8 48 45 (gz_la 0)) (gz_i (1)) (gz_li 2) (gz_ast 100 (gz_get 8 48 45 (gz_la 0)) (gz_i (2)) (gz_li 3) (gz_if (gz_ja (gz_j1 (fun x => decide (x < 0)) (gz_li 4)) (gz_ja (gz_j1 (fun x => decide (x < 0)) (gz_li 5)) (gz_ja (gz_j1 (fun x => decide (x = 0)) (gz_cs se_X8_isIn (gz_a1 (gz_a1 (gz_a1 (gz_a0) (gz_li 6)) (gz_i (0))) (gz_i (120))))) (gz_ja (gz_j1 (fun x => decide (x = 0)) (gz_cs se_X8_isIn (gz_a1 (gz_a1 (gz_a1 (gz_a0) (gz_li 7)) (gz_i (0))) (gz_i (120))))) (gz_jo (gz_j2 (fun x y => decide (¬ x = y)) (gz_get 8 48 47 (gz_la 0)) (gz_i (2))) (gz_j1 (fun x => decide (x = 0)) (gz_li 7))))))) (gz_if (gz_ja (gz_j2 (fun x y => decide (x = y)) (gz_li 1) (gz_li 2)) (gz_jo (gz_j2 (fun x y => decide (¬ x = y)) (gz_get 8 48 47 (gz_la 0)) (gz_i (3))) (gz_ja (gz_j2 (fun x y => decide (x = y)) (gz_li 1) (gz_li 3)) (gz_j2 (fun x y => decide (¬ x = y)) (gz_li 2) (gz_li 3))))) (gz_seti 8 (gz_li 4) (gz_seti 9 (gz_li 5) (gz_seti 10 (gz_i (0)) (gz_seq 254 10 (gz_loop 118 11 lb_X8_isWay_118) (gz_ri (gz_te (gz_jo (gz_j1 (fun x => decide (¬ x = 0)) (gz_li 8)) (gz_j1 (fun x => decide (¬ x = 0)) (gz_li 9))) (gz_i (0)) (gz_i (1)))))))) (gz_ri (gz_i (0)))) (gz_ri (gz_i (0)))))))
noncomputable def se_X8_isWay : gz_Me := gz_sem (some .boolean) 11 sm_X8_isWay
abbrev rm_X8_isWay : Room := { frames := 2, cells := 0, slots := 0, locals := 43 }
abbrev M_X8_isWay : gz_Mi := (cX8_isWay, 11, RX8, 2, 43, "isWay", none)
theorem de_X8_isWay : yX8_isWay.cls ≠ "java/lang/invoke/MethodHandle" ∧ yX8_isWay.cls ≠ "java/lang/invoke/VarHandle" ∧ (parseMethodDescriptor yX8_isWay.desc).map (fun d => d.parameters.length) = some 7 := by decide +kernel
set_option maxRecDepth 100000 in
theorem mt_X8_isWay : gz_Mt yX8_isWay cX8_isWay 11 (some .boolean) rm_X8_isWay se_X8_isWay := by
  have q1 : gz_OkE M_X8_isWay 0 0 0 0 1 _ := ok_aload_n (i := 0) dX8_isWay_0 rfl
  have q2 : gz_OkE M_X8_isWay 1 0 0 1 2 _ := ok_iload_n (i := 3) dX8_isWay_1 rfl
  have q3 : gz_OkE M_X8_isWay 2 0 0 2 3 _ := ok_iconst (v := -1) dX8_isWay_2 kc_im1
  have q4 : gz_OkJ M_X8_isWay 1 0 0 1 10 6 _ := ok_ic_ne q2 q3 dX8_isWay_3 (by decide)
  have q5 : gz_OkE M_X8_isWay 1 0 0 6 7 _ := ok_iconst (v := 2) dX8_isWay_6 kc_i2
  have q6 : gz_OkE M_X8_isWay 1 0 0 6 11 _ := ok_eg q5 dX8_isWay_7 (by decide)
  have q7 : gz_OkE M_X8_isWay 1 0 0 10 11 _ := ok_iconst (v := 3) dX8_isWay_10 kc_i3
  have q8 : gz_OkE M_X8_isWay 1 0 0 1 11 _ := ok_te2 q4 q6 q7
  have q9 : gz_OkE M_X8_isWay 0 0 0 14 15 _ := ok_aload_n (i := 0) dX8_isWay_14 rfl
  have q10 : gz_OkE M_X8_isWay 0 0 0 14 18 _ := ok_get q9 cl_8 (k := 45) (by decide) in_8 wd_168 dX8_isWay_15
  have q11 : gz_OkE M_X8_isWay 1 0 0 18 19 _ := ok_iconst (v := 0) dX8_isWay_18 kc_i0
  have q12 : gz_OkE M_X8_isWay 2 0 0 19 20 _ := ok_iload_n (i := 1) dX8_isWay_19 rfl
  have q13 : gz_OkE M_X8_isWay 0 0 0 21 22 _ := ok_aload_n (i := 0) dX8_isWay_21 rfl
  have q14 : gz_OkE M_X8_isWay 0 0 0 21 25 _ := ok_get q13 cl_8 (k := 45) (by decide) in_8 wd_168 dX8_isWay_22
  have q15 : gz_OkE M_X8_isWay 1 0 0 25 26 _ := ok_iconst (v := 1) dX8_isWay_25 kc_i1
  have q16 : gz_OkE M_X8_isWay 2 0 0 26 27 _ := ok_iload_n (i := 2) dX8_isWay_26 rfl
  have q17 : gz_OkE M_X8_isWay 0 0 0 28 29 _ := ok_aload_n (i := 0) dX8_isWay_28 rfl
  have q18 : gz_OkE M_X8_isWay 0 0 0 28 32 _ := ok_get q17 cl_8 (k := 45) (by decide) in_8 wd_168 dX8_isWay_29
  have q19 : gz_OkE M_X8_isWay 1 0 0 32 33 _ := ok_iconst (v := 2) dX8_isWay_32 kc_i2
  have q20 : gz_OkE M_X8_isWay 2 0 0 33 34 _ := ok_iload_n (i := 3) dX8_isWay_33 rfl
  have q21 : gz_OkE M_X8_isWay 0 0 0 35 37 _ := ok_iload (i := 4) dX8_isWay_35
  have q22 : gz_OkJ M_X8_isWay 0 0 0 35 80 40 _ := ok_if_lt q21 dX8_isWay_37 (by decide)
  have q23 : gz_OkE M_X8_isWay 0 0 0 40 42 _ := ok_iload (i := 5) dX8_isWay_40
  have q24 : gz_OkJ M_X8_isWay 0 0 0 40 80 45 _ := ok_if_lt q23 dX8_isWay_42 (by decide)
  have q25 : gz_OkA M_X8_isWay 0 0 0 45 45 0 _ := ok_a0
  have q26 : gz_OkE M_X8_isWay 0 0 0 45 47 _ := ok_iload (i := 6) dX8_isWay_45
  have q27 : gz_OkA M_X8_isWay 0 0 0 45 47 1 _ := ok_a1 q25 q26
  have q28 : gz_OkE M_X8_isWay 2 0 0 47 48 _ := ok_iconst (v := 0) dX8_isWay_47 kc_i0
  have q29 : gz_OkA M_X8_isWay 0 0 0 45 48 2 _ := ok_a1 q27 q28
  have q30 : gz_OkE M_X8_isWay 4 0 0 48 50 _ := ok_bipush (v := 120) dX8_isWay_48 kc_b120
  have q31 : gz_OkA M_X8_isWay 0 0 0 45 50 3 _ := ok_a1 q29 q30
  have q32 : gz_OkE M_X8_isWay 0 0 0 45 53 _ := ok_cs q31 mt_X8_isIn wd_765 wd_188 de_X8_isIn (by decide) (by decide) wd_766 wd_767 dX8_isWay_50 (by decide)
  have q33 : gz_OkJ M_X8_isWay 0 0 0 45 80 56 _ := ok_if_eq q32 dX8_isWay_53 (by decide)
  have q34 : gz_OkA M_X8_isWay 0 0 0 56 56 0 _ := ok_a0
  have q35 : gz_OkE M_X8_isWay 0 0 0 56 58 _ := ok_iload (i := 7) dX8_isWay_56
  have q36 : gz_OkA M_X8_isWay 0 0 0 56 58 1 _ := ok_a1 q34 q35
  have q37 : gz_OkE M_X8_isWay 2 0 0 58 59 _ := ok_iconst (v := 0) dX8_isWay_58 kc_i0
  have q38 : gz_OkA M_X8_isWay 0 0 0 56 59 2 _ := ok_a1 q36 q37
  have q39 : gz_OkE M_X8_isWay 4 0 0 59 61 _ := ok_bipush (v := 120) dX8_isWay_59 kc_b120
  have q40 : gz_OkA M_X8_isWay 0 0 0 56 61 3 _ := ok_a1 q38 q39
  have q41 : gz_OkE M_X8_isWay 0 0 0 56 64 _ := ok_cs q40 mt_X8_isIn wd_765 wd_188 de_X8_isIn (by decide) (by decide) wd_766 wd_767 dX8_isWay_61 (by decide)
  have q42 : gz_OkJ M_X8_isWay 0 0 0 56 80 67 _ := ok_if_eq q41 dX8_isWay_64 (by decide)
  have q43 : gz_OkE M_X8_isWay 0 0 0 67 68 _ := ok_aload_n (i := 0) dX8_isWay_67 rfl
  have q44 : gz_OkE M_X8_isWay 0 0 0 67 71 _ := ok_get q43 cl_8 (k := 47) (by decide) in_8 wd_178 dX8_isWay_68
  have q45 : gz_OkE M_X8_isWay 1 0 0 71 72 _ := ok_iconst (v := 2) dX8_isWay_71 kc_i2
  have q46 : gz_OkJ M_X8_isWay 0 0 0 67 82 75 _ := ok_ic_ne q44 q45 dX8_isWay_72 (by decide)
  have q47 : gz_OkE M_X8_isWay 0 0 0 75 77 _ := ok_iload (i := 7) dX8_isWay_75
  have q48 : gz_OkJ M_X8_isWay 0 0 0 75 82 80 _ := ok_if_eq q47 dX8_isWay_77 (by decide)
  have q49 : gz_OkJ M_X8_isWay 0 0 0 67 82 80 _ := ok_jo q46 q48
  have q50 : gz_OkJ M_X8_isWay 0 0 0 56 82 80 _ := ok_ja q42 q49
  have q51 : gz_OkJ M_X8_isWay 0 0 0 45 82 80 _ := ok_ja q33 q50
  have q52 : gz_OkJ M_X8_isWay 0 0 0 40 82 80 _ := ok_ja q24 q51
  have q53 : gz_OkJ M_X8_isWay 0 0 0 35 82 80 _ := ok_ja q22 q52
  have q54 : gz_OkE M_X8_isWay 0 0 0 82 83 _ := ok_iload_n (i := 1) dX8_isWay_82 rfl
  have q55 : gz_OkE M_X8_isWay 1 0 0 83 84 _ := ok_iload_n (i := 2) dX8_isWay_83 rfl
  have q56 : gz_OkJ M_X8_isWay 0 0 0 82 105 87 _ := ok_ic_eq q54 q55 dX8_isWay_84 (by decide)
  have q57 : gz_OkE M_X8_isWay 0 0 0 87 88 _ := ok_aload_n (i := 0) dX8_isWay_87 rfl
  have q58 : gz_OkE M_X8_isWay 0 0 0 87 91 _ := ok_get q57 cl_8 (k := 47) (by decide) in_8 wd_178 dX8_isWay_88
  have q59 : gz_OkE M_X8_isWay 1 0 0 91 92 _ := ok_iconst (v := 3) dX8_isWay_91 kc_i3
  have q60 : gz_OkJ M_X8_isWay 0 0 0 87 107 95 _ := ok_ic_ne q58 q59 dX8_isWay_92 (by decide)
  have q61 : gz_OkE M_X8_isWay 0 0 0 95 96 _ := ok_iload_n (i := 1) dX8_isWay_95 rfl
  have q62 : gz_OkE M_X8_isWay 1 0 0 96 97 _ := ok_iload_n (i := 3) dX8_isWay_96 rfl
  have q63 : gz_OkJ M_X8_isWay 0 0 0 95 105 100 _ := ok_ic_eq q61 q62 dX8_isWay_97 (by decide)
  have q64 : gz_OkE M_X8_isWay 0 0 0 100 101 _ := ok_iload_n (i := 2) dX8_isWay_100 rfl
  have q65 : gz_OkE M_X8_isWay 1 0 0 101 102 _ := ok_iload_n (i := 3) dX8_isWay_101 rfl
  have q66 : gz_OkJ M_X8_isWay 0 0 0 100 107 105 _ := ok_ic_ne q64 q65 dX8_isWay_102 (by decide)
  have q67 : gz_OkJ M_X8_isWay 0 0 0 95 107 105 _ := ok_ja q63 q66
  have q68 : gz_OkJ M_X8_isWay 0 0 0 87 107 105 _ := ok_jo q60 q67
  have q69 : gz_OkJ M_X8_isWay 0 0 0 82 107 105 _ := ok_ja q56 q68
  have q70 : gz_OkE M_X8_isWay 0 0 0 107 109 _ := ok_iload (i := 4) dX8_isWay_107
  have q71 : gz_OkE M_X8_isWay 0 0 0 111 113 _ := ok_iload (i := 5) dX8_isWay_111
  have q72 : gz_OkE M_X8_isWay 0 0 0 115 116 _ := ok_iconst (v := 0) dX8_isWay_115 kc_i0
  have q73 : gz_OkE M_X8_isWay 0 0 0 118 120 _ := ok_iload (i := 10) dX8_isWay_118
  have q74 : gz_OkE M_X8_isWay 1 0 0 120 121 _ := ok_aload_n (i := 0) dX8_isWay_120 rfl
  have q75 : gz_OkE M_X8_isWay 1 0 0 120 124 _ := ok_get q74 cl_8 (k := 47) (by decide) in_8 wd_178 dX8_isWay_121
  have q76 : gz_OkJ M_X8_isWay 0 0 0 118 254 127 _ := ok_ic_ge q73 q75 dX8_isWay_124 (by decide)
  have q77 : gz_OkS M_X8_isWay 0 0 254 _ := ok_at
  have q78 : gz_OkA M_X8_isWay 0 0 0 127 127 0 _ := ok_a0
  have q79 : gz_OkE M_X8_isWay 0 0 0 127 128 _ := ok_aload_n (i := 0) dX8_isWay_127 rfl
  have q80 : gz_OkA M_X8_isWay 0 0 0 127 128 1 _ := ok_a1 q78 q79
  have q81 : gz_OkE M_X8_isWay 2 0 0 128 129 _ := ok_aload_n (i := 0) dX8_isWay_128 rfl
  have q82 : gz_OkE M_X8_isWay 2 0 0 128 132 _ := ok_get q81 cl_8 (k := 45) (by decide) in_8 wd_168 dX8_isWay_129
  have q83 : gz_OkE M_X8_isWay 3 0 0 132 134 _ := ok_iload (i := 10) dX8_isWay_132
  have q84 : gz_OkE M_X8_isWay 2 0 0 128 135 _ := ok_iald q82 q83 dX8_isWay_134
  have q85 : gz_OkA M_X8_isWay 0 0 0 127 135 2 _ := ok_a1 q80 q84
  have q86 : gz_OkE M_X8_isWay 4 0 0 135 137 _ := ok_iload (i := 8) dX8_isWay_135
  have q87 : gz_OkE M_X8_isWay 5 0 0 137 139 _ := ok_bipush (v := 10) dX8_isWay_137 kc_b10
  have q88 : gz_OkE M_X8_isWay 4 0 0 135 140 _ := ok_irem q86 q87 dX8_isWay_139
  have q89 : gz_OkA M_X8_isWay 0 0 0 127 140 3 _ := ok_a1 q85 q88
  have q90 : gz_OkE M_X8_isWay 0 0 0 127 143 _ := ok_cv q89 mt_X8_isStream cl_8 wd_781 wd_188 de_X8_isStream (by decide) (by decide) wd_782 wd_783 wd_784 dX8_isWay_140 (by decide)
  have q91 : gz_OkJ M_X8_isWay 0 0 0 127 210 146 _ := ok_if_eq q90 dX8_isWay_143 (by decide)
  have q92 : gz_OkA M_X8_isWay 0 0 0 146 146 0 _ := ok_a0
  have q93 : gz_OkE M_X8_isWay 0 0 0 146 147 _ := ok_aload_n (i := 0) dX8_isWay_146 rfl
  have q94 : gz_OkA M_X8_isWay 0 0 0 146 147 1 _ := ok_a1 q92 q93
  have q95 : gz_OkE M_X8_isWay 2 0 0 147 148 _ := ok_aload_n (i := 0) dX8_isWay_147 rfl
  have q96 : gz_OkE M_X8_isWay 2 0 0 147 151 _ := ok_get q95 cl_8 (k := 45) (by decide) in_8 wd_168 dX8_isWay_148
  have q97 : gz_OkE M_X8_isWay 3 0 0 151 153 _ := ok_iload (i := 10) dX8_isWay_151
  have q98 : gz_OkE M_X8_isWay 2 0 0 147 154 _ := ok_iald q96 q97 dX8_isWay_153
  have q99 : gz_OkA M_X8_isWay 0 0 0 146 154 2 _ := ok_a1 q94 q98
  have q100 : gz_OkE M_X8_isWay 4 0 0 154 156 _ := ok_iload (i := 9) dX8_isWay_154
  have q101 : gz_OkE M_X8_isWay 5 0 0 156 158 _ := ok_bipush (v := 10) dX8_isWay_156 kc_b10
  have q102 : gz_OkE M_X8_isWay 4 0 0 154 159 _ := ok_irem q100 q101 dX8_isWay_158
  have q103 : gz_OkA M_X8_isWay 0 0 0 146 159 3 _ := ok_a1 q99 q102
  have q104 : gz_OkE M_X8_isWay 0 0 0 146 162 _ := ok_cv q103 mt_X8_isStream cl_8 wd_781 wd_188 de_X8_isStream (by decide) (by decide) wd_782 wd_783 wd_784 dX8_isWay_159 (by decide)
  have q105 : gz_OkJ M_X8_isWay 0 0 0 146 210 165 _ := ok_if_eq q104 dX8_isWay_162 (by decide)
  have q106 : gz_OkE M_X8_isWay 0 0 0 165 166 _ := ok_aload_n (i := 0) dX8_isWay_165 rfl
  have q107 : gz_OkE M_X8_isWay 0 0 0 165 169 _ := ok_get q106 cl_8 (k := 9) (by decide) in_8 wd_135 dX8_isWay_166
  have q108 : gz_OkE M_X8_isWay 1 0 0 169 171 _ := ok_bipush (v := 8) dX8_isWay_169 kc_b8
  have q109 : gz_OkE M_X8_isWay 2 0 0 171 172 _ := ok_aload_n (i := 0) dX8_isWay_171 rfl
  have q110 : gz_OkE M_X8_isWay 2 0 0 171 175 _ := ok_get q109 cl_8 (k := 45) (by decide) in_8 wd_168 dX8_isWay_172
  have q111 : gz_OkE M_X8_isWay 3 0 0 175 177 _ := ok_iload (i := 10) dX8_isWay_175
  have q112 : gz_OkE M_X8_isWay 2 0 0 171 178 _ := ok_iald q110 q111 dX8_isWay_177
  have q113 : gz_OkE M_X8_isWay 1 0 0 169 179 _ := ok_iadd q108 q112 dX8_isWay_178
  have q114 : gz_OkE M_X8_isWay 0 0 0 165 180 _ := ok_zald q107 q113 dX8_isWay_179
  have q115 : gz_OkJ M_X8_isWay 0 0 0 165 210 183 _ := ok_if_eq q114 dX8_isWay_180 (by decide)
  have q116 : gz_OkE M_X8_isWay 0 0 0 183 184 _ := ok_aload_n (i := 0) dX8_isWay_183 rfl
  have q117 : gz_OkE M_X8_isWay 0 0 0 183 187 _ := ok_get q116 cl_8 (k := 10) (by decide) in_8 wd_136 dX8_isWay_184
  have q118 : gz_OkE M_X8_isWay 1 0 0 187 189 _ := ok_bipush (v := 8) dX8_isWay_187 kc_b8
  have q119 : gz_OkE M_X8_isWay 2 0 0 189 190 _ := ok_aload_n (i := 0) dX8_isWay_189 rfl
  have q120 : gz_OkE M_X8_isWay 2 0 0 189 193 _ := ok_get q119 cl_8 (k := 45) (by decide) in_8 wd_168 dX8_isWay_190
  have q121 : gz_OkE M_X8_isWay 3 0 0 193 195 _ := ok_iload (i := 10) dX8_isWay_193
  have q122 : gz_OkE M_X8_isWay 2 0 0 189 196 _ := ok_iald q120 q121 dX8_isWay_195
  have q123 : gz_OkE M_X8_isWay 1 0 0 187 197 _ := ok_iadd q118 q122 dX8_isWay_196
  have q124 : gz_OkE M_X8_isWay 0 0 0 183 198 _ := ok_iald q117 q123 dX8_isWay_197
  have q125 : gz_OkE M_X8_isWay 1 0 0 198 199 _ := ok_aload_n (i := 0) dX8_isWay_198 rfl
  have q126 : gz_OkE M_X8_isWay 1 0 0 198 202 _ := ok_get q125 cl_8 (k := 10) (by decide) in_8 wd_136 dX8_isWay_199
  have q127 : gz_OkE M_X8_isWay 2 0 0 202 204 _ := ok_bipush (v := 8) dX8_isWay_202 kc_b8
  have q128 : gz_OkE M_X8_isWay 3 0 0 204 205 _ := ok_iload_n (i := 1) dX8_isWay_204 rfl
  have q129 : gz_OkE M_X8_isWay 2 0 0 202 206 _ := ok_iadd q127 q128 dX8_isWay_205
  have q130 : gz_OkE M_X8_isWay 1 0 0 198 207 _ := ok_iald q126 q129 dX8_isWay_206
  have q131 : gz_OkJ M_X8_isWay 0 0 0 183 212 210 _ := ok_ic_eq q124 q130 dX8_isWay_207 (by decide)
  have q132 : gz_OkJ M_X8_isWay 0 0 0 165 212 210 _ := ok_ja q115 q131
  have q133 : gz_OkJ M_X8_isWay 0 0 0 146 212 210 _ := ok_ja q105 q132
  have q134 : gz_OkJ M_X8_isWay 0 0 0 127 212 210 _ := ok_ja q91 q133
  have q135 : gz_OkE M_X8_isWay 0 0 0 212 214 _ := ok_iload (i := 8) dX8_isWay_212
  have q136 : gz_OkE M_X8_isWay 1 0 0 214 216 _ := ok_bipush (v := 10) dX8_isWay_214 kc_b10
  have q137 : gz_OkE M_X8_isWay 0 0 0 212 217 _ := ok_idiv q135 q136 dX8_isWay_216
  have q138 : gz_OkE M_X8_isWay 0 0 0 219 221 _ := ok_iload (i := 9) dX8_isWay_219
  have q139 : gz_OkE M_X8_isWay 1 0 0 221 223 _ := ok_bipush (v := 10) dX8_isWay_221 kc_b10
  have q140 : gz_OkE M_X8_isWay 0 0 0 219 224 _ := ok_idiv q138 q139 dX8_isWay_223
  have q141 : gz_OkE M_X8_isWay 0 0 0 226 227 _ := ok_aload_n (i := 0) dX8_isWay_226 rfl
  have q142 : gz_OkE M_X8_isWay 0 0 0 226 230 _ := ok_get q141 cl_8 (k := 46) (by decide) in_8 wd_169 dX8_isWay_227
  have q143 : gz_OkE M_X8_isWay 1 0 0 230 232 _ := ok_iload (i := 10) dX8_isWay_230
  have q144 : gz_OkE M_X8_isWay 2 0 0 232 233 _ := ok_aload_n (i := 0) dX8_isWay_232 rfl
  have q145 : gz_OkE M_X8_isWay 2 0 0 232 236 _ := ok_get q144 cl_8 (k := 14) (by decide) in_8 wd_140 dX8_isWay_233
  have q146 : gz_OkE M_X8_isWay 3 0 0 236 238 _ := ok_bipush (v := 8) dX8_isWay_236 kc_b8
  have q147 : gz_OkE M_X8_isWay 4 0 0 238 239 _ := ok_aload_n (i := 0) dX8_isWay_238 rfl
  have q148 : gz_OkE M_X8_isWay 4 0 0 238 242 _ := ok_get q147 cl_8 (k := 45) (by decide) in_8 wd_168 dX8_isWay_239
  have q149 : gz_OkE M_X8_isWay 5 0 0 242 244 _ := ok_iload (i := 10) dX8_isWay_242
  have q150 : gz_OkE M_X8_isWay 4 0 0 238 245 _ := ok_iald q148 q149 dX8_isWay_244
  have q151 : gz_OkE M_X8_isWay 3 0 0 236 246 _ := ok_iadd q146 q150 dX8_isWay_245
  have q152 : gz_OkE M_X8_isWay 2 0 0 232 247 _ := ok_iald q145 q151 dX8_isWay_246
  have q153 : gz_OkS M_X8_isWay 0 0 251 (gz_sat 118) := ok_goto dX8_isWay_251 (by decide)
  have q154 : gz_OkS M_X8_isWay 0 0 248 _ := ok_inc (v := 1) dX8_isWay_248 kc_i1 (by decide) q153
  have q155 : gz_OkS M_X8_isWay 0 0 226 _ := ok_iast q142 q143 q152 dX8_isWay_247 q154
  have q156 : gz_OkS M_X8_isWay 0 0 219 _ := ok_seti (k := 9) q140 dX8_isWay_224 (by decide) q155
  have q157 : gz_OkS M_X8_isWay 0 0 212 _ := ok_seti (k := 8) q137 dX8_isWay_217 (by decide) q156
  have q158 : gz_OkE M_X8_isWay 0 0 0 210 211 _ := ok_iconst (v := 0) dX8_isWay_210 kc_i0
  have q159 : gz_OkS M_X8_isWay 0 0 210 _ := ok_ri q158 dX8_isWay_211
  have q160 : gz_OkS M_X8_isWay 0 0 127 _ := ok_if q134 q157 q159
  have q161 : gz_OkS M_X8_isWay 0 0 118 _ := ok_if q76 q77 q160
  have q162 : gz_OkS M_X8_isWay 0 0 118 lb_X8_isWay_118 := q161
  have q163 : gz_OkS M_X8_isWay 0 0 118 _ := ok_loop (k := 11) q162 rfl rfl
  have q164 : gz_OkE M_X8_isWay 0 0 0 254 256 _ := ok_iload (i := 8) dX8_isWay_254
  have q165 : gz_OkJ M_X8_isWay 0 0 0 254 268 259 _ := ok_if_ne q164 dX8_isWay_256 (by decide)
  have q166 : gz_OkE M_X8_isWay 0 0 0 259 261 _ := ok_iload (i := 9) dX8_isWay_259
  have q167 : gz_OkJ M_X8_isWay 0 0 0 259 268 264 _ := ok_if_ne q166 dX8_isWay_261 (by decide)
  have q168 : gz_OkJ M_X8_isWay 0 0 0 254 268 264 _ := ok_jo q165 q167
  have q169 : gz_OkE M_X8_isWay 0 0 0 264 265 _ := ok_iconst (v := 1) dX8_isWay_264 kc_i1
  have q170 : gz_OkE M_X8_isWay 0 0 0 264 269 _ := ok_eg q169 dX8_isWay_265 (by decide)
  have q171 : gz_OkE M_X8_isWay 0 0 0 268 269 _ := ok_iconst (v := 0) dX8_isWay_268 kc_i0
  have q172 : gz_OkE M_X8_isWay 0 0 0 254 269 _ := ok_te2 q168 q170 q171
  have q173 : gz_OkS M_X8_isWay 0 0 254 _ := ok_ri q172 dX8_isWay_269
  have q174 : gz_OkS M_X8_isWay 0 0 118 _ := ok_seq (L := 254) (k := 10) q163 q173
  have q175 : gz_OkS M_X8_isWay 0 0 115 _ := ok_seti (k := 10) q72 dX8_isWay_116 (by decide) q174
  have q176 : gz_OkS M_X8_isWay 0 0 111 _ := ok_seti (k := 9) q71 dX8_isWay_113 (by decide) q175
  have q177 : gz_OkS M_X8_isWay 0 0 107 _ := ok_seti (k := 8) q70 dX8_isWay_109 (by decide) q176
  have q178 : gz_OkE M_X8_isWay 0 0 0 105 106 _ := ok_iconst (v := 0) dX8_isWay_105 kc_i0
  have q179 : gz_OkS M_X8_isWay 0 0 105 _ := ok_ri q178 dX8_isWay_106
  have q180 : gz_OkS M_X8_isWay 0 0 82 _ := ok_if q69 q177 q179
  have q181 : gz_OkE M_X8_isWay 0 0 0 80 81 _ := ok_iconst (v := 0) dX8_isWay_80 kc_i0
  have q182 : gz_OkS M_X8_isWay 0 0 80 _ := ok_ri q181 dX8_isWay_81
  have q183 : gz_OkS M_X8_isWay 0 0 35 _ := ok_if q53 q180 q182
  have q184 : gz_OkS M_X8_isWay 0 0 28 _ := ok_iast q18 q19 q20 dX8_isWay_34 q183
  have q185 : gz_OkS M_X8_isWay 0 0 21 _ := ok_iast q14 q15 q16 dX8_isWay_27 q184
  have q186 : gz_OkS M_X8_isWay 0 0 14 _ := ok_iast q10 q11 q12 dX8_isWay_20 q185
  have q187 : gz_OkS M_X8_isWay 0 0 0 _ := ok_put (ty := .int) q1 q8 cl_8 (k := 47) (by decide) in_8 wd_178 tyX8 tyX8_ok nmX8 rfl rfl dX8_isWay_11 q186
  have z : gz_OkS M_X8_isWay 0 0 0 sm_X8_isWay := q187
  exact gz_met (plainFor_of_name (by decide)) z (by decide) (by decide)
noncomputable def sm_X8_digit : gz_Sx := gz_ri (gz_te (gz_j1 (fun x => decide (¬ x = 0)) (gz_li 1)) (gz_te (gz_j2 (fun x y => decide (¬ x = y)) (gz_li 1) (gz_i (1))) (gz_iz (fun x y => x / y) (gz_li 0) (gz_i (100))) (gz_iz (fun x y => x - x / y * y) (gz_iz (fun x y => x / y) (gz_li 0) (gz_i (10))) (gz_i (10)))) (gz_iz (fun x y => x - x / y * y) (gz_li 0) (gz_i (10))))
noncomputable def se_X8_digit : gz_Me := gz_sem (some .int) 2 sm_X8_digit
abbrev rm_X8_digit : Room := { frames := 0, cells := 0, slots := 0, locals := 0 }
abbrev M_X8_digit : gz_Mi := (cX8_digit, 2, RX8, 0, 0, "digit", none)
theorem de_X8_digit : yX8_digit.cls ≠ "java/lang/invoke/MethodHandle" ∧ yX8_digit.cls ≠ "java/lang/invoke/VarHandle" ∧ (parseMethodDescriptor yX8_digit.desc).map (fun d => d.parameters.length) = some 2 := by decide +kernel
set_option maxRecDepth 100000 in
theorem mt_X8_digit : gz_Mt yX8_digit cX8_digit 2 (some .int) rm_X8_digit se_X8_digit := by
  have q1 : gz_OkE M_X8_digit 0 0 0 0 1 _ := ok_iload_n (i := 1) dX8_digit_0 rfl
  have q2 : gz_OkJ M_X8_digit 0 0 0 0 11 4 _ := ok_if_ne q1 dX8_digit_1 (by decide)
  have q3 : gz_OkE M_X8_digit 0 0 0 4 5 _ := ok_iload_n (i := 0) dX8_digit_4 rfl
  have q4 : gz_OkE M_X8_digit 1 0 0 5 7 _ := ok_bipush (v := 10) dX8_digit_5 kc_b10
  have q5 : gz_OkE M_X8_digit 0 0 0 4 8 _ := ok_irem q3 q4 dX8_digit_7
  have q6 : gz_OkE M_X8_digit 0 0 0 4 30 _ := ok_eg q5 dX8_digit_8 (by decide)
  have q7 : gz_OkE M_X8_digit 0 0 0 11 12 _ := ok_iload_n (i := 1) dX8_digit_11 rfl
  have q8 : gz_OkE M_X8_digit 1 0 0 12 13 _ := ok_iconst (v := 1) dX8_digit_12 kc_i1
  have q9 : gz_OkJ M_X8_digit 0 0 0 11 26 16 _ := ok_ic_ne q7 q8 dX8_digit_13 (by decide)
  have q10 : gz_OkE M_X8_digit 0 0 0 16 17 _ := ok_iload_n (i := 0) dX8_digit_16 rfl
  have q11 : gz_OkE M_X8_digit 1 0 0 17 19 _ := ok_bipush (v := 10) dX8_digit_17 kc_b10
  have q12 : gz_OkE M_X8_digit 0 0 0 16 20 _ := ok_idiv q10 q11 dX8_digit_19
  have q13 : gz_OkE M_X8_digit 1 0 0 20 22 _ := ok_bipush (v := 10) dX8_digit_20 kc_b10
  have q14 : gz_OkE M_X8_digit 0 0 0 16 23 _ := ok_irem q12 q13 dX8_digit_22
  have q15 : gz_OkE M_X8_digit 0 0 0 16 30 _ := ok_eg q14 dX8_digit_23 (by decide)
  have q16 : gz_OkE M_X8_digit 0 0 0 26 27 _ := ok_iload_n (i := 0) dX8_digit_26 rfl
  have q17 : gz_OkE M_X8_digit 1 0 0 27 29 _ := ok_bipush (v := 100) dX8_digit_27 kc_b100
  have q18 : gz_OkE M_X8_digit 0 0 0 26 30 _ := ok_idiv q16 q17 dX8_digit_29
  have q19 : gz_OkE M_X8_digit 0 0 0 11 30 _ := ok_te2 q9 q15 q18
  have q20 : gz_OkE M_X8_digit 0 0 0 0 30 _ := ok_te2 q2 q6 q19
  have q21 : gz_OkS M_X8_digit 0 0 0 _ := ok_ri q20 dX8_digit_30
  have z : gz_OkS M_X8_digit 0 0 0 sm_X8_digit := q21
  exact gz_met (plainFor_of_name (by decide)) z (by decide) (by decide)
noncomputable def lb_X8_passing_31 : gz_Sx := gz_if (gz_jo (gz_j2 (fun x y => decide (y ≤ x)) (gz_li 8) (gz_get 8 48 47 (gz_la 0))) (gz_j1 (fun x => decide (x = 0)) (gz_li 7))) (gz_sat 158) (gz_seti 9 (gz_te (gz_j1 (fun x => decide (x = 0)) (gz_li 4)) (gz_te (gz_j1 (fun x => decide (¬ x = 0)) (gz_li 8)) (gz_te (gz_j2 (fun x y => decide (¬ x = y)) (gz_li 8) (gz_i (1))) (gz_ib (fun x y => x + y) (gz_li 2) (gz_li 3)) (gz_li 2)) (gz_i (0))) (gz_te (gz_j2 (fun x y => decide (¬ x = y)) (gz_li 8) (gz_ib (fun x y => x - y) (gz_get 8 48 47 (gz_la 0)) (gz_i (1)))) (gz_te (gz_j2 (fun x y => decide (¬ x = y)) (gz_li 8) (gz_i (1))) (gz_te (gz_j2 (fun x y => decide (¬ x = y)) (gz_get 8 48 47 (gz_la 0)) (gz_i (2))) (gz_ib (fun x y => x + y) (gz_li 3) (gz_li 2)) (gz_li 2)) (gz_li 3)) (gz_i (0)))) (gz_seti 7 (gz_cv 8 48 se_X8_isGreen (gz_a1 (gz_a1 (gz_a1 (gz_a1 (gz_a0) (gz_la 0)) (gz_ib (fun x y => x + y) (gz_i (8)) (gz_ald 100 (gz_get 8 48 45 (gz_la 0)) (gz_li 8)))) (gz_cs se_X8_digit (gz_a1 (gz_a1 (gz_a0) (gz_li 1)) (gz_li 8)))) (gz_ib (fun x y => x - y) (gz_ib (fun x y => x + y) (gz_li 6) (gz_li 9)) (gz_ald 100 (gz_get 8 48 46 (gz_la 0)) (gz_li 8))))) (gz_inc 8 (1) (gz_sat 31))))
noncomputable def lb_X8_passing_6 : gz_Sx := gz_if (gz_j2 (fun x y => decide (y ≤ x)) (gz_li 6) (gz_ald 100 (gz_get 8 48 10 (gz_la 0)) (gz_ib (fun x y => x + y) (gz_i (8)) (gz_ald 100 (gz_get 8 48 45 (gz_la 0)) (gz_i (0)))))) (gz_sat 179) (gz_seti 7 (gz_i (1)) (gz_seti 8 (gz_i (0)) (gz_seq 158 8 (gz_loop 31 9 lb_X8_passing_31) (gz_seti 5 (gz_ib (fun x y => x + y) (gz_li 5) (gz_te (gz_j1 (fun x => decide (x = 0)) (gz_li 7)) (gz_i (0)) (gz_i (1)))) (gz_inc 6 (1) (gz_sat 6))))))
noncomputable def sm_X8_passing : gz_Sx := gz_seti 5 (gz_i (0)) (gz_seti 6 (gz_i (0)) (gz_seq 179 6 (gz_loop 6 7 lb_X8_passing_6) (gz_ri (gz_li 5))))
noncomputable def se_X8_passing : gz_Me := gz_sem (some .int) 10 sm_X8_passing
abbrev rm_X8_passing : Room := { frames := 2, cells := 0, slots := 0, locals := 45 }
abbrev M_X8_passing : gz_Mi := (cX8_passing, 10, RX8, 2, 45, "passing", none)
theorem de_X8_passing : yX8_passing.cls ≠ "java/lang/invoke/MethodHandle" ∧ yX8_passing.cls ≠ "java/lang/invoke/VarHandle" ∧ (parseMethodDescriptor yX8_passing.desc).map (fun d => d.parameters.length) = some 4 := by decide +kernel
set_option maxRecDepth 100000 in
theorem mt_X8_passing : gz_Mt yX8_passing cX8_passing 10 (some .int) rm_X8_passing se_X8_passing := by
  have q1 : gz_OkE M_X8_passing 0 0 0 0 1 _ := ok_iconst (v := 0) dX8_passing_0 kc_i0
  have q2 : gz_OkE M_X8_passing 0 0 0 3 4 _ := ok_iconst (v := 0) dX8_passing_3 kc_i0
  have q3 : gz_OkE M_X8_passing 0 0 0 6 8 _ := ok_iload (i := 6) dX8_passing_6
  have q4 : gz_OkE M_X8_passing 1 0 0 8 9 _ := ok_aload_n (i := 0) dX8_passing_8 rfl
  have q5 : gz_OkE M_X8_passing 1 0 0 8 12 _ := ok_get q4 cl_8 (k := 10) (by decide) in_8 wd_136 dX8_passing_9
  have q6 : gz_OkE M_X8_passing 2 0 0 12 14 _ := ok_bipush (v := 8) dX8_passing_12 kc_b8
  have q7 : gz_OkE M_X8_passing 3 0 0 14 15 _ := ok_aload_n (i := 0) dX8_passing_14 rfl
  have q8 : gz_OkE M_X8_passing 3 0 0 14 18 _ := ok_get q7 cl_8 (k := 45) (by decide) in_8 wd_168 dX8_passing_15
  have q9 : gz_OkE M_X8_passing 4 0 0 18 19 _ := ok_iconst (v := 0) dX8_passing_18 kc_i0
  have q10 : gz_OkE M_X8_passing 3 0 0 14 20 _ := ok_iald q8 q9 dX8_passing_19
  have q11 : gz_OkE M_X8_passing 2 0 0 12 21 _ := ok_iadd q6 q10 dX8_passing_20
  have q12 : gz_OkE M_X8_passing 1 0 0 8 22 _ := ok_iald q5 q11 dX8_passing_21
  have q13 : gz_OkJ M_X8_passing 0 0 0 6 179 25 _ := ok_ic_ge q3 q12 dX8_passing_22 (by decide)
  have q14 : gz_OkS M_X8_passing 0 0 179 _ := ok_at
  have q15 : gz_OkE M_X8_passing 0 0 0 25 26 _ := ok_iconst (v := 1) dX8_passing_25 kc_i1
  have q16 : gz_OkE M_X8_passing 0 0 0 28 29 _ := ok_iconst (v := 0) dX8_passing_28 kc_i0
  have q17 : gz_OkE M_X8_passing 0 0 0 31 33 _ := ok_iload (i := 8) dX8_passing_31
  have q18 : gz_OkE M_X8_passing 1 0 0 33 34 _ := ok_aload_n (i := 0) dX8_passing_33 rfl
  have q19 : gz_OkE M_X8_passing 1 0 0 33 37 _ := ok_get q18 cl_8 (k := 47) (by decide) in_8 wd_178 dX8_passing_34
  have q20 : gz_OkJ M_X8_passing 0 0 0 31 158 40 _ := ok_ic_ge q17 q19 dX8_passing_37 (by decide)
  have q21 : gz_OkE M_X8_passing 0 0 0 40 42 _ := ok_iload (i := 7) dX8_passing_40
  have q22 : gz_OkJ M_X8_passing 0 0 0 40 158 45 _ := ok_if_eq q21 dX8_passing_42 (by decide)
  have q23 : gz_OkJ M_X8_passing 0 0 0 31 158 45 _ := ok_jo q20 q22
  have q24 : gz_OkS M_X8_passing 0 0 158 _ := ok_at
  have q25 : gz_OkE M_X8_passing 0 0 0 45 47 _ := ok_iload (i := 4) dX8_passing_45
  have q26 : gz_OkJ M_X8_passing 0 0 0 45 93 50 _ := ok_if_eq q25 dX8_passing_47 (by decide)
  have q27 : gz_OkE M_X8_passing 0 0 0 50 52 _ := ok_iload (i := 8) dX8_passing_50
  have q28 : gz_OkE M_X8_passing 1 0 0 52 53 _ := ok_aload_n (i := 0) dX8_passing_52 rfl
  have q29 : gz_OkE M_X8_passing 1 0 0 52 56 _ := ok_get q28 cl_8 (k := 47) (by decide) in_8 wd_178 dX8_passing_53
  have q30 : gz_OkE M_X8_passing 2 0 0 56 57 _ := ok_iconst (v := 1) dX8_passing_56 kc_i1
  have q31 : gz_OkE M_X8_passing 1 0 0 52 58 _ := ok_isub q29 q30 dX8_passing_57
  have q32 : gz_OkJ M_X8_passing 0 0 0 50 65 61 _ := ok_ic_ne q27 q31 dX8_passing_58 (by decide)
  have q33 : gz_OkE M_X8_passing 0 0 0 61 62 _ := ok_iconst (v := 0) dX8_passing_61 kc_i0
  have q34 : gz_OkE M_X8_passing 0 0 0 61 115 _ := ok_eg q33 dX8_passing_62 (by decide)
  have q35 : gz_OkE M_X8_passing 0 0 0 65 67 _ := ok_iload (i := 8) dX8_passing_65
  have q36 : gz_OkE M_X8_passing 1 0 0 67 68 _ := ok_iconst (v := 1) dX8_passing_67 kc_i1
  have q37 : gz_OkJ M_X8_passing 0 0 0 65 75 71 _ := ok_ic_ne q35 q36 dX8_passing_68 (by decide)
  have q38 : gz_OkE M_X8_passing 0 0 0 71 72 _ := ok_iload_n (i := 3) dX8_passing_71 rfl
  have q39 : gz_OkE M_X8_passing 0 0 0 71 115 _ := ok_eg q38 dX8_passing_72 (by decide)
  have q40 : gz_OkE M_X8_passing 0 0 0 75 76 _ := ok_aload_n (i := 0) dX8_passing_75 rfl
  have q41 : gz_OkE M_X8_passing 0 0 0 75 79 _ := ok_get q40 cl_8 (k := 47) (by decide) in_8 wd_178 dX8_passing_76
  have q42 : gz_OkE M_X8_passing 1 0 0 79 80 _ := ok_iconst (v := 2) dX8_passing_79 kc_i2
  have q43 : gz_OkJ M_X8_passing 0 0 0 75 87 83 _ := ok_ic_ne q41 q42 dX8_passing_80 (by decide)
  have q44 : gz_OkE M_X8_passing 0 0 0 83 84 _ := ok_iload_n (i := 2) dX8_passing_83 rfl
  have q45 : gz_OkE M_X8_passing 0 0 0 83 115 _ := ok_eg q44 dX8_passing_84 (by decide)
  have q46 : gz_OkE M_X8_passing 0 0 0 87 88 _ := ok_iload_n (i := 3) dX8_passing_87 rfl
  have q47 : gz_OkE M_X8_passing 1 0 0 88 89 _ := ok_iload_n (i := 2) dX8_passing_88 rfl
  have q48 : gz_OkE M_X8_passing 0 0 0 87 90 _ := ok_iadd q46 q47 dX8_passing_89
  have q49 : gz_OkE M_X8_passing 0 0 0 87 115 _ := ok_eg q48 dX8_passing_90 (by decide)
  have q50 : gz_OkE M_X8_passing 0 0 0 75 115 _ := ok_te2 q43 q45 q49
  have q51 : gz_OkE M_X8_passing 0 0 0 65 115 _ := ok_te2 q37 q39 q50
  have q52 : gz_OkE M_X8_passing 0 0 0 50 115 _ := ok_te2 q32 q34 q51
  have q53 : gz_OkE M_X8_passing 0 0 0 93 95 _ := ok_iload (i := 8) dX8_passing_93
  have q54 : gz_OkJ M_X8_passing 0 0 0 93 102 98 _ := ok_if_ne q53 dX8_passing_95 (by decide)
  have q55 : gz_OkE M_X8_passing 0 0 0 98 99 _ := ok_iconst (v := 0) dX8_passing_98 kc_i0
  have q56 : gz_OkE M_X8_passing 0 0 0 98 115 _ := ok_eg q55 dX8_passing_99 (by decide)
  have q57 : gz_OkE M_X8_passing 0 0 0 102 104 _ := ok_iload (i := 8) dX8_passing_102
  have q58 : gz_OkE M_X8_passing 1 0 0 104 105 _ := ok_iconst (v := 1) dX8_passing_104 kc_i1
  have q59 : gz_OkJ M_X8_passing 0 0 0 102 112 108 _ := ok_ic_ne q57 q58 dX8_passing_105 (by decide)
  have q60 : gz_OkE M_X8_passing 0 0 0 108 109 _ := ok_iload_n (i := 2) dX8_passing_108 rfl
  have q61 : gz_OkE M_X8_passing 0 0 0 108 115 _ := ok_eg q60 dX8_passing_109 (by decide)
  have q62 : gz_OkE M_X8_passing 0 0 0 112 113 _ := ok_iload_n (i := 2) dX8_passing_112 rfl
  have q63 : gz_OkE M_X8_passing 1 0 0 113 114 _ := ok_iload_n (i := 3) dX8_passing_113 rfl
  have q64 : gz_OkE M_X8_passing 0 0 0 112 115 _ := ok_iadd q62 q63 dX8_passing_114
  have q65 : gz_OkE M_X8_passing 0 0 0 102 115 _ := ok_te2 q59 q61 q64
  have q66 : gz_OkE M_X8_passing 0 0 0 93 115 _ := ok_te2 q54 q56 q65
  have q67 : gz_OkE M_X8_passing 0 0 0 45 115 _ := ok_te2 q26 q52 q66
  have q68 : gz_OkA M_X8_passing 0 0 0 117 117 0 _ := ok_a0
  have q69 : gz_OkE M_X8_passing 0 0 0 117 118 _ := ok_aload_n (i := 0) dX8_passing_117 rfl
  have q70 : gz_OkA M_X8_passing 0 0 0 117 118 1 _ := ok_a1 q68 q69
  have q71 : gz_OkE M_X8_passing 2 0 0 118 120 _ := ok_bipush (v := 8) dX8_passing_118 kc_b8
  have q72 : gz_OkE M_X8_passing 3 0 0 120 121 _ := ok_aload_n (i := 0) dX8_passing_120 rfl
  have q73 : gz_OkE M_X8_passing 3 0 0 120 124 _ := ok_get q72 cl_8 (k := 45) (by decide) in_8 wd_168 dX8_passing_121
  have q74 : gz_OkE M_X8_passing 4 0 0 124 126 _ := ok_iload (i := 8) dX8_passing_124
  have q75 : gz_OkE M_X8_passing 3 0 0 120 127 _ := ok_iald q73 q74 dX8_passing_126
  have q76 : gz_OkE M_X8_passing 2 0 0 118 128 _ := ok_iadd q71 q75 dX8_passing_127
  have q77 : gz_OkA M_X8_passing 0 0 0 117 128 2 _ := ok_a1 q70 q76
  have q78 : gz_OkA M_X8_passing 4 0 0 128 128 0 _ := ok_a0
  have q79 : gz_OkE M_X8_passing 4 0 0 128 129 _ := ok_iload_n (i := 1) dX8_passing_128 rfl
  have q80 : gz_OkA M_X8_passing 4 0 0 128 129 1 _ := ok_a1 q78 q79
  have q81 : gz_OkE M_X8_passing 6 0 0 129 131 _ := ok_iload (i := 8) dX8_passing_129
  have q82 : gz_OkA M_X8_passing 4 0 0 128 131 2 _ := ok_a1 q80 q81
  have q83 : gz_OkE M_X8_passing 4 0 0 128 134 _ := ok_cs q82 mt_X8_digit wd_866 wd_188 de_X8_digit (by decide) (by decide) wd_867 wd_868 dX8_passing_131 (by decide)
  have q84 : gz_OkA M_X8_passing 0 0 0 117 134 3 _ := ok_a1 q77 q83
  have q85 : gz_OkE M_X8_passing 6 0 0 134 136 _ := ok_iload (i := 6) dX8_passing_134
  have q86 : gz_OkE M_X8_passing 7 0 0 136 138 _ := ok_iload (i := 9) dX8_passing_136
  have q87 : gz_OkE M_X8_passing 6 0 0 134 139 _ := ok_iadd q85 q86 dX8_passing_138
  have q88 : gz_OkE M_X8_passing 7 0 0 139 140 _ := ok_aload_n (i := 0) dX8_passing_139 rfl
  have q89 : gz_OkE M_X8_passing 7 0 0 139 143 _ := ok_get q88 cl_8 (k := 46) (by decide) in_8 wd_169 dX8_passing_140
  have q90 : gz_OkE M_X8_passing 8 0 0 143 145 _ := ok_iload (i := 8) dX8_passing_143
  have q91 : gz_OkE M_X8_passing 7 0 0 139 146 _ := ok_iald q89 q90 dX8_passing_145
  have q92 : gz_OkE M_X8_passing 6 0 0 134 147 _ := ok_isub q87 q91 dX8_passing_146
  have q93 : gz_OkA M_X8_passing 0 0 0 117 147 4 _ := ok_a1 q84 q92
  have q94 : gz_OkE M_X8_passing 0 0 0 117 150 _ := ok_cv q93 mt_X8_isGreen cl_8 wd_802 wd_188 de_X8_isGreen (by decide) (by decide) wd_803 wd_804 wd_805 dX8_passing_147 (by decide)
  have q95 : gz_OkS M_X8_passing 0 0 155 (gz_sat 31) := ok_goto dX8_passing_155 (by decide)
  have q96 : gz_OkS M_X8_passing 0 0 152 _ := ok_inc (v := 1) dX8_passing_152 kc_i1 (by decide) q95
  have q97 : gz_OkS M_X8_passing 0 0 117 _ := ok_seti (k := 7) q94 dX8_passing_150 (by decide) q96
  have q98 : gz_OkS M_X8_passing 0 0 45 _ := ok_seti (k := 9) q67 dX8_passing_115 (by decide) q97
  have q99 : gz_OkS M_X8_passing 0 0 31 _ := ok_if q23 q24 q98
  have q100 : gz_OkS M_X8_passing 0 0 31 lb_X8_passing_31 := q99
  have q101 : gz_OkS M_X8_passing 0 0 31 _ := ok_loop (k := 9) q100 rfl rfl
  have q102 : gz_OkE M_X8_passing 0 0 0 158 160 _ := ok_iload (i := 5) dX8_passing_158
  have q103 : gz_OkE M_X8_passing 1 0 0 160 162 _ := ok_iload (i := 7) dX8_passing_160
  have q104 : gz_OkJ M_X8_passing 1 0 0 160 169 165 _ := ok_if_eq q103 dX8_passing_162 (by decide)
  have q105 : gz_OkE M_X8_passing 1 0 0 165 166 _ := ok_iconst (v := 1) dX8_passing_165 kc_i1
  have q106 : gz_OkE M_X8_passing 1 0 0 165 170 _ := ok_eg q105 dX8_passing_166 (by decide)
  have q107 : gz_OkE M_X8_passing 1 0 0 169 170 _ := ok_iconst (v := 0) dX8_passing_169 kc_i0
  have q108 : gz_OkE M_X8_passing 1 0 0 160 170 _ := ok_te2 q104 q106 q107
  have q109 : gz_OkE M_X8_passing 0 0 0 158 171 _ := ok_iadd q102 q108 dX8_passing_170
  have q110 : gz_OkS M_X8_passing 0 0 176 (gz_sat 6) := ok_goto dX8_passing_176 (by decide)
  have q111 : gz_OkS M_X8_passing 0 0 173 _ := ok_inc (v := 1) dX8_passing_173 kc_i1 (by decide) q110
  have q112 : gz_OkS M_X8_passing 0 0 158 _ := ok_seti (k := 5) q109 dX8_passing_171 (by decide) q111
  have q113 : gz_OkS M_X8_passing 0 0 31 _ := ok_seq (L := 158) (k := 8) q101 q112
  have q114 : gz_OkS M_X8_passing 0 0 28 _ := ok_seti (k := 8) q16 dX8_passing_29 (by decide) q113
  have q115 : gz_OkS M_X8_passing 0 0 25 _ := ok_seti (k := 7) q15 dX8_passing_26 (by decide) q114
  have q116 : gz_OkS M_X8_passing 0 0 6 _ := ok_if q13 q14 q115
  have q117 : gz_OkS M_X8_passing 0 0 6 lb_X8_passing_6 := q116
  have q118 : gz_OkS M_X8_passing 0 0 6 _ := ok_loop (k := 7) q117 rfl rfl
  have q119 : gz_OkE M_X8_passing 0 0 0 179 181 _ := ok_iload (i := 5) dX8_passing_179
  have q120 : gz_OkS M_X8_passing 0 0 179 _ := ok_ri q119 dX8_passing_181
  have q121 : gz_OkS M_X8_passing 0 0 6 _ := ok_seq (L := 179) (k := 6) q118 q120
  have q122 : gz_OkS M_X8_passing 0 0 3 _ := ok_seti (k := 6) q2 dX8_passing_4 (by decide) q121
  have q123 : gz_OkS M_X8_passing 0 0 0 _ := ok_seti (k := 5) q1 dX8_passing_1 (by decide) q122
  have z : gz_OkS M_X8_passing 0 0 0 sm_X8_passing := q123
  exact gz_met (plainFor_of_name (by decide)) z (by decide) (by decide)
