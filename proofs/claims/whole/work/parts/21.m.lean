noncomputable def lb_X3_pass_45 : gz_Sx := gz_if (gz_jn (gz_la 3)) (gz_sat 70) (gz_seq 62 4 (gz_if (gz_j1 (fun x => decide (x = 0)) (gz_cv 4 6 se_X4_brings (gz_a1 (gz_a1 (gz_a0) (gz_la 3)) (gz_li 1)))) (gz_sat 62) (gz_vv 3 14 se_X3_come (gz_a1 (gz_a1 (gz_a0) (gz_la 0)) (gz_li 2)) (gz_sat 62))) (gz_seta 3 (gz_get 4 6 1 (gz_la 3)) (gz_sat 45)))
noncomputable def sm_X3_pass : gz_Sx := gz_put 3 14 6 .int (gz_la 0) (gz_ib (fun x y => x + y) (gz_get 3 14 6 (gz_dup)) (gz_get 3 14 1 (gz_la 0))) (gz_seq 40 3 (gz_if (gz_j2 (fun x y => decide (x < y)) (gz_get 3 14 6 (gz_la 0)) (gz_i (3600))) (gz_sat 40) (gz_put 3 14 6 .int (gz_la 0) (gz_ib (fun x y => x - y) (gz_get 3 14 6 (gz_dup)) (gz_i (3600))) (gz_vv 3 14 se_X3_come (gz_a1 (gz_a1 (gz_a0) (gz_la 0)) (gz_li 2)) (gz_sat 40)))) (gz_seta 3 (gz_get 3 14 5 (gz_la 0)) (gz_seq 70 3 (gz_loop 45 4 lb_X3_pass_45) (gz_vv 3 14 se_X3_leave (gz_a1 (gz_a1 (gz_a1 (gz_a0) (gz_la 0)) (gz_li 1)) (gz_li 2)) (gz_put 3 14 13 .long (gz_la 0) (gz_lb (fun x y => x + y) (gz_get 3 14 13 (gz_dup)) (gz_i2l (gz_get 3 14 8 (gz_la 0)))) (gz_put 3 14 12 .int (gz_la 0) (gz_cs se_J9_max_7cf53 (gz_a1 (gz_a1 (gz_a0) (gz_get 3 14 12 (gz_la 0))) (gz_get 3 14 8 (gz_la 0)))) (gz_rv)))))))
noncomputable def se_X3_pass : gz_Me := gz_sem none 4 sm_X3_pass
abbrev rm_X3_pass : Room := { frames := 2, cells := 0, slots := 0, locals := 43 }
abbrev M_X3_pass : gz_Mi := (cX3_pass, 4, RX3, 2, 43, "pass", none)
theorem de_X3_pass : yX3_pass.cls ≠ "java/lang/invoke/MethodHandle" ∧ yX3_pass.cls ≠ "java/lang/invoke/VarHandle" ∧ (parseMethodDescriptor yX3_pass.desc).map (fun d => d.parameters.length) = some 2 := by decide +kernel
set_option maxRecDepth 100000 in
theorem mt_X3_pass : gz_Mt yX3_pass cX3_pass 4 none rm_X3_pass se_X3_pass := by
  have q1 : gz_OkE M_X3_pass 0 0 0 0 1 _ := ok_aload_n (i := 0) dX3_pass_0 rfl
  have q2 : gz_OkE M_X3_pass 1 0 0 1 2 _ := ok_dup dX3_pass_1
  have q3 : gz_OkE M_X3_pass 1 0 0 1 5 _ := ok_get q2 cl_3 (k := 6) (by decide) in_3 wd_48 dX3_pass_2
  have q4 : gz_OkE M_X3_pass 2 0 0 5 6 _ := ok_aload_n (i := 0) dX3_pass_5 rfl
  have q5 : gz_OkE M_X3_pass 2 0 0 5 9 _ := ok_get q4 cl_3 (k := 1) (by decide) in_3 wd_45 dX3_pass_6
  have q6 : gz_OkE M_X3_pass 1 0 0 1 10 _ := ok_iadd q3 q5 dX3_pass_9
  have q7 : gz_OkE M_X3_pass 0 0 0 13 14 _ := ok_aload_n (i := 0) dX3_pass_13 rfl
  have q8 : gz_OkE M_X3_pass 0 0 0 13 17 _ := ok_get q7 cl_3 (k := 6) (by decide) in_3 wd_48 dX3_pass_14
  have q9 : gz_OkE M_X3_pass 1 0 0 17 20 _ := ok_sipush (v := 3600) dX3_pass_17 kc_s3600
  have q10 : gz_OkJ M_X3_pass 0 0 0 13 40 23 _ := ok_ic_lt q8 q9 dX3_pass_20 (by decide)
  have q11 : gz_OkS M_X3_pass 0 0 40 _ := ok_at
  have q12 : gz_OkE M_X3_pass 0 0 0 23 24 _ := ok_aload_n (i := 0) dX3_pass_23 rfl
  have q13 : gz_OkE M_X3_pass 1 0 0 24 25 _ := ok_dup dX3_pass_24
  have q14 : gz_OkE M_X3_pass 1 0 0 24 28 _ := ok_get q13 cl_3 (k := 6) (by decide) in_3 wd_48 dX3_pass_25
  have q15 : gz_OkE M_X3_pass 2 0 0 28 31 _ := ok_sipush (v := 3600) dX3_pass_28 kc_s3600
  have q16 : gz_OkE M_X3_pass 1 0 0 24 32 _ := ok_isub q14 q15 dX3_pass_31
  have q17 : gz_OkA M_X3_pass 0 0 0 35 35 0 _ := ok_a0
  have q18 : gz_OkE M_X3_pass 0 0 0 35 36 _ := ok_aload_n (i := 0) dX3_pass_35 rfl
  have q19 : gz_OkA M_X3_pass 0 0 0 35 36 1 _ := ok_a1 q17 q18
  have q20 : gz_OkE M_X3_pass 2 0 0 36 37 _ := ok_iload_n (i := 2) dX3_pass_36 rfl
  have q21 : gz_OkA M_X3_pass 0 0 0 35 37 2 _ := ok_a1 q19 q20
  have q22 : gz_OkS M_X3_pass 0 0 40 _ := ok_at
  have q23 : gz_OkS M_X3_pass 0 0 35 _ := ok_vv q21 mt_X3_come cl_3 wd_504 wd_505 de_X3_come (by decide) (by decide) wd_506 wd_507 wd_508 dX3_pass_37 q22
  have q24 : gz_OkS M_X3_pass 0 0 23 _ := ok_put (ty := .int) q12 q16 cl_3 (k := 6) (by decide) in_3 wd_48 tyX3 tyX3_ok nmX3 rfl rfl dX3_pass_32 q23
  have q25 : gz_OkS M_X3_pass 0 0 13 _ := ok_if q10 q11 q24
  have q26 : gz_OkE M_X3_pass 0 0 0 40 41 _ := ok_aload_n (i := 0) dX3_pass_40 rfl
  have q27 : gz_OkE M_X3_pass 0 0 0 40 44 _ := ok_get q26 cl_3 (k := 5) (by decide) in_3 wd_49 dX3_pass_41
  have q28 : gz_OkE M_X3_pass 0 0 0 45 46 _ := ok_aload_n (i := 3) dX3_pass_45 rfl
  have q29 : gz_OkJ M_X3_pass 0 0 0 45 70 49 _ := ok_jn q28 dX3_pass_46 (by decide)
  have q30 : gz_OkS M_X3_pass 0 0 70 _ := ok_at
  have q31 : gz_OkA M_X3_pass 0 0 0 49 49 0 _ := ok_a0
  have q32 : gz_OkE M_X3_pass 0 0 0 49 50 _ := ok_aload_n (i := 3) dX3_pass_49 rfl
  have q33 : gz_OkA M_X3_pass 0 0 0 49 50 1 _ := ok_a1 q31 q32
  have q34 : gz_OkE M_X3_pass 2 0 0 50 51 _ := ok_iload_n (i := 1) dX3_pass_50 rfl
  have q35 : gz_OkA M_X3_pass 0 0 0 49 51 2 _ := ok_a1 q33 q34
  have q36 : gz_OkE M_X3_pass 0 0 0 49 54 _ := ok_cv q35 mt_X4_brings cl_4 wd_509 wd_495 de_X4_brings (by decide) (by decide) wd_510 wd_511 wd_512 dX3_pass_51 (by decide)
  have q37 : gz_OkJ M_X3_pass 0 0 0 49 62 57 _ := ok_if_eq q36 dX3_pass_54 (by decide)
  have q38 : gz_OkS M_X3_pass 0 0 62 _ := ok_at
  have q39 : gz_OkA M_X3_pass 0 0 0 57 57 0 _ := ok_a0
  have q40 : gz_OkE M_X3_pass 0 0 0 57 58 _ := ok_aload_n (i := 0) dX3_pass_57 rfl
  have q41 : gz_OkA M_X3_pass 0 0 0 57 58 1 _ := ok_a1 q39 q40
  have q42 : gz_OkE M_X3_pass 2 0 0 58 59 _ := ok_iload_n (i := 2) dX3_pass_58 rfl
  have q43 : gz_OkA M_X3_pass 0 0 0 57 59 2 _ := ok_a1 q41 q42
  have q44 : gz_OkS M_X3_pass 0 0 62 _ := ok_at
  have q45 : gz_OkS M_X3_pass 0 0 57 _ := ok_vv q43 mt_X3_come cl_3 wd_504 wd_505 de_X3_come (by decide) (by decide) wd_506 wd_507 wd_508 dX3_pass_59 q44
  have q46 : gz_OkS M_X3_pass 0 0 49 _ := ok_if q37 q38 q45
  have q47 : gz_OkE M_X3_pass 0 0 0 62 63 _ := ok_aload_n (i := 3) dX3_pass_62 rfl
  have q48 : gz_OkE M_X3_pass 0 0 0 62 66 _ := ok_get q47 cl_4 (k := 1) (by decide) in_4 wd_50 dX3_pass_63
  have q49 : gz_OkS M_X3_pass 0 0 67 (gz_sat 45) := ok_goto dX3_pass_67 (by decide)
  have q50 : gz_OkS M_X3_pass 0 0 62 _ := ok_seta_n (k := 3) q48 dX3_pass_66 rfl (by decide) q49
  have q51 : gz_OkS M_X3_pass 0 0 49 _ := ok_seq (L := 62) (k := 4) q46 q50
  have q52 : gz_OkS M_X3_pass 0 0 45 _ := ok_if q29 q30 q51
  have q53 : gz_OkS M_X3_pass 0 0 45 lb_X3_pass_45 := q52
  have q54 : gz_OkS M_X3_pass 0 0 45 _ := ok_loop (k := 4) q53 rfl rfl
  have q55 : gz_OkA M_X3_pass 0 0 0 70 70 0 _ := ok_a0
  have q56 : gz_OkE M_X3_pass 0 0 0 70 71 _ := ok_aload_n (i := 0) dX3_pass_70 rfl
  have q57 : gz_OkA M_X3_pass 0 0 0 70 71 1 _ := ok_a1 q55 q56
  have q58 : gz_OkE M_X3_pass 2 0 0 71 72 _ := ok_iload_n (i := 1) dX3_pass_71 rfl
  have q59 : gz_OkA M_X3_pass 0 0 0 70 72 2 _ := ok_a1 q57 q58
  have q60 : gz_OkE M_X3_pass 4 0 0 72 73 _ := ok_iload_n (i := 2) dX3_pass_72 rfl
  have q61 : gz_OkA M_X3_pass 0 0 0 70 73 3 _ := ok_a1 q59 q60
  have q62 : gz_OkE M_X3_pass 0 0 0 76 77 _ := ok_aload_n (i := 0) dX3_pass_76 rfl
  have q63 : gz_OkE M_X3_pass 1 0 0 77 78 _ := ok_dup dX3_pass_77
  have q64 : gz_OkE M_X3_pass 1 0 0 77 81 _ := ok_get q63 cl_3 (k := 13) (by decide) in_3 wd_51 dX3_pass_78
  have q65 : gz_OkE M_X3_pass 3 0 0 81 82 _ := ok_aload_n (i := 0) dX3_pass_81 rfl
  have q66 : gz_OkE M_X3_pass 3 0 0 81 85 _ := ok_get q65 cl_3 (k := 8) (by decide) in_3 wd_52 dX3_pass_82
  have q67 : gz_OkE M_X3_pass 3 0 0 81 86 _ := ok_i2l q66 dX3_pass_85
  have q68 : gz_OkE M_X3_pass 1 0 0 77 87 _ := ok_ladd q64 q67 dX3_pass_86
  have q69 : gz_OkE M_X3_pass 0 0 0 90 91 _ := ok_aload_n (i := 0) dX3_pass_90 rfl
  have q70 : gz_OkA M_X3_pass 1 0 0 91 91 0 _ := ok_a0
  have q71 : gz_OkE M_X3_pass 1 0 0 91 92 _ := ok_aload_n (i := 0) dX3_pass_91 rfl
  have q72 : gz_OkE M_X3_pass 1 0 0 91 95 _ := ok_get q71 cl_3 (k := 12) (by decide) in_3 wd_53 dX3_pass_92
  have q73 : gz_OkA M_X3_pass 1 0 0 91 95 1 _ := ok_a1 q70 q72
  have q74 : gz_OkE M_X3_pass 3 0 0 95 96 _ := ok_aload_n (i := 0) dX3_pass_95 rfl
  have q75 : gz_OkE M_X3_pass 3 0 0 95 99 _ := ok_get q74 cl_3 (k := 8) (by decide) in_3 wd_52 dX3_pass_96
  have q76 : gz_OkA M_X3_pass 1 0 0 91 99 2 _ := ok_a1 q73 q75
  have q77 : gz_OkE M_X3_pass 1 0 0 91 102 _ := ok_cs q76 mt_J9_max_7cf53 wd_418 wd_411 de_J9_max_7cf53 (by decide) (by decide) wd_513 wd_420 dX3_pass_99 (by decide)
  have q78 : gz_OkS M_X3_pass 0 0 105 _ := ok_rv dX3_pass_105
  have q79 : gz_OkS M_X3_pass 0 0 90 _ := ok_put (ty := .int) q69 q77 cl_3 (k := 12) (by decide) in_3 wd_53 tyX3 tyX3_ok nmX3 rfl rfl dX3_pass_102 q78
  have q80 : gz_OkS M_X3_pass 0 0 76 _ := ok_put (ty := .long) q62 q68 cl_3 (k := 13) (by decide) in_3 wd_51 tyX3 tyX3_ok nmX3 rfl rfl dX3_pass_87 q79
  have q81 : gz_OkS M_X3_pass 0 0 70 _ := ok_vv q61 mt_X3_leave cl_3 wd_514 wd_505 de_X3_leave (by decide) (by decide) wd_515 wd_516 wd_517 dX3_pass_73 q80
  have q82 : gz_OkS M_X3_pass 0 0 45 _ := ok_seq (L := 70) (k := 3) q54 q81
  have q83 : gz_OkS M_X3_pass 0 0 40 _ := ok_seta_n (k := 3) q27 dX3_pass_44 rfl (by decide) q82
  have q84 : gz_OkS M_X3_pass 0 0 13 _ := ok_seq (L := 40) (k := 3) q25 q83
  have q85 : gz_OkS M_X3_pass 0 0 0 _ := ok_put (ty := .int) q1 q6 cl_3 (k := 6) (by decide) in_3 wd_48 tyX3 tyX3_ok nmX3 rfl rfl dX3_pass_10 q84
  have z : gz_OkS M_X3_pass 0 0 0 sm_X3_pass := q85
  exact gz_met (plainFor_of_name (by decide)) z (by decide) (by decide)
noncomputable def lb_X1_pass_25 : gz_Sx := gz_if (gz_j2 (fun x y => decide (y ≤ x)) (gz_li 2) (gz_get 1 11 5 (gz_la 0))) (gz_sat 65) (gz_vv 3 14 se_X3_pass (gz_a1 (gz_a1 (gz_a1 (gz_a0) (gz_ald 103 (gz_get 1 11 0 (gz_la 0)) (gz_li 2))) (gz_li 1)) (gz_te (gz_j1 (fun x => decide (x = 0)) (gz_ib (fun x y => x &&& y) (gz_ib (fun x y => x >>> (y &&& 31)) (gz_get 1 11 10 (gz_la 0)) (gz_li 2)) (gz_i (1)))) (gz_i (0)) (gz_i (1)))) (gz_inc 2 (1) (gz_sat 25)))
noncomputable def sm_X1_pass : gz_Sx := gz_put 1 11 10 .int (gz_la 0) (gz_cv 1 11 se_X1_lampsAt (gz_a1 (gz_a1 (gz_a0) (gz_la 0)) (gz_li 1))) (gz_ast 100 (gz_get 1 11 4 (gz_la 0)) (gz_iz (fun x y => x - x / y * y) (gz_li 1) (gz_i (200))) (gz_get 1 11 10 (gz_la 0)) (gz_seti 2 (gz_i (0)) (gz_seq 65 0 (gz_loop 25 3 lb_X1_pass_25) (gz_rv))))
noncomputable def se_X1_pass : gz_Me := gz_sem none 3 sm_X1_pass
abbrev rm_X1_pass : Room := { frames := 3, cells := 0, slots := 0, locals := 66 }
abbrev M_X1_pass : gz_Mi := (cX1_pass, 3, RX1, 3, 66, "pass", none)
theorem de_X1_pass : yX1_pass.cls ≠ "java/lang/invoke/MethodHandle" ∧ yX1_pass.cls ≠ "java/lang/invoke/VarHandle" ∧ (parseMethodDescriptor yX1_pass.desc).map (fun d => d.parameters.length) = some 1 := by decide +kernel
set_option maxRecDepth 100000 in
theorem mt_X1_pass : gz_Mt yX1_pass cX1_pass 3 none rm_X1_pass se_X1_pass := by
  have q1 : gz_OkE M_X1_pass 0 0 0 0 1 _ := ok_aload_n (i := 0) dX1_pass_0 rfl
  have q2 : gz_OkA M_X1_pass 1 0 0 1 1 0 _ := ok_a0
  have q3 : gz_OkE M_X1_pass 1 0 0 1 2 _ := ok_aload_n (i := 0) dX1_pass_1 rfl
  have q4 : gz_OkA M_X1_pass 1 0 0 1 2 1 _ := ok_a1 q2 q3
  have q5 : gz_OkE M_X1_pass 3 0 0 2 3 _ := ok_iload_n (i := 1) dX1_pass_2 rfl
  have q6 : gz_OkA M_X1_pass 1 0 0 1 3 2 _ := ok_a1 q4 q5
  have q7 : gz_OkE M_X1_pass 1 0 0 1 6 _ := ok_cv q6 mt_X1_lampsAt cl_1 wd_518 wd_458 de_X1_lampsAt (by decide) (by decide) wd_519 wd_520 wd_521 dX1_pass_3 (by decide)
  have q8 : gz_OkE M_X1_pass 0 0 0 9 10 _ := ok_aload_n (i := 0) dX1_pass_9 rfl
  have q9 : gz_OkE M_X1_pass 0 0 0 9 13 _ := ok_get q8 cl_1 (k := 4) (by decide) in_1 wd_19 dX1_pass_10
  have q10 : gz_OkE M_X1_pass 1 0 0 13 14 _ := ok_iload_n (i := 1) dX1_pass_13 rfl
  have q11 : gz_OkE M_X1_pass 2 0 0 14 17 _ := ok_sipush (v := 200) dX1_pass_14 kc_s200
  have q12 : gz_OkE M_X1_pass 1 0 0 13 18 _ := ok_irem q10 q11 dX1_pass_17
  have q13 : gz_OkE M_X1_pass 2 0 0 18 19 _ := ok_aload_n (i := 0) dX1_pass_18 rfl
  have q14 : gz_OkE M_X1_pass 2 0 0 18 22 _ := ok_get q13 cl_1 (k := 10) (by decide) in_1 wd_34 dX1_pass_19
  have q15 : gz_OkE M_X1_pass 0 0 0 23 24 _ := ok_iconst (v := 0) dX1_pass_23 kc_i0
  have q16 : gz_OkE M_X1_pass 0 0 0 25 26 _ := ok_iload_n (i := 2) dX1_pass_25 rfl
  have q17 : gz_OkE M_X1_pass 1 0 0 26 27 _ := ok_aload_n (i := 0) dX1_pass_26 rfl
  have q18 : gz_OkE M_X1_pass 1 0 0 26 30 _ := ok_get q17 cl_1 (k := 5) (by decide) in_1 wd_20 dX1_pass_27
  have q19 : gz_OkJ M_X1_pass 0 0 0 25 65 33 _ := ok_ic_ge q16 q18 dX1_pass_30 (by decide)
  have q20 : gz_OkS M_X1_pass 0 0 65 _ := ok_at
  have q21 : gz_OkA M_X1_pass 0 0 0 33 33 0 _ := ok_a0
  have q22 : gz_OkE M_X1_pass 0 0 0 33 34 _ := ok_aload_n (i := 0) dX1_pass_33 rfl
  have q23 : gz_OkE M_X1_pass 0 0 0 33 37 _ := ok_get q22 cl_1 (k := 0) (by decide) in_1 wd_15 dX1_pass_34
  have q24 : gz_OkE M_X1_pass 1 0 0 37 38 _ := ok_iload_n (i := 2) dX1_pass_37 rfl
  have q25 : gz_OkE M_X1_pass 0 0 0 33 39 _ := ok_aald103 q23 q24 dX1_pass_38
  have q26 : gz_OkA M_X1_pass 0 0 0 33 39 1 _ := ok_a1 q21 q25
  have q27 : gz_OkE M_X1_pass 2 0 0 39 40 _ := ok_iload_n (i := 1) dX1_pass_39 rfl
  have q28 : gz_OkA M_X1_pass 0 0 0 33 40 2 _ := ok_a1 q26 q27
  have q29 : gz_OkE M_X1_pass 4 0 0 40 41 _ := ok_aload_n (i := 0) dX1_pass_40 rfl
  have q30 : gz_OkE M_X1_pass 4 0 0 40 44 _ := ok_get q29 cl_1 (k := 10) (by decide) in_1 wd_34 dX1_pass_41
  have q31 : gz_OkE M_X1_pass 5 0 0 44 45 _ := ok_iload_n (i := 2) dX1_pass_44 rfl
  have q32 : gz_OkE M_X1_pass 4 0 0 40 46 _ := ok_ishr q30 q31 dX1_pass_45
  have q33 : gz_OkE M_X1_pass 5 0 0 46 47 _ := ok_iconst (v := 1) dX1_pass_46 kc_i1
  have q34 : gz_OkE M_X1_pass 4 0 0 40 48 _ := ok_iand q32 q33 dX1_pass_47
  have q35 : gz_OkJ M_X1_pass 4 0 0 40 55 51 _ := ok_if_eq q34 dX1_pass_48 (by decide)
  have q36 : gz_OkE M_X1_pass 4 0 0 51 52 _ := ok_iconst (v := 1) dX1_pass_51 kc_i1
  have q37 : gz_OkE M_X1_pass 4 0 0 51 56 _ := ok_eg q36 dX1_pass_52 (by decide)
  have q38 : gz_OkE M_X1_pass 4 0 0 55 56 _ := ok_iconst (v := 0) dX1_pass_55 kc_i0
  have q39 : gz_OkE M_X1_pass 4 0 0 40 56 _ := ok_te2 q35 q37 q38
  have q40 : gz_OkA M_X1_pass 0 0 0 33 56 3 _ := ok_a1 q28 q39
  have q41 : gz_OkS M_X1_pass 0 0 62 (gz_sat 25) := ok_goto dX1_pass_62 (by decide)
  have q42 : gz_OkS M_X1_pass 0 0 59 _ := ok_inc (v := 1) dX1_pass_59 kc_i1 (by decide) q41
  have q43 : gz_OkS M_X1_pass 0 0 33 _ := ok_vv q40 mt_X3_pass cl_3 wd_522 wd_505 de_X3_pass (by decide) (by decide) wd_523 wd_524 wd_525 dX1_pass_56 q42
  have q44 : gz_OkS M_X1_pass 0 0 25 _ := ok_if q19 q20 q43
  have q45 : gz_OkS M_X1_pass 0 0 25 lb_X1_pass_25 := q44
  have q46 : gz_OkS M_X1_pass 0 0 25 _ := ok_loop (k := 3) q45 rfl rfl
  have q47 : gz_OkS M_X1_pass 0 0 65 _ := ok_rv dX1_pass_65
  have q48 : gz_OkS M_X1_pass 0 0 25 _ := ok_seq (L := 65) (k := 0) q46 q47
  have q49 : gz_OkS M_X1_pass 0 0 23 _ := ok_seti_n (k := 2) q15 dX1_pass_24 rfl (by decide) q48
  have q50 : gz_OkS M_X1_pass 0 0 9 _ := ok_iast q9 q12 q14 dX1_pass_22 q49
  have q51 : gz_OkS M_X1_pass 0 0 0 _ := ok_put (ty := .int) q1 q7 cl_1 (k := 10) (by decide) in_1 wd_34 tyX1 tyX1_ok nmX1 rfl rfl dX1_pass_6 q50
  have z : gz_OkS M_X1_pass 0 0 0 sm_X1_pass := q51
  exact gz_met (plainFor_of_name (by decide)) z (by decide) (by decide)
noncomputable def sm_X2_init : gz_Sx := gz_sup (gz_la 0) (gz_put 2 9 0 .int (gz_la 0) (gz_i (20)) (gz_put 2 9 4 (.array .int) (gz_la 0) (gz_nar 100 (.int 0) (gz_i (4)) 4) (gz_put 2 9 5 (.array .int) (gz_la 0) (gz_nar 100 (.int 0) (gz_i (4)) 4) (gz_put 2 9 6 (.array .int) (gz_la 0) (gz_nar 100 (.int 0) (gz_i (4)) 4) (gz_put 2 9 7 (.array .int) (gz_la 0) (gz_nar 100 (.int 0) (gz_i (4)) 4) (gz_put 2 9 8 (.array .int) (gz_la 0) (gz_nar 100 (.int 0) (gz_i (90)) 90) (gz_rv)))))))
noncomputable def se_X2_init : gz_Me := gz_sem none 1 sm_X2_init
abbrev rm_X2_init : Room := { frames := 1, cells := 5, slots := 106, locals := 12 }
abbrev M_X2_init : gz_Mi := (cX2_init, 1, RX2, 1, 12, "<init>", none)
theorem de_X2_init : yX2_init.cls ≠ "java/lang/invoke/MethodHandle" ∧ yX2_init.cls ≠ "java/lang/invoke/VarHandle" ∧ (parseMethodDescriptor yX2_init.desc).map (fun d => d.parameters.length) = some 0 := by decide +kernel
set_option maxRecDepth 100000 in
theorem mt_X2_init : gz_Mt yX2_init cX2_init 1 none rm_X2_init se_X2_init := by
  have q1 : gz_OkE M_X2_init 0 0 0 0 1 _ := ok_aload_n (i := 0) dX2_init_0 rfl
  have q2 : gz_OkE M_X2_init 0 0 0 4 5 _ := ok_aload_n (i := 0) dX2_init_4 rfl
  have q3 : gz_OkE M_X2_init 1 0 0 5 7 _ := ok_bipush (v := 20) dX2_init_5 kc_b20
  have q4 : gz_OkE M_X2_init 0 0 0 10 11 _ := ok_aload_n (i := 0) dX2_init_10 rfl
  have q5 : gz_OkE M_X2_init 1 0 0 11 12 _ := ok_iconst (v := 4) dX2_init_11 kc_i4
  have q6 : gz_OkE M_X2_init 1 1 4 11 14 _ := ok_newI (n := 4) q5 wd_0 (by decide) dX2_init_12
  have q7 : gz_OkE M_X2_init 0 0 0 17 18 _ := ok_aload_n (i := 0) dX2_init_17 rfl
  have q8 : gz_OkE M_X2_init 1 0 0 18 19 _ := ok_iconst (v := 4) dX2_init_18 kc_i4
  have q9 : gz_OkE M_X2_init 1 1 4 18 21 _ := ok_newI (n := 4) q8 wd_0 (by decide) dX2_init_19
  have q10 : gz_OkE M_X2_init 0 0 0 24 25 _ := ok_aload_n (i := 0) dX2_init_24 rfl
  have q11 : gz_OkE M_X2_init 1 0 0 25 26 _ := ok_iconst (v := 4) dX2_init_25 kc_i4
  have q12 : gz_OkE M_X2_init 1 1 4 25 28 _ := ok_newI (n := 4) q11 wd_0 (by decide) dX2_init_26
  have q13 : gz_OkE M_X2_init 0 0 0 31 32 _ := ok_aload_n (i := 0) dX2_init_31 rfl
  have q14 : gz_OkE M_X2_init 1 0 0 32 33 _ := ok_iconst (v := 4) dX2_init_32 kc_i4
  have q15 : gz_OkE M_X2_init 1 1 4 32 35 _ := ok_newI (n := 4) q14 wd_0 (by decide) dX2_init_33
  have q16 : gz_OkE M_X2_init 0 0 0 38 39 _ := ok_aload_n (i := 0) dX2_init_38 rfl
  have q17 : gz_OkE M_X2_init 1 0 0 39 41 _ := ok_bipush (v := 90) dX2_init_39 kc_b90
  have q18 : gz_OkE M_X2_init 1 1 90 39 43 _ := ok_newI (n := 90) q17 wd_0 (by decide) dX2_init_41
  have q19 : gz_OkS M_X2_init 0 0 46 _ := ok_rv dX2_init_46
  have q20 : gz_OkS M_X2_init 1 90 38 _ := ok_putF (ty := (.array .int)) q16 q18 cl_2 (k := 8) (by decide) in_2 wd_40 tyX2 tyX2_ok nmX2 rfl rfl rfl rfl dX2_init_43 q19
  have q21 : gz_OkS M_X2_init 2 94 31 _ := ok_putF (ty := (.array .int)) q13 q15 cl_2 (k := 7) (by decide) in_2 wd_39 tyX2 tyX2_ok nmX2 rfl rfl rfl rfl dX2_init_35 q20
  have q22 : gz_OkS M_X2_init 3 98 24 _ := ok_putF (ty := (.array .int)) q10 q12 cl_2 (k := 6) (by decide) in_2 wd_38 tyX2 tyX2_ok nmX2 rfl rfl rfl rfl dX2_init_28 q21
  have q23 : gz_OkS M_X2_init 4 102 17 _ := ok_putF (ty := (.array .int)) q7 q9 cl_2 (k := 5) (by decide) in_2 wd_37 tyX2 tyX2_ok nmX2 rfl rfl rfl rfl dX2_init_21 q22
  have q24 : gz_OkS M_X2_init 5 106 10 _ := ok_putF (ty := (.array .int)) q4 q6 cl_2 (k := 4) (by decide) in_2 wd_36 tyX2 tyX2_ok nmX2 rfl rfl rfl rfl dX2_init_14 q23
  have q25 : gz_OkS M_X2_init 5 106 4 _ := ok_put (ty := .int) q2 q3 cl_2 (k := 0) (by decide) in_2 wd_35 tyX2 tyX2_ok nmX2 rfl rfl dX2_init_7 q24
  have q26 : gz_OkS M_X2_init 5 106 0 _ := ok_sup q1 wd_526 wd_403 wd_404 (by decide) (by decide) dX2_init_1 q25
  have z : gz_OkS M_X2_init 5 106 0 sm_X2_init := q26
  exact gz_met (plainFor_of_name (by decide)) z (by decide) (by decide)
noncomputable def sm_X2_add : gz_Sx := gz_ast 100 (gz_get 2 9 4 (gz_la 0)) (gz_get 2 9 2 (gz_la 0)) (gz_li 1) (gz_ast 100 (gz_get 2 9 5 (gz_la 0)) (gz_get 2 9 2 (gz_la 0)) (gz_li 2) (gz_put 2 9 2 .int (gz_la 0) (gz_ib (fun x y => x + y) (gz_get 2 9 2 (gz_dup)) (gz_i (1))) (gz_rv)))
noncomputable def se_X2_add : gz_Me := gz_sem none 3 sm_X2_add
abbrev rm_X2_add : Room := { frames := 0, cells := 0, slots := 0, locals := 0 }
abbrev M_X2_add : gz_Mi := (cX2_add, 3, RX2, 0, 0, "add", none)
theorem de_X2_add : yX2_add.cls ≠ "java/lang/invoke/MethodHandle" ∧ yX2_add.cls ≠ "java/lang/invoke/VarHandle" ∧ (parseMethodDescriptor yX2_add.desc).map (fun d => d.parameters.length) = some 2 := by decide +kernel
set_option maxRecDepth 100000 in
theorem mt_X2_add : gz_Mt yX2_add cX2_add 3 none rm_X2_add se_X2_add := by
  have q1 : gz_OkE M_X2_add 0 0 0 0 1 _ := ok_aload_n (i := 0) dX2_add_0 rfl
  have q2 : gz_OkE M_X2_add 0 0 0 0 4 _ := ok_get q1 cl_2 (k := 4) (by decide) in_2 wd_36 dX2_add_1
  have q3 : gz_OkE M_X2_add 1 0 0 4 5 _ := ok_aload_n (i := 0) dX2_add_4 rfl
  have q4 : gz_OkE M_X2_add 1 0 0 4 8 _ := ok_get q3 cl_2 (k := 2) (by decide) in_2 wd_41 dX2_add_5
  have q5 : gz_OkE M_X2_add 2 0 0 8 9 _ := ok_iload_n (i := 1) dX2_add_8 rfl
  have q6 : gz_OkE M_X2_add 0 0 0 10 11 _ := ok_aload_n (i := 0) dX2_add_10 rfl
  have q7 : gz_OkE M_X2_add 0 0 0 10 14 _ := ok_get q6 cl_2 (k := 5) (by decide) in_2 wd_37 dX2_add_11
  have q8 : gz_OkE M_X2_add 1 0 0 14 15 _ := ok_aload_n (i := 0) dX2_add_14 rfl
  have q9 : gz_OkE M_X2_add 1 0 0 14 18 _ := ok_get q8 cl_2 (k := 2) (by decide) in_2 wd_41 dX2_add_15
  have q10 : gz_OkE M_X2_add 2 0 0 18 19 _ := ok_iload_n (i := 2) dX2_add_18 rfl
  have q11 : gz_OkE M_X2_add 0 0 0 20 21 _ := ok_aload_n (i := 0) dX2_add_20 rfl
  have q12 : gz_OkE M_X2_add 1 0 0 21 22 _ := ok_dup dX2_add_21
  have q13 : gz_OkE M_X2_add 1 0 0 21 25 _ := ok_get q12 cl_2 (k := 2) (by decide) in_2 wd_41 dX2_add_22
  have q14 : gz_OkE M_X2_add 2 0 0 25 26 _ := ok_iconst (v := 1) dX2_add_25 kc_i1
  have q15 : gz_OkE M_X2_add 1 0 0 21 27 _ := ok_iadd q13 q14 dX2_add_26
  have q16 : gz_OkS M_X2_add 0 0 30 _ := ok_rv dX2_add_30
  have q17 : gz_OkS M_X2_add 0 0 20 _ := ok_put (ty := .int) q11 q15 cl_2 (k := 2) (by decide) in_2 wd_41 tyX2 tyX2_ok nmX2 rfl rfl dX2_add_27 q16
  have q18 : gz_OkS M_X2_add 0 0 10 _ := ok_iast q7 q9 q10 dX2_add_19 q17
  have q19 : gz_OkS M_X2_add 0 0 0 _ := ok_iast q2 q4 q5 dX2_add_9 q18
  have z : gz_OkS M_X2_add 0 0 0 sm_X2_add := q19
  exact gz_met (plainFor_of_name (by decide)) z (by decide) (by decide)
noncomputable def lb_X2_hasStageWithoutGreen_2 : gz_Sx := gz_if (gz_j2 (fun x y => decide (y ≤ x)) (gz_li 1) (gz_get 2 9 2 (gz_la 0))) (gz_sat 28) (gz_if (gz_j2 (fun x y => decide (y ≤ x)) (gz_ald 100 (gz_get 2 9 5 (gz_la 0)) (gz_li 1)) (gz_i (1))) (gz_inc 1 (1) (gz_sat 2)) (gz_ri (gz_i (1))))
noncomputable def sm_X2_hasStageWithoutGreen : gz_Sx := gz_seti 1 (gz_i (0)) (gz_seq 28 0 (gz_loop 2 2 lb_X2_hasStageWithoutGreen_2) (gz_ri (gz_i (0))))
noncomputable def se_X2_hasStageWithoutGreen : gz_Me := gz_sem (some .boolean) 2 sm_X2_hasStageWithoutGreen
abbrev rm_X2_hasStageWithoutGreen : Room := { frames := 0, cells := 0, slots := 0, locals := 0 }
abbrev M_X2_hasStageWithoutGreen : gz_Mi := (cX2_hasStageWithoutGreen, 2, RX2, 0, 0, "hasStageWithoutGreen", none)
theorem de_X2_hasStageWithoutGreen : yX2_hasStageWithoutGreen.cls ≠ "java/lang/invoke/MethodHandle" ∧ yX2_hasStageWithoutGreen.cls ≠ "java/lang/invoke/VarHandle" ∧ (parseMethodDescriptor yX2_hasStageWithoutGreen.desc).map (fun d => d.parameters.length) = some 0 := by decide +kernel
set_option maxRecDepth 100000 in
theorem mt_X2_hasStageWithoutGreen : gz_Mt yX2_hasStageWithoutGreen cX2_hasStageWithoutGreen 2 (some .boolean) rm_X2_hasStageWithoutGreen se_X2_hasStageWithoutGreen := by
  have q1 : gz_OkE M_X2_hasStageWithoutGreen 0 0 0 0 1 _ := ok_iconst (v := 0) dX2_hasStageWithoutGreen_0 kc_i0
  have q2 : gz_OkE M_X2_hasStageWithoutGreen 0 0 0 2 3 _ := ok_iload_n (i := 1) dX2_hasStageWithoutGreen_2 rfl
  have q3 : gz_OkE M_X2_hasStageWithoutGreen 1 0 0 3 4 _ := ok_aload_n (i := 0) dX2_hasStageWithoutGreen_3 rfl
  have q4 : gz_OkE M_X2_hasStageWithoutGreen 1 0 0 3 7 _ := ok_get q3 cl_2 (k := 2) (by decide) in_2 wd_41 dX2_hasStageWithoutGreen_4
  have q5 : gz_OkJ M_X2_hasStageWithoutGreen 0 0 0 2 28 10 _ := ok_ic_ge q2 q4 dX2_hasStageWithoutGreen_7 (by decide)
  have q6 : gz_OkS M_X2_hasStageWithoutGreen 0 0 28 _ := ok_at
  have q7 : gz_OkE M_X2_hasStageWithoutGreen 0 0 0 10 11 _ := ok_aload_n (i := 0) dX2_hasStageWithoutGreen_10 rfl
  have q8 : gz_OkE M_X2_hasStageWithoutGreen 0 0 0 10 14 _ := ok_get q7 cl_2 (k := 5) (by decide) in_2 wd_37 dX2_hasStageWithoutGreen_11
  have q9 : gz_OkE M_X2_hasStageWithoutGreen 1 0 0 14 15 _ := ok_iload_n (i := 1) dX2_hasStageWithoutGreen_14 rfl
  have q10 : gz_OkE M_X2_hasStageWithoutGreen 0 0 0 10 16 _ := ok_iald q8 q9 dX2_hasStageWithoutGreen_15
  have q11 : gz_OkE M_X2_hasStageWithoutGreen 1 0 0 16 17 _ := ok_iconst (v := 1) dX2_hasStageWithoutGreen_16 kc_i1
  have q12 : gz_OkJ M_X2_hasStageWithoutGreen 0 0 0 10 22 20 _ := ok_ic_ge q10 q11 dX2_hasStageWithoutGreen_17 (by decide)
  have q13 : gz_OkS M_X2_hasStageWithoutGreen 0 0 25 (gz_sat 2) := ok_goto dX2_hasStageWithoutGreen_25 (by decide)
  have q14 : gz_OkS M_X2_hasStageWithoutGreen 0 0 22 _ := ok_inc (v := 1) dX2_hasStageWithoutGreen_22 kc_i1 (by decide) q13
  have q15 : gz_OkE M_X2_hasStageWithoutGreen 0 0 0 20 21 _ := ok_iconst (v := 1) dX2_hasStageWithoutGreen_20 kc_i1
  have q16 : gz_OkS M_X2_hasStageWithoutGreen 0 0 20 _ := ok_ri q15 dX2_hasStageWithoutGreen_21
  have q17 : gz_OkS M_X2_hasStageWithoutGreen 0 0 10 _ := ok_if q12 q14 q16
  have q18 : gz_OkS M_X2_hasStageWithoutGreen 0 0 2 _ := ok_if q5 q6 q17
  have q19 : gz_OkS M_X2_hasStageWithoutGreen 0 0 2 lb_X2_hasStageWithoutGreen_2 := q18
  have q20 : gz_OkS M_X2_hasStageWithoutGreen 0 0 2 _ := ok_loop (k := 2) q19 rfl rfl
  have q21 : gz_OkE M_X2_hasStageWithoutGreen 0 0 0 28 29 _ := ok_iconst (v := 0) dX2_hasStageWithoutGreen_28 kc_i0
  have q22 : gz_OkS M_X2_hasStageWithoutGreen 0 0 28 _ := ok_ri q21 dX2_hasStageWithoutGreen_29
  have q23 : gz_OkS M_X2_hasStageWithoutGreen 0 0 2 _ := ok_seq (L := 28) (k := 0) q20 q22
  have q24 : gz_OkS M_X2_hasStageWithoutGreen 0 0 0 _ := ok_seti_n (k := 1) q1 dX2_hasStageWithoutGreen_1 rfl (by decide) q23
  have z : gz_OkS M_X2_hasStageWithoutGreen 0 0 0 sm_X2_hasStageWithoutGreen := q24
  exact gz_met (plainFor_of_name (by decide)) z (by decide) (by decide)
noncomputable def lb_X2_allGreens_4 : gz_Sx := gz_if (gz_j2 (fun x y => decide (y ≤ x)) (gz_li 2) (gz_get 2 9 2 (gz_la 0))) (gz_sat 27) (gz_seti 1 (gz_ib (fun x y => x + y) (gz_li 1) (gz_ald 100 (gz_get 2 9 5 (gz_la 0)) (gz_li 2))) (gz_inc 2 (1) (gz_sat 4)))
noncomputable def sm_X2_allGreens : gz_Sx := gz_seti 1 (gz_i (0)) (gz_seti 2 (gz_i (0)) (gz_seq 27 2 (gz_loop 4 3 lb_X2_allGreens_4) (gz_ri (gz_li 1))))
noncomputable def se_X2_allGreens : gz_Me := gz_sem (some .int) 3 sm_X2_allGreens
abbrev rm_X2_allGreens : Room := { frames := 0, cells := 0, slots := 0, locals := 0 }
abbrev M_X2_allGreens : gz_Mi := (cX2_allGreens, 3, RX2, 0, 0, "allGreens", none)
theorem de_X2_allGreens : yX2_allGreens.cls ≠ "java/lang/invoke/MethodHandle" ∧ yX2_allGreens.cls ≠ "java/lang/invoke/VarHandle" ∧ (parseMethodDescriptor yX2_allGreens.desc).map (fun d => d.parameters.length) = some 0 := by decide +kernel
set_option maxRecDepth 100000 in
theorem mt_X2_allGreens : gz_Mt yX2_allGreens cX2_allGreens 3 (some .int) rm_X2_allGreens se_X2_allGreens := by
  have q1 : gz_OkE M_X2_allGreens 0 0 0 0 1 _ := ok_iconst (v := 0) dX2_allGreens_0 kc_i0
  have q2 : gz_OkE M_X2_allGreens 0 0 0 2 3 _ := ok_iconst (v := 0) dX2_allGreens_2 kc_i0
  have q3 : gz_OkE M_X2_allGreens 0 0 0 4 5 _ := ok_iload_n (i := 2) dX2_allGreens_4 rfl
  have q4 : gz_OkE M_X2_allGreens 1 0 0 5 6 _ := ok_aload_n (i := 0) dX2_allGreens_5 rfl
  have q5 : gz_OkE M_X2_allGreens 1 0 0 5 9 _ := ok_get q4 cl_2 (k := 2) (by decide) in_2 wd_41 dX2_allGreens_6
  have q6 : gz_OkJ M_X2_allGreens 0 0 0 4 27 12 _ := ok_ic_ge q3 q5 dX2_allGreens_9 (by decide)
  have q7 : gz_OkS M_X2_allGreens 0 0 27 _ := ok_at
  have q8 : gz_OkE M_X2_allGreens 0 0 0 12 13 _ := ok_iload_n (i := 1) dX2_allGreens_12 rfl
  have q9 : gz_OkE M_X2_allGreens 1 0 0 13 14 _ := ok_aload_n (i := 0) dX2_allGreens_13 rfl
  have q10 : gz_OkE M_X2_allGreens 1 0 0 13 17 _ := ok_get q9 cl_2 (k := 5) (by decide) in_2 wd_37 dX2_allGreens_14
  have q11 : gz_OkE M_X2_allGreens 2 0 0 17 18 _ := ok_iload_n (i := 2) dX2_allGreens_17 rfl
  have q12 : gz_OkE M_X2_allGreens 1 0 0 13 19 _ := ok_iald q10 q11 dX2_allGreens_18
  have q13 : gz_OkE M_X2_allGreens 0 0 0 12 20 _ := ok_iadd q8 q12 dX2_allGreens_19
  have q14 : gz_OkS M_X2_allGreens 0 0 24 (gz_sat 4) := ok_goto dX2_allGreens_24 (by decide)
  have q15 : gz_OkS M_X2_allGreens 0 0 21 _ := ok_inc (v := 1) dX2_allGreens_21 kc_i1 (by decide) q14
  have q16 : gz_OkS M_X2_allGreens 0 0 12 _ := ok_seti_n (k := 1) q13 dX2_allGreens_20 rfl (by decide) q15
  have q17 : gz_OkS M_X2_allGreens 0 0 4 _ := ok_if q6 q7 q16
  have q18 : gz_OkS M_X2_allGreens 0 0 4 lb_X2_allGreens_4 := q17
  have q19 : gz_OkS M_X2_allGreens 0 0 4 _ := ok_loop (k := 3) q18 rfl rfl
  have q20 : gz_OkE M_X2_allGreens 0 0 0 27 28 _ := ok_iload_n (i := 1) dX2_allGreens_27 rfl
  have q21 : gz_OkS M_X2_allGreens 0 0 27 _ := ok_ri q20 dX2_allGreens_28
  have q22 : gz_OkS M_X2_allGreens 0 0 4 _ := ok_seq (L := 27) (k := 2) q19 q21
  have q23 : gz_OkS M_X2_allGreens 0 0 2 _ := ok_seti_n (k := 2) q2 dX2_allGreens_3 rfl (by decide) q22
  have q24 : gz_OkS M_X2_allGreens 0 0 0 _ := ok_seti_n (k := 1) q1 dX2_allGreens_1 rfl (by decide) q23
  have z : gz_OkS M_X2_allGreens 0 0 0 sm_X2_allGreens := q24
  exact gz_met (plainFor_of_name (by decide)) z (by decide) (by decide)
noncomputable def sm_X2_toldOfStage : gz_Sx := gz_if (gz_ja (gz_j1 (fun x => decide (x < 0)) (gz_li 2)) (gz_j2 (fun x y => decide (x < y)) (gz_li 2) (gz_get 2 9 2 (gz_la 0)))) (gz_sw (gz_li 1) 1 [gz_ri (gz_ald 100 (gz_get 2 9 4 (gz_la 0)) (gz_li 2)), gz_ri (gz_te (gz_j2 (fun x y => decide (y ≤ x)) (gz_li 2) (gz_get 2 9 3 (gz_la 0))) (gz_i (-1)) (gz_ald 100 (gz_get 2 9 5 (gz_la 0)) (gz_li 2))), gz_ri (gz_ald 100 (gz_get 2 9 6 (gz_la 0)) (gz_li 2))] (gz_ri (gz_i (-1)))) (gz_ri (gz_i (-1)))
noncomputable def se_X2_toldOfStage : gz_Me := gz_sem (some .int) 3 sm_X2_toldOfStage
abbrev rm_X2_toldOfStage : Room := { frames := 0, cells := 0, slots := 0, locals := 0 }
abbrev M_X2_toldOfStage : gz_Mi := (cX2_toldOfStage, 3, RX2, 0, 0, "toldOfStage", none)
theorem de_X2_toldOfStage : yX2_toldOfStage.cls ≠ "java/lang/invoke/MethodHandle" ∧ yX2_toldOfStage.cls ≠ "java/lang/invoke/VarHandle" ∧ (parseMethodDescriptor yX2_toldOfStage.desc).map (fun d => d.parameters.length) = some 2 := by decide +kernel
set_option maxRecDepth 100000 in
theorem mt_X2_toldOfStage : gz_Mt yX2_toldOfStage cX2_toldOfStage 3 (some .int) rm_X2_toldOfStage se_X2_toldOfStage := by
  have q1 : gz_OkE M_X2_toldOfStage 0 0 0 0 1 _ := ok_iload_n (i := 2) dX2_toldOfStage_0 rfl
  have q2 : gz_OkJ M_X2_toldOfStage 0 0 0 0 12 4 _ := ok_if_lt q1 dX2_toldOfStage_1 (by decide)
  have q3 : gz_OkE M_X2_toldOfStage 0 0 0 4 5 _ := ok_iload_n (i := 2) dX2_toldOfStage_4 rfl
  have q4 : gz_OkE M_X2_toldOfStage 1 0 0 5 6 _ := ok_aload_n (i := 0) dX2_toldOfStage_5 rfl
  have q5 : gz_OkE M_X2_toldOfStage 1 0 0 5 9 _ := ok_get q4 cl_2 (k := 2) (by decide) in_2 wd_41 dX2_toldOfStage_6
  have q6 : gz_OkJ M_X2_toldOfStage 0 0 0 4 14 12 _ := ok_ic_lt q3 q5 dX2_toldOfStage_9 (by decide)
  have q7 : gz_OkJ M_X2_toldOfStage 0 0 0 0 14 12 _ := ok_ja q2 q6
  have q8 : gz_OkE M_X2_toldOfStage 0 0 0 14 15 _ := ok_iload_n (i := 1) dX2_toldOfStage_14 rfl
  have q9 : gz_OkE M_X2_toldOfStage 0 0 0 73 74 _ := ok_iconst (v := -1) dX2_toldOfStage_73 kc_im1
  have q10 : gz_OkS M_X2_toldOfStage 0 0 73 _ := ok_ri q9 dX2_toldOfStage_74
  have q11 : gz_OkE M_X2_toldOfStage 0 0 0 40 41 _ := ok_aload_n (i := 0) dX2_toldOfStage_40 rfl
  have q12 : gz_OkE M_X2_toldOfStage 0 0 0 40 44 _ := ok_get q11 cl_2 (k := 4) (by decide) in_2 wd_36 dX2_toldOfStage_41
  have q13 : gz_OkE M_X2_toldOfStage 1 0 0 44 45 _ := ok_iload_n (i := 2) dX2_toldOfStage_44 rfl
  have q14 : gz_OkE M_X2_toldOfStage 0 0 0 40 46 _ := ok_iald q12 q13 dX2_toldOfStage_45
  have q15 : gz_OkS M_X2_toldOfStage 0 0 40 _ := ok_ri q14 dX2_toldOfStage_46
  have q16 : gz_OkE M_X2_toldOfStage 0 0 0 47 48 _ := ok_iload_n (i := 2) dX2_toldOfStage_47 rfl
  have q17 : gz_OkE M_X2_toldOfStage 1 0 0 48 49 _ := ok_aload_n (i := 0) dX2_toldOfStage_48 rfl
  have q18 : gz_OkE M_X2_toldOfStage 1 0 0 48 52 _ := ok_get q17 cl_2 (k := 3) (by decide) in_2 wd_42 dX2_toldOfStage_49
  have q19 : gz_OkJ M_X2_toldOfStage 0 0 0 47 64 55 _ := ok_ic_ge q16 q18 dX2_toldOfStage_52 (by decide)
  have q20 : gz_OkE M_X2_toldOfStage 0 0 0 55 56 _ := ok_aload_n (i := 0) dX2_toldOfStage_55 rfl
  have q21 : gz_OkE M_X2_toldOfStage 0 0 0 55 59 _ := ok_get q20 cl_2 (k := 5) (by decide) in_2 wd_37 dX2_toldOfStage_56
  have q22 : gz_OkE M_X2_toldOfStage 1 0 0 59 60 _ := ok_iload_n (i := 2) dX2_toldOfStage_59 rfl
  have q23 : gz_OkE M_X2_toldOfStage 0 0 0 55 61 _ := ok_iald q21 q22 dX2_toldOfStage_60
  have q24 : gz_OkE M_X2_toldOfStage 0 0 0 55 65 _ := ok_eg q23 dX2_toldOfStage_61 (by decide)
  have q25 : gz_OkE M_X2_toldOfStage 0 0 0 64 65 _ := ok_iconst (v := -1) dX2_toldOfStage_64 kc_im1
  have q26 : gz_OkE M_X2_toldOfStage 0 0 0 47 65 _ := ok_te2 q19 q24 q25
  have q27 : gz_OkS M_X2_toldOfStage 0 0 47 _ := ok_ri q26 dX2_toldOfStage_65
  have q28 : gz_OkE M_X2_toldOfStage 0 0 0 66 67 _ := ok_aload_n (i := 0) dX2_toldOfStage_66 rfl
  have q29 : gz_OkE M_X2_toldOfStage 0 0 0 66 70 _ := ok_get q28 cl_2 (k := 6) (by decide) in_2 wd_38 dX2_toldOfStage_67
  have q30 : gz_OkE M_X2_toldOfStage 1 0 0 70 71 _ := ok_iload_n (i := 2) dX2_toldOfStage_70 rfl
  have q31 : gz_OkE M_X2_toldOfStage 0 0 0 66 72 _ := ok_iald q29 q30 dX2_toldOfStage_71
  have q32 : gz_OkS M_X2_toldOfStage 0 0 66 _ := ok_ri q31 dX2_toldOfStage_72
  have q33 : ∀ q ∈ (List.zip [40, 47, 66] [_, _, _] : List (Nat × gz_Sx)), gz_OkS M_X2_toldOfStage 0 0 q.1 q.2 := List.forall_mem_cons.mpr ⟨q15, List.forall_mem_cons.mpr ⟨q27, List.forall_mem_cons.mpr ⟨q32, fun _ h => absurd h List.not_mem_nil⟩⟩⟩
  have q34 : gz_OkS M_X2_toldOfStage 0 0 14 _ := ok_sw (ts := [40, 47, 66]) q8 dX2_toldOfStage_15 (by first | decide | rfl | simp) (by decide) (by decide) rfl q10 q33
  have q35 : gz_OkE M_X2_toldOfStage 0 0 0 12 13 _ := ok_iconst (v := -1) dX2_toldOfStage_12 kc_im1
  have q36 : gz_OkS M_X2_toldOfStage 0 0 12 _ := ok_ri q35 dX2_toldOfStage_13
  have q37 : gz_OkS M_X2_toldOfStage 0 0 0 _ := ok_if q7 q34 q36
  have z : gz_OkS M_X2_toldOfStage 0 0 0 sm_X2_toldOfStage := q37
  exact gz_met (plainFor_of_name (by decide)) z (by decide) (by decide)
noncomputable def lb_X2_layRow_3 : gz_Sx := gz_if (gz_jo (gz_j2 (fun x y => decide (y ≤ x)) (gz_li 4) (gz_li 2)) (gz_j2 (fun x y => decide (y ≤ x)) (gz_li 4) (gz_i (90)))) (gz_sat 30) (gz_ast 100 (gz_get 2 9 8 (gz_la 0)) (gz_li 4) (gz_li 3) (gz_inc 4 (1) (gz_sat 3)))
noncomputable def sm_X2_layRow : gz_Sx := gz_seti 4 (gz_li 1) (gz_seq 30 0 (gz_loop 3 5 lb_X2_layRow_3) (gz_rv))
noncomputable def se_X2_layRow : gz_Me := gz_sem none 5 sm_X2_layRow
abbrev rm_X2_layRow : Room := { frames := 0, cells := 0, slots := 0, locals := 0 }
abbrev M_X2_layRow : gz_Mi := (cX2_layRow, 5, RX2, 0, 0, "layRow", none)
theorem de_X2_layRow : yX2_layRow.cls ≠ "java/lang/invoke/MethodHandle" ∧ yX2_layRow.cls ≠ "java/lang/invoke/VarHandle" ∧ (parseMethodDescriptor yX2_layRow.desc).map (fun d => d.parameters.length) = some 3 := by decide +kernel
set_option maxRecDepth 100000 in
theorem mt_X2_layRow : gz_Mt yX2_layRow cX2_layRow 5 none rm_X2_layRow se_X2_layRow := by
  have q1 : gz_OkE M_X2_layRow 0 0 0 0 1 _ := ok_iload_n (i := 1) dX2_layRow_0 rfl
  have q2 : gz_OkE M_X2_layRow 0 0 0 3 5 _ := ok_iload (i := 4) dX2_layRow_3
  have q3 : gz_OkE M_X2_layRow 1 0 0 5 6 _ := ok_iload_n (i := 2) dX2_layRow_5 rfl
  have q4 : gz_OkJ M_X2_layRow 0 0 0 3 30 9 _ := ok_ic_ge q2 q3 dX2_layRow_6 (by decide)
  have q5 : gz_OkE M_X2_layRow 0 0 0 9 11 _ := ok_iload (i := 4) dX2_layRow_9
  have q6 : gz_OkE M_X2_layRow 1 0 0 11 13 _ := ok_bipush (v := 90) dX2_layRow_11 kc_b90
  have q7 : gz_OkJ M_X2_layRow 0 0 0 9 30 16 _ := ok_ic_ge q5 q6 dX2_layRow_13 (by decide)
  have q8 : gz_OkJ M_X2_layRow 0 0 0 3 30 16 _ := ok_jo q4 q7
  have q9 : gz_OkS M_X2_layRow 0 0 30 _ := ok_at
  have q10 : gz_OkE M_X2_layRow 0 0 0 16 17 _ := ok_aload_n (i := 0) dX2_layRow_16 rfl
  have q11 : gz_OkE M_X2_layRow 0 0 0 16 20 _ := ok_get q10 cl_2 (k := 8) (by decide) in_2 wd_40 dX2_layRow_17
  have q12 : gz_OkE M_X2_layRow 1 0 0 20 22 _ := ok_iload (i := 4) dX2_layRow_20
  have q13 : gz_OkE M_X2_layRow 2 0 0 22 23 _ := ok_iload_n (i := 3) dX2_layRow_22 rfl
  have q14 : gz_OkS M_X2_layRow 0 0 27 (gz_sat 3) := ok_goto dX2_layRow_27 (by decide)
  have q15 : gz_OkS M_X2_layRow 0 0 24 _ := ok_inc (v := 1) dX2_layRow_24 kc_i1 (by decide) q14
  have q16 : gz_OkS M_X2_layRow 0 0 16 _ := ok_iast q11 q12 q13 dX2_layRow_23 q15
  have q17 : gz_OkS M_X2_layRow 0 0 3 _ := ok_if q8 q9 q16
  have q18 : gz_OkS M_X2_layRow 0 0 3 lb_X2_layRow_3 := q17
  have q19 : gz_OkS M_X2_layRow 0 0 3 _ := ok_loop (k := 5) q18 rfl rfl
  have q20 : gz_OkS M_X2_layRow 0 0 30 _ := ok_rv dX2_layRow_30
  have q21 : gz_OkS M_X2_layRow 0 0 3 _ := ok_seq (L := 30) (k := 0) q19 q20
  have q22 : gz_OkS M_X2_layRow 0 0 0 _ := ok_seti (k := 4) q1 dX2_layRow_1 (by decide) q21
  have z : gz_OkS M_X2_layRow 0 0 0 sm_X2_layRow := q22
  exact gz_met (plainFor_of_name (by decide)) z (by decide) (by decide)
noncomputable def lb_X2_layLamps_4 : gz_Sx := gz_if (gz_j2 (fun x y => decide (y ≤ x)) (gz_li 2) (gz_get 2 9 2 (gz_la 0))) (gz_sat 92) (gz_vv 2 9 se_X2_layRow (gz_a1 (gz_a1 (gz_a1 (gz_a1 (gz_a0) (gz_la 0)) (gz_li 1)) (gz_ib (fun x y => x + y) (gz_li 1) (gz_ald 100 (gz_get 2 9 5 (gz_la 0)) (gz_li 2)))) (gz_ald 100 (gz_get 2 9 4 (gz_la 0)) (gz_li 2))) (gz_seti 1 (gz_ib (fun x y => x + y) (gz_li 1) (gz_ald 100 (gz_get 2 9 5 (gz_la 0)) (gz_li 2))) (gz_vv 2 9 se_X2_layRow (gz_a1 (gz_a1 (gz_a1 (gz_a1 (gz_a0) (gz_la 0)) (gz_li 1)) (gz_ib (fun x y => x + y) (gz_li 1) (gz_ald 100 (gz_get 2 9 6 (gz_la 0)) (gz_li 2)))) (gz_ib (fun x y => x &&& y) (gz_ald 100 (gz_get 2 9 4 (gz_la 0)) (gz_li 2)) (gz_ald 100 (gz_get 2 9 4 (gz_la 0)) (gz_cv 2 9 se_X2_behind (gz_a1 (gz_a1 (gz_a0) (gz_la 0)) (gz_li 2)))))) (gz_seti 1 (gz_ib (fun x y => x + y) (gz_li 1) (gz_ald 100 (gz_get 2 9 6 (gz_la 0)) (gz_li 2))) (gz_ast 100 (gz_get 2 9 7 (gz_la 0)) (gz_li 2) (gz_li 1) (gz_inc 2 (1) (gz_sat 4)))))))
noncomputable def sm_X2_layLamps : gz_Sx := gz_seti 1 (gz_i (0)) (gz_seti 2 (gz_i (0)) (gz_seq 92 0 (gz_loop 4 3 lb_X2_layLamps_4) (gz_rv)))
noncomputable def se_X2_layLamps : gz_Me := gz_sem none 3 sm_X2_layLamps
abbrev rm_X2_layLamps : Room := { frames := 1, cells := 0, slots := 0, locals := 24 }
abbrev M_X2_layLamps : gz_Mi := (cX2_layLamps, 3, RX2, 1, 24, "layLamps", none)
theorem de_X2_layLamps : yX2_layLamps.cls ≠ "java/lang/invoke/MethodHandle" ∧ yX2_layLamps.cls ≠ "java/lang/invoke/VarHandle" ∧ (parseMethodDescriptor yX2_layLamps.desc).map (fun d => d.parameters.length) = some 0 := by decide +kernel
set_option maxRecDepth 100000 in
theorem mt_X2_layLamps : gz_Mt yX2_layLamps cX2_layLamps 3 none rm_X2_layLamps se_X2_layLamps := by
  have q1 : gz_OkE M_X2_layLamps 0 0 0 0 1 _ := ok_iconst (v := 0) dX2_layLamps_0 kc_i0
  have q2 : gz_OkE M_X2_layLamps 0 0 0 2 3 _ := ok_iconst (v := 0) dX2_layLamps_2 kc_i0
  have q3 : gz_OkE M_X2_layLamps 0 0 0 4 5 _ := ok_iload_n (i := 2) dX2_layLamps_4 rfl
  have q4 : gz_OkE M_X2_layLamps 1 0 0 5 6 _ := ok_aload_n (i := 0) dX2_layLamps_5 rfl
  have q5 : gz_OkE M_X2_layLamps 1 0 0 5 9 _ := ok_get q4 cl_2 (k := 2) (by decide) in_2 wd_41 dX2_layLamps_6
  have q6 : gz_OkJ M_X2_layLamps 0 0 0 4 92 12 _ := ok_ic_ge q3 q5 dX2_layLamps_9 (by decide)
  have q7 : gz_OkS M_X2_layLamps 0 0 92 _ := ok_at
  have q8 : gz_OkA M_X2_layLamps 0 0 0 12 12 0 _ := ok_a0
  have q9 : gz_OkE M_X2_layLamps 0 0 0 12 13 _ := ok_aload_n (i := 0) dX2_layLamps_12 rfl
  have q10 : gz_OkA M_X2_layLamps 0 0 0 12 13 1 _ := ok_a1 q8 q9
  have q11 : gz_OkE M_X2_layLamps 2 0 0 13 14 _ := ok_iload_n (i := 1) dX2_layLamps_13 rfl
  have q12 : gz_OkA M_X2_layLamps 0 0 0 12 14 2 _ := ok_a1 q10 q11
  have q13 : gz_OkE M_X2_layLamps 4 0 0 14 15 _ := ok_iload_n (i := 1) dX2_layLamps_14 rfl
  have q14 : gz_OkE M_X2_layLamps 5 0 0 15 16 _ := ok_aload_n (i := 0) dX2_layLamps_15 rfl
  have q15 : gz_OkE M_X2_layLamps 5 0 0 15 19 _ := ok_get q14 cl_2 (k := 5) (by decide) in_2 wd_37 dX2_layLamps_16
  have q16 : gz_OkE M_X2_layLamps 6 0 0 19 20 _ := ok_iload_n (i := 2) dX2_layLamps_19 rfl
  have q17 : gz_OkE M_X2_layLamps 5 0 0 15 21 _ := ok_iald q15 q16 dX2_layLamps_20
  have q18 : gz_OkE M_X2_layLamps 4 0 0 14 22 _ := ok_iadd q13 q17 dX2_layLamps_21
  have q19 : gz_OkA M_X2_layLamps 0 0 0 12 22 3 _ := ok_a1 q12 q18
  have q20 : gz_OkE M_X2_layLamps 6 0 0 22 23 _ := ok_aload_n (i := 0) dX2_layLamps_22 rfl
  have q21 : gz_OkE M_X2_layLamps 6 0 0 22 26 _ := ok_get q20 cl_2 (k := 4) (by decide) in_2 wd_36 dX2_layLamps_23
  have q22 : gz_OkE M_X2_layLamps 7 0 0 26 27 _ := ok_iload_n (i := 2) dX2_layLamps_26 rfl
  have q23 : gz_OkE M_X2_layLamps 6 0 0 22 28 _ := ok_iald q21 q22 dX2_layLamps_27
  have q24 : gz_OkA M_X2_layLamps 0 0 0 12 28 4 _ := ok_a1 q19 q23
  have q25 : gz_OkE M_X2_layLamps 0 0 0 31 32 _ := ok_iload_n (i := 1) dX2_layLamps_31 rfl
  have q26 : gz_OkE M_X2_layLamps 1 0 0 32 33 _ := ok_aload_n (i := 0) dX2_layLamps_32 rfl
  have q27 : gz_OkE M_X2_layLamps 1 0 0 32 36 _ := ok_get q26 cl_2 (k := 5) (by decide) in_2 wd_37 dX2_layLamps_33
  have q28 : gz_OkE M_X2_layLamps 2 0 0 36 37 _ := ok_iload_n (i := 2) dX2_layLamps_36 rfl
  have q29 : gz_OkE M_X2_layLamps 1 0 0 32 38 _ := ok_iald q27 q28 dX2_layLamps_37
  have q30 : gz_OkE M_X2_layLamps 0 0 0 31 39 _ := ok_iadd q25 q29 dX2_layLamps_38
  have q31 : gz_OkA M_X2_layLamps 0 0 0 40 40 0 _ := ok_a0
  have q32 : gz_OkE M_X2_layLamps 0 0 0 40 41 _ := ok_aload_n (i := 0) dX2_layLamps_40 rfl
  have q33 : gz_OkA M_X2_layLamps 0 0 0 40 41 1 _ := ok_a1 q31 q32
  have q34 : gz_OkE M_X2_layLamps 2 0 0 41 42 _ := ok_iload_n (i := 1) dX2_layLamps_41 rfl
  have q35 : gz_OkA M_X2_layLamps 0 0 0 40 42 2 _ := ok_a1 q33 q34
  have q36 : gz_OkE M_X2_layLamps 4 0 0 42 43 _ := ok_iload_n (i := 1) dX2_layLamps_42 rfl
  have q37 : gz_OkE M_X2_layLamps 5 0 0 43 44 _ := ok_aload_n (i := 0) dX2_layLamps_43 rfl
  have q38 : gz_OkE M_X2_layLamps 5 0 0 43 47 _ := ok_get q37 cl_2 (k := 6) (by decide) in_2 wd_38 dX2_layLamps_44
  have q39 : gz_OkE M_X2_layLamps 6 0 0 47 48 _ := ok_iload_n (i := 2) dX2_layLamps_47 rfl
  have q40 : gz_OkE M_X2_layLamps 5 0 0 43 49 _ := ok_iald q38 q39 dX2_layLamps_48
  have q41 : gz_OkE M_X2_layLamps 4 0 0 42 50 _ := ok_iadd q36 q40 dX2_layLamps_49
  have q42 : gz_OkA M_X2_layLamps 0 0 0 40 50 3 _ := ok_a1 q35 q41
  have q43 : gz_OkE M_X2_layLamps 6 0 0 50 51 _ := ok_aload_n (i := 0) dX2_layLamps_50 rfl
  have q44 : gz_OkE M_X2_layLamps 6 0 0 50 54 _ := ok_get q43 cl_2 (k := 4) (by decide) in_2 wd_36 dX2_layLamps_51
  have q45 : gz_OkE M_X2_layLamps 7 0 0 54 55 _ := ok_iload_n (i := 2) dX2_layLamps_54 rfl
  have q46 : gz_OkE M_X2_layLamps 6 0 0 50 56 _ := ok_iald q44 q45 dX2_layLamps_55
  have q47 : gz_OkE M_X2_layLamps 7 0 0 56 57 _ := ok_aload_n (i := 0) dX2_layLamps_56 rfl
  have q48 : gz_OkE M_X2_layLamps 7 0 0 56 60 _ := ok_get q47 cl_2 (k := 4) (by decide) in_2 wd_36 dX2_layLamps_57
  have q49 : gz_OkA M_X2_layLamps 8 0 0 60 60 0 _ := ok_a0
  have q50 : gz_OkE M_X2_layLamps 8 0 0 60 61 _ := ok_aload_n (i := 0) dX2_layLamps_60 rfl
  have q51 : gz_OkA M_X2_layLamps 8 0 0 60 61 1 _ := ok_a1 q49 q50
  have q52 : gz_OkE M_X2_layLamps 10 0 0 61 62 _ := ok_iload_n (i := 2) dX2_layLamps_61 rfl
  have q53 : gz_OkA M_X2_layLamps 8 0 0 60 62 2 _ := ok_a1 q51 q52
  have q54 : gz_OkE M_X2_layLamps 8 0 0 60 65 _ := ok_cv q53 mt_X2_behind cl_2 wd_467 wd_406 de_X2_behind (by decide) (by decide) wd_527 wd_469 wd_470 dX2_layLamps_62 (by decide)
  have q55 : gz_OkE M_X2_layLamps 7 0 0 56 66 _ := ok_iald q48 q54 dX2_layLamps_65
  have q56 : gz_OkE M_X2_layLamps 6 0 0 50 67 _ := ok_iand q46 q55 dX2_layLamps_66
  have q57 : gz_OkA M_X2_layLamps 0 0 0 40 67 4 _ := ok_a1 q42 q56
  have q58 : gz_OkE M_X2_layLamps 0 0 0 70 71 _ := ok_iload_n (i := 1) dX2_layLamps_70 rfl
  have q59 : gz_OkE M_X2_layLamps 1 0 0 71 72 _ := ok_aload_n (i := 0) dX2_layLamps_71 rfl
  have q60 : gz_OkE M_X2_layLamps 1 0 0 71 75 _ := ok_get q59 cl_2 (k := 6) (by decide) in_2 wd_38 dX2_layLamps_72
  have q61 : gz_OkE M_X2_layLamps 2 0 0 75 76 _ := ok_iload_n (i := 2) dX2_layLamps_75 rfl
  have q62 : gz_OkE M_X2_layLamps 1 0 0 71 77 _ := ok_iald q60 q61 dX2_layLamps_76
  have q63 : gz_OkE M_X2_layLamps 0 0 0 70 78 _ := ok_iadd q58 q62 dX2_layLamps_77
  have q64 : gz_OkE M_X2_layLamps 0 0 0 79 80 _ := ok_aload_n (i := 0) dX2_layLamps_79 rfl
  have q65 : gz_OkE M_X2_layLamps 0 0 0 79 83 _ := ok_get q64 cl_2 (k := 7) (by decide) in_2 wd_39 dX2_layLamps_80
  have q66 : gz_OkE M_X2_layLamps 1 0 0 83 84 _ := ok_iload_n (i := 2) dX2_layLamps_83 rfl
  have q67 : gz_OkE M_X2_layLamps 2 0 0 84 85 _ := ok_iload_n (i := 1) dX2_layLamps_84 rfl
  have q68 : gz_OkS M_X2_layLamps 0 0 89 (gz_sat 4) := ok_goto dX2_layLamps_89 (by decide)
  have q69 : gz_OkS M_X2_layLamps 0 0 86 _ := ok_inc (v := 1) dX2_layLamps_86 kc_i1 (by decide) q68
  have q70 : gz_OkS M_X2_layLamps 0 0 79 _ := ok_iast q65 q66 q67 dX2_layLamps_85 q69
  have q71 : gz_OkS M_X2_layLamps 0 0 70 _ := ok_seti_n (k := 1) q63 dX2_layLamps_78 rfl (by decide) q70
  have q72 : gz_OkS M_X2_layLamps 0 0 40 _ := ok_vv q57 mt_X2_layRow cl_2 wd_528 wd_406 de_X2_layRow (by decide) (by decide) wd_529 wd_530 wd_531 dX2_layLamps_67 q71
  have q73 : gz_OkS M_X2_layLamps 0 0 31 _ := ok_seti_n (k := 1) q30 dX2_layLamps_39 rfl (by decide) q72
  have q74 : gz_OkS M_X2_layLamps 0 0 12 _ := ok_vv q24 mt_X2_layRow cl_2 wd_528 wd_406 de_X2_layRow (by decide) (by decide) wd_529 wd_530 wd_531 dX2_layLamps_28 q73
  have q75 : gz_OkS M_X2_layLamps 0 0 4 _ := ok_if q6 q7 q74
  have q76 : gz_OkS M_X2_layLamps 0 0 4 lb_X2_layLamps_4 := q75
  have q77 : gz_OkS M_X2_layLamps 0 0 4 _ := ok_loop (k := 3) q76 rfl rfl
  have q78 : gz_OkS M_X2_layLamps 0 0 92 _ := ok_rv dX2_layLamps_92
  have q79 : gz_OkS M_X2_layLamps 0 0 4 _ := ok_seq (L := 92) (k := 0) q77 q78
  have q80 : gz_OkS M_X2_layLamps 0 0 2 _ := ok_seti_n (k := 2) q2 dX2_layLamps_3 rfl (by decide) q79
  have q81 : gz_OkS M_X2_layLamps 0 0 0 _ := ok_seti_n (k := 1) q1 dX2_layLamps_1 rfl (by decide) q80
  have z : gz_OkS M_X2_layLamps 0 0 0 sm_X2_layLamps := q81
  exact gz_met (plainFor_of_name (by decide)) z (by decide) (by decide)
noncomputable def sm_X2_shows : gz_Sx := gz_ri (gz_te (gz_j1 (fun x => decide (x = 0)) (gz_ib (fun x y => x &&& y) (gz_ib (fun x y => x >>> (y &&& 31)) (gz_ald 100 (gz_get 2 9 8 (gz_la 0)) (gz_cv 2 9 se_X2_placeAt (gz_a1 (gz_a1 (gz_a0) (gz_la 0)) (gz_li 2)))) (gz_li 1)) (gz_i (1)))) (gz_i (0)) (gz_i (1)))
noncomputable def se_X2_shows : gz_Me := gz_sem (some .boolean) 3 sm_X2_shows
abbrev rm_X2_shows : Room := { frames := 2, cells := 0, slots := 0, locals := 43 }
abbrev M_X2_shows : gz_Mi := (cX2_shows, 3, RX2, 2, 43, "shows", none)
theorem de_X2_shows : yX2_shows.cls ≠ "java/lang/invoke/MethodHandle" ∧ yX2_shows.cls ≠ "java/lang/invoke/VarHandle" ∧ (parseMethodDescriptor yX2_shows.desc).map (fun d => d.parameters.length) = some 2 := by decide +kernel
set_option maxRecDepth 100000 in
theorem mt_X2_shows : gz_Mt yX2_shows cX2_shows 3 (some .boolean) rm_X2_shows se_X2_shows := by
  have q1 : gz_OkE M_X2_shows 0 0 0 0 1 _ := ok_aload_n (i := 0) dX2_shows_0 rfl
  have q2 : gz_OkE M_X2_shows 0 0 0 0 4 _ := ok_get q1 cl_2 (k := 8) (by decide) in_2 wd_40 dX2_shows_1
  have q3 : gz_OkA M_X2_shows 1 0 0 4 4 0 _ := ok_a0
  have q4 : gz_OkE M_X2_shows 1 0 0 4 5 _ := ok_aload_n (i := 0) dX2_shows_4 rfl
  have q5 : gz_OkA M_X2_shows 1 0 0 4 5 1 _ := ok_a1 q3 q4
  have q6 : gz_OkE M_X2_shows 3 0 0 5 6 _ := ok_iload_n (i := 2) dX2_shows_5 rfl
  have q7 : gz_OkA M_X2_shows 1 0 0 4 6 2 _ := ok_a1 q5 q6
  have q8 : gz_OkE M_X2_shows 1 0 0 4 9 _ := ok_cv q7 mt_X2_placeAt cl_2 wd_486 wd_406 de_X2_placeAt (by decide) (by decide) wd_532 wd_488 wd_489 dX2_shows_6 (by decide)
  have q9 : gz_OkE M_X2_shows 0 0 0 0 10 _ := ok_iald q2 q8 dX2_shows_9
  have q10 : gz_OkE M_X2_shows 1 0 0 10 11 _ := ok_iload_n (i := 1) dX2_shows_10 rfl
  have q11 : gz_OkE M_X2_shows 0 0 0 0 12 _ := ok_ishr q9 q10 dX2_shows_11
  have q12 : gz_OkE M_X2_shows 1 0 0 12 13 _ := ok_iconst (v := 1) dX2_shows_12 kc_i1
  have q13 : gz_OkE M_X2_shows 0 0 0 0 14 _ := ok_iand q11 q12 dX2_shows_13
  have q14 : gz_OkJ M_X2_shows 0 0 0 0 21 17 _ := ok_if_eq q13 dX2_shows_14 (by decide)
  have q15 : gz_OkE M_X2_shows 0 0 0 17 18 _ := ok_iconst (v := 1) dX2_shows_17 kc_i1
  have q16 : gz_OkE M_X2_shows 0 0 0 17 22 _ := ok_eg q15 dX2_shows_18 (by decide)
  have q17 : gz_OkE M_X2_shows 0 0 0 21 22 _ := ok_iconst (v := 0) dX2_shows_21 kc_i0
  have q18 : gz_OkE M_X2_shows 0 0 0 0 22 _ := ok_te2 q14 q16 q17
  have q19 : gz_OkS M_X2_shows 0 0 0 _ := ok_ri q18 dX2_shows_22
  have z : gz_OkS M_X2_shows 0 0 0 sm_X2_shows := q19
  exact gz_met (plainFor_of_name (by decide)) z (by decide) (by decide)
noncomputable def sm_X3_init : gz_Sx := gz_sup (gz_la 0) (gz_put 3 14 0 .int (gz_la 0) (gz_li 1) (gz_put 3 14 1 .int (gz_la 0) (gz_li 2) (gz_put 3 14 2 .int (gz_la 0) (gz_te (gz_j2 (fun x y => decide (¬ x = y)) (gz_li 1) (gz_i (2))) (gz_te (gz_j2 (fun x y => decide (¬ x = y)) (gz_li 1) (gz_i (3))) (gz_li 3) (gz_i (1200))) (gz_i (3600))) (gz_put 3 14 3 .int (gz_la 0) (gz_te (gz_j2 (fun x y => decide (¬ x = y)) (gz_li 1) (gz_i (2))) (gz_te (gz_j2 (fun x y => decide (¬ x = y)) (gz_li 1) (gz_i (1))) (gz_li 4) (gz_cs se_J9_max_7cf53 (gz_a1 (gz_a1 (gz_a0) (gz_i (5))) (gz_li 4)))) (gz_cs se_J9_max_7cf53 (gz_a1 (gz_a1 (gz_a0) (gz_i (8))) (gz_li 4)))) (gz_rv)))))
noncomputable def se_X3_init : gz_Me := gz_sem none 5 sm_X3_init
abbrev rm_X3_init : Room := { frames := 1, cells := 0, slots := 0, locals := 21 }
abbrev M_X3_init : gz_Mi := (cX3_init, 5, RX3, 1, 21, "<init>", none)
theorem de_X3_init : yX3_init.cls ≠ "java/lang/invoke/MethodHandle" ∧ yX3_init.cls ≠ "java/lang/invoke/VarHandle" ∧ (parseMethodDescriptor yX3_init.desc).map (fun d => d.parameters.length) = some 4 := by decide +kernel
set_option maxRecDepth 100000 in
theorem mt_X3_init : gz_Mt yX3_init cX3_init 5 none rm_X3_init se_X3_init := by
  have q1 : gz_OkE M_X3_init 0 0 0 0 1 _ := ok_aload_n (i := 0) dX3_init_0 rfl
  have q2 : gz_OkE M_X3_init 0 0 0 4 5 _ := ok_aload_n (i := 0) dX3_init_4 rfl
  have q3 : gz_OkE M_X3_init 1 0 0 5 6 _ := ok_iload_n (i := 1) dX3_init_5 rfl
  have q4 : gz_OkE M_X3_init 0 0 0 9 10 _ := ok_aload_n (i := 0) dX3_init_9 rfl
  have q5 : gz_OkE M_X3_init 1 0 0 10 11 _ := ok_iload_n (i := 2) dX3_init_10 rfl
  have q6 : gz_OkE M_X3_init 0 0 0 14 15 _ := ok_aload_n (i := 0) dX3_init_14 rfl
  have q7 : gz_OkE M_X3_init 1 0 0 15 16 _ := ok_iload_n (i := 1) dX3_init_15 rfl
  have q8 : gz_OkE M_X3_init 2 0 0 16 17 _ := ok_iconst (v := 2) dX3_init_16 kc_i2
  have q9 : gz_OkJ M_X3_init 1 0 0 15 26 20 _ := ok_ic_ne q7 q8 dX3_init_17 (by decide)
  have q10 : gz_OkE M_X3_init 1 0 0 20 23 _ := ok_sipush (v := 3600) dX3_init_20 kc_s3600
  have q11 : gz_OkE M_X3_init 1 0 0 20 38 _ := ok_eg q10 dX3_init_23 (by decide)
  have q12 : gz_OkE M_X3_init 1 0 0 26 27 _ := ok_iload_n (i := 1) dX3_init_26 rfl
  have q13 : gz_OkE M_X3_init 2 0 0 27 28 _ := ok_iconst (v := 3) dX3_init_27 kc_i3
  have q14 : gz_OkJ M_X3_init 1 0 0 26 37 31 _ := ok_ic_ne q12 q13 dX3_init_28 (by decide)
  have q15 : gz_OkE M_X3_init 1 0 0 31 34 _ := ok_sipush (v := 1200) dX3_init_31 kc_s1200
  have q16 : gz_OkE M_X3_init 1 0 0 31 38 _ := ok_eg q15 dX3_init_34 (by decide)
  have q17 : gz_OkE M_X3_init 1 0 0 37 38 _ := ok_iload_n (i := 3) dX3_init_37 rfl
  have q18 : gz_OkE M_X3_init 1 0 0 26 38 _ := ok_te2 q14 q16 q17
  have q19 : gz_OkE M_X3_init 1 0 0 15 38 _ := ok_te2 q9 q11 q18
  have q20 : gz_OkE M_X3_init 0 0 0 41 42 _ := ok_aload_n (i := 0) dX3_init_41 rfl
  have q21 : gz_OkE M_X3_init 1 0 0 42 43 _ := ok_iload_n (i := 1) dX3_init_42 rfl
  have q22 : gz_OkE M_X3_init 2 0 0 43 44 _ := ok_iconst (v := 2) dX3_init_43 kc_i2
  have q23 : gz_OkJ M_X3_init 1 0 0 42 57 47 _ := ok_ic_ne q21 q22 dX3_init_44 (by decide)
  have q24 : gz_OkA M_X3_init 1 0 0 47 47 0 _ := ok_a0
  have q25 : gz_OkE M_X3_init 1 0 0 47 49 _ := ok_bipush (v := 8) dX3_init_47 kc_b8
  have q26 : gz_OkA M_X3_init 1 0 0 47 49 1 _ := ok_a1 q24 q25
  have q27 : gz_OkE M_X3_init 3 0 0 49 51 _ := ok_iload (i := 4) dX3_init_49
  have q28 : gz_OkA M_X3_init 1 0 0 47 51 2 _ := ok_a1 q26 q27
  have q29 : gz_OkE M_X3_init 1 0 0 47 54 _ := ok_cs q28 mt_J9_max_7cf53 wd_418 wd_411 de_J9_max_7cf53 (by decide) (by decide) wd_513 wd_420 dX3_init_51 (by decide)
  have q30 : gz_OkE M_X3_init 1 0 0 47 73 _ := ok_eg q29 dX3_init_54 (by decide)
  have q31 : gz_OkE M_X3_init 1 0 0 57 58 _ := ok_iload_n (i := 1) dX3_init_57 rfl
  have q32 : gz_OkE M_X3_init 2 0 0 58 59 _ := ok_iconst (v := 1) dX3_init_58 kc_i1
  have q33 : gz_OkJ M_X3_init 1 0 0 57 71 62 _ := ok_ic_ne q31 q32 dX3_init_59 (by decide)
  have q34 : gz_OkA M_X3_init 1 0 0 62 62 0 _ := ok_a0
  have q35 : gz_OkE M_X3_init 1 0 0 62 63 _ := ok_iconst (v := 5) dX3_init_62 kc_i5
  have q36 : gz_OkA M_X3_init 1 0 0 62 63 1 _ := ok_a1 q34 q35
  have q37 : gz_OkE M_X3_init 3 0 0 63 65 _ := ok_iload (i := 4) dX3_init_63
  have q38 : gz_OkA M_X3_init 1 0 0 62 65 2 _ := ok_a1 q36 q37
  have q39 : gz_OkE M_X3_init 1 0 0 62 68 _ := ok_cs q38 mt_J9_max_7cf53 wd_418 wd_411 de_J9_max_7cf53 (by decide) (by decide) wd_513 wd_420 dX3_init_65 (by decide)
  have q40 : gz_OkE M_X3_init 1 0 0 62 73 _ := ok_eg q39 dX3_init_68 (by decide)
  have q41 : gz_OkE M_X3_init 1 0 0 71 73 _ := ok_iload (i := 4) dX3_init_71
  have q42 : gz_OkE M_X3_init 1 0 0 57 73 _ := ok_te2 q33 q40 q41
  have q43 : gz_OkE M_X3_init 1 0 0 42 73 _ := ok_te2 q23 q30 q42
  have q44 : gz_OkS M_X3_init 0 0 76 _ := ok_rv dX3_init_76
  have q45 : gz_OkS M_X3_init 0 0 41 _ := ok_putF (ty := .int) q20 q43 cl_3 (k := 3) (by decide) in_3 wd_47 tyX3 tyX3_ok nmX3 rfl rfl rfl rfl dX3_init_73 q44
  have q46 : gz_OkS M_X3_init 0 0 14 _ := ok_putF (ty := .int) q6 q19 cl_3 (k := 2) (by decide) in_3 wd_46 tyX3 tyX3_ok nmX3 rfl rfl rfl rfl dX3_init_38 q45
  have q47 : gz_OkS M_X3_init 0 0 9 _ := ok_putF (ty := .int) q4 q5 cl_3 (k := 1) (by decide) in_3 wd_45 tyX3 tyX3_ok nmX3 rfl rfl rfl rfl dX3_init_11 q46
  have q48 : gz_OkS M_X3_init 0 0 4 _ := ok_putF (ty := .int) q2 q3 cl_3 (k := 0) (by decide) in_3 wd_44 tyX3 tyX3_ok nmX3 rfl rfl rfl rfl dX3_init_6 q47
  have q49 : gz_OkS M_X3_init 0 0 0 _ := ok_sup q1 wd_533 wd_403 wd_404 (by decide) (by decide) dX3_init_1 q48
  have z : gz_OkS M_X3_init 0 0 0 sm_X3_init := q49
  exact gz_met (plainFor_of_name (by decide)) z (by decide) (by decide)
noncomputable def sm_X3_toldOfQueue : gz_Sx := gz_sw (gz_li 1) 0 [gz_rl (gz_i2l (gz_get 3 14 8 (gz_la 0))), gz_rl (gz_i2l (gz_get 3 14 9 (gz_la 0))), gz_rl (gz_i2l (gz_get 3 14 10 (gz_la 0))), gz_rl (gz_get 3 14 13 (gz_la 0)), gz_rl (gz_i2l (gz_get 3 14 11 (gz_la 0))), gz_rl (gz_i2l (gz_get 3 14 12 (gz_la 0))), gz_rl (gz_te (gz_jk (gz_get 3 14 4 (gz_la 0))) (gz_i2l (gz_get 4 6 5 (gz_get 3 14 4 (gz_la 0)))) (gz_l (-1))), gz_rl (gz_i2l (gz_get 3 14 0 (gz_la 0))), gz_rl (gz_i2l (gz_get 3 14 2 (gz_la 0))), gz_rl (gz_i2l (gz_get 3 14 3 (gz_la 0))), gz_rl (gz_i2l (gz_get 3 14 1 (gz_la 0)))] (gz_rl (gz_l (-1)))
noncomputable def se_X3_toldOfQueue : gz_Me := gz_sem (some .long) 2 sm_X3_toldOfQueue
abbrev rm_X3_toldOfQueue : Room := { frames := 0, cells := 0, slots := 0, locals := 0 }
abbrev M_X3_toldOfQueue : gz_Mi := (cX3_toldOfQueue, 2, RX3, 0, 0, "toldOfQueue", none)
theorem de_X3_toldOfQueue : yX3_toldOfQueue.cls ≠ "java/lang/invoke/MethodHandle" ∧ yX3_toldOfQueue.cls ≠ "java/lang/invoke/VarHandle" ∧ (parseMethodDescriptor yX3_toldOfQueue.desc).map (fun d => d.parameters.length) = some 1 := by decide +kernel
set_option maxRecDepth 100000 in
theorem mt_X3_toldOfQueue : gz_Mt yX3_toldOfQueue cX3_toldOfQueue 2 (some .long) rm_X3_toldOfQueue se_X3_toldOfQueue := by
  have q1 : gz_OkE M_X3_toldOfQueue 0 0 0 0 1 _ := ok_iload_n (i := 1) dX3_toldOfQueue_0 rfl
  have q2 : gz_OkE M_X3_toldOfQueue 0 0 0 141 144 _ := ok_ldc2 (v := -1) wd_59 dX3_toldOfQueue_141
  have q3 : gz_OkS M_X3_toldOfQueue 0 0 141 _ := ok_rl q2 dX3_toldOfQueue_144
  have q4 : gz_OkE M_X3_toldOfQueue 0 0 0 60 61 _ := ok_aload_n (i := 0) dX3_toldOfQueue_60 rfl
  have q5 : gz_OkE M_X3_toldOfQueue 0 0 0 60 64 _ := ok_get q4 cl_3 (k := 8) (by decide) in_3 wd_52 dX3_toldOfQueue_61
  have q6 : gz_OkE M_X3_toldOfQueue 0 0 0 60 65 _ := ok_i2l q5 dX3_toldOfQueue_64
  have q7 : gz_OkS M_X3_toldOfQueue 0 0 60 _ := ok_rl q6 dX3_toldOfQueue_65
  have q8 : gz_OkE M_X3_toldOfQueue 0 0 0 66 67 _ := ok_aload_n (i := 0) dX3_toldOfQueue_66 rfl
  have q9 : gz_OkE M_X3_toldOfQueue 0 0 0 66 70 _ := ok_get q8 cl_3 (k := 9) (by decide) in_3 wd_55 dX3_toldOfQueue_67
  have q10 : gz_OkE M_X3_toldOfQueue 0 0 0 66 71 _ := ok_i2l q9 dX3_toldOfQueue_70
  have q11 : gz_OkS M_X3_toldOfQueue 0 0 66 _ := ok_rl q10 dX3_toldOfQueue_71
  have q12 : gz_OkE M_X3_toldOfQueue 0 0 0 72 73 _ := ok_aload_n (i := 0) dX3_toldOfQueue_72 rfl
  have q13 : gz_OkE M_X3_toldOfQueue 0 0 0 72 76 _ := ok_get q12 cl_3 (k := 10) (by decide) in_3 wd_58 dX3_toldOfQueue_73
  have q14 : gz_OkE M_X3_toldOfQueue 0 0 0 72 77 _ := ok_i2l q13 dX3_toldOfQueue_76
  have q15 : gz_OkS M_X3_toldOfQueue 0 0 72 _ := ok_rl q14 dX3_toldOfQueue_77
  have q16 : gz_OkE M_X3_toldOfQueue 0 0 0 78 79 _ := ok_aload_n (i := 0) dX3_toldOfQueue_78 rfl
  have q17 : gz_OkE M_X3_toldOfQueue 0 0 0 78 82 _ := ok_get q16 cl_3 (k := 13) (by decide) in_3 wd_51 dX3_toldOfQueue_79
  have q18 : gz_OkS M_X3_toldOfQueue 0 0 78 _ := ok_rl q17 dX3_toldOfQueue_82
  have q19 : gz_OkE M_X3_toldOfQueue 0 0 0 83 84 _ := ok_aload_n (i := 0) dX3_toldOfQueue_83 rfl
  have q20 : gz_OkE M_X3_toldOfQueue 0 0 0 83 87 _ := ok_get q19 cl_3 (k := 11) (by decide) in_3 wd_54 dX3_toldOfQueue_84
  have q21 : gz_OkE M_X3_toldOfQueue 0 0 0 83 88 _ := ok_i2l q20 dX3_toldOfQueue_87
  have q22 : gz_OkS M_X3_toldOfQueue 0 0 83 _ := ok_rl q21 dX3_toldOfQueue_88
  have q23 : gz_OkE M_X3_toldOfQueue 0 0 0 89 90 _ := ok_aload_n (i := 0) dX3_toldOfQueue_89 rfl
  have q24 : gz_OkE M_X3_toldOfQueue 0 0 0 89 93 _ := ok_get q23 cl_3 (k := 12) (by decide) in_3 wd_53 dX3_toldOfQueue_90
  have q25 : gz_OkE M_X3_toldOfQueue 0 0 0 89 94 _ := ok_i2l q24 dX3_toldOfQueue_93
  have q26 : gz_OkS M_X3_toldOfQueue 0 0 89 _ := ok_rl q25 dX3_toldOfQueue_94
  have q27 : gz_OkE M_X3_toldOfQueue 0 0 0 95 96 _ := ok_aload_n (i := 0) dX3_toldOfQueue_95 rfl
  have q28 : gz_OkE M_X3_toldOfQueue 0 0 0 95 99 _ := ok_get q27 cl_3 (k := 4) (by decide) in_3 wd_57 dX3_toldOfQueue_96
  have q29 : gz_OkJ M_X3_toldOfQueue 0 0 0 95 108 102 _ := ok_jk q28 dX3_toldOfQueue_99 (by decide)
  have q30 : gz_OkE M_X3_toldOfQueue 0 0 0 102 105 _ := ok_ldc2 (v := -1) wd_59 dX3_toldOfQueue_102
  have q31 : gz_OkE M_X3_toldOfQueue 0 0 0 102 116 _ := ok_eg q30 dX3_toldOfQueue_105 (by decide)
  have q32 : gz_OkE M_X3_toldOfQueue 0 0 0 108 109 _ := ok_aload_n (i := 0) dX3_toldOfQueue_108 rfl
  have q33 : gz_OkE M_X3_toldOfQueue 0 0 0 108 112 _ := ok_get q32 cl_3 (k := 4) (by decide) in_3 wd_57 dX3_toldOfQueue_109
  have q34 : gz_OkE M_X3_toldOfQueue 0 0 0 108 115 _ := ok_get q33 cl_4 (k := 5) (by decide) in_4 wd_60 dX3_toldOfQueue_112
  have q35 : gz_OkE M_X3_toldOfQueue 0 0 0 108 116 _ := ok_i2l q34 dX3_toldOfQueue_115
  have q36 : gz_OkE M_X3_toldOfQueue 0 0 0 95 116 _ := ok_te2 q29 q31 q35
  have q37 : gz_OkS M_X3_toldOfQueue 0 0 95 _ := ok_rl q36 dX3_toldOfQueue_116
  have q38 : gz_OkE M_X3_toldOfQueue 0 0 0 117 118 _ := ok_aload_n (i := 0) dX3_toldOfQueue_117 rfl
  have q39 : gz_OkE M_X3_toldOfQueue 0 0 0 117 121 _ := ok_get q38 cl_3 (k := 0) (by decide) in_3 wd_44 dX3_toldOfQueue_118
  have q40 : gz_OkE M_X3_toldOfQueue 0 0 0 117 122 _ := ok_i2l q39 dX3_toldOfQueue_121
  have q41 : gz_OkS M_X3_toldOfQueue 0 0 117 _ := ok_rl q40 dX3_toldOfQueue_122
  have q42 : gz_OkE M_X3_toldOfQueue 0 0 0 123 124 _ := ok_aload_n (i := 0) dX3_toldOfQueue_123 rfl
  have q43 : gz_OkE M_X3_toldOfQueue 0 0 0 123 127 _ := ok_get q42 cl_3 (k := 2) (by decide) in_3 wd_46 dX3_toldOfQueue_124
  have q44 : gz_OkE M_X3_toldOfQueue 0 0 0 123 128 _ := ok_i2l q43 dX3_toldOfQueue_127
  have q45 : gz_OkS M_X3_toldOfQueue 0 0 123 _ := ok_rl q44 dX3_toldOfQueue_128
  have q46 : gz_OkE M_X3_toldOfQueue 0 0 0 129 130 _ := ok_aload_n (i := 0) dX3_toldOfQueue_129 rfl
  have q47 : gz_OkE M_X3_toldOfQueue 0 0 0 129 133 _ := ok_get q46 cl_3 (k := 3) (by decide) in_3 wd_47 dX3_toldOfQueue_130
  have q48 : gz_OkE M_X3_toldOfQueue 0 0 0 129 134 _ := ok_i2l q47 dX3_toldOfQueue_133
  have q49 : gz_OkS M_X3_toldOfQueue 0 0 129 _ := ok_rl q48 dX3_toldOfQueue_134
  have q50 : gz_OkE M_X3_toldOfQueue 0 0 0 135 136 _ := ok_aload_n (i := 0) dX3_toldOfQueue_135 rfl
  have q51 : gz_OkE M_X3_toldOfQueue 0 0 0 135 139 _ := ok_get q50 cl_3 (k := 1) (by decide) in_3 wd_45 dX3_toldOfQueue_136
  have q52 : gz_OkE M_X3_toldOfQueue 0 0 0 135 140 _ := ok_i2l q51 dX3_toldOfQueue_139
  have q53 : gz_OkS M_X3_toldOfQueue 0 0 135 _ := ok_rl q52 dX3_toldOfQueue_140
  have q54 : ∀ q ∈ (List.zip [60, 66, 72, 78, 83, 89, 95, 117, 123, 129, 135] [_, _, _, _, _, _, _, _, _, _, _] : List (Nat × gz_Sx)), gz_OkS M_X3_toldOfQueue 0 0 q.1 q.2 := List.forall_mem_cons.mpr ⟨q7, List.forall_mem_cons.mpr ⟨q11, List.forall_mem_cons.mpr ⟨q15, List.forall_mem_cons.mpr ⟨q18, List.forall_mem_cons.mpr ⟨q22, List.forall_mem_cons.mpr ⟨q26, List.forall_mem_cons.mpr ⟨q37, List.forall_mem_cons.mpr ⟨q41, List.forall_mem_cons.mpr ⟨q45, List.forall_mem_cons.mpr ⟨q49, List.forall_mem_cons.mpr ⟨q53, fun _ h => absurd h List.not_mem_nil⟩⟩⟩⟩⟩⟩⟩⟩⟩⟩⟩
  have q55 : gz_OkS M_X3_toldOfQueue 0 0 0 _ := ok_sw (ts := [60, 66, 72, 78, 83, 89, 95, 117, 123, 129, 135]) q1 dX3_toldOfQueue_1 (by first | decide | rfl | simp) (by decide) (by decide) rfl q3 q54
  have z : gz_OkS M_X3_toldOfQueue 0 0 0 sm_X3_toldOfQueue := q55
  exact gz_met (plainFor_of_name (by decide)) z (by decide) (by decide)
noncomputable def sm_X4_init : gz_Sx := gz_sup (gz_la 0) (gz_put 4 6 4 (.array .boolean) (gz_la 0) (gz_nar 101 (.int 0) (gz_i (61)) 61) (gz_put 4 6 0 (.object "GreenDesk$Stream") (gz_la 0) (gz_la 1) (gz_put 4 6 1 (.object "GreenDesk$Street") (gz_la 0) (gz_get 3 14 5 (gz_la 1)) (gz_put 4 6 2 .int (gz_la 0) (gz_li 2) (gz_put 4 6 3 .int (gz_la 0) (gz_li 3) (gz_rv))))))
noncomputable def se_X4_init : gz_Me := gz_sem none 4 sm_X4_init
abbrev rm_X4_init : Room := { frames := 1, cells := 1, slots := 61, locals := 12 }
abbrev M_X4_init : gz_Mi := (cX4_init, 4, RX4, 1, 12, "<init>", none)
theorem de_X4_init : yX4_init.cls ≠ "java/lang/invoke/MethodHandle" ∧ yX4_init.cls ≠ "java/lang/invoke/VarHandle" ∧ (parseMethodDescriptor yX4_init.desc).map (fun d => d.parameters.length) = some 3 := by decide +kernel
set_option maxRecDepth 100000 in
theorem mt_X4_init : gz_Mt yX4_init cX4_init 4 none rm_X4_init se_X4_init := by
  have q1 : gz_OkE M_X4_init 0 0 0 0 1 _ := ok_aload_n (i := 0) dX4_init_0 rfl
  have q2 : gz_OkE M_X4_init 0 0 0 4 5 _ := ok_aload_n (i := 0) dX4_init_4 rfl
  have q3 : gz_OkE M_X4_init 1 0 0 5 7 _ := ok_bipush (v := 61) dX4_init_5 kc_b61
  have q4 : gz_OkE M_X4_init 1 1 61 5 9 _ := ok_newZ (n := 61) q3 wd_61 (by decide) dX4_init_7
  have q5 : gz_OkE M_X4_init 0 0 0 12 13 _ := ok_aload_n (i := 0) dX4_init_12 rfl
  have q6 : gz_OkE M_X4_init 1 0 0 13 14 _ := ok_aload_n (i := 1) dX4_init_13 rfl
  have q7 : gz_OkE M_X4_init 0 0 0 17 18 _ := ok_aload_n (i := 0) dX4_init_17 rfl
  have q8 : gz_OkE M_X4_init 1 0 0 18 19 _ := ok_aload_n (i := 1) dX4_init_18 rfl
  have q9 : gz_OkE M_X4_init 1 0 0 18 22 _ := ok_get q8 cl_3 (k := 5) (by decide) in_3 wd_64 dX4_init_19
  have q10 : gz_OkE M_X4_init 0 0 0 25 26 _ := ok_aload_n (i := 0) dX4_init_25 rfl
  have q11 : gz_OkE M_X4_init 1 0 0 26 27 _ := ok_iload_n (i := 2) dX4_init_26 rfl
  have q12 : gz_OkE M_X4_init 0 0 0 30 31 _ := ok_aload_n (i := 0) dX4_init_30 rfl
  have q13 : gz_OkE M_X4_init 1 0 0 31 32 _ := ok_iload_n (i := 3) dX4_init_31 rfl
  have q14 : gz_OkS M_X4_init 0 0 35 _ := ok_rv dX4_init_35
  have q15 : gz_OkS M_X4_init 0 0 30 _ := ok_putF (ty := .int) q12 q13 cl_4 (k := 3) (by decide) in_4 wd_67 tyX4 tyX4_ok nmX4 rfl rfl rfl rfl dX4_init_32 q14
  have q16 : gz_OkS M_X4_init 0 0 25 _ := ok_putF (ty := .int) q10 q11 cl_4 (k := 2) (by decide) in_4 wd_66 tyX4 tyX4_ok nmX4 rfl rfl rfl rfl dX4_init_27 q15
  have q17 : gz_OkS M_X4_init 0 0 17 _ := ok_putF (ty := (.object "GreenDesk$Street")) q7 q9 cl_4 (k := 1) (by decide) in_4 wd_65 tyX4 tyX4_ok nmX4 rfl rfl rfl rfl dX4_init_22 q16
  have q18 : gz_OkS M_X4_init 0 0 12 _ := ok_putF (ty := (.object "GreenDesk$Stream")) q5 q6 cl_4 (k := 0) (by decide) in_4 wd_63 tyX4 tyX4_ok nmX4 rfl rfl rfl rfl dX4_init_14 q17
  have q19 : gz_OkS M_X4_init 1 61 4 _ := ok_putF (ty := (.array .boolean)) q2 q4 cl_4 (k := 4) (by decide) in_4 wd_62 tyX4 tyX4_ok nmX4 rfl rfl rfl rfl dX4_init_9 q18
  have q20 : gz_OkS M_X4_init 1 61 0 _ := ok_sup q1 wd_534 wd_403 wd_404 (by decide) (by decide) dX4_init_1 q19
  have z : gz_OkS M_X4_init 1 61 0 sm_X4_init := q20
  exact gz_met (plainFor_of_name (by decide)) z (by decide) (by decide)
noncomputable def sm_X5_init : gz_Sx := gz_sup (gz_la 0) (gz_put 5 3 0 (.array .int) (gz_la 0) (gz_nar 100 (.int 0) (gz_i (8)) 8) (gz_put 5 3 1 .int (gz_la 0) (gz_i (-1)) (gz_put 5 3 2 .int (gz_la 0) (gz_i (-1)) (gz_rv))))
noncomputable def se_X5_init : gz_Me := gz_sem none 1 sm_X5_init
abbrev rm_X5_init : Room := { frames := 1, cells := 1, slots := 8, locals := 12 }
abbrev M_X5_init : gz_Mi := (cX5_init, 1, RX5, 1, 12, "<init>", none)
theorem de_X5_init : yX5_init.cls ≠ "java/lang/invoke/MethodHandle" ∧ yX5_init.cls ≠ "java/lang/invoke/VarHandle" ∧ (parseMethodDescriptor yX5_init.desc).map (fun d => d.parameters.length) = some 0 := by decide +kernel
set_option maxRecDepth 100000 in
theorem mt_X5_init : gz_Mt yX5_init cX5_init 1 none rm_X5_init se_X5_init := by
  have q1 : gz_OkE M_X5_init 0 0 0 0 1 _ := ok_aload_n (i := 0) dX5_init_0 rfl
  have q2 : gz_OkE M_X5_init 0 0 0 4 5 _ := ok_aload_n (i := 0) dX5_init_4 rfl
  have q3 : gz_OkE M_X5_init 1 0 0 5 7 _ := ok_bipush (v := 8) dX5_init_5 kc_b8
  have q4 : gz_OkE M_X5_init 1 1 8 5 9 _ := ok_newI (n := 8) q3 wd_0 (by decide) dX5_init_7
  have q5 : gz_OkE M_X5_init 0 0 0 12 13 _ := ok_aload_n (i := 0) dX5_init_12 rfl
  have q6 : gz_OkE M_X5_init 1 0 0 13 14 _ := ok_iconst (v := -1) dX5_init_13 kc_im1
  have q7 : gz_OkE M_X5_init 0 0 0 17 18 _ := ok_aload_n (i := 0) dX5_init_17 rfl
  have q8 : gz_OkE M_X5_init 1 0 0 18 19 _ := ok_iconst (v := -1) dX5_init_18 kc_im1
  have q9 : gz_OkS M_X5_init 0 0 22 _ := ok_rv dX5_init_22
  have q10 : gz_OkS M_X5_init 0 0 17 _ := ok_put (ty := .int) q7 q8 cl_5 (k := 2) (by decide) in_5 wd_72 tyX5 tyX5_ok nmX5 rfl rfl dX5_init_19 q9
  have q11 : gz_OkS M_X5_init 0 0 12 _ := ok_put (ty := .int) q5 q6 cl_5 (k := 1) (by decide) in_5 wd_71 tyX5 tyX5_ok nmX5 rfl rfl dX5_init_14 q10
  have q12 : gz_OkS M_X5_init 1 8 4 _ := ok_putF (ty := (.array .int)) q2 q4 cl_5 (k := 0) (by decide) in_5 wd_70 tyX5 tyX5_ok nmX5 rfl rfl rfl rfl dX5_init_9 q11
  have q13 : gz_OkS M_X5_init 1 8 0 _ := ok_sup q1 wd_535 wd_403 wd_404 (by decide) (by decide) dX5_init_1 q12
  have z : gz_OkS M_X5_init 1 8 0 sm_X5_init := q13
  exact gz_met (plainFor_of_name (by decide)) z (by decide) (by decide)
noncomputable def lb_X5_forget_2 : gz_Sx := gz_if (gz_j2 (fun x y => decide (y ≤ x)) (gz_li 1) (gz_i (8))) (gz_sat 23) (gz_ast 100 (gz_get 5 3 0 (gz_la 0)) (gz_li 1) (gz_i (1000)) (gz_inc 1 (1) (gz_sat 2)))
noncomputable def sm_X5_forget : gz_Sx := gz_seti 1 (gz_i (0)) (gz_seq 23 0 (gz_loop 2 2 lb_X5_forget_2) (gz_rv))
noncomputable def se_X5_forget : gz_Me := gz_sem none 2 sm_X5_forget
abbrev rm_X5_forget : Room := { frames := 0, cells := 0, slots := 0, locals := 0 }
abbrev M_X5_forget : gz_Mi := (cX5_forget, 2, RX5, 0, 0, "forget", none)
theorem de_X5_forget : yX5_forget.cls ≠ "java/lang/invoke/MethodHandle" ∧ yX5_forget.cls ≠ "java/lang/invoke/VarHandle" ∧ (parseMethodDescriptor yX5_forget.desc).map (fun d => d.parameters.length) = some 0 := by decide +kernel
set_option maxRecDepth 100000 in
theorem mt_X5_forget : gz_Mt yX5_forget cX5_forget 2 none rm_X5_forget se_X5_forget := by
  have q1 : gz_OkE M_X5_forget 0 0 0 0 1 _ := ok_iconst (v := 0) dX5_forget_0 kc_i0
  have q2 : gz_OkE M_X5_forget 0 0 0 2 3 _ := ok_iload_n (i := 1) dX5_forget_2 rfl
  have q3 : gz_OkE M_X5_forget 1 0 0 3 5 _ := ok_bipush (v := 8) dX5_forget_3 kc_b8
  have q4 : gz_OkJ M_X5_forget 0 0 0 2 23 8 _ := ok_ic_ge q2 q3 dX5_forget_5 (by decide)
  have q5 : gz_OkS M_X5_forget 0 0 23 _ := ok_at
  have q6 : gz_OkE M_X5_forget 0 0 0 8 9 _ := ok_aload_n (i := 0) dX5_forget_8 rfl
  have q7 : gz_OkE M_X5_forget 0 0 0 8 12 _ := ok_get q6 cl_5 (k := 0) (by decide) in_5 wd_70 dX5_forget_9
  have q8 : gz_OkE M_X5_forget 1 0 0 12 13 _ := ok_iload_n (i := 1) dX5_forget_12 rfl
  have q9 : gz_OkE M_X5_forget 2 0 0 13 16 _ := ok_sipush (v := 1000) dX5_forget_13 kc_s1000
  have q10 : gz_OkS M_X5_forget 0 0 20 (gz_sat 2) := ok_goto dX5_forget_20 (by decide)
  have q11 : gz_OkS M_X5_forget 0 0 17 _ := ok_inc (v := 1) dX5_forget_17 kc_i1 (by decide) q10
  have q12 : gz_OkS M_X5_forget 0 0 8 _ := ok_iast q7 q8 q9 dX5_forget_16 q11
  have q13 : gz_OkS M_X5_forget 0 0 2 _ := ok_if q4 q5 q12
  have q14 : gz_OkS M_X5_forget 0 0 2 lb_X5_forget_2 := q13
  have q15 : gz_OkS M_X5_forget 0 0 2 _ := ok_loop (k := 2) q14 rfl rfl
  have q16 : gz_OkS M_X5_forget 0 0 23 _ := ok_rv dX5_forget_23
  have q17 : gz_OkS M_X5_forget 0 0 2 _ := ok_seq (L := 23) (k := 0) q15 q16
  have q18 : gz_OkS M_X5_forget 0 0 0 _ := ok_seti_n (k := 1) q1 dX5_forget_1 rfl (by decide) q17
  have z : gz_OkS M_X5_forget 0 0 0 sm_X5_forget := q18
  exact gz_met (plainFor_of_name (by decide)) z (by decide) (by decide)
noncomputable def lb_X5_see_2 : gz_Sx := gz_if (gz_j2 (fun x y => decide (y ≤ x)) (gz_li 2) (gz_i (8))) (gz_sat 40) (gz_ast 100 (gz_get 5 3 0 (gz_la 0)) (gz_li 2) (gz_te (gz_j1 (fun x => decide (x = 0)) (gz_ib (fun x y => x &&& y) (gz_ib (fun x y => x >>> (y &&& 31)) (gz_li 1) (gz_li 2)) (gz_i (1)))) (gz_ib (fun x y => x + y) (gz_ald 100 (gz_get 5 3 0 (gz_la 0)) (gz_li 2)) (gz_i (1))) (gz_i (0))) (gz_inc 2 (1) (gz_sat 2)))
noncomputable def sm_X5_see : gz_Sx := gz_seti 2 (gz_i (0)) (gz_seq 40 0 (gz_loop 2 3 lb_X5_see_2) (gz_rv))
noncomputable def se_X5_see : gz_Me := gz_sem none 3 sm_X5_see
abbrev rm_X5_see : Room := { frames := 0, cells := 0, slots := 0, locals := 0 }
abbrev M_X5_see : gz_Mi := (cX5_see, 3, RX5, 0, 0, "see", none)
theorem de_X5_see : yX5_see.cls ≠ "java/lang/invoke/MethodHandle" ∧ yX5_see.cls ≠ "java/lang/invoke/VarHandle" ∧ (parseMethodDescriptor yX5_see.desc).map (fun d => d.parameters.length) = some 1 := by decide +kernel
set_option maxRecDepth 100000 in
theorem mt_X5_see : gz_Mt yX5_see cX5_see 3 none rm_X5_see se_X5_see := by
  have q1 : gz_OkE M_X5_see 0 0 0 0 1 _ := ok_iconst (v := 0) dX5_see_0 kc_i0
  have q2 : gz_OkE M_X5_see 0 0 0 2 3 _ := ok_iload_n (i := 2) dX5_see_2 rfl
  have q3 : gz_OkE M_X5_see 1 0 0 3 5 _ := ok_bipush (v := 8) dX5_see_3 kc_b8
  have q4 : gz_OkJ M_X5_see 0 0 0 2 40 8 _ := ok_ic_ge q2 q3 dX5_see_5 (by decide)
  have q5 : gz_OkS M_X5_see 0 0 40 _ := ok_at
  have q6 : gz_OkE M_X5_see 0 0 0 8 9 _ := ok_aload_n (i := 0) dX5_see_8 rfl
  have q7 : gz_OkE M_X5_see 0 0 0 8 12 _ := ok_get q6 cl_5 (k := 0) (by decide) in_5 wd_70 dX5_see_9
  have q8 : gz_OkE M_X5_see 1 0 0 12 13 _ := ok_iload_n (i := 2) dX5_see_12 rfl
  have q9 : gz_OkE M_X5_see 2 0 0 13 14 _ := ok_iload_n (i := 1) dX5_see_13 rfl
  have q10 : gz_OkE M_X5_see 3 0 0 14 15 _ := ok_iload_n (i := 2) dX5_see_14 rfl
  have q11 : gz_OkE M_X5_see 2 0 0 13 16 _ := ok_ishr q9 q10 dX5_see_15
  have q12 : gz_OkE M_X5_see 3 0 0 16 17 _ := ok_iconst (v := 1) dX5_see_16 kc_i1
  have q13 : gz_OkE M_X5_see 2 0 0 13 18 _ := ok_iand q11 q12 dX5_see_17
  have q14 : gz_OkJ M_X5_see 2 0 0 13 25 21 _ := ok_if_eq q13 dX5_see_18 (by decide)
  have q15 : gz_OkE M_X5_see 2 0 0 21 22 _ := ok_iconst (v := 0) dX5_see_21 kc_i0
  have q16 : gz_OkE M_X5_see 2 0 0 21 33 _ := ok_eg q15 dX5_see_22 (by decide)
  have q17 : gz_OkE M_X5_see 2 0 0 25 26 _ := ok_aload_n (i := 0) dX5_see_25 rfl
  have q18 : gz_OkE M_X5_see 2 0 0 25 29 _ := ok_get q17 cl_5 (k := 0) (by decide) in_5 wd_70 dX5_see_26
  have q19 : gz_OkE M_X5_see 3 0 0 29 30 _ := ok_iload_n (i := 2) dX5_see_29 rfl
  have q20 : gz_OkE M_X5_see 2 0 0 25 31 _ := ok_iald q18 q19 dX5_see_30
  have q21 : gz_OkE M_X5_see 3 0 0 31 32 _ := ok_iconst (v := 1) dX5_see_31 kc_i1
  have q22 : gz_OkE M_X5_see 2 0 0 25 33 _ := ok_iadd q20 q21 dX5_see_32
  have q23 : gz_OkE M_X5_see 2 0 0 13 33 _ := ok_te2 q14 q16 q22
  have q24 : gz_OkS M_X5_see 0 0 37 (gz_sat 2) := ok_goto dX5_see_37 (by decide)
  have q25 : gz_OkS M_X5_see 0 0 34 _ := ok_inc (v := 1) dX5_see_34 kc_i1 (by decide) q24
  have q26 : gz_OkS M_X5_see 0 0 8 _ := ok_iast q7 q8 q23 dX5_see_33 q25
  have q27 : gz_OkS M_X5_see 0 0 2 _ := ok_if q4 q5 q26
  have q28 : gz_OkS M_X5_see 0 0 2 lb_X5_see_2 := q27
  have q29 : gz_OkS M_X5_see 0 0 2 _ := ok_loop (k := 3) q28 rfl rfl
  have q30 : gz_OkS M_X5_see 0 0 40 _ := ok_rv dX5_see_40
  have q31 : gz_OkS M_X5_see 0 0 2 _ := ok_seq (L := 40) (k := 0) q29 q30
  have q32 : gz_OkS M_X5_see 0 0 0 _ := ok_seti_n (k := 2) q1 dX5_see_1 rfl (by decide) q31
  have z : gz_OkS M_X5_see 0 0 0 sm_X5_see := q32
  exact gz_met (plainFor_of_name (by decide)) z (by decide) (by decide)
noncomputable def lb_X5_findsEarlier_2 : gz_Sx := gz_if (gz_j2 (fun x y => decide (y ≤ x)) (gz_li 3) (gz_get 1 11 5 (gz_la 1))) (gz_sat 61) (gz_if (gz_jo (gz_j1 (fun x => decide (x = 0)) (gz_ib (fun x y => x &&& y) (gz_ib (fun x y => x >>> (y &&& 31)) (gz_ald 100 (gz_get 1 11 3 (gz_la 1)) (gz_li 2)) (gz_li 3)) (gz_i (1)))) (gz_j2 (fun x y => decide (y < x)) (gz_ald 100 (gz_get 5 3 0 (gz_la 0)) (gz_li 3)) (gz_ald 100 (gz_get 1 11 1 (gz_la 1)) (gz_ib (fun x y => x + y) (gz_ib (fun x y => x * y) (gz_li 3) (gz_i (8))) (gz_li 2))))) (gz_inc 3 (1) (gz_sat 2)) (gz_put 5 3 1 .int (gz_la 0) (gz_li 3) (gz_put 5 3 2 .int (gz_la 0) (gz_li 2) (gz_ri (gz_i (1))))))
noncomputable def sm_X5_findsEarlier : gz_Sx := gz_seti 3 (gz_i (0)) (gz_seq 61 0 (gz_loop 2 4 lb_X5_findsEarlier_2) (gz_ri (gz_i (0))))
noncomputable def se_X5_findsEarlier : gz_Me := gz_sem (some .boolean) 4 sm_X5_findsEarlier
abbrev rm_X5_findsEarlier : Room := { frames := 0, cells := 0, slots := 0, locals := 0 }
abbrev M_X5_findsEarlier : gz_Mi := (cX5_findsEarlier, 4, RX5, 0, 0, "findsEarlier", none)
theorem de_X5_findsEarlier : yX5_findsEarlier.cls ≠ "java/lang/invoke/MethodHandle" ∧ yX5_findsEarlier.cls ≠ "java/lang/invoke/VarHandle" ∧ (parseMethodDescriptor yX5_findsEarlier.desc).map (fun d => d.parameters.length) = some 2 := by decide +kernel
set_option maxRecDepth 100000 in
theorem mt_X5_findsEarlier : gz_Mt yX5_findsEarlier cX5_findsEarlier 4 (some .boolean) rm_X5_findsEarlier se_X5_findsEarlier := by
  have q1 : gz_OkE M_X5_findsEarlier 0 0 0 0 1 _ := ok_iconst (v := 0) dX5_findsEarlier_0 kc_i0
  have q2 : gz_OkE M_X5_findsEarlier 0 0 0 2 3 _ := ok_iload_n (i := 3) dX5_findsEarlier_2 rfl
  have q3 : gz_OkE M_X5_findsEarlier 1 0 0 3 4 _ := ok_aload_n (i := 1) dX5_findsEarlier_3 rfl
  have q4 : gz_OkE M_X5_findsEarlier 1 0 0 3 7 _ := ok_get q3 cl_1 (k := 5) (by decide) in_1 wd_73 dX5_findsEarlier_4
  have q5 : gz_OkJ M_X5_findsEarlier 0 0 0 2 61 10 _ := ok_ic_ge q2 q4 dX5_findsEarlier_7 (by decide)
  have q6 : gz_OkS M_X5_findsEarlier 0 0 61 _ := ok_at
  have q7 : gz_OkE M_X5_findsEarlier 0 0 0 10 11 _ := ok_aload_n (i := 1) dX5_findsEarlier_10 rfl
  have q8 : gz_OkE M_X5_findsEarlier 0 0 0 10 14 _ := ok_get q7 cl_1 (k := 3) (by decide) in_1 wd_74 dX5_findsEarlier_11
  have q9 : gz_OkE M_X5_findsEarlier 1 0 0 14 15 _ := ok_iload_n (i := 2) dX5_findsEarlier_14 rfl
  have q10 : gz_OkE M_X5_findsEarlier 0 0 0 10 16 _ := ok_iald q8 q9 dX5_findsEarlier_15
  have q11 : gz_OkE M_X5_findsEarlier 1 0 0 16 17 _ := ok_iload_n (i := 3) dX5_findsEarlier_16 rfl
  have q12 : gz_OkE M_X5_findsEarlier 0 0 0 10 18 _ := ok_ishr q10 q11 dX5_findsEarlier_17
  have q13 : gz_OkE M_X5_findsEarlier 1 0 0 18 19 _ := ok_iconst (v := 1) dX5_findsEarlier_18 kc_i1
  have q14 : gz_OkE M_X5_findsEarlier 0 0 0 10 20 _ := ok_iand q12 q13 dX5_findsEarlier_19
  have q15 : gz_OkJ M_X5_findsEarlier 0 0 0 10 55 23 _ := ok_if_eq q14 dX5_findsEarlier_20 (by decide)
  have q16 : gz_OkE M_X5_findsEarlier 0 0 0 23 24 _ := ok_aload_n (i := 0) dX5_findsEarlier_23 rfl
  have q17 : gz_OkE M_X5_findsEarlier 0 0 0 23 27 _ := ok_get q16 cl_5 (k := 0) (by decide) in_5 wd_70 dX5_findsEarlier_24
  have q18 : gz_OkE M_X5_findsEarlier 1 0 0 27 28 _ := ok_iload_n (i := 3) dX5_findsEarlier_27 rfl
  have q19 : gz_OkE M_X5_findsEarlier 0 0 0 23 29 _ := ok_iald q17 q18 dX5_findsEarlier_28
  have q20 : gz_OkE M_X5_findsEarlier 1 0 0 29 30 _ := ok_aload_n (i := 1) dX5_findsEarlier_29 rfl
  have q21 : gz_OkE M_X5_findsEarlier 1 0 0 29 33 _ := ok_get q20 cl_1 (k := 1) (by decide) in_1 wd_75 dX5_findsEarlier_30
  have q22 : gz_OkE M_X5_findsEarlier 2 0 0 33 34 _ := ok_iload_n (i := 3) dX5_findsEarlier_33 rfl
  have q23 : gz_OkE M_X5_findsEarlier 3 0 0 34 36 _ := ok_bipush (v := 8) dX5_findsEarlier_34 kc_b8
  have q24 : gz_OkE M_X5_findsEarlier 2 0 0 33 37 _ := ok_imul q22 q23 dX5_findsEarlier_36
  have q25 : gz_OkE M_X5_findsEarlier 3 0 0 37 38 _ := ok_iload_n (i := 2) dX5_findsEarlier_37 rfl
  have q26 : gz_OkE M_X5_findsEarlier 2 0 0 33 39 _ := ok_iadd q24 q25 dX5_findsEarlier_38
  have q27 : gz_OkE M_X5_findsEarlier 1 0 0 29 40 _ := ok_iald q21 q26 dX5_findsEarlier_39
  have q28 : gz_OkJ M_X5_findsEarlier 0 0 0 23 55 43 _ := ok_ic_gt q19 q27 dX5_findsEarlier_40 (by decide)
  have q29 : gz_OkJ M_X5_findsEarlier 0 0 0 10 55 43 _ := ok_jo q15 q28
  have q30 : gz_OkS M_X5_findsEarlier 0 0 58 (gz_sat 2) := ok_goto dX5_findsEarlier_58 (by decide)
  have q31 : gz_OkS M_X5_findsEarlier 0 0 55 _ := ok_inc (v := 1) dX5_findsEarlier_55 kc_i1 (by decide) q30
  have q32 : gz_OkE M_X5_findsEarlier 0 0 0 43 44 _ := ok_aload_n (i := 0) dX5_findsEarlier_43 rfl
  have q33 : gz_OkE M_X5_findsEarlier 1 0 0 44 45 _ := ok_iload_n (i := 3) dX5_findsEarlier_44 rfl
  have q34 : gz_OkE M_X5_findsEarlier 0 0 0 48 49 _ := ok_aload_n (i := 0) dX5_findsEarlier_48 rfl
  have q35 : gz_OkE M_X5_findsEarlier 1 0 0 49 50 _ := ok_iload_n (i := 2) dX5_findsEarlier_49 rfl
  have q36 : gz_OkE M_X5_findsEarlier 0 0 0 53 54 _ := ok_iconst (v := 1) dX5_findsEarlier_53 kc_i1
  have q37 : gz_OkS M_X5_findsEarlier 0 0 53 _ := ok_ri q36 dX5_findsEarlier_54
  have q38 : gz_OkS M_X5_findsEarlier 0 0 48 _ := ok_put (ty := .int) q34 q35 cl_5 (k := 2) (by decide) in_5 wd_72 tyX5 tyX5_ok nmX5 rfl rfl dX5_findsEarlier_50 q37
  have q39 : gz_OkS M_X5_findsEarlier 0 0 43 _ := ok_put (ty := .int) q32 q33 cl_5 (k := 1) (by decide) in_5 wd_71 tyX5 tyX5_ok nmX5 rfl rfl dX5_findsEarlier_45 q38
  have q40 : gz_OkS M_X5_findsEarlier 0 0 10 _ := ok_if q29 q31 q39
  have q41 : gz_OkS M_X5_findsEarlier 0 0 2 _ := ok_if q5 q6 q40
  have q42 : gz_OkS M_X5_findsEarlier 0 0 2 lb_X5_findsEarlier_2 := q41
  have q43 : gz_OkS M_X5_findsEarlier 0 0 2 _ := ok_loop (k := 4) q42 rfl rfl
  have q44 : gz_OkE M_X5_findsEarlier 0 0 0 61 62 _ := ok_iconst (v := 0) dX5_findsEarlier_61 kc_i0
  have q45 : gz_OkS M_X5_findsEarlier 0 0 61 _ := ok_ri q44 dX5_findsEarlier_62
  have q46 : gz_OkS M_X5_findsEarlier 0 0 2 _ := ok_seq (L := 61) (k := 0) q43 q45
  have q47 : gz_OkS M_X5_findsEarlier 0 0 0 _ := ok_seti_n (k := 3) q1 dX5_findsEarlier_1 rfl (by decide) q46
  have z : gz_OkS M_X5_findsEarlier 0 0 0 sm_X5_findsEarlier := q47
  exact gz_met (plainFor_of_name (by decide)) z (by decide) (by decide)
noncomputable def lb_X5_findsClash_2 : gz_Sx := gz_if (gz_j2 (fun x y => decide (y ≤ x)) (gz_li 3) (gz_get 1 11 5 (gz_la 1))) (gz_sat 44) (gz_if (gz_jo (gz_j1 (fun x => decide (x = 0)) (gz_ib (fun x y => x &&& y) (gz_ib (fun x y => x >>> (y &&& 31)) (gz_li 2) (gz_li 3)) (gz_i (1)))) (gz_jo (gz_j1 (fun x => decide (x = 0)) (gz_ald 100 (gz_get 1 11 3 (gz_la 1)) (gz_li 3))) (gz_j1 (fun x => decide (x = 0)) (gz_cv 5 3 se_X5_findsEarlier (gz_a1 (gz_a1 (gz_a1 (gz_a0) (gz_la 0)) (gz_la 1)) (gz_li 3)))))) (gz_inc 3 (1) (gz_sat 2)) (gz_ri (gz_i (1))))
noncomputable def sm_X5_findsClash : gz_Sx := gz_seti 3 (gz_i (0)) (gz_seq 44 0 (gz_loop 2 4 lb_X5_findsClash_2) (gz_ri (gz_i (0))))
noncomputable def se_X5_findsClash : gz_Me := gz_sem (some .boolean) 4 sm_X5_findsClash
abbrev rm_X5_findsClash : Room := { frames := 1, cells := 0, slots := 0, locals := 23 }
abbrev M_X5_findsClash : gz_Mi := (cX5_findsClash, 4, RX5, 1, 23, "findsClash", none)
theorem de_X5_findsClash : yX5_findsClash.cls ≠ "java/lang/invoke/MethodHandle" ∧ yX5_findsClash.cls ≠ "java/lang/invoke/VarHandle" ∧ (parseMethodDescriptor yX5_findsClash.desc).map (fun d => d.parameters.length) = some 2 := by decide +kernel
set_option maxRecDepth 100000 in
theorem mt_X5_findsClash : gz_Mt yX5_findsClash cX5_findsClash 4 (some .boolean) rm_X5_findsClash se_X5_findsClash := by
  have q1 : gz_OkE M_X5_findsClash 0 0 0 0 1 _ := ok_iconst (v := 0) dX5_findsClash_0 kc_i0
  have q2 : gz_OkE M_X5_findsClash 0 0 0 2 3 _ := ok_iload_n (i := 3) dX5_findsClash_2 rfl
  have q3 : gz_OkE M_X5_findsClash 1 0 0 3 4 _ := ok_aload_n (i := 1) dX5_findsClash_3 rfl
  have q4 : gz_OkE M_X5_findsClash 1 0 0 3 7 _ := ok_get q3 cl_1 (k := 5) (by decide) in_1 wd_73 dX5_findsClash_4
  have q5 : gz_OkJ M_X5_findsClash 0 0 0 2 44 10 _ := ok_ic_ge q2 q4 dX5_findsClash_7 (by decide)
  have q6 : gz_OkS M_X5_findsClash 0 0 44 _ := ok_at
  have q7 : gz_OkE M_X5_findsClash 0 0 0 10 11 _ := ok_iload_n (i := 2) dX5_findsClash_10 rfl
  have q8 : gz_OkE M_X5_findsClash 1 0 0 11 12 _ := ok_iload_n (i := 3) dX5_findsClash_11 rfl
  have q9 : gz_OkE M_X5_findsClash 0 0 0 10 13 _ := ok_ishr q7 q8 dX5_findsClash_12
  have q10 : gz_OkE M_X5_findsClash 1 0 0 13 14 _ := ok_iconst (v := 1) dX5_findsClash_13 kc_i1
  have q11 : gz_OkE M_X5_findsClash 0 0 0 10 15 _ := ok_iand q9 q10 dX5_findsClash_14
  have q12 : gz_OkJ M_X5_findsClash 0 0 0 10 38 18 _ := ok_if_eq q11 dX5_findsClash_15 (by decide)
  have q13 : gz_OkE M_X5_findsClash 0 0 0 18 19 _ := ok_aload_n (i := 1) dX5_findsClash_18 rfl
  have q14 : gz_OkE M_X5_findsClash 0 0 0 18 22 _ := ok_get q13 cl_1 (k := 3) (by decide) in_1 wd_74 dX5_findsClash_19
  have q15 : gz_OkE M_X5_findsClash 1 0 0 22 23 _ := ok_iload_n (i := 3) dX5_findsClash_22 rfl
  have q16 : gz_OkE M_X5_findsClash 0 0 0 18 24 _ := ok_iald q14 q15 dX5_findsClash_23
  have q17 : gz_OkJ M_X5_findsClash 0 0 0 18 38 27 _ := ok_if_eq q16 dX5_findsClash_24 (by decide)
  have q18 : gz_OkA M_X5_findsClash 0 0 0 27 27 0 _ := ok_a0
  have q19 : gz_OkE M_X5_findsClash 0 0 0 27 28 _ := ok_aload_n (i := 0) dX5_findsClash_27 rfl
  have q20 : gz_OkA M_X5_findsClash 0 0 0 27 28 1 _ := ok_a1 q18 q19
  have q21 : gz_OkE M_X5_findsClash 2 0 0 28 29 _ := ok_aload_n (i := 1) dX5_findsClash_28 rfl
  have q22 : gz_OkA M_X5_findsClash 0 0 0 27 29 2 _ := ok_a1 q20 q21
  have q23 : gz_OkE M_X5_findsClash 4 0 0 29 30 _ := ok_iload_n (i := 3) dX5_findsClash_29 rfl
  have q24 : gz_OkA M_X5_findsClash 0 0 0 27 30 3 _ := ok_a1 q22 q23
  have q25 : gz_OkE M_X5_findsClash 0 0 0 27 33 _ := ok_cv q24 mt_X5_findsEarlier cl_5 wd_536 wd_537 de_X5_findsEarlier (by decide) (by decide) wd_538 wd_539 wd_540 dX5_findsClash_30 (by decide)
  have q26 : gz_OkJ M_X5_findsClash 0 0 0 27 38 36 _ := ok_if_eq q25 dX5_findsClash_33 (by decide)
  have q27 : gz_OkJ M_X5_findsClash 0 0 0 18 38 36 _ := ok_jo q17 q26
  have q28 : gz_OkJ M_X5_findsClash 0 0 0 10 38 36 _ := ok_jo q12 q27
  have q29 : gz_OkS M_X5_findsClash 0 0 41 (gz_sat 2) := ok_goto dX5_findsClash_41 (by decide)
  have q30 : gz_OkS M_X5_findsClash 0 0 38 _ := ok_inc (v := 1) dX5_findsClash_38 kc_i1 (by decide) q29
  have q31 : gz_OkE M_X5_findsClash 0 0 0 36 37 _ := ok_iconst (v := 1) dX5_findsClash_36 kc_i1
  have q32 : gz_OkS M_X5_findsClash 0 0 36 _ := ok_ri q31 dX5_findsClash_37
  have q33 : gz_OkS M_X5_findsClash 0 0 10 _ := ok_if q28 q30 q32
  have q34 : gz_OkS M_X5_findsClash 0 0 2 _ := ok_if q5 q6 q33
  have q35 : gz_OkS M_X5_findsClash 0 0 2 lb_X5_findsClash_2 := q34
  have q36 : gz_OkS M_X5_findsClash 0 0 2 _ := ok_loop (k := 4) q35 rfl rfl
  have q37 : gz_OkE M_X5_findsClash 0 0 0 44 45 _ := ok_iconst (v := 0) dX5_findsClash_44 kc_i0
  have q38 : gz_OkS M_X5_findsClash 0 0 44 _ := ok_ri q37 dX5_findsClash_45
  have q39 : gz_OkS M_X5_findsClash 0 0 2 _ := ok_seq (L := 44) (k := 0) q36 q38
  have q40 : gz_OkS M_X5_findsClash 0 0 0 _ := ok_seti_n (k := 3) q1 dX5_findsClash_1 rfl (by decide) q39
  have z : gz_OkS M_X5_findsClash 0 0 0 sm_X5_findsClash := q40
  exact gz_met (plainFor_of_name (by decide)) z (by decide) (by decide)
noncomputable def lb_X5_firstClashOf_6 : gz_Sx := gz_if (gz_j2 (fun x y => decide (y ≤ x)) (gz_li 3) (gz_get 2 9 0 (gz_la 2))) (gz_sat 30) (gz_vv 5 3 se_X5_see (gz_a1 (gz_a1 (gz_a0) (gz_la 0)) (gz_ald 100 (gz_get 2 9 8 (gz_la 2)) (gz_li 3))) (gz_inc 3 (1) (gz_sat 6)))
noncomputable def lb_X5_firstClashOf_32 : gz_Sx := gz_if (gz_j2 (fun x y => decide (y ≤ x)) (gz_li 3) (gz_get 2 9 0 (gz_la 2))) (gz_sat 72) (gz_vv 5 3 se_X5_see (gz_a1 (gz_a1 (gz_a0) (gz_la 0)) (gz_ald 100 (gz_get 2 9 8 (gz_la 2)) (gz_li 3))) (gz_if (gz_j1 (fun x => decide (x = 0)) (gz_cv 5 3 se_X5_findsClash (gz_a1 (gz_a1 (gz_a1 (gz_a0) (gz_la 0)) (gz_la 1)) (gz_ald 100 (gz_get 2 9 8 (gz_la 2)) (gz_li 3))))) (gz_inc 3 (1) (gz_sat 32)) (gz_ri (gz_li 3))))
noncomputable def sm_X5_firstClashOf : gz_Sx := gz_vv 5 3 se_X5_forget (gz_a1 (gz_a0) (gz_la 0)) (gz_seti 3 (gz_i (0)) (gz_seq 30 3 (gz_loop 6 4 lb_X5_firstClashOf_6) (gz_seti 3 (gz_i (0)) (gz_seq 72 0 (gz_loop 32 4 lb_X5_firstClashOf_32) (gz_ri (gz_i (-1)))))))
noncomputable def se_X5_firstClashOf : gz_Me := gz_sem (some .int) 4 sm_X5_firstClashOf
abbrev rm_X5_firstClashOf : Room := { frames := 2, cells := 0, slots := 0, locals := 46 }
abbrev M_X5_firstClashOf : gz_Mi := (cX5_firstClashOf, 4, RX5, 2, 46, "firstClashOf", none)
theorem de_X5_firstClashOf : yX5_firstClashOf.cls ≠ "java/lang/invoke/MethodHandle" ∧ yX5_firstClashOf.cls ≠ "java/lang/invoke/VarHandle" ∧ (parseMethodDescriptor yX5_firstClashOf.desc).map (fun d => d.parameters.length) = some 2 := by decide +kernel
set_option maxRecDepth 100000 in
theorem mt_X5_firstClashOf : gz_Mt yX5_firstClashOf cX5_firstClashOf 4 (some .int) rm_X5_firstClashOf se_X5_firstClashOf := by
  have q1 : gz_OkA M_X5_firstClashOf 0 0 0 0 0 0 _ := ok_a0
  have q2 : gz_OkE M_X5_firstClashOf 0 0 0 0 1 _ := ok_aload_n (i := 0) dX5_firstClashOf_0 rfl
  have q3 : gz_OkA M_X5_firstClashOf 0 0 0 0 1 1 _ := ok_a1 q1 q2
  have q4 : gz_OkE M_X5_firstClashOf 0 0 0 4 5 _ := ok_iconst (v := 0) dX5_firstClashOf_4 kc_i0
  have q5 : gz_OkE M_X5_firstClashOf 0 0 0 6 7 _ := ok_iload_n (i := 3) dX5_firstClashOf_6 rfl
  have q6 : gz_OkE M_X5_firstClashOf 1 0 0 7 8 _ := ok_aload_n (i := 2) dX5_firstClashOf_7 rfl
  have q7 : gz_OkE M_X5_firstClashOf 1 0 0 7 11 _ := ok_get q6 cl_2 (k := 0) (by decide) in_2 wd_76 dX5_firstClashOf_8
  have q8 : gz_OkJ M_X5_firstClashOf 0 0 0 6 30 14 _ := ok_ic_ge q5 q7 dX5_firstClashOf_11 (by decide)
  have q9 : gz_OkS M_X5_firstClashOf 0 0 30 _ := ok_at
  have q10 : gz_OkA M_X5_firstClashOf 0 0 0 14 14 0 _ := ok_a0
  have q11 : gz_OkE M_X5_firstClashOf 0 0 0 14 15 _ := ok_aload_n (i := 0) dX5_firstClashOf_14 rfl
  have q12 : gz_OkA M_X5_firstClashOf 0 0 0 14 15 1 _ := ok_a1 q10 q11
  have q13 : gz_OkE M_X5_firstClashOf 2 0 0 15 16 _ := ok_aload_n (i := 2) dX5_firstClashOf_15 rfl
  have q14 : gz_OkE M_X5_firstClashOf 2 0 0 15 19 _ := ok_get q13 cl_2 (k := 8) (by decide) in_2 wd_77 dX5_firstClashOf_16
  have q15 : gz_OkE M_X5_firstClashOf 3 0 0 19 20 _ := ok_iload_n (i := 3) dX5_firstClashOf_19 rfl
  have q16 : gz_OkE M_X5_firstClashOf 2 0 0 15 21 _ := ok_iald q14 q15 dX5_firstClashOf_20
  have q17 : gz_OkA M_X5_firstClashOf 0 0 0 14 21 2 _ := ok_a1 q12 q16
  have q18 : gz_OkS M_X5_firstClashOf 0 0 27 (gz_sat 6) := ok_goto dX5_firstClashOf_27 (by decide)
  have q19 : gz_OkS M_X5_firstClashOf 0 0 24 _ := ok_inc (v := 1) dX5_firstClashOf_24 kc_i1 (by decide) q18
  have q20 : gz_OkS M_X5_firstClashOf 0 0 14 _ := ok_vv q17 mt_X5_see cl_5 wd_541 wd_537 de_X5_see (by decide) (by decide) wd_542 wd_543 wd_544 dX5_firstClashOf_21 q19
  have q21 : gz_OkS M_X5_firstClashOf 0 0 6 _ := ok_if q8 q9 q20
  have q22 : gz_OkS M_X5_firstClashOf 0 0 6 lb_X5_firstClashOf_6 := q21
  have q23 : gz_OkS M_X5_firstClashOf 0 0 6 _ := ok_loop (k := 4) q22 rfl rfl
  have q24 : gz_OkE M_X5_firstClashOf 0 0 0 30 31 _ := ok_iconst (v := 0) dX5_firstClashOf_30 kc_i0
  have q25 : gz_OkE M_X5_firstClashOf 0 0 0 32 33 _ := ok_iload_n (i := 3) dX5_firstClashOf_32 rfl
  have q26 : gz_OkE M_X5_firstClashOf 1 0 0 33 34 _ := ok_aload_n (i := 2) dX5_firstClashOf_33 rfl
  have q27 : gz_OkE M_X5_firstClashOf 1 0 0 33 37 _ := ok_get q26 cl_2 (k := 0) (by decide) in_2 wd_76 dX5_firstClashOf_34
  have q28 : gz_OkJ M_X5_firstClashOf 0 0 0 32 72 40 _ := ok_ic_ge q25 q27 dX5_firstClashOf_37 (by decide)
  have q29 : gz_OkS M_X5_firstClashOf 0 0 72 _ := ok_at
  have q30 : gz_OkA M_X5_firstClashOf 0 0 0 40 40 0 _ := ok_a0
  have q31 : gz_OkE M_X5_firstClashOf 0 0 0 40 41 _ := ok_aload_n (i := 0) dX5_firstClashOf_40 rfl
  have q32 : gz_OkA M_X5_firstClashOf 0 0 0 40 41 1 _ := ok_a1 q30 q31
  have q33 : gz_OkE M_X5_firstClashOf 2 0 0 41 42 _ := ok_aload_n (i := 2) dX5_firstClashOf_41 rfl
  have q34 : gz_OkE M_X5_firstClashOf 2 0 0 41 45 _ := ok_get q33 cl_2 (k := 8) (by decide) in_2 wd_77 dX5_firstClashOf_42
  have q35 : gz_OkE M_X5_firstClashOf 3 0 0 45 46 _ := ok_iload_n (i := 3) dX5_firstClashOf_45 rfl
  have q36 : gz_OkE M_X5_firstClashOf 2 0 0 41 47 _ := ok_iald q34 q35 dX5_firstClashOf_46
  have q37 : gz_OkA M_X5_firstClashOf 0 0 0 40 47 2 _ := ok_a1 q32 q36
  have q38 : gz_OkA M_X5_firstClashOf 0 0 0 50 50 0 _ := ok_a0
  have q39 : gz_OkE M_X5_firstClashOf 0 0 0 50 51 _ := ok_aload_n (i := 0) dX5_firstClashOf_50 rfl
  have q40 : gz_OkA M_X5_firstClashOf 0 0 0 50 51 1 _ := ok_a1 q38 q39
  have q41 : gz_OkE M_X5_firstClashOf 2 0 0 51 52 _ := ok_aload_n (i := 1) dX5_firstClashOf_51 rfl
  have q42 : gz_OkA M_X5_firstClashOf 0 0 0 50 52 2 _ := ok_a1 q40 q41
  have q43 : gz_OkE M_X5_firstClashOf 4 0 0 52 53 _ := ok_aload_n (i := 2) dX5_firstClashOf_52 rfl
  have q44 : gz_OkE M_X5_firstClashOf 4 0 0 52 56 _ := ok_get q43 cl_2 (k := 8) (by decide) in_2 wd_77 dX5_firstClashOf_53
  have q45 : gz_OkE M_X5_firstClashOf 5 0 0 56 57 _ := ok_iload_n (i := 3) dX5_firstClashOf_56 rfl
  have q46 : gz_OkE M_X5_firstClashOf 4 0 0 52 58 _ := ok_iald q44 q45 dX5_firstClashOf_57
  have q47 : gz_OkA M_X5_firstClashOf 0 0 0 50 58 3 _ := ok_a1 q42 q46
  have q48 : gz_OkE M_X5_firstClashOf 0 0 0 50 61 _ := ok_cv q47 mt_X5_findsClash cl_5 wd_545 wd_537 de_X5_findsClash (by decide) (by decide) wd_546 wd_547 wd_548 dX5_firstClashOf_58 (by decide)
  have q49 : gz_OkJ M_X5_firstClashOf 0 0 0 50 66 64 _ := ok_if_eq q48 dX5_firstClashOf_61 (by decide)
  have q50 : gz_OkS M_X5_firstClashOf 0 0 69 (gz_sat 32) := ok_goto dX5_firstClashOf_69 (by decide)
  have q51 : gz_OkS M_X5_firstClashOf 0 0 66 _ := ok_inc (v := 1) dX5_firstClashOf_66 kc_i1 (by decide) q50
  have q52 : gz_OkE M_X5_firstClashOf 0 0 0 64 65 _ := ok_iload_n (i := 3) dX5_firstClashOf_64 rfl
  have q53 : gz_OkS M_X5_firstClashOf 0 0 64 _ := ok_ri q52 dX5_firstClashOf_65
  have q54 : gz_OkS M_X5_firstClashOf 0 0 50 _ := ok_if q49 q51 q53
  have q55 : gz_OkS M_X5_firstClashOf 0 0 40 _ := ok_vv q37 mt_X5_see cl_5 wd_541 wd_537 de_X5_see (by decide) (by decide) wd_542 wd_543 wd_544 dX5_firstClashOf_47 q54
  have q56 : gz_OkS M_X5_firstClashOf 0 0 32 _ := ok_if q28 q29 q55
  have q57 : gz_OkS M_X5_firstClashOf 0 0 32 lb_X5_firstClashOf_32 := q56
  have q58 : gz_OkS M_X5_firstClashOf 0 0 32 _ := ok_loop (k := 4) q57 rfl rfl
  have q59 : gz_OkE M_X5_firstClashOf 0 0 0 72 73 _ := ok_iconst (v := -1) dX5_firstClashOf_72 kc_im1
  have q60 : gz_OkS M_X5_firstClashOf 0 0 72 _ := ok_ri q59 dX5_firstClashOf_73
  have q61 : gz_OkS M_X5_firstClashOf 0 0 32 _ := ok_seq (L := 72) (k := 0) q58 q60
  have q62 : gz_OkS M_X5_firstClashOf 0 0 30 _ := ok_seti_n (k := 3) q24 dX5_firstClashOf_31 rfl (by decide) q61
  have q63 : gz_OkS M_X5_firstClashOf 0 0 6 _ := ok_seq (L := 30) (k := 3) q23 q62
  have q64 : gz_OkS M_X5_firstClashOf 0 0 4 _ := ok_seti_n (k := 3) q4 dX5_firstClashOf_5 rfl (by decide) q63
  have q65 : gz_OkS M_X5_firstClashOf 0 0 0 _ := ok_vv q3 mt_X5_forget cl_5 wd_549 wd_537 de_X5_forget (by decide) (by decide) wd_550 wd_551 wd_552 dX5_firstClashOf_1 q64
  have z : gz_OkS M_X5_firstClashOf 0 0 0 sm_X5_firstClashOf := q65
  exact gz_met (plainFor_of_name (by decide)) z (by decide) (by decide)
noncomputable def lb_X5_firstClashRead_7 : gz_Sx := gz_if (gz_j2 (fun x y => decide (y ≤ x)) (gz_li 6) (gz_li 3)) (gz_sat 65) (gz_seti 7 (gz_ib (fun x y => x ^^^ y) (gz_ald 100 (gz_get 1 11 4 (gz_la 1)) (gz_iz (fun x y => x - x / y * y) (gz_li 6) (gz_i (200)))) (gz_te (gz_j2 (fun x y => decide (¬ x = y)) (gz_li 6) (gz_li 4)) (gz_i (0)) (gz_li 5))) (gz_vv 5 3 se_X5_see (gz_a1 (gz_a1 (gz_a0) (gz_la 0)) (gz_li 7)) (gz_if (gz_j1 (fun x => decide (x = 0)) (gz_cv 5 3 se_X5_findsClash (gz_a1 (gz_a1 (gz_a1 (gz_a0) (gz_la 0)) (gz_la 1)) (gz_li 7)))) (gz_inc 6 (1) (gz_sat 7)) (gz_ri (gz_li 6)))))
noncomputable def sm_X5_firstClashRead : gz_Sx := gz_vv 5 3 se_X5_forget (gz_a1 (gz_a0) (gz_la 0)) (gz_seti 6 (gz_li 2) (gz_seq 65 0 (gz_loop 7 7 lb_X5_firstClashRead_7) (gz_ri (gz_i (-1)))))
noncomputable def se_X5_firstClashRead : gz_Me := gz_sem (some .int) 8 sm_X5_firstClashRead
abbrev rm_X5_firstClashRead : Room := { frames := 2, cells := 0, slots := 0, locals := 46 }
abbrev M_X5_firstClashRead : gz_Mi := (cX5_firstClashRead, 8, RX5, 2, 46, "firstClashRead", none)
theorem de_X5_firstClashRead : yX5_firstClashRead.cls ≠ "java/lang/invoke/MethodHandle" ∧ yX5_firstClashRead.cls ≠ "java/lang/invoke/VarHandle" ∧ (parseMethodDescriptor yX5_firstClashRead.desc).map (fun d => d.parameters.length) = some 5 := by decide +kernel
set_option maxRecDepth 100000 in
theorem mt_X5_firstClashRead : gz_Mt yX5_firstClashRead cX5_firstClashRead 8 (some .int) rm_X5_firstClashRead se_X5_firstClashRead := by
  have q1 : gz_OkA M_X5_firstClashRead 0 0 0 0 0 0 _ := ok_a0
  have q2 : gz_OkE M_X5_firstClashRead 0 0 0 0 1 _ := ok_aload_n (i := 0) dX5_firstClashRead_0 rfl
  have q3 : gz_OkA M_X5_firstClashRead 0 0 0 0 1 1 _ := ok_a1 q1 q2
  have q4 : gz_OkE M_X5_firstClashRead 0 0 0 4 5 _ := ok_iload_n (i := 2) dX5_firstClashRead_4 rfl
  have q5 : gz_OkE M_X5_firstClashRead 0 0 0 7 9 _ := ok_iload (i := 6) dX5_firstClashRead_7
  have q6 : gz_OkE M_X5_firstClashRead 1 0 0 9 10 _ := ok_iload_n (i := 3) dX5_firstClashRead_9 rfl
  have q7 : gz_OkJ M_X5_firstClashRead 0 0 0 7 65 13 _ := ok_ic_ge q5 q6 dX5_firstClashRead_10 (by decide)
  have q8 : gz_OkS M_X5_firstClashRead 0 0 65 _ := ok_at
  have q9 : gz_OkE M_X5_firstClashRead 0 0 0 13 14 _ := ok_aload_n (i := 1) dX5_firstClashRead_13 rfl
  have q10 : gz_OkE M_X5_firstClashRead 0 0 0 13 17 _ := ok_get q9 cl_1 (k := 4) (by decide) in_1 wd_78 dX5_firstClashRead_14
  have q11 : gz_OkE M_X5_firstClashRead 1 0 0 17 19 _ := ok_iload (i := 6) dX5_firstClashRead_17
  have q12 : gz_OkE M_X5_firstClashRead 2 0 0 19 22 _ := ok_sipush (v := 200) dX5_firstClashRead_19 kc_s200
  have q13 : gz_OkE M_X5_firstClashRead 1 0 0 17 23 _ := ok_irem q11 q12 dX5_firstClashRead_22
  have q14 : gz_OkE M_X5_firstClashRead 0 0 0 13 24 _ := ok_iald q10 q13 dX5_firstClashRead_23
  have q15 : gz_OkE M_X5_firstClashRead 1 0 0 24 26 _ := ok_iload (i := 6) dX5_firstClashRead_24
  have q16 : gz_OkE M_X5_firstClashRead 2 0 0 26 28 _ := ok_iload (i := 4) dX5_firstClashRead_26
  have q17 : gz_OkJ M_X5_firstClashRead 1 0 0 24 36 31 _ := ok_ic_ne q15 q16 dX5_firstClashRead_28 (by decide)
  have q18 : gz_OkE M_X5_firstClashRead 1 0 0 31 33 _ := ok_iload (i := 5) dX5_firstClashRead_31
  have q19 : gz_OkE M_X5_firstClashRead 1 0 0 31 37 _ := ok_eg q18 dX5_firstClashRead_33 (by decide)
  have q20 : gz_OkE M_X5_firstClashRead 1 0 0 36 37 _ := ok_iconst (v := 0) dX5_firstClashRead_36 kc_i0
  have q21 : gz_OkE M_X5_firstClashRead 1 0 0 24 37 _ := ok_te2 q17 q19 q20
  have q22 : gz_OkE M_X5_firstClashRead 0 0 0 13 38 _ := ok_ixor q14 q21 dX5_firstClashRead_37
  have q23 : gz_OkA M_X5_firstClashRead 0 0 0 40 40 0 _ := ok_a0
  have q24 : gz_OkE M_X5_firstClashRead 0 0 0 40 41 _ := ok_aload_n (i := 0) dX5_firstClashRead_40 rfl
  have q25 : gz_OkA M_X5_firstClashRead 0 0 0 40 41 1 _ := ok_a1 q23 q24
  have q26 : gz_OkE M_X5_firstClashRead 2 0 0 41 43 _ := ok_iload (i := 7) dX5_firstClashRead_41
  have q27 : gz_OkA M_X5_firstClashRead 0 0 0 40 43 2 _ := ok_a1 q25 q26
  have q28 : gz_OkA M_X5_firstClashRead 0 0 0 46 46 0 _ := ok_a0
  have q29 : gz_OkE M_X5_firstClashRead 0 0 0 46 47 _ := ok_aload_n (i := 0) dX5_firstClashRead_46 rfl
  have q30 : gz_OkA M_X5_firstClashRead 0 0 0 46 47 1 _ := ok_a1 q28 q29
  have q31 : gz_OkE M_X5_firstClashRead 2 0 0 47 48 _ := ok_aload_n (i := 1) dX5_firstClashRead_47 rfl
  have q32 : gz_OkA M_X5_firstClashRead 0 0 0 46 48 2 _ := ok_a1 q30 q31
  have q33 : gz_OkE M_X5_firstClashRead 4 0 0 48 50 _ := ok_iload (i := 7) dX5_firstClashRead_48
  have q34 : gz_OkA M_X5_firstClashRead 0 0 0 46 50 3 _ := ok_a1 q32 q33
  have q35 : gz_OkE M_X5_firstClashRead 0 0 0 46 53 _ := ok_cv q34 mt_X5_findsClash cl_5 wd_545 wd_537 de_X5_findsClash (by decide) (by decide) wd_546 wd_547 wd_548 dX5_firstClashRead_50 (by decide)
  have q36 : gz_OkJ M_X5_firstClashRead 0 0 0 46 59 56 _ := ok_if_eq q35 dX5_firstClashRead_53 (by decide)
  have q37 : gz_OkS M_X5_firstClashRead 0 0 62 (gz_sat 7) := ok_goto dX5_firstClashRead_62 (by decide)
  have q38 : gz_OkS M_X5_firstClashRead 0 0 59 _ := ok_inc (v := 1) dX5_firstClashRead_59 kc_i1 (by decide) q37
  have q39 : gz_OkE M_X5_firstClashRead 0 0 0 56 58 _ := ok_iload (i := 6) dX5_firstClashRead_56
  have q40 : gz_OkS M_X5_firstClashRead 0 0 56 _ := ok_ri q39 dX5_firstClashRead_58
  have q41 : gz_OkS M_X5_firstClashRead 0 0 46 _ := ok_if q36 q38 q40
  have q42 : gz_OkS M_X5_firstClashRead 0 0 40 _ := ok_vv q27 mt_X5_see cl_5 wd_541 wd_537 de_X5_see (by decide) (by decide) wd_542 wd_543 wd_544 dX5_firstClashRead_43 q41
  have q43 : gz_OkS M_X5_firstClashRead 0 0 13 _ := ok_seti (k := 7) q22 dX5_firstClashRead_38 (by decide) q42
  have q44 : gz_OkS M_X5_firstClashRead 0 0 7 _ := ok_if q7 q8 q43
  have q45 : gz_OkS M_X5_firstClashRead 0 0 7 lb_X5_firstClashRead_7 := q44
  have q46 : gz_OkS M_X5_firstClashRead 0 0 7 _ := ok_loop (k := 7) q45 rfl rfl
  have q47 : gz_OkE M_X5_firstClashRead 0 0 0 65 66 _ := ok_iconst (v := -1) dX5_firstClashRead_65 kc_im1
  have q48 : gz_OkS M_X5_firstClashRead 0 0 65 _ := ok_ri q47 dX5_firstClashRead_66
  have q49 : gz_OkS M_X5_firstClashRead 0 0 7 _ := ok_seq (L := 65) (k := 0) q46 q48
  have q50 : gz_OkS M_X5_firstClashRead 0 0 4 _ := ok_seti (k := 6) q4 dX5_firstClashRead_5 (by decide) q49
  have q51 : gz_OkS M_X5_firstClashRead 0 0 0 _ := ok_vv q3 mt_X5_forget cl_5 wd_549 wd_537 de_X5_forget (by decide) (by decide) wd_550 wd_551 wd_552 dX5_firstClashRead_1 q50
  have z : gz_OkS M_X5_firstClashRead 0 0 0 sm_X5_firstClashRead := q51
  exact gz_met (plainFor_of_name (by decide)) z (by decide) (by decide)
noncomputable def sm_X6_init : gz_Sx := gz_sup (gz_la 0) (gz_put 6 10 0 (.array (.object "GreenDesk$Plan")) (gz_la 0) (gz_nar 105 .null (gz_i (3)) 3) (gz_put 6 10 1 (.array .int) (gz_la 0) (gz_nar 100 (.int 0) (gz_i (6)) 6) (gz_put 6 10 2 (.array .int) (gz_la 0) (gz_nar 100 (.int 0) (gz_i (6)) 6) (gz_put 6 10 3 (.array .long) (gz_la 0) (gz_nar 102 (.long 0) (gz_i (540)) 540) (gz_put 6 10 4 (.array .long) (gz_la 0) (gz_nar 102 (.long 0) (gz_i (540)) 540) (gz_rv))))))
noncomputable def se_X6_init : gz_Me := gz_sem none 1 sm_X6_init
abbrev rm_X6_init : Room := { frames := 1, cells := 5, slots := 1095, locals := 12 }
abbrev M_X6_init : gz_Mi := (cX6_init, 1, RX6, 1, 12, "<init>", none)
theorem de_X6_init : yX6_init.cls ≠ "java/lang/invoke/MethodHandle" ∧ yX6_init.cls ≠ "java/lang/invoke/VarHandle" ∧ (parseMethodDescriptor yX6_init.desc).map (fun d => d.parameters.length) = some 0 := by decide +kernel
set_option maxRecDepth 100000 in
theorem mt_X6_init : gz_Mt yX6_init cX6_init 1 none rm_X6_init se_X6_init := by
  have q1 : gz_OkE M_X6_init 0 0 0 0 1 _ := ok_aload_n (i := 0) dX6_init_0 rfl
  have q2 : gz_OkE M_X6_init 0 0 0 4 5 _ := ok_aload_n (i := 0) dX6_init_4 rfl
  have q3 : gz_OkE M_X6_init 1 0 0 5 6 _ := ok_iconst (v := 3) dX6_init_5 kc_i3
  have q4 : gz_OkE M_X6_init 1 1 3 5 9 _ := ok_anew105 (n := 3) q3 wd_79 (by decide) dX6_init_6
  have q5 : gz_OkE M_X6_init 0 0 0 12 13 _ := ok_aload_n (i := 0) dX6_init_12 rfl
  have q6 : gz_OkE M_X6_init 1 0 0 13 15 _ := ok_bipush (v := 6) dX6_init_13 kc_b6
  have q7 : gz_OkE M_X6_init 1 1 6 13 17 _ := ok_newI (n := 6) q6 wd_0 (by decide) dX6_init_15
  have q8 : gz_OkE M_X6_init 0 0 0 20 21 _ := ok_aload_n (i := 0) dX6_init_20 rfl
  have q9 : gz_OkE M_X6_init 1 0 0 21 23 _ := ok_bipush (v := 6) dX6_init_21 kc_b6
  have q10 : gz_OkE M_X6_init 1 1 6 21 25 _ := ok_newI (n := 6) q9 wd_0 (by decide) dX6_init_23
  have q11 : gz_OkE M_X6_init 0 0 0 28 29 _ := ok_aload_n (i := 0) dX6_init_28 rfl
  have q12 : gz_OkE M_X6_init 1 0 0 29 32 _ := ok_sipush (v := 540) dX6_init_29 kc_s540
  have q13 : gz_OkE M_X6_init 1 1 540 29 34 _ := ok_newJ (n := 540) q12 wd_83 (by decide) dX6_init_32
  have q14 : gz_OkE M_X6_init 0 0 0 37 38 _ := ok_aload_n (i := 0) dX6_init_37 rfl
  have q15 : gz_OkE M_X6_init 1 0 0 38 41 _ := ok_sipush (v := 540) dX6_init_38 kc_s540
  have q16 : gz_OkE M_X6_init 1 1 540 38 43 _ := ok_newJ (n := 540) q15 wd_83 (by decide) dX6_init_41
  have q17 : gz_OkS M_X6_init 0 0 46 _ := ok_rv dX6_init_46
  have q18 : gz_OkS M_X6_init 1 540 37 _ := ok_putF (ty := (.array .long)) q14 q16 cl_6 (k := 4) (by decide) in_6 wd_85 tyX6 tyX6_ok nmX6 rfl rfl rfl rfl dX6_init_43 q17
  have q19 : gz_OkS M_X6_init 2 1080 28 _ := ok_putF (ty := (.array .long)) q11 q13 cl_6 (k := 3) (by decide) in_6 wd_84 tyX6 tyX6_ok nmX6 rfl rfl rfl rfl dX6_init_34 q18
  have q20 : gz_OkS M_X6_init 3 1086 20 _ := ok_putF (ty := (.array .int)) q8 q10 cl_6 (k := 2) (by decide) in_6 wd_82 tyX6 tyX6_ok nmX6 rfl rfl rfl rfl dX6_init_25 q19
  have q21 : gz_OkS M_X6_init 4 1092 12 _ := ok_putF (ty := (.array .int)) q5 q7 cl_6 (k := 1) (by decide) in_6 wd_81 tyX6 tyX6_ok nmX6 rfl rfl rfl rfl dX6_init_17 q20
  have q22 : gz_OkS M_X6_init 5 1095 4 _ := ok_putF (ty := (.array (.object "GreenDesk$Plan"))) q2 q4 cl_6 (k := 0) (by decide) in_6 wd_80 tyX6 tyX6_ok nmX6 rfl rfl rfl rfl dX6_init_9 q21
  have q23 : gz_OkS M_X6_init 5 1095 0 _ := ok_sup q1 wd_553 wd_403 wd_404 (by decide) (by decide) dX6_init_1 q22
  have z : gz_OkS M_X6_init 5 1095 0 sm_X6_init := q23
  exact gz_met (plainFor_of_name (by decide)) z (by decide) (by decide)
noncomputable def sm_X6_add : gz_Sx := gz_ast 105 (gz_get 6 10 0 (gz_la 0)) (gz_get 6 10 5 (gz_la 0)) (gz_la 1) (gz_ast 100 (gz_get 6 10 1 (gz_la 0)) (gz_get 6 10 5 (gz_la 0)) (gz_li 2) (gz_ast 100 (gz_get 6 10 1 (gz_la 0)) (gz_ib (fun x y => x + y) (gz_i (3)) (gz_get 6 10 5 (gz_la 0))) (gz_li 3) (gz_ast 100 (gz_get 6 10 2 (gz_la 0)) (gz_get 6 10 5 (gz_la 0)) (gz_li 4) (gz_ast 100 (gz_get 6 10 2 (gz_la 0)) (gz_ib (fun x y => x + y) (gz_i (3)) (gz_get 6 10 5 (gz_la 0))) (gz_li 5) (gz_put 6 10 5 .int (gz_la 0) (gz_ib (fun x y => x + y) (gz_get 6 10 5 (gz_dup)) (gz_i (1))) (gz_rv))))))
noncomputable def se_X6_add : gz_Me := gz_sem none 6 sm_X6_add
abbrev rm_X6_add : Room := { frames := 0, cells := 0, slots := 0, locals := 0 }
abbrev M_X6_add : gz_Mi := (cX6_add, 6, RX6, 0, 0, "add", none)
theorem de_X6_add : yX6_add.cls ≠ "java/lang/invoke/MethodHandle" ∧ yX6_add.cls ≠ "java/lang/invoke/VarHandle" ∧ (parseMethodDescriptor yX6_add.desc).map (fun d => d.parameters.length) = some 5 := by decide +kernel
set_option maxRecDepth 100000 in
theorem mt_X6_add : gz_Mt yX6_add cX6_add 6 none rm_X6_add se_X6_add := by
  have q1 : gz_OkE M_X6_add 0 0 0 0 1 _ := ok_aload_n (i := 0) dX6_add_0 rfl
  have q2 : gz_OkE M_X6_add 0 0 0 0 4 _ := ok_get q1 cl_6 (k := 0) (by decide) in_6 wd_80 dX6_add_1
  have q3 : gz_OkE M_X6_add 1 0 0 4 5 _ := ok_aload_n (i := 0) dX6_add_4 rfl
  have q4 : gz_OkE M_X6_add 1 0 0 4 8 _ := ok_get q3 cl_6 (k := 5) (by decide) in_6 wd_86 dX6_add_5
  have q5 : gz_OkE M_X6_add 2 0 0 8 9 _ := ok_aload_n (i := 1) dX6_add_8 rfl
  have q6 : gz_OkE M_X6_add 0 0 0 10 11 _ := ok_aload_n (i := 0) dX6_add_10 rfl
  have q7 : gz_OkE M_X6_add 0 0 0 10 14 _ := ok_get q6 cl_6 (k := 1) (by decide) in_6 wd_81 dX6_add_11
  have q8 : gz_OkE M_X6_add 1 0 0 14 15 _ := ok_aload_n (i := 0) dX6_add_14 rfl
  have q9 : gz_OkE M_X6_add 1 0 0 14 18 _ := ok_get q8 cl_6 (k := 5) (by decide) in_6 wd_86 dX6_add_15
  have q10 : gz_OkE M_X6_add 2 0 0 18 19 _ := ok_iload_n (i := 2) dX6_add_18 rfl
  have q11 : gz_OkE M_X6_add 0 0 0 20 21 _ := ok_aload_n (i := 0) dX6_add_20 rfl
  have q12 : gz_OkE M_X6_add 0 0 0 20 24 _ := ok_get q11 cl_6 (k := 1) (by decide) in_6 wd_81 dX6_add_21
  have q13 : gz_OkE M_X6_add 1 0 0 24 25 _ := ok_iconst (v := 3) dX6_add_24 kc_i3
  have q14 : gz_OkE M_X6_add 2 0 0 25 26 _ := ok_aload_n (i := 0) dX6_add_25 rfl
  have q15 : gz_OkE M_X6_add 2 0 0 25 29 _ := ok_get q14 cl_6 (k := 5) (by decide) in_6 wd_86 dX6_add_26
  have q16 : gz_OkE M_X6_add 1 0 0 24 30 _ := ok_iadd q13 q15 dX6_add_29
  have q17 : gz_OkE M_X6_add 2 0 0 30 31 _ := ok_iload_n (i := 3) dX6_add_30 rfl
  have q18 : gz_OkE M_X6_add 0 0 0 32 33 _ := ok_aload_n (i := 0) dX6_add_32 rfl
  have q19 : gz_OkE M_X6_add 0 0 0 32 36 _ := ok_get q18 cl_6 (k := 2) (by decide) in_6 wd_82 dX6_add_33
  have q20 : gz_OkE M_X6_add 1 0 0 36 37 _ := ok_aload_n (i := 0) dX6_add_36 rfl
  have q21 : gz_OkE M_X6_add 1 0 0 36 40 _ := ok_get q20 cl_6 (k := 5) (by decide) in_6 wd_86 dX6_add_37
  have q22 : gz_OkE M_X6_add 2 0 0 40 42 _ := ok_iload (i := 4) dX6_add_40
  have q23 : gz_OkE M_X6_add 0 0 0 43 44 _ := ok_aload_n (i := 0) dX6_add_43 rfl
  have q24 : gz_OkE M_X6_add 0 0 0 43 47 _ := ok_get q23 cl_6 (k := 2) (by decide) in_6 wd_82 dX6_add_44
  have q25 : gz_OkE M_X6_add 1 0 0 47 48 _ := ok_iconst (v := 3) dX6_add_47 kc_i3
  have q26 : gz_OkE M_X6_add 2 0 0 48 49 _ := ok_aload_n (i := 0) dX6_add_48 rfl
  have q27 : gz_OkE M_X6_add 2 0 0 48 52 _ := ok_get q26 cl_6 (k := 5) (by decide) in_6 wd_86 dX6_add_49
  have q28 : gz_OkE M_X6_add 1 0 0 47 53 _ := ok_iadd q25 q27 dX6_add_52
  have q29 : gz_OkE M_X6_add 2 0 0 53 55 _ := ok_iload (i := 5) dX6_add_53
  have q30 : gz_OkE M_X6_add 0 0 0 56 57 _ := ok_aload_n (i := 0) dX6_add_56 rfl
  have q31 : gz_OkE M_X6_add 1 0 0 57 58 _ := ok_dup dX6_add_57
  have q32 : gz_OkE M_X6_add 1 0 0 57 61 _ := ok_get q31 cl_6 (k := 5) (by decide) in_6 wd_86 dX6_add_58
  have q33 : gz_OkE M_X6_add 2 0 0 61 62 _ := ok_iconst (v := 1) dX6_add_61 kc_i1
  have q34 : gz_OkE M_X6_add 1 0 0 57 63 _ := ok_iadd q32 q33 dX6_add_62
  have q35 : gz_OkS M_X6_add 0 0 66 _ := ok_rv dX6_add_66
  have q36 : gz_OkS M_X6_add 0 0 56 _ := ok_put (ty := .int) q30 q34 cl_6 (k := 5) (by decide) in_6 wd_86 tyX6 tyX6_ok nmX6 rfl rfl dX6_add_63 q35
  have q37 : gz_OkS M_X6_add 0 0 43 _ := ok_iast q24 q28 q29 dX6_add_55 q36
  have q38 : gz_OkS M_X6_add 0 0 32 _ := ok_iast q19 q21 q22 dX6_add_42 q37
  have q39 : gz_OkS M_X6_add 0 0 20 _ := ok_iast q12 q16 q17 dX6_add_31 q38
  have q40 : gz_OkS M_X6_add 0 0 10 _ := ok_iast q7 q9 q10 dX6_add_19 q39
  have q41 : gz_OkS M_X6_add 0 0 0 _ := ok_aast105 q2 q4 q5 dX6_add_9 q40
  have z : gz_OkS M_X6_add 0 0 0 sm_X6_add := q41
  exact gz_met (plainFor_of_name (by decide)) z (by decide) (by decide)
noncomputable def lb_X6_passes_2 : gz_Sx := gz_if (gz_j2 (fun x y => decide (y ≤ x)) (gz_li 3) (gz_get 6 10 5 (gz_la 0))) (gz_sat 53) (gz_seti 4 (gz_ib (fun x y => x + y) (gz_ib (fun x y => x * y) (gz_li 1) (gz_i (3))) (gz_li 3)) (gz_if (gz_j1 (fun x => decide (¬ x = 0)) (gz_cv 2 9 se_X2_shows (gz_a1 (gz_a1 (gz_a1 (gz_a0) (gz_ald 105 (gz_get 6 10 0 (gz_la 0)) (gz_li 3))) (gz_ald 100 (gz_get 6 10 1 (gz_la 0)) (gz_li 4))) (gz_ib (fun x y => x + y) (gz_li 2) (gz_ald 100 (gz_get 6 10 2 (gz_la 0)) (gz_li 4)))))) (gz_inc 3 (1) (gz_sat 2)) (gz_ri (gz_i (0)))))
noncomputable def sm_X6_passes : gz_Sx := gz_seti 3 (gz_i (0)) (gz_seq 53 0 (gz_loop 2 4 lb_X6_passes_2) (gz_ri (gz_i (1))))
noncomputable def se_X6_passes : gz_Me := gz_sem (some .boolean) 5 sm_X6_passes
abbrev rm_X6_passes : Room := { frames := 3, cells := 0, slots := 0, locals := 65 }
abbrev M_X6_passes : gz_Mi := (cX6_passes, 5, RX6, 3, 65, "passes", none)
theorem de_X6_passes : yX6_passes.cls ≠ "java/lang/invoke/MethodHandle" ∧ yX6_passes.cls ≠ "java/lang/invoke/VarHandle" ∧ (parseMethodDescriptor yX6_passes.desc).map (fun d => d.parameters.length) = some 2 := by decide +kernel
set_option maxRecDepth 100000 in
theorem mt_X6_passes : gz_Mt yX6_passes cX6_passes 5 (some .boolean) rm_X6_passes se_X6_passes := by
  have q1 : gz_OkE M_X6_passes 0 0 0 0 1 _ := ok_iconst (v := 0) dX6_passes_0 kc_i0
  have q2 : gz_OkE M_X6_passes 0 0 0 2 3 _ := ok_iload_n (i := 3) dX6_passes_2 rfl
  have q3 : gz_OkE M_X6_passes 1 0 0 3 4 _ := ok_aload_n (i := 0) dX6_passes_3 rfl
  have q4 : gz_OkE M_X6_passes 1 0 0 3 7 _ := ok_get q3 cl_6 (k := 5) (by decide) in_6 wd_86 dX6_passes_4
  have q5 : gz_OkJ M_X6_passes 0 0 0 2 53 10 _ := ok_ic_ge q2 q4 dX6_passes_7 (by decide)
  have q6 : gz_OkS M_X6_passes 0 0 53 _ := ok_at
  have q7 : gz_OkE M_X6_passes 0 0 0 10 11 _ := ok_iload_n (i := 1) dX6_passes_10 rfl
  have q8 : gz_OkE M_X6_passes 1 0 0 11 12 _ := ok_iconst (v := 3) dX6_passes_11 kc_i3
  have q9 : gz_OkE M_X6_passes 0 0 0 10 13 _ := ok_imul q7 q8 dX6_passes_12
  have q10 : gz_OkE M_X6_passes 1 0 0 13 14 _ := ok_iload_n (i := 3) dX6_passes_13 rfl
  have q11 : gz_OkE M_X6_passes 0 0 0 10 15 _ := ok_iadd q9 q10 dX6_passes_14
  have q12 : gz_OkA M_X6_passes 0 0 0 17 17 0 _ := ok_a0
  have q13 : gz_OkE M_X6_passes 0 0 0 17 18 _ := ok_aload_n (i := 0) dX6_passes_17 rfl
  have q14 : gz_OkE M_X6_passes 0 0 0 17 21 _ := ok_get q13 cl_6 (k := 0) (by decide) in_6 wd_80 dX6_passes_18
  have q15 : gz_OkE M_X6_passes 1 0 0 21 22 _ := ok_iload_n (i := 3) dX6_passes_21 rfl
  have q16 : gz_OkE M_X6_passes 0 0 0 17 23 _ := ok_aald105 q14 q15 dX6_passes_22
  have q17 : gz_OkA M_X6_passes 0 0 0 17 23 1 _ := ok_a1 q12 q16
  have q18 : gz_OkE M_X6_passes 2 0 0 23 24 _ := ok_aload_n (i := 0) dX6_passes_23 rfl
  have q19 : gz_OkE M_X6_passes 2 0 0 23 27 _ := ok_get q18 cl_6 (k := 1) (by decide) in_6 wd_81 dX6_passes_24
  have q20 : gz_OkE M_X6_passes 3 0 0 27 29 _ := ok_iload (i := 4) dX6_passes_27
  have q21 : gz_OkE M_X6_passes 2 0 0 23 30 _ := ok_iald q19 q20 dX6_passes_29
  have q22 : gz_OkA M_X6_passes 0 0 0 17 30 2 _ := ok_a1 q17 q21
  have q23 : gz_OkE M_X6_passes 4 0 0 30 31 _ := ok_iload_n (i := 2) dX6_passes_30 rfl
  have q24 : gz_OkE M_X6_passes 5 0 0 31 32 _ := ok_aload_n (i := 0) dX6_passes_31 rfl
  have q25 : gz_OkE M_X6_passes 5 0 0 31 35 _ := ok_get q24 cl_6 (k := 2) (by decide) in_6 wd_82 dX6_passes_32
  have q26 : gz_OkE M_X6_passes 6 0 0 35 37 _ := ok_iload (i := 4) dX6_passes_35
  have q27 : gz_OkE M_X6_passes 5 0 0 31 38 _ := ok_iald q25 q26 dX6_passes_37
  have q28 : gz_OkE M_X6_passes 4 0 0 30 39 _ := ok_iadd q23 q27 dX6_passes_38
  have q29 : gz_OkA M_X6_passes 0 0 0 17 39 3 _ := ok_a1 q22 q28
  have q30 : gz_OkE M_X6_passes 0 0 0 17 42 _ := ok_cv q29 mt_X2_shows cl_2 wd_554 wd_406 de_X2_shows (by decide) (by decide) wd_555 wd_556 wd_557 dX6_passes_39 (by decide)
  have q31 : gz_OkJ M_X6_passes 0 0 0 17 47 45 _ := ok_if_ne q30 dX6_passes_42 (by decide)
  have q32 : gz_OkS M_X6_passes 0 0 50 (gz_sat 2) := ok_goto dX6_passes_50 (by decide)
  have q33 : gz_OkS M_X6_passes 0 0 47 _ := ok_inc (v := 1) dX6_passes_47 kc_i1 (by decide) q32
  have q34 : gz_OkE M_X6_passes 0 0 0 45 46 _ := ok_iconst (v := 0) dX6_passes_45 kc_i0
  have q35 : gz_OkS M_X6_passes 0 0 45 _ := ok_ri q34 dX6_passes_46
  have q36 : gz_OkS M_X6_passes 0 0 17 _ := ok_if q31 q33 q35
  have q37 : gz_OkS M_X6_passes 0 0 10 _ := ok_seti (k := 4) q11 dX6_passes_15 (by decide) q36
  have q38 : gz_OkS M_X6_passes 0 0 2 _ := ok_if q5 q6 q37
  have q39 : gz_OkS M_X6_passes 0 0 2 lb_X6_passes_2 := q38
  have q40 : gz_OkS M_X6_passes 0 0 2 _ := ok_loop (k := 4) q39 rfl rfl
  have q41 : gz_OkE M_X6_passes 0 0 0 53 54 _ := ok_iconst (v := 1) dX6_passes_53 kc_i1
  have q42 : gz_OkS M_X6_passes 0 0 53 _ := ok_ri q41 dX6_passes_54
  have q43 : gz_OkS M_X6_passes 0 0 2 _ := ok_seq (L := 53) (k := 0) q40 q42
  have q44 : gz_OkS M_X6_passes 0 0 0 _ := ok_seti_n (k := 3) q1 dX6_passes_1 rfl (by decide) q43
  have z : gz_OkS M_X6_passes 0 0 0 sm_X6_passes := q44
  exact gz_met (plainFor_of_name (by decide)) z (by decide) (by decide)
noncomputable def lb_X6_passing_4 : gz_Sx := gz_if (gz_j2 (fun x y => decide (y ≤ x)) (gz_li 3) (gz_get 2 9 0 (gz_ald 105 (gz_get 6 10 0 (gz_la 0)) (gz_i (0))))) (gz_sat 35) (gz_seq 29 4 (gz_if (gz_j1 (fun x => decide (x = 0)) (gz_cv 6 10 se_X6_passes (gz_a1 (gz_a1 (gz_a1 (gz_a0) (gz_la 0)) (gz_li 1)) (gz_li 3)))) (gz_sat 29) (gz_inc 2 (1) (gz_sat 29))) (gz_inc 3 (1) (gz_sat 4)))
noncomputable def sm_X6_passing : gz_Sx := gz_seti 2 (gz_i (0)) (gz_seti 3 (gz_i (0)) (gz_seq 35 3 (gz_loop 4 4 lb_X6_passing_4) (gz_ri (gz_li 2))))
noncomputable def se_X6_passing : gz_Me := gz_sem (some .int) 4 sm_X6_passing
abbrev rm_X6_passing : Room := { frames := 4, cells := 0, slots := 0, locals := 89 }
abbrev M_X6_passing : gz_Mi := (cX6_passing, 4, RX6, 4, 89, "passing", none)
theorem de_X6_passing : yX6_passing.cls ≠ "java/lang/invoke/MethodHandle" ∧ yX6_passing.cls ≠ "java/lang/invoke/VarHandle" ∧ (parseMethodDescriptor yX6_passing.desc).map (fun d => d.parameters.length) = some 1 := by decide +kernel
set_option maxRecDepth 100000 in
theorem mt_X6_passing : gz_Mt yX6_passing cX6_passing 4 (some .int) rm_X6_passing se_X6_passing := by
  have q1 : gz_OkE M_X6_passing 0 0 0 0 1 _ := ok_iconst (v := 0) dX6_passing_0 kc_i0
  have q2 : gz_OkE M_X6_passing 0 0 0 2 3 _ := ok_iconst (v := 0) dX6_passing_2 kc_i0
  have q3 : gz_OkE M_X6_passing 0 0 0 4 5 _ := ok_iload_n (i := 3) dX6_passing_4 rfl
  have q4 : gz_OkE M_X6_passing 1 0 0 5 6 _ := ok_aload_n (i := 0) dX6_passing_5 rfl
  have q5 : gz_OkE M_X6_passing 1 0 0 5 9 _ := ok_get q4 cl_6 (k := 0) (by decide) in_6 wd_80 dX6_passing_6
  have q6 : gz_OkE M_X6_passing 2 0 0 9 10 _ := ok_iconst (v := 0) dX6_passing_9 kc_i0
  have q7 : gz_OkE M_X6_passing 1 0 0 5 11 _ := ok_aald105 q5 q6 dX6_passing_10
  have q8 : gz_OkE M_X6_passing 1 0 0 5 14 _ := ok_get q7 cl_2 (k := 0) (by decide) in_2 wd_87 dX6_passing_11
  have q9 : gz_OkJ M_X6_passing 0 0 0 4 35 17 _ := ok_ic_ge q3 q8 dX6_passing_14 (by decide)
  have q10 : gz_OkS M_X6_passing 0 0 35 _ := ok_at
  have q11 : gz_OkA M_X6_passing 0 0 0 17 17 0 _ := ok_a0
  have q12 : gz_OkE M_X6_passing 0 0 0 17 18 _ := ok_aload_n (i := 0) dX6_passing_17 rfl
  have q13 : gz_OkA M_X6_passing 0 0 0 17 18 1 _ := ok_a1 q11 q12
  have q14 : gz_OkE M_X6_passing 2 0 0 18 19 _ := ok_iload_n (i := 1) dX6_passing_18 rfl
  have q15 : gz_OkA M_X6_passing 0 0 0 17 19 2 _ := ok_a1 q13 q14
  have q16 : gz_OkE M_X6_passing 4 0 0 19 20 _ := ok_iload_n (i := 3) dX6_passing_19 rfl
  have q17 : gz_OkA M_X6_passing 0 0 0 17 20 3 _ := ok_a1 q15 q16
  have q18 : gz_OkE M_X6_passing 0 0 0 17 23 _ := ok_cv q17 mt_X6_passes cl_6 wd_558 wd_559 de_X6_passes (by decide) (by decide) wd_560 wd_561 wd_562 dX6_passing_20 (by decide)
  have q19 : gz_OkJ M_X6_passing 0 0 0 17 29 26 _ := ok_if_eq q18 dX6_passing_23 (by decide)
  have q20 : gz_OkS M_X6_passing 0 0 29 _ := ok_at
  have q21 : gz_OkS M_X6_passing 0 0 29 _ := ok_at
  have q22 : gz_OkS M_X6_passing 0 0 26 _ := ok_inc (v := 1) dX6_passing_26 kc_i1 (by decide) q21
  have q23 : gz_OkS M_X6_passing 0 0 17 _ := ok_if q19 q20 q22
  have q24 : gz_OkS M_X6_passing 0 0 32 (gz_sat 4) := ok_goto dX6_passing_32 (by decide)
  have q25 : gz_OkS M_X6_passing 0 0 29 _ := ok_inc (v := 1) dX6_passing_29 kc_i1 (by decide) q24
  have q26 : gz_OkS M_X6_passing 0 0 17 _ := ok_seq (L := 29) (k := 4) q23 q25
  have q27 : gz_OkS M_X6_passing 0 0 4 _ := ok_if q9 q10 q26
  have q28 : gz_OkS M_X6_passing 0 0 4 lb_X6_passing_4 := q27
  have q29 : gz_OkS M_X6_passing 0 0 4 _ := ok_loop (k := 4) q28 rfl rfl
  have q30 : gz_OkE M_X6_passing 0 0 0 35 36 _ := ok_iload_n (i := 2) dX6_passing_35 rfl
  have q31 : gz_OkS M_X6_passing 0 0 35 _ := ok_ri q30 dX6_passing_36
  have q32 : gz_OkS M_X6_passing 0 0 4 _ := ok_seq (L := 35) (k := 3) q29 q31
  have q33 : gz_OkS M_X6_passing 0 0 2 _ := ok_seti_n (k := 3) q2 dX6_passing_3 rfl (by decide) q32
  have q34 : gz_OkS M_X6_passing 0 0 0 _ := ok_seti_n (k := 2) q1 dX6_passing_1 rfl (by decide) q33
  have z : gz_OkS M_X6_passing 0 0 0 sm_X6_passing := q34
  exact gz_met (plainFor_of_name (by decide)) z (by decide) (by decide)
noncomputable def lb_X6_layOffsets_54 : gz_Sx := gz_if (gz_j2 (fun x y => decide (y ≤ x)) (gz_li 6) (gz_get 2 9 0 (gz_la 2))) (gz_sat 152) (gz_set2 7 (gz_i2l (gz_ib (fun x y => x &&& y) (gz_ib (fun x y => x >>> (y &&& 31)) (gz_ald 100 (gz_get 2 9 8 (gz_la 2)) (gz_li 5)) (gz_ald 100 (gz_get 6 10 1 (gz_la 0)) (gz_li 1))) (gz_i (1)))) (gz_seq 125 7 (gz_if (gz_j2 (fun x y => decide (y ≤ x)) (gz_li 6) (gz_i (45))) (gz_ast 102 (gz_get 6 10 4 (gz_la 0)) (gz_li 4) (gz_lb (fun x y => x ||| y) (gz_d2 102) (gz_ls (fun x y => x <<< (y.toInt64 &&& 63)) (gz_ll 7) (gz_ib (fun x y => x - y) (gz_li 6) (gz_i (45))))) (gz_sat 125)) (gz_ast 102 (gz_get 6 10 3 (gz_la 0)) (gz_li 4) (gz_lb (fun x y => x ||| y) (gz_d2 102) (gz_ls (fun x y => x <<< (y.toInt64 &&& 63)) (gz_ll 7) (gz_li 6))) (gz_sat 125))) (gz_seti 5 (gz_te (gz_j2 (fun x y => decide (y ≤ x)) (gz_ib (fun x y => x + y) (gz_li 5) (gz_i (1))) (gz_get 2 9 0 (gz_la 2))) (gz_i (0)) (gz_ib (fun x y => x + y) (gz_li 5) (gz_i (1)))) (gz_inc 6 (1) (gz_sat 54)))))
noncomputable def lb_X6_layOffsets_2 : gz_Sx := gz_if (gz_j2 (fun x y => decide (y ≤ x)) (gz_li 3) (gz_get 2 9 0 (gz_la 2))) (gz_sat 158) (gz_seti 4 (gz_ib (fun x y => x + y) (gz_ib (fun x y => x * y) (gz_li 1) (gz_i (90))) (gz_li 3)) (gz_seti 5 (gz_cs se_J9_floorMod_7cf53 (gz_a1 (gz_a1 (gz_a0) (gz_ib (fun x y => x - y) (gz_ald 100 (gz_get 6 10 2 (gz_la 0)) (gz_li 1)) (gz_li 3))) (gz_get 2 9 0 (gz_la 2)))) (gz_ast 102 (gz_get 6 10 3 (gz_la 0)) (gz_li 4) (gz_l (0)) (gz_ast 102 (gz_get 6 10 4 (gz_la 0)) (gz_li 4) (gz_l (0)) (gz_seti 6 (gz_i (0)) (gz_seq 152 4 (gz_loop 54 7 lb_X6_layOffsets_54) (gz_inc 3 (1) (gz_sat 2))))))))
noncomputable def sm_X6_layOffsets : gz_Sx := gz_seti 3 (gz_i (0)) (gz_seq 158 0 (gz_loop 2 4 lb_X6_layOffsets_2) (gz_rv))
noncomputable def se_X6_layOffsets : gz_Me := gz_sem none 9 sm_X6_layOffsets
abbrev rm_X6_layOffsets : Room := { frames := 1, cells := 0, slots := 0, locals := 22 }
abbrev M_X6_layOffsets : gz_Mi := (cX6_layOffsets, 9, RX6, 1, 22, "layOffsets", none)
theorem de_X6_layOffsets : yX6_layOffsets.cls ≠ "java/lang/invoke/MethodHandle" ∧ yX6_layOffsets.cls ≠ "java/lang/invoke/VarHandle" ∧ (parseMethodDescriptor yX6_layOffsets.desc).map (fun d => d.parameters.length) = some 2 := by decide +kernel
set_option maxRecDepth 100000 in
theorem mt_X6_layOffsets : gz_Mt yX6_layOffsets cX6_layOffsets 9 none rm_X6_layOffsets se_X6_layOffsets := by
  have q1 : gz_OkE M_X6_layOffsets 0 0 0 0 1 _ := ok_iconst (v := 0) dX6_layOffsets_0 kc_i0
  have q2 : gz_OkE M_X6_layOffsets 0 0 0 2 3 _ := ok_iload_n (i := 3) dX6_layOffsets_2 rfl
  have q3 : gz_OkE M_X6_layOffsets 1 0 0 3 4 _ := ok_aload_n (i := 2) dX6_layOffsets_3 rfl
  have q4 : gz_OkE M_X6_layOffsets 1 0 0 3 7 _ := ok_get q3 cl_2 (k := 0) (by decide) in_2 wd_87 dX6_layOffsets_4
  have q5 : gz_OkJ M_X6_layOffsets 0 0 0 2 158 10 _ := ok_ic_ge q2 q4 dX6_layOffsets_7 (by decide)
  have q6 : gz_OkS M_X6_layOffsets 0 0 158 _ := ok_at
  have q7 : gz_OkE M_X6_layOffsets 0 0 0 10 11 _ := ok_iload_n (i := 1) dX6_layOffsets_10 rfl
  have q8 : gz_OkE M_X6_layOffsets 1 0 0 11 13 _ := ok_bipush (v := 90) dX6_layOffsets_11 kc_b90
  have q9 : gz_OkE M_X6_layOffsets 0 0 0 10 14 _ := ok_imul q7 q8 dX6_layOffsets_13
  have q10 : gz_OkE M_X6_layOffsets 1 0 0 14 15 _ := ok_iload_n (i := 3) dX6_layOffsets_14 rfl
  have q11 : gz_OkE M_X6_layOffsets 0 0 0 10 16 _ := ok_iadd q9 q10 dX6_layOffsets_15
  have q12 : gz_OkA M_X6_layOffsets 0 0 0 18 18 0 _ := ok_a0
  have q13 : gz_OkE M_X6_layOffsets 0 0 0 18 19 _ := ok_aload_n (i := 0) dX6_layOffsets_18 rfl
  have q14 : gz_OkE M_X6_layOffsets 0 0 0 18 22 _ := ok_get q13 cl_6 (k := 2) (by decide) in_6 wd_82 dX6_layOffsets_19
  have q15 : gz_OkE M_X6_layOffsets 1 0 0 22 23 _ := ok_iload_n (i := 1) dX6_layOffsets_22 rfl
  have q16 : gz_OkE M_X6_layOffsets 0 0 0 18 24 _ := ok_iald q14 q15 dX6_layOffsets_23
  have q17 : gz_OkE M_X6_layOffsets 1 0 0 24 25 _ := ok_iload_n (i := 3) dX6_layOffsets_24 rfl
  have q18 : gz_OkE M_X6_layOffsets 0 0 0 18 26 _ := ok_isub q16 q17 dX6_layOffsets_25
  have q19 : gz_OkA M_X6_layOffsets 0 0 0 18 26 1 _ := ok_a1 q12 q18
  have q20 : gz_OkE M_X6_layOffsets 2 0 0 26 27 _ := ok_aload_n (i := 2) dX6_layOffsets_26 rfl
  have q21 : gz_OkE M_X6_layOffsets 2 0 0 26 30 _ := ok_get q20 cl_2 (k := 0) (by decide) in_2 wd_87 dX6_layOffsets_27
  have q22 : gz_OkA M_X6_layOffsets 0 0 0 18 30 2 _ := ok_a1 q19 q21
  have q23 : gz_OkE M_X6_layOffsets 0 0 0 18 33 _ := ok_cs q22 mt_J9_floorMod_7cf53 wd_483 wd_411 de_J9_floorMod_7cf53 (by decide) (by decide) wd_563 wd_485 dX6_layOffsets_30 (by decide)
  have q24 : gz_OkE M_X6_layOffsets 0 0 0 35 36 _ := ok_aload_n (i := 0) dX6_layOffsets_35 rfl
  have q25 : gz_OkE M_X6_layOffsets 0 0 0 35 39 _ := ok_get q24 cl_6 (k := 3) (by decide) in_6 wd_84 dX6_layOffsets_36
  have q26 : gz_OkE M_X6_layOffsets 1 0 0 39 41 _ := ok_iload (i := 4) dX6_layOffsets_39
  have q27 : gz_OkE M_X6_layOffsets 2 0 0 41 42 _ := ok_lconst (v := 0) dX6_layOffsets_41 kc_l0
  have q28 : gz_OkE M_X6_layOffsets 0 0 0 43 44 _ := ok_aload_n (i := 0) dX6_layOffsets_43 rfl
  have q29 : gz_OkE M_X6_layOffsets 0 0 0 43 47 _ := ok_get q28 cl_6 (k := 4) (by decide) in_6 wd_85 dX6_layOffsets_44
  have q30 : gz_OkE M_X6_layOffsets 1 0 0 47 49 _ := ok_iload (i := 4) dX6_layOffsets_47
  have q31 : gz_OkE M_X6_layOffsets 2 0 0 49 50 _ := ok_lconst (v := 0) dX6_layOffsets_49 kc_l0
  have q32 : gz_OkE M_X6_layOffsets 0 0 0 51 52 _ := ok_iconst (v := 0) dX6_layOffsets_51 kc_i0
  have q33 : gz_OkE M_X6_layOffsets 0 0 0 54 56 _ := ok_iload (i := 6) dX6_layOffsets_54
  have q34 : gz_OkE M_X6_layOffsets 1 0 0 56 57 _ := ok_aload_n (i := 2) dX6_layOffsets_56 rfl
  have q35 : gz_OkE M_X6_layOffsets 1 0 0 56 60 _ := ok_get q34 cl_2 (k := 0) (by decide) in_2 wd_87 dX6_layOffsets_57
  have q36 : gz_OkJ M_X6_layOffsets 0 0 0 54 152 63 _ := ok_ic_ge q33 q35 dX6_layOffsets_60 (by decide)
  have q37 : gz_OkS M_X6_layOffsets 0 0 152 _ := ok_at
  have q38 : gz_OkE M_X6_layOffsets 0 0 0 63 64 _ := ok_aload_n (i := 2) dX6_layOffsets_63 rfl
  have q39 : gz_OkE M_X6_layOffsets 0 0 0 63 67 _ := ok_get q38 cl_2 (k := 8) (by decide) in_2 wd_94 dX6_layOffsets_64
  have q40 : gz_OkE M_X6_layOffsets 1 0 0 67 69 _ := ok_iload (i := 5) dX6_layOffsets_67
  have q41 : gz_OkE M_X6_layOffsets 0 0 0 63 70 _ := ok_iald q39 q40 dX6_layOffsets_69
  have q42 : gz_OkE M_X6_layOffsets 1 0 0 70 71 _ := ok_aload_n (i := 0) dX6_layOffsets_70 rfl
  have q43 : gz_OkE M_X6_layOffsets 1 0 0 70 74 _ := ok_get q42 cl_6 (k := 1) (by decide) in_6 wd_81 dX6_layOffsets_71
  have q44 : gz_OkE M_X6_layOffsets 2 0 0 74 75 _ := ok_iload_n (i := 1) dX6_layOffsets_74 rfl
  have q45 : gz_OkE M_X6_layOffsets 1 0 0 70 76 _ := ok_iald q43 q44 dX6_layOffsets_75
  have q46 : gz_OkE M_X6_layOffsets 0 0 0 63 77 _ := ok_ishr q41 q45 dX6_layOffsets_76
  have q47 : gz_OkE M_X6_layOffsets 1 0 0 77 78 _ := ok_iconst (v := 1) dX6_layOffsets_77 kc_i1
  have q48 : gz_OkE M_X6_layOffsets 0 0 0 63 79 _ := ok_iand q46 q47 dX6_layOffsets_78
  have q49 : gz_OkE M_X6_layOffsets 0 0 0 63 80 _ := ok_i2l q48 dX6_layOffsets_79
  have q50 : gz_OkE M_X6_layOffsets 0 0 0 82 84 _ := ok_iload (i := 6) dX6_layOffsets_82
  have q51 : gz_OkE M_X6_layOffsets 1 0 0 84 86 _ := ok_bipush (v := 45) dX6_layOffsets_84 kc_b45
  have q52 : gz_OkJ M_X6_layOffsets 0 0 0 82 107 89 _ := ok_ic_ge q50 q51 dX6_layOffsets_86 (by decide)
  have q53 : gz_OkE M_X6_layOffsets 0 0 0 107 108 _ := ok_aload_n (i := 0) dX6_layOffsets_107 rfl
  have q54 : gz_OkE M_X6_layOffsets 0 0 0 107 111 _ := ok_get q53 cl_6 (k := 4) (by decide) in_6 wd_85 dX6_layOffsets_108
  have q55 : gz_OkE M_X6_layOffsets 1 0 0 111 113 _ := ok_iload (i := 4) dX6_layOffsets_111
  have q56 : gz_OkE M_X6_layOffsets 2 0 0 113 115 _ := ok_d2lald dX6_layOffsets_113 dX6_layOffsets_114
  have q57 : gz_OkE M_X6_layOffsets 4 0 0 115 117 _ := ok_lload (i := 7) dX6_layOffsets_115
  have q58 : gz_OkE M_X6_layOffsets 6 0 0 117 119 _ := ok_iload (i := 6) dX6_layOffsets_117
  have q59 : gz_OkE M_X6_layOffsets 7 0 0 119 121 _ := ok_bipush (v := 45) dX6_layOffsets_119 kc_b45
  have q60 : gz_OkE M_X6_layOffsets 6 0 0 117 122 _ := ok_isub q58 q59 dX6_layOffsets_121
  have q61 : gz_OkE M_X6_layOffsets 4 0 0 115 123 _ := ok_lshl q57 q60 dX6_layOffsets_122
  have q62 : gz_OkE M_X6_layOffsets 2 0 0 113 124 _ := ok_lor q56 q61 dX6_layOffsets_123
  have q63 : gz_OkS M_X6_layOffsets 0 0 125 _ := ok_at
  have q64 : gz_OkS M_X6_layOffsets 0 0 107 _ := ok_last q54 q55 q62 dX6_layOffsets_124 q63
  have q65 : gz_OkE M_X6_layOffsets 0 0 0 89 90 _ := ok_aload_n (i := 0) dX6_layOffsets_89 rfl
  have q66 : gz_OkE M_X6_layOffsets 0 0 0 89 93 _ := ok_get q65 cl_6 (k := 3) (by decide) in_6 wd_84 dX6_layOffsets_90
  have q67 : gz_OkE M_X6_layOffsets 1 0 0 93 95 _ := ok_iload (i := 4) dX6_layOffsets_93
  have q68 : gz_OkE M_X6_layOffsets 2 0 0 95 97 _ := ok_d2lald dX6_layOffsets_95 dX6_layOffsets_96
  have q69 : gz_OkE M_X6_layOffsets 4 0 0 97 99 _ := ok_lload (i := 7) dX6_layOffsets_97
  have q70 : gz_OkE M_X6_layOffsets 6 0 0 99 101 _ := ok_iload (i := 6) dX6_layOffsets_99
  have q71 : gz_OkE M_X6_layOffsets 4 0 0 97 102 _ := ok_lshl q69 q70 dX6_layOffsets_101
  have q72 : gz_OkE M_X6_layOffsets 2 0 0 95 103 _ := ok_lor q68 q71 dX6_layOffsets_102
  have q73 : gz_OkS M_X6_layOffsets 0 0 104 (gz_sat 125) := ok_goto dX6_layOffsets_104 (by decide)
  have q74 : gz_OkS M_X6_layOffsets 0 0 89 _ := ok_last q66 q67 q72 dX6_layOffsets_103 q73
  have q75 : gz_OkS M_X6_layOffsets 0 0 82 _ := ok_if q52 q64 q74
  have q76 : gz_OkE M_X6_layOffsets 0 0 0 125 127 _ := ok_iload (i := 5) dX6_layOffsets_125
  have q77 : gz_OkE M_X6_layOffsets 1 0 0 127 128 _ := ok_iconst (v := 1) dX6_layOffsets_127 kc_i1
  have q78 : gz_OkE M_X6_layOffsets 0 0 0 125 129 _ := ok_iadd q76 q77 dX6_layOffsets_128
  have q79 : gz_OkE M_X6_layOffsets 1 0 0 129 130 _ := ok_aload_n (i := 2) dX6_layOffsets_129 rfl
  have q80 : gz_OkE M_X6_layOffsets 1 0 0 129 133 _ := ok_get q79 cl_2 (k := 0) (by decide) in_2 wd_87 dX6_layOffsets_130
  have q81 : gz_OkJ M_X6_layOffsets 0 0 0 125 143 136 _ := ok_ic_ge q78 q80 dX6_layOffsets_133 (by decide)
  have q82 : gz_OkE M_X6_layOffsets 0 0 0 136 138 _ := ok_iload (i := 5) dX6_layOffsets_136
  have q83 : gz_OkE M_X6_layOffsets 1 0 0 138 139 _ := ok_iconst (v := 1) dX6_layOffsets_138 kc_i1
  have q84 : gz_OkE M_X6_layOffsets 0 0 0 136 140 _ := ok_iadd q82 q83 dX6_layOffsets_139
  have q85 : gz_OkE M_X6_layOffsets 0 0 0 136 144 _ := ok_eg q84 dX6_layOffsets_140 (by decide)
  have q86 : gz_OkE M_X6_layOffsets 0 0 0 143 144 _ := ok_iconst (v := 0) dX6_layOffsets_143 kc_i0
  have q87 : gz_OkE M_X6_layOffsets 0 0 0 125 144 _ := ok_te2 q81 q85 q86
  have q88 : gz_OkS M_X6_layOffsets 0 0 149 (gz_sat 54) := ok_goto dX6_layOffsets_149 (by decide)
  have q89 : gz_OkS M_X6_layOffsets 0 0 146 _ := ok_inc (v := 1) dX6_layOffsets_146 kc_i1 (by decide) q88
  have q90 : gz_OkS M_X6_layOffsets 0 0 125 _ := ok_seti (k := 5) q87 dX6_layOffsets_144 (by decide) q89
  have q91 : gz_OkS M_X6_layOffsets 0 0 82 _ := ok_seq (L := 125) (k := 7) q75 q90
  have q92 : gz_OkS M_X6_layOffsets 0 0 63 _ := ok_setl (k := 7) q49 dX6_layOffsets_80 (by decide) q91
  have q93 : gz_OkS M_X6_layOffsets 0 0 54 _ := ok_if q36 q37 q92
  have q94 : gz_OkS M_X6_layOffsets 0 0 54 lb_X6_layOffsets_54 := q93
  have q95 : gz_OkS M_X6_layOffsets 0 0 54 _ := ok_loop (k := 7) q94 rfl rfl
  have q96 : gz_OkS M_X6_layOffsets 0 0 155 (gz_sat 2) := ok_goto dX6_layOffsets_155 (by decide)
  have q97 : gz_OkS M_X6_layOffsets 0 0 152 _ := ok_inc (v := 1) dX6_layOffsets_152 kc_i1 (by decide) q96
  have q98 : gz_OkS M_X6_layOffsets 0 0 54 _ := ok_seq (L := 152) (k := 4) q95 q97
  have q99 : gz_OkS M_X6_layOffsets 0 0 51 _ := ok_seti (k := 6) q32 dX6_layOffsets_52 (by decide) q98
  have q100 : gz_OkS M_X6_layOffsets 0 0 43 _ := ok_last q29 q30 q31 dX6_layOffsets_50 q99
  have q101 : gz_OkS M_X6_layOffsets 0 0 35 _ := ok_last q25 q26 q27 dX6_layOffsets_42 q100
  have q102 : gz_OkS M_X6_layOffsets 0 0 18 _ := ok_seti (k := 5) q23 dX6_layOffsets_33 (by decide) q101
  have q103 : gz_OkS M_X6_layOffsets 0 0 10 _ := ok_seti (k := 4) q11 dX6_layOffsets_16 (by decide) q102
  have q104 : gz_OkS M_X6_layOffsets 0 0 2 _ := ok_if q5 q6 q103
  have q105 : gz_OkS M_X6_layOffsets 0 0 2 lb_X6_layOffsets_2 := q104
  have q106 : gz_OkS M_X6_layOffsets 0 0 2 _ := ok_loop (k := 4) q105 rfl rfl
  have q107 : gz_OkS M_X6_layOffsets 0 0 158 _ := ok_rv dX6_layOffsets_158
  have q108 : gz_OkS M_X6_layOffsets 0 0 2 _ := ok_seq (L := 158) (k := 0) q106 q107
  have q109 : gz_OkS M_X6_layOffsets 0 0 0 _ := ok_seti_n (k := 3) q1 dX6_layOffsets_1 rfl (by decide) q108
  have z : gz_OkS M_X6_layOffsets 0 0 0 sm_X6_layOffsets := q109
  exact gz_met (plainFor_of_name (by decide)) z (by decide) (by decide)
noncomputable def lb_X6_layGreens_2 : gz_Sx := gz_if (gz_j2 (fun x y => decide (y ≤ x)) (gz_li 1) (gz_i (6))) (gz_sat 64) (gz_seti 2 (gz_iz (fun x y => x - x / y * y) (gz_li 1) (gz_i (3))) (gz_seq 58 2 (gz_if (gz_j2 (fun x y => decide (y ≤ x)) (gz_li 2) (gz_get 6 10 5 (gz_la 0))) (gz_ast 102 (gz_get 6 10 3 (gz_la 0)) (gz_ib (fun x y => x * y) (gz_li 1) (gz_i (90))) (gz_l (-1)) (gz_ast 102 (gz_get 6 10 4 (gz_la 0)) (gz_ib (fun x y => x * y) (gz_li 1) (gz_i (90))) (gz_l (-1)) (gz_sat 58))) (gz_vv 6 10 se_X6_layOffsets (gz_a1 (gz_a1 (gz_a1 (gz_a0) (gz_la 0)) (gz_li 1)) (gz_ald 105 (gz_get 6 10 0 (gz_la 0)) (gz_li 2))) (gz_sat 58))) (gz_inc 1 (1) (gz_sat 2))))
noncomputable def sm_X6_layGreens : gz_Sx := gz_seti 1 (gz_i (0)) (gz_seq 64 0 (gz_loop 2 2 lb_X6_layGreens_2) (gz_rv))
noncomputable def se_X6_layGreens : gz_Me := gz_sem none 3 sm_X6_layGreens
abbrev rm_X6_layGreens : Room := { frames := 2, cells := 0, slots := 0, locals := 50 }
abbrev M_X6_layGreens : gz_Mi := (cX6_layGreens, 3, RX6, 2, 50, "layGreens", none)
theorem de_X6_layGreens : yX6_layGreens.cls ≠ "java/lang/invoke/MethodHandle" ∧ yX6_layGreens.cls ≠ "java/lang/invoke/VarHandle" ∧ (parseMethodDescriptor yX6_layGreens.desc).map (fun d => d.parameters.length) = some 0 := by decide +kernel
set_option maxRecDepth 100000 in
theorem mt_X6_layGreens : gz_Mt yX6_layGreens cX6_layGreens 3 none rm_X6_layGreens se_X6_layGreens := by
  have q1 : gz_OkE M_X6_layGreens 0 0 0 0 1 _ := ok_iconst (v := 0) dX6_layGreens_0 kc_i0
  have q2 : gz_OkE M_X6_layGreens 0 0 0 2 3 _ := ok_iload_n (i := 1) dX6_layGreens_2 rfl
  have q3 : gz_OkE M_X6_layGreens 1 0 0 3 5 _ := ok_bipush (v := 6) dX6_layGreens_3 kc_b6
  have q4 : gz_OkJ M_X6_layGreens 0 0 0 2 64 8 _ := ok_ic_ge q2 q3 dX6_layGreens_5 (by decide)
  have q5 : gz_OkS M_X6_layGreens 0 0 64 _ := ok_at
  have q6 : gz_OkE M_X6_layGreens 0 0 0 8 9 _ := ok_iload_n (i := 1) dX6_layGreens_8 rfl
  have q7 : gz_OkE M_X6_layGreens 1 0 0 9 10 _ := ok_iconst (v := 3) dX6_layGreens_9 kc_i3
  have q8 : gz_OkE M_X6_layGreens 0 0 0 8 11 _ := ok_irem q6 q7 dX6_layGreens_10
  have q9 : gz_OkE M_X6_layGreens 0 0 0 12 13 _ := ok_iload_n (i := 2) dX6_layGreens_12 rfl
  have q10 : gz_OkE M_X6_layGreens 1 0 0 13 14 _ := ok_aload_n (i := 0) dX6_layGreens_13 rfl
  have q11 : gz_OkE M_X6_layGreens 1 0 0 13 17 _ := ok_get q10 cl_6 (k := 5) (by decide) in_6 wd_86 dX6_layGreens_14
  have q12 : gz_OkJ M_X6_layGreens 0 0 0 12 34 20 _ := ok_ic_ge q9 q11 dX6_layGreens_17 (by decide)
  have q13 : gz_OkE M_X6_layGreens 0 0 0 34 35 _ := ok_aload_n (i := 0) dX6_layGreens_34 rfl
  have q14 : gz_OkE M_X6_layGreens 0 0 0 34 38 _ := ok_get q13 cl_6 (k := 3) (by decide) in_6 wd_84 dX6_layGreens_35
  have q15 : gz_OkE M_X6_layGreens 1 0 0 38 39 _ := ok_iload_n (i := 1) dX6_layGreens_38 rfl
  have q16 : gz_OkE M_X6_layGreens 2 0 0 39 41 _ := ok_bipush (v := 90) dX6_layGreens_39 kc_b90
  have q17 : gz_OkE M_X6_layGreens 1 0 0 38 42 _ := ok_imul q15 q16 dX6_layGreens_41
  have q18 : gz_OkE M_X6_layGreens 2 0 0 42 45 _ := ok_ldc2 (v := -1) wd_93 dX6_layGreens_42
  have q19 : gz_OkE M_X6_layGreens 0 0 0 46 47 _ := ok_aload_n (i := 0) dX6_layGreens_46 rfl
  have q20 : gz_OkE M_X6_layGreens 0 0 0 46 50 _ := ok_get q19 cl_6 (k := 4) (by decide) in_6 wd_85 dX6_layGreens_47
  have q21 : gz_OkE M_X6_layGreens 1 0 0 50 51 _ := ok_iload_n (i := 1) dX6_layGreens_50 rfl
  have q22 : gz_OkE M_X6_layGreens 2 0 0 51 53 _ := ok_bipush (v := 90) dX6_layGreens_51 kc_b90
  have q23 : gz_OkE M_X6_layGreens 1 0 0 50 54 _ := ok_imul q21 q22 dX6_layGreens_53
  have q24 : gz_OkE M_X6_layGreens 2 0 0 54 57 _ := ok_ldc2 (v := -1) wd_93 dX6_layGreens_54
  have q25 : gz_OkS M_X6_layGreens 0 0 58 _ := ok_at
  have q26 : gz_OkS M_X6_layGreens 0 0 46 _ := ok_last q20 q23 q24 dX6_layGreens_57 q25
  have q27 : gz_OkS M_X6_layGreens 0 0 34 _ := ok_last q14 q17 q18 dX6_layGreens_45 q26
  have q28 : gz_OkA M_X6_layGreens 0 0 0 20 20 0 _ := ok_a0
  have q29 : gz_OkE M_X6_layGreens 0 0 0 20 21 _ := ok_aload_n (i := 0) dX6_layGreens_20 rfl
  have q30 : gz_OkA M_X6_layGreens 0 0 0 20 21 1 _ := ok_a1 q28 q29
  have q31 : gz_OkE M_X6_layGreens 2 0 0 21 22 _ := ok_iload_n (i := 1) dX6_layGreens_21 rfl
  have q32 : gz_OkA M_X6_layGreens 0 0 0 20 22 2 _ := ok_a1 q30 q31
  have q33 : gz_OkE M_X6_layGreens 4 0 0 22 23 _ := ok_aload_n (i := 0) dX6_layGreens_22 rfl
  have q34 : gz_OkE M_X6_layGreens 4 0 0 22 26 _ := ok_get q33 cl_6 (k := 0) (by decide) in_6 wd_80 dX6_layGreens_23
  have q35 : gz_OkE M_X6_layGreens 5 0 0 26 27 _ := ok_iload_n (i := 2) dX6_layGreens_26 rfl
  have q36 : gz_OkE M_X6_layGreens 4 0 0 22 28 _ := ok_aald105 q34 q35 dX6_layGreens_27
  have q37 : gz_OkA M_X6_layGreens 0 0 0 20 28 3 _ := ok_a1 q32 q36
  have q38 : gz_OkS M_X6_layGreens 0 0 31 (gz_sat 58) := ok_goto dX6_layGreens_31 (by decide)
  have q39 : gz_OkS M_X6_layGreens 0 0 20 _ := ok_vv q37 mt_X6_layOffsets cl_6 wd_564 wd_559 de_X6_layOffsets (by decide) (by decide) wd_565 wd_566 wd_567 dX6_layGreens_28 q38
  have q40 : gz_OkS M_X6_layGreens 0 0 12 _ := ok_if q12 q27 q39
  have q41 : gz_OkS M_X6_layGreens 0 0 61 (gz_sat 2) := ok_goto dX6_layGreens_61 (by decide)
  have q42 : gz_OkS M_X6_layGreens 0 0 58 _ := ok_inc (v := 1) dX6_layGreens_58 kc_i1 (by decide) q41
  have q43 : gz_OkS M_X6_layGreens 0 0 12 _ := ok_seq (L := 58) (k := 2) q40 q42
  have q44 : gz_OkS M_X6_layGreens 0 0 8 _ := ok_seti_n (k := 2) q8 dX6_layGreens_11 rfl (by decide) q43
  have q45 : gz_OkS M_X6_layGreens 0 0 2 _ := ok_if q4 q5 q44
  have q46 : gz_OkS M_X6_layGreens 0 0 2 lb_X6_layGreens_2 := q45
  have q47 : gz_OkS M_X6_layGreens 0 0 2 _ := ok_loop (k := 2) q46 rfl rfl
  have q48 : gz_OkS M_X6_layGreens 0 0 64 _ := ok_rv dX6_layGreens_64
  have q49 : gz_OkS M_X6_layGreens 0 0 2 _ := ok_seq (L := 64) (k := 0) q47 q48
  have q50 : gz_OkS M_X6_layGreens 0 0 0 _ := ok_seti_n (k := 1) q1 dX6_layGreens_1 rfl (by decide) q49
  have z : gz_OkS M_X6_layGreens 0 0 0 sm_X6_layGreens := q50
  exact gz_met (plainFor_of_name (by decide)) z (by decide) (by decide)
noncomputable def sm_J13_bitCount_95d88 : gz_Sx := gz_set2 0 (gz_lb (fun x y => x - y) (gz_ll 0) (gz_lb (fun x y => x &&& y) (gz_ls (fun x y => (x.toUInt64 >>> (y.toInt64.toUInt64 &&& Int64.toUInt64 63)).toInt64) (gz_ll 0) (gz_i (1))) (gz_l (6148914691236517205)))) (gz_set2 0 (gz_lb (fun x y => x + y) (gz_lb (fun x y => x &&& y) (gz_ll 0) (gz_l (3689348814741910323))) (gz_lb (fun x y => x &&& y) (gz_ls (fun x y => (x.toUInt64 >>> (y.toInt64.toUInt64 &&& Int64.toUInt64 63)).toInt64) (gz_ll 0) (gz_i (2))) (gz_l (3689348814741910323)))) (gz_set2 0 (gz_lb (fun x y => x &&& y) (gz_lb (fun x y => x + y) (gz_ll 0) (gz_ls (fun x y => (x.toUInt64 >>> (y.toInt64.toUInt64 &&& Int64.toUInt64 63)).toInt64) (gz_ll 0) (gz_i (4)))) (gz_l (1085102592571150095))) (gz_set2 0 (gz_lb (fun x y => x + y) (gz_ll 0) (gz_ls (fun x y => (x.toUInt64 >>> (y.toInt64.toUInt64 &&& Int64.toUInt64 63)).toInt64) (gz_ll 0) (gz_i (8)))) (gz_set2 0 (gz_lb (fun x y => x + y) (gz_ll 0) (gz_ls (fun x y => (x.toUInt64 >>> (y.toInt64.toUInt64 &&& Int64.toUInt64 63)).toInt64) (gz_ll 0) (gz_i (16)))) (gz_set2 0 (gz_lb (fun x y => x + y) (gz_ll 0) (gz_ls (fun x y => (x.toUInt64 >>> (y.toInt64.toUInt64 &&& Int64.toUInt64 63)).toInt64) (gz_ll 0) (gz_i (32)))) (gz_ri (gz_ib (fun x y => x &&& y) (gz_l2i (gz_ll 0)) (gz_i (127)))))))))
noncomputable def se_J13_bitCount_95d88 : gz_Me := gz_sem (some .int) 2 sm_J13_bitCount_95d88
abbrev rm_J13_bitCount_95d88 : Room := { frames := 0, cells := 0, slots := 0, locals := 0 }
abbrev M_J13_bitCount_95d88 : gz_Mi := (cJ13_bitCount_95d88, 2, RJ13, 0, 0, "bitCount", none)
theorem de_J13_bitCount_95d88 : yJ13_bitCount_95d88.cls ≠ "java/lang/invoke/MethodHandle" ∧ yJ13_bitCount_95d88.cls ≠ "java/lang/invoke/VarHandle" ∧ (parseMethodDescriptor yJ13_bitCount_95d88.desc).map (fun d => d.parameters.length) = some 1 := by decide +kernel
set_option maxRecDepth 100000 in
theorem mt_J13_bitCount_95d88 : gz_Mt yJ13_bitCount_95d88 cJ13_bitCount_95d88 2 (some .int) rm_J13_bitCount_95d88 se_J13_bitCount_95d88 := by
  have q1 : gz_OkE M_J13_bitCount_95d88 0 0 0 0 1 _ := ok_lload_n (i := 0) dJ13_bitCount_95d88_0 rfl
  have q2 : gz_OkE M_J13_bitCount_95d88 2 0 0 1 2 _ := ok_lload_n (i := 0) dJ13_bitCount_95d88_1 rfl
  have q3 : gz_OkE M_J13_bitCount_95d88 4 0 0 2 3 _ := ok_iconst (v := 1) dJ13_bitCount_95d88_2 kc_i1
  have q4 : gz_OkE M_J13_bitCount_95d88 2 0 0 1 4 _ := ok_lushr q2 q3 dJ13_bitCount_95d88_3
  have q5 : gz_OkE M_J13_bitCount_95d88 4 0 0 4 7 _ := ok_ldc2 (v := 6148914691236517205) wd_179 dJ13_bitCount_95d88_4
  have q6 : gz_OkE M_J13_bitCount_95d88 2 0 0 1 8 _ := ok_land q4 q5 dJ13_bitCount_95d88_7
  have q7 : gz_OkE M_J13_bitCount_95d88 0 0 0 0 9 _ := ok_lsub q1 q6 dJ13_bitCount_95d88_8
  have q8 : gz_OkE M_J13_bitCount_95d88 0 0 0 10 11 _ := ok_lload_n (i := 0) dJ13_bitCount_95d88_10 rfl
  have q9 : gz_OkE M_J13_bitCount_95d88 2 0 0 11 14 _ := ok_ldc2 (v := 3689348814741910323) wd_180 dJ13_bitCount_95d88_11
  have q10 : gz_OkE M_J13_bitCount_95d88 0 0 0 10 15 _ := ok_land q8 q9 dJ13_bitCount_95d88_14
  have q11 : gz_OkE M_J13_bitCount_95d88 2 0 0 15 16 _ := ok_lload_n (i := 0) dJ13_bitCount_95d88_15 rfl
  have q12 : gz_OkE M_J13_bitCount_95d88 4 0 0 16 17 _ := ok_iconst (v := 2) dJ13_bitCount_95d88_16 kc_i2
  have q13 : gz_OkE M_J13_bitCount_95d88 2 0 0 15 18 _ := ok_lushr q11 q12 dJ13_bitCount_95d88_17
  have q14 : gz_OkE M_J13_bitCount_95d88 4 0 0 18 21 _ := ok_ldc2 (v := 3689348814741910323) wd_180 dJ13_bitCount_95d88_18
  have q15 : gz_OkE M_J13_bitCount_95d88 2 0 0 15 22 _ := ok_land q13 q14 dJ13_bitCount_95d88_21
  have q16 : gz_OkE M_J13_bitCount_95d88 0 0 0 10 23 _ := ok_ladd q10 q15 dJ13_bitCount_95d88_22
  have q17 : gz_OkE M_J13_bitCount_95d88 0 0 0 24 25 _ := ok_lload_n (i := 0) dJ13_bitCount_95d88_24 rfl
  have q18 : gz_OkE M_J13_bitCount_95d88 2 0 0 25 26 _ := ok_lload_n (i := 0) dJ13_bitCount_95d88_25 rfl
  have q19 : gz_OkE M_J13_bitCount_95d88 4 0 0 26 27 _ := ok_iconst (v := 4) dJ13_bitCount_95d88_26 kc_i4
  have q20 : gz_OkE M_J13_bitCount_95d88 2 0 0 25 28 _ := ok_lushr q18 q19 dJ13_bitCount_95d88_27
  have q21 : gz_OkE M_J13_bitCount_95d88 0 0 0 24 29 _ := ok_ladd q17 q20 dJ13_bitCount_95d88_28
  have q22 : gz_OkE M_J13_bitCount_95d88 2 0 0 29 32 _ := ok_ldc2 (v := 1085102592571150095) wd_181 dJ13_bitCount_95d88_29
  have q23 : gz_OkE M_J13_bitCount_95d88 0 0 0 24 33 _ := ok_land q21 q22 dJ13_bitCount_95d88_32
  have q24 : gz_OkE M_J13_bitCount_95d88 0 0 0 34 35 _ := ok_lload_n (i := 0) dJ13_bitCount_95d88_34 rfl
  have q25 : gz_OkE M_J13_bitCount_95d88 2 0 0 35 36 _ := ok_lload_n (i := 0) dJ13_bitCount_95d88_35 rfl
  have q26 : gz_OkE M_J13_bitCount_95d88 4 0 0 36 38 _ := ok_bipush (v := 8) dJ13_bitCount_95d88_36 kc_b8
  have q27 : gz_OkE M_J13_bitCount_95d88 2 0 0 35 39 _ := ok_lushr q25 q26 dJ13_bitCount_95d88_38
  have q28 : gz_OkE M_J13_bitCount_95d88 0 0 0 34 40 _ := ok_ladd q24 q27 dJ13_bitCount_95d88_39
  have q29 : gz_OkE M_J13_bitCount_95d88 0 0 0 41 42 _ := ok_lload_n (i := 0) dJ13_bitCount_95d88_41 rfl
  have q30 : gz_OkE M_J13_bitCount_95d88 2 0 0 42 43 _ := ok_lload_n (i := 0) dJ13_bitCount_95d88_42 rfl
  have q31 : gz_OkE M_J13_bitCount_95d88 4 0 0 43 45 _ := ok_bipush (v := 16) dJ13_bitCount_95d88_43 kc_b16
  have q32 : gz_OkE M_J13_bitCount_95d88 2 0 0 42 46 _ := ok_lushr q30 q31 dJ13_bitCount_95d88_45
  have q33 : gz_OkE M_J13_bitCount_95d88 0 0 0 41 47 _ := ok_ladd q29 q32 dJ13_bitCount_95d88_46
  have q34 : gz_OkE M_J13_bitCount_95d88 0 0 0 48 49 _ := ok_lload_n (i := 0) dJ13_bitCount_95d88_48 rfl
  have q35 : gz_OkE M_J13_bitCount_95d88 2 0 0 49 50 _ := ok_lload_n (i := 0) dJ13_bitCount_95d88_49 rfl
  have q36 : gz_OkE M_J13_bitCount_95d88 4 0 0 50 52 _ := ok_bipush (v := 32) dJ13_bitCount_95d88_50 kc_b32
  have q37 : gz_OkE M_J13_bitCount_95d88 2 0 0 49 53 _ := ok_lushr q35 q36 dJ13_bitCount_95d88_52
  have q38 : gz_OkE M_J13_bitCount_95d88 0 0 0 48 54 _ := ok_ladd q34 q37 dJ13_bitCount_95d88_53
  have q39 : gz_OkE M_J13_bitCount_95d88 0 0 0 55 56 _ := ok_lload_n (i := 0) dJ13_bitCount_95d88_55 rfl
  have q40 : gz_OkE M_J13_bitCount_95d88 0 0 0 55 57 _ := ok_l2i q39 dJ13_bitCount_95d88_56
  have q41 : gz_OkE M_J13_bitCount_95d88 1 0 0 57 59 _ := ok_bipush (v := 127) dJ13_bitCount_95d88_57 kc_b127
  have q42 : gz_OkE M_J13_bitCount_95d88 0 0 0 55 60 _ := ok_iand q40 q41 dJ13_bitCount_95d88_59
  have q43 : gz_OkS M_J13_bitCount_95d88 0 0 55 _ := ok_ri q42 dJ13_bitCount_95d88_60
  have q44 : gz_OkS M_J13_bitCount_95d88 0 0 48 _ := ok_setl_n (k := 0) q38 dJ13_bitCount_95d88_54 rfl (by decide) q43
  have q45 : gz_OkS M_J13_bitCount_95d88 0 0 41 _ := ok_setl_n (k := 0) q33 dJ13_bitCount_95d88_47 rfl (by decide) q44
  have q46 : gz_OkS M_J13_bitCount_95d88 0 0 34 _ := ok_setl_n (k := 0) q28 dJ13_bitCount_95d88_40 rfl (by decide) q45
  have q47 : gz_OkS M_J13_bitCount_95d88 0 0 24 _ := ok_setl_n (k := 0) q23 dJ13_bitCount_95d88_33 rfl (by decide) q46
  have q48 : gz_OkS M_J13_bitCount_95d88 0 0 10 _ := ok_setl_n (k := 0) q16 dJ13_bitCount_95d88_23 rfl (by decide) q47
  have q49 : gz_OkS M_J13_bitCount_95d88 0 0 0 _ := ok_setl_n (k := 0) q7 dJ13_bitCount_95d88_9 rfl (by decide) q48
  have z : gz_OkS M_J13_bitCount_95d88 0 0 0 sm_J13_bitCount_95d88 := q49
  exact gz_met (by decide +kernel) z (by decide) (by decide)
noncomputable def sm_X6_passingBy : gz_Sx := gz_seti 4 (gz_ib (fun x y => x + y) (gz_ib (fun x y => x * y) (gz_ib (fun x y => x * y) (gz_li 1) (gz_i (3))) (gz_i (90))) (gz_get 2 9 1 (gz_ald 105 (gz_get 6 10 0 (gz_la 0)) (gz_i (0))))) (gz_seti 5 (gz_ib (fun x y => x + y) (gz_ib (fun x y => x * y) (gz_ib (fun x y => x + y) (gz_ib (fun x y => x * y) (gz_li 1) (gz_i (3))) (gz_i (1))) (gz_i (90))) (gz_li 2)) (gz_seti 6 (gz_ib (fun x y => x + y) (gz_ib (fun x y => x * y) (gz_ib (fun x y => x + y) (gz_ib (fun x y => x * y) (gz_li 1) (gz_i (3))) (gz_i (2))) (gz_i (90))) (gz_li 3)) (gz_ri (gz_ib (fun x y => x + y) (gz_cs se_J13_bitCount_95d88 (gz_a1 (gz_a0) (gz_lb (fun x y => x &&& y) (gz_lb (fun x y => x &&& y) (gz_ald 102 (gz_get 6 10 3 (gz_la 0)) (gz_li 4)) (gz_ald 102 (gz_get 6 10 3 (gz_la 0)) (gz_li 5))) (gz_ald 102 (gz_get 6 10 3 (gz_la 0)) (gz_li 6))))) (gz_cs se_J13_bitCount_95d88 (gz_a1 (gz_a0) (gz_lb (fun x y => x &&& y) (gz_lb (fun x y => x &&& y) (gz_ald 102 (gz_get 6 10 4 (gz_la 0)) (gz_li 4)) (gz_ald 102 (gz_get 6 10 4 (gz_la 0)) (gz_li 5))) (gz_ald 102 (gz_get 6 10 4 (gz_la 0)) (gz_li 6)))))))))
noncomputable def se_X6_passingBy : gz_Me := gz_sem (some .int) 7 sm_X6_passingBy
abbrev rm_X6_passingBy : Room := { frames := 1, cells := 0, slots := 0, locals := 21 }
abbrev M_X6_passingBy : gz_Mi := (cX6_passingBy, 7, RX6, 1, 21, "passingBy", none)
theorem de_X6_passingBy : yX6_passingBy.cls ≠ "java/lang/invoke/MethodHandle" ∧ yX6_passingBy.cls ≠ "java/lang/invoke/VarHandle" ∧ (parseMethodDescriptor yX6_passingBy.desc).map (fun d => d.parameters.length) = some 3 := by decide +kernel
set_option maxRecDepth 100000 in
theorem mt_X6_passingBy : gz_Mt yX6_passingBy cX6_passingBy 7 (some .int) rm_X6_passingBy se_X6_passingBy := by
  have q1 : gz_OkE M_X6_passingBy 0 0 0 0 1 _ := ok_iload_n (i := 1) dX6_passingBy_0 rfl
  have q2 : gz_OkE M_X6_passingBy 1 0 0 1 2 _ := ok_iconst (v := 3) dX6_passingBy_1 kc_i3
  have q3 : gz_OkE M_X6_passingBy 0 0 0 0 3 _ := ok_imul q1 q2 dX6_passingBy_2
  have q4 : gz_OkE M_X6_passingBy 1 0 0 3 5 _ := ok_bipush (v := 90) dX6_passingBy_3 kc_b90
  have q5 : gz_OkE M_X6_passingBy 0 0 0 0 6 _ := ok_imul q3 q4 dX6_passingBy_5
  have q6 : gz_OkE M_X6_passingBy 1 0 0 6 7 _ := ok_aload_n (i := 0) dX6_passingBy_6 rfl
  have q7 : gz_OkE M_X6_passingBy 1 0 0 6 10 _ := ok_get q6 cl_6 (k := 0) (by decide) in_6 wd_80 dX6_passingBy_7
  have q8 : gz_OkE M_X6_passingBy 2 0 0 10 11 _ := ok_iconst (v := 0) dX6_passingBy_10 kc_i0
  have q9 : gz_OkE M_X6_passingBy 1 0 0 6 12 _ := ok_aald105 q7 q8 dX6_passingBy_11
  have q10 : gz_OkE M_X6_passingBy 1 0 0 6 15 _ := ok_get q9 cl_2 (k := 1) (by decide) in_2 wd_92 dX6_passingBy_12
  have q11 : gz_OkE M_X6_passingBy 0 0 0 0 16 _ := ok_iadd q5 q10 dX6_passingBy_15
  have q12 : gz_OkE M_X6_passingBy 0 0 0 18 19 _ := ok_iload_n (i := 1) dX6_passingBy_18 rfl
  have q13 : gz_OkE M_X6_passingBy 1 0 0 19 20 _ := ok_iconst (v := 3) dX6_passingBy_19 kc_i3
  have q14 : gz_OkE M_X6_passingBy 0 0 0 18 21 _ := ok_imul q12 q13 dX6_passingBy_20
  have q15 : gz_OkE M_X6_passingBy 1 0 0 21 22 _ := ok_iconst (v := 1) dX6_passingBy_21 kc_i1
  have q16 : gz_OkE M_X6_passingBy 0 0 0 18 23 _ := ok_iadd q14 q15 dX6_passingBy_22
  have q17 : gz_OkE M_X6_passingBy 1 0 0 23 25 _ := ok_bipush (v := 90) dX6_passingBy_23 kc_b90
  have q18 : gz_OkE M_X6_passingBy 0 0 0 18 26 _ := ok_imul q16 q17 dX6_passingBy_25
  have q19 : gz_OkE M_X6_passingBy 1 0 0 26 27 _ := ok_iload_n (i := 2) dX6_passingBy_26 rfl
  have q20 : gz_OkE M_X6_passingBy 0 0 0 18 28 _ := ok_iadd q18 q19 dX6_passingBy_27
  have q21 : gz_OkE M_X6_passingBy 0 0 0 30 31 _ := ok_iload_n (i := 1) dX6_passingBy_30 rfl
  have q22 : gz_OkE M_X6_passingBy 1 0 0 31 32 _ := ok_iconst (v := 3) dX6_passingBy_31 kc_i3
  have q23 : gz_OkE M_X6_passingBy 0 0 0 30 33 _ := ok_imul q21 q22 dX6_passingBy_32
  have q24 : gz_OkE M_X6_passingBy 1 0 0 33 34 _ := ok_iconst (v := 2) dX6_passingBy_33 kc_i2
  have q25 : gz_OkE M_X6_passingBy 0 0 0 30 35 _ := ok_iadd q23 q24 dX6_passingBy_34
  have q26 : gz_OkE M_X6_passingBy 1 0 0 35 37 _ := ok_bipush (v := 90) dX6_passingBy_35 kc_b90
  have q27 : gz_OkE M_X6_passingBy 0 0 0 30 38 _ := ok_imul q25 q26 dX6_passingBy_37
  have q28 : gz_OkE M_X6_passingBy 1 0 0 38 39 _ := ok_iload_n (i := 3) dX6_passingBy_38 rfl
  have q29 : gz_OkE M_X6_passingBy 0 0 0 30 40 _ := ok_iadd q27 q28 dX6_passingBy_39
  have q30 : gz_OkA M_X6_passingBy 0 0 0 42 42 0 _ := ok_a0
  have q31 : gz_OkE M_X6_passingBy 0 0 0 42 43 _ := ok_aload_n (i := 0) dX6_passingBy_42 rfl
  have q32 : gz_OkE M_X6_passingBy 0 0 0 42 46 _ := ok_get q31 cl_6 (k := 3) (by decide) in_6 wd_84 dX6_passingBy_43
  have q33 : gz_OkE M_X6_passingBy 1 0 0 46 48 _ := ok_iload (i := 4) dX6_passingBy_46
  have q34 : gz_OkE M_X6_passingBy 0 0 0 42 49 _ := ok_lald q32 q33 dX6_passingBy_48
  have q35 : gz_OkE M_X6_passingBy 2 0 0 49 50 _ := ok_aload_n (i := 0) dX6_passingBy_49 rfl
  have q36 : gz_OkE M_X6_passingBy 2 0 0 49 53 _ := ok_get q35 cl_6 (k := 3) (by decide) in_6 wd_84 dX6_passingBy_50
  have q37 : gz_OkE M_X6_passingBy 3 0 0 53 55 _ := ok_iload (i := 5) dX6_passingBy_53
  have q38 : gz_OkE M_X6_passingBy 2 0 0 49 56 _ := ok_lald q36 q37 dX6_passingBy_55
  have q39 : gz_OkE M_X6_passingBy 0 0 0 42 57 _ := ok_land q34 q38 dX6_passingBy_56
  have q40 : gz_OkE M_X6_passingBy 2 0 0 57 58 _ := ok_aload_n (i := 0) dX6_passingBy_57 rfl
  have q41 : gz_OkE M_X6_passingBy 2 0 0 57 61 _ := ok_get q40 cl_6 (k := 3) (by decide) in_6 wd_84 dX6_passingBy_58
  have q42 : gz_OkE M_X6_passingBy 3 0 0 61 63 _ := ok_iload (i := 6) dX6_passingBy_61
  have q43 : gz_OkE M_X6_passingBy 2 0 0 57 64 _ := ok_lald q41 q42 dX6_passingBy_63
  have q44 : gz_OkE M_X6_passingBy 0 0 0 42 65 _ := ok_land q39 q43 dX6_passingBy_64
  have q45 : gz_OkA M_X6_passingBy 0 0 0 42 65 1 _ := ok_a1 q30 q44
  have q46 : gz_OkE M_X6_passingBy 0 0 0 42 68 _ := ok_cs q45 mt_J13_bitCount_95d88 wd_568 wd_569 de_J13_bitCount_95d88 (by decide) (by decide) wd_570 wd_571 dX6_passingBy_65 (by decide)
  have q47 : gz_OkA M_X6_passingBy 1 0 0 68 68 0 _ := ok_a0
  have q48 : gz_OkE M_X6_passingBy 1 0 0 68 69 _ := ok_aload_n (i := 0) dX6_passingBy_68 rfl
  have q49 : gz_OkE M_X6_passingBy 1 0 0 68 72 _ := ok_get q48 cl_6 (k := 4) (by decide) in_6 wd_85 dX6_passingBy_69
  have q50 : gz_OkE M_X6_passingBy 2 0 0 72 74 _ := ok_iload (i := 4) dX6_passingBy_72
  have q51 : gz_OkE M_X6_passingBy 1 0 0 68 75 _ := ok_lald q49 q50 dX6_passingBy_74
  have q52 : gz_OkE M_X6_passingBy 3 0 0 75 76 _ := ok_aload_n (i := 0) dX6_passingBy_75 rfl
  have q53 : gz_OkE M_X6_passingBy 3 0 0 75 79 _ := ok_get q52 cl_6 (k := 4) (by decide) in_6 wd_85 dX6_passingBy_76
  have q54 : gz_OkE M_X6_passingBy 4 0 0 79 81 _ := ok_iload (i := 5) dX6_passingBy_79
  have q55 : gz_OkE M_X6_passingBy 3 0 0 75 82 _ := ok_lald q53 q54 dX6_passingBy_81
  have q56 : gz_OkE M_X6_passingBy 1 0 0 68 83 _ := ok_land q51 q55 dX6_passingBy_82
  have q57 : gz_OkE M_X6_passingBy 3 0 0 83 84 _ := ok_aload_n (i := 0) dX6_passingBy_83 rfl
  have q58 : gz_OkE M_X6_passingBy 3 0 0 83 87 _ := ok_get q57 cl_6 (k := 4) (by decide) in_6 wd_85 dX6_passingBy_84
  have q59 : gz_OkE M_X6_passingBy 4 0 0 87 89 _ := ok_iload (i := 6) dX6_passingBy_87
  have q60 : gz_OkE M_X6_passingBy 3 0 0 83 90 _ := ok_lald q58 q59 dX6_passingBy_89
  have q61 : gz_OkE M_X6_passingBy 1 0 0 68 91 _ := ok_land q56 q60 dX6_passingBy_90
  have q62 : gz_OkA M_X6_passingBy 1 0 0 68 91 1 _ := ok_a1 q47 q61
  have q63 : gz_OkE M_X6_passingBy 1 0 0 68 94 _ := ok_cs q62 mt_J13_bitCount_95d88 wd_568 wd_569 de_J13_bitCount_95d88 (by decide) (by decide) wd_570 wd_571 dX6_passingBy_91 (by decide)
  have q64 : gz_OkE M_X6_passingBy 0 0 0 42 95 _ := ok_iadd q46 q63 dX6_passingBy_94
  have q65 : gz_OkS M_X6_passingBy 0 0 42 _ := ok_ri q64 dX6_passingBy_95
  have q66 : gz_OkS M_X6_passingBy 0 0 30 _ := ok_seti (k := 6) q29 dX6_passingBy_40 (by decide) q65
  have q67 : gz_OkS M_X6_passingBy 0 0 18 _ := ok_seti (k := 5) q20 dX6_passingBy_28 (by decide) q66
  have q68 : gz_OkS M_X6_passingBy 0 0 0 _ := ok_seti (k := 4) q11 dX6_passingBy_16 (by decide) q67
  have z : gz_OkS M_X6_passingBy 0 0 0 sm_X6_passingBy := q68
  exact gz_met (plainFor_of_name (by decide)) z (by decide) (by decide)
noncomputable def sm_X6_keepIfBetter : gz_Sx := gz_seti 3 (gz_cv 6 10 se_X6_passingBy (gz_a1 (gz_a1 (gz_a1 (gz_a1 (gz_a0) (gz_la 0)) (gz_i (0))) (gz_li 1)) (gz_li 2))) (gz_seti 4 (gz_cv 6 10 se_X6_passingBy (gz_a1 (gz_a1 (gz_a1 (gz_a1 (gz_a0) (gz_la 0)) (gz_i (1))) (gz_li 1)) (gz_li 2))) (gz_seti 5 (gz_cs se_J9_min_7cf53 (gz_a1 (gz_a1 (gz_a0) (gz_li 3)) (gz_li 4))) (gz_seq 78 0 (gz_if (gz_ja (gz_j2 (fun x y => decide (y < x)) (gz_li 5) (gz_get 6 10 6 (gz_la 0))) (gz_jo (gz_j2 (fun x y => decide (¬ x = y)) (gz_li 5) (gz_get 6 10 6 (gz_la 0))) (gz_j2 (fun x y => decide (x ≤ y)) (gz_ib (fun x y => x + y) (gz_li 3) (gz_li 4)) (gz_get 6 10 7 (gz_la 0))))) (gz_sat 78) (gz_put 6 10 6 .int (gz_la 0) (gz_li 5) (gz_put 6 10 7 .int (gz_la 0) (gz_ib (fun x y => x + y) (gz_li 3) (gz_li 4)) (gz_put 6 10 8 .int (gz_la 0) (gz_li 1) (gz_put 6 10 9 .int (gz_la 0) (gz_li 2) (gz_sat 78)))))) (gz_rv))))
noncomputable def se_X6_keepIfBetter : gz_Me := gz_sem none 6 sm_X6_keepIfBetter
abbrev rm_X6_keepIfBetter : Room := { frames := 2, cells := 0, slots := 0, locals := 47 }
abbrev M_X6_keepIfBetter : gz_Mi := (cX6_keepIfBetter, 6, RX6, 2, 47, "keepIfBetter", none)
theorem de_X6_keepIfBetter : yX6_keepIfBetter.cls ≠ "java/lang/invoke/MethodHandle" ∧ yX6_keepIfBetter.cls ≠ "java/lang/invoke/VarHandle" ∧ (parseMethodDescriptor yX6_keepIfBetter.desc).map (fun d => d.parameters.length) = some 2 := by decide +kernel
set_option maxRecDepth 100000 in
theorem mt_X6_keepIfBetter : gz_Mt yX6_keepIfBetter cX6_keepIfBetter 6 none rm_X6_keepIfBetter se_X6_keepIfBetter := by
  have q1 : gz_OkA M_X6_keepIfBetter 0 0 0 0 0 0 _ := ok_a0
  have q2 : gz_OkE M_X6_keepIfBetter 0 0 0 0 1 _ := ok_aload_n (i := 0) dX6_keepIfBetter_0 rfl
  have q3 : gz_OkA M_X6_keepIfBetter 0 0 0 0 1 1 _ := ok_a1 q1 q2
  have q4 : gz_OkE M_X6_keepIfBetter 2 0 0 1 2 _ := ok_iconst (v := 0) dX6_keepIfBetter_1 kc_i0
  have q5 : gz_OkA M_X6_keepIfBetter 0 0 0 0 2 2 _ := ok_a1 q3 q4
  have q6 : gz_OkE M_X6_keepIfBetter 4 0 0 2 3 _ := ok_iload_n (i := 1) dX6_keepIfBetter_2 rfl
  have q7 : gz_OkA M_X6_keepIfBetter 0 0 0 0 3 3 _ := ok_a1 q5 q6
  have q8 : gz_OkE M_X6_keepIfBetter 6 0 0 3 4 _ := ok_iload_n (i := 2) dX6_keepIfBetter_3 rfl
  have q9 : gz_OkA M_X6_keepIfBetter 0 0 0 0 4 4 _ := ok_a1 q7 q8
  have q10 : gz_OkE M_X6_keepIfBetter 0 0 0 0 7 _ := ok_cv q9 mt_X6_passingBy cl_6 wd_572 wd_559 de_X6_passingBy (by decide) (by decide) wd_573 wd_574 wd_575 dX6_keepIfBetter_4 (by decide)
  have q11 : gz_OkA M_X6_keepIfBetter 0 0 0 8 8 0 _ := ok_a0
  have q12 : gz_OkE M_X6_keepIfBetter 0 0 0 8 9 _ := ok_aload_n (i := 0) dX6_keepIfBetter_8 rfl
  have q13 : gz_OkA M_X6_keepIfBetter 0 0 0 8 9 1 _ := ok_a1 q11 q12
  have q14 : gz_OkE M_X6_keepIfBetter 2 0 0 9 10 _ := ok_iconst (v := 1) dX6_keepIfBetter_9 kc_i1
  have q15 : gz_OkA M_X6_keepIfBetter 0 0 0 8 10 2 _ := ok_a1 q13 q14
  have q16 : gz_OkE M_X6_keepIfBetter 4 0 0 10 11 _ := ok_iload_n (i := 1) dX6_keepIfBetter_10 rfl
  have q17 : gz_OkA M_X6_keepIfBetter 0 0 0 8 11 3 _ := ok_a1 q15 q16
  have q18 : gz_OkE M_X6_keepIfBetter 6 0 0 11 12 _ := ok_iload_n (i := 2) dX6_keepIfBetter_11 rfl
  have q19 : gz_OkA M_X6_keepIfBetter 0 0 0 8 12 4 _ := ok_a1 q17 q18
  have q20 : gz_OkE M_X6_keepIfBetter 0 0 0 8 15 _ := ok_cv q19 mt_X6_passingBy cl_6 wd_572 wd_559 de_X6_passingBy (by decide) (by decide) wd_573 wd_574 wd_575 dX6_keepIfBetter_12 (by decide)
  have q21 : gz_OkA M_X6_keepIfBetter 0 0 0 17 17 0 _ := ok_a0
  have q22 : gz_OkE M_X6_keepIfBetter 0 0 0 17 18 _ := ok_iload_n (i := 3) dX6_keepIfBetter_17 rfl
  have q23 : gz_OkA M_X6_keepIfBetter 0 0 0 17 18 1 _ := ok_a1 q21 q22
  have q24 : gz_OkE M_X6_keepIfBetter 2 0 0 18 20 _ := ok_iload (i := 4) dX6_keepIfBetter_18
  have q25 : gz_OkA M_X6_keepIfBetter 0 0 0 17 20 2 _ := ok_a1 q23 q24
  have q26 : gz_OkE M_X6_keepIfBetter 0 0 0 17 23 _ := ok_cs q25 mt_J9_min_7cf53 wd_425 wd_411 de_J9_min_7cf53 (by decide) (by decide) wd_576 wd_427 dX6_keepIfBetter_20 (by decide)
  have q27 : gz_OkE M_X6_keepIfBetter 0 0 0 25 27 _ := ok_iload (i := 5) dX6_keepIfBetter_25
  have q28 : gz_OkE M_X6_keepIfBetter 1 0 0 27 28 _ := ok_aload_n (i := 0) dX6_keepIfBetter_27 rfl
  have q29 : gz_OkE M_X6_keepIfBetter 1 0 0 27 31 _ := ok_get q28 cl_6 (k := 6) (by decide) in_6 wd_88 dX6_keepIfBetter_28
  have q30 : gz_OkJ M_X6_keepIfBetter 0 0 0 25 54 34 _ := ok_ic_gt q27 q29 dX6_keepIfBetter_31 (by decide)
  have q31 : gz_OkE M_X6_keepIfBetter 0 0 0 34 36 _ := ok_iload (i := 5) dX6_keepIfBetter_34
  have q32 : gz_OkE M_X6_keepIfBetter 1 0 0 36 37 _ := ok_aload_n (i := 0) dX6_keepIfBetter_36 rfl
  have q33 : gz_OkE M_X6_keepIfBetter 1 0 0 36 40 _ := ok_get q32 cl_6 (k := 6) (by decide) in_6 wd_88 dX6_keepIfBetter_37
  have q34 : gz_OkJ M_X6_keepIfBetter 0 0 0 34 78 43 _ := ok_ic_ne q31 q33 dX6_keepIfBetter_40 (by decide)
  have q35 : gz_OkE M_X6_keepIfBetter 0 0 0 43 44 _ := ok_iload_n (i := 3) dX6_keepIfBetter_43 rfl
  have q36 : gz_OkE M_X6_keepIfBetter 1 0 0 44 46 _ := ok_iload (i := 4) dX6_keepIfBetter_44
  have q37 : gz_OkE M_X6_keepIfBetter 0 0 0 43 47 _ := ok_iadd q35 q36 dX6_keepIfBetter_46
  have q38 : gz_OkE M_X6_keepIfBetter 1 0 0 47 48 _ := ok_aload_n (i := 0) dX6_keepIfBetter_47 rfl
  have q39 : gz_OkE M_X6_keepIfBetter 1 0 0 47 51 _ := ok_get q38 cl_6 (k := 7) (by decide) in_6 wd_89 dX6_keepIfBetter_48
  have q40 : gz_OkJ M_X6_keepIfBetter 0 0 0 43 78 54 _ := ok_ic_le q37 q39 dX6_keepIfBetter_51 (by decide)
  have q41 : gz_OkJ M_X6_keepIfBetter 0 0 0 34 78 54 _ := ok_jo q34 q40
  have q42 : gz_OkJ M_X6_keepIfBetter 0 0 0 25 78 54 _ := ok_ja q30 q41
  have q43 : gz_OkS M_X6_keepIfBetter 0 0 78 _ := ok_at
  have q44 : gz_OkE M_X6_keepIfBetter 0 0 0 54 55 _ := ok_aload_n (i := 0) dX6_keepIfBetter_54 rfl
  have q45 : gz_OkE M_X6_keepIfBetter 1 0 0 55 57 _ := ok_iload (i := 5) dX6_keepIfBetter_55
  have q46 : gz_OkE M_X6_keepIfBetter 0 0 0 60 61 _ := ok_aload_n (i := 0) dX6_keepIfBetter_60 rfl
  have q47 : gz_OkE M_X6_keepIfBetter 1 0 0 61 62 _ := ok_iload_n (i := 3) dX6_keepIfBetter_61 rfl
  have q48 : gz_OkE M_X6_keepIfBetter 2 0 0 62 64 _ := ok_iload (i := 4) dX6_keepIfBetter_62
  have q49 : gz_OkE M_X6_keepIfBetter 1 0 0 61 65 _ := ok_iadd q47 q48 dX6_keepIfBetter_64
  have q50 : gz_OkE M_X6_keepIfBetter 0 0 0 68 69 _ := ok_aload_n (i := 0) dX6_keepIfBetter_68 rfl
  have q51 : gz_OkE M_X6_keepIfBetter 1 0 0 69 70 _ := ok_iload_n (i := 1) dX6_keepIfBetter_69 rfl
  have q52 : gz_OkE M_X6_keepIfBetter 0 0 0 73 74 _ := ok_aload_n (i := 0) dX6_keepIfBetter_73 rfl
  have q53 : gz_OkE M_X6_keepIfBetter 1 0 0 74 75 _ := ok_iload_n (i := 2) dX6_keepIfBetter_74 rfl
  have q54 : gz_OkS M_X6_keepIfBetter 0 0 78 _ := ok_at
  have q55 : gz_OkS M_X6_keepIfBetter 0 0 73 _ := ok_put (ty := .int) q52 q53 cl_6 (k := 9) (by decide) in_6 wd_91 tyX6 tyX6_ok nmX6 rfl rfl dX6_keepIfBetter_75 q54
  have q56 : gz_OkS M_X6_keepIfBetter 0 0 68 _ := ok_put (ty := .int) q50 q51 cl_6 (k := 8) (by decide) in_6 wd_90 tyX6 tyX6_ok nmX6 rfl rfl dX6_keepIfBetter_70 q55
  have q57 : gz_OkS M_X6_keepIfBetter 0 0 60 _ := ok_put (ty := .int) q46 q49 cl_6 (k := 7) (by decide) in_6 wd_89 tyX6 tyX6_ok nmX6 rfl rfl dX6_keepIfBetter_65 q56
  have q58 : gz_OkS M_X6_keepIfBetter 0 0 54 _ := ok_put (ty := .int) q44 q45 cl_6 (k := 6) (by decide) in_6 wd_88 tyX6 tyX6_ok nmX6 rfl rfl dX6_keepIfBetter_57 q57
  have q59 : gz_OkS M_X6_keepIfBetter 0 0 25 _ := ok_if q42 q43 q58
  have q60 : gz_OkS M_X6_keepIfBetter 0 0 78 _ := ok_rv dX6_keepIfBetter_78
  have q61 : gz_OkS M_X6_keepIfBetter 0 0 25 _ := ok_seq (L := 78) (k := 0) q59 q60
  have q62 : gz_OkS M_X6_keepIfBetter 0 0 17 _ := ok_seti (k := 5) q26 dX6_keepIfBetter_23 (by decide) q61
  have q63 : gz_OkS M_X6_keepIfBetter 0 0 8 _ := ok_seti (k := 4) q20 dX6_keepIfBetter_15 (by decide) q62
  have q64 : gz_OkS M_X6_keepIfBetter 0 0 0 _ := ok_seti_n (k := 3) q10 dX6_keepIfBetter_7 rfl (by decide) q63
  have z : gz_OkS M_X6_keepIfBetter 0 0 0 sm_X6_keepIfBetter := q64
  exact gz_met (plainFor_of_name (by decide)) z (by decide) (by decide)
noncomputable def lb_X6_findBest_48 : gz_Sx := gz_if (gz_j2 (fun x y => decide (y ≤ x)) (gz_li 4) (gz_li 2)) (gz_sat 67) (gz_vv 6 10 se_X6_keepIfBetter (gz_a1 (gz_a1 (gz_a1 (gz_a0) (gz_la 0)) (gz_li 3)) (gz_li 4)) (gz_inc 4 (1) (gz_sat 48)))
noncomputable def lb_X6_findBest_40 : gz_Sx := gz_if (gz_j2 (fun x y => decide (y ≤ x)) (gz_li 3) (gz_li 1)) (gz_sat 73) (gz_seti 4 (gz_i (0)) (gz_seq 67 4 (gz_loop 48 5 lb_X6_findBest_48) (gz_inc 3 (1) (gz_sat 40))))
noncomputable def sm_X6_findBest : gz_Sx := gz_seti 1 (gz_get 2 9 0 (gz_ald 105 (gz_get 6 10 0 (gz_la 0)) (gz_i (0)))) (gz_seti 2 (gz_te (gz_j2 (fun x y => decide (¬ x = y)) (gz_get 6 10 5 (gz_la 0)) (gz_i (3))) (gz_i (1)) (gz_li 1)) (gz_vv 6 10 se_X6_layGreens (gz_a1 (gz_a0) (gz_la 0)) (gz_put 6 10 6 .int (gz_la 0) (gz_i (-1)) (gz_put 6 10 7 .int (gz_la 0) (gz_i (-1)) (gz_seti 3 (gz_i (0)) (gz_seq 73 0 (gz_loop 40 4 lb_X6_findBest_40) (gz_rv)))))))
noncomputable def se_X6_findBest : gz_Me := gz_sem none 5 sm_X6_findBest
abbrev rm_X6_findBest : Room := { frames := 3, cells := 0, slots := 0, locals := 72 }
abbrev M_X6_findBest : gz_Mi := (cX6_findBest, 5, RX6, 3, 72, "findBest", none)
theorem de_X6_findBest : yX6_findBest.cls ≠ "java/lang/invoke/MethodHandle" ∧ yX6_findBest.cls ≠ "java/lang/invoke/VarHandle" ∧ (parseMethodDescriptor yX6_findBest.desc).map (fun d => d.parameters.length) = some 0 := by decide +kernel
set_option maxRecDepth 100000 in
theorem mt_X6_findBest : gz_Mt yX6_findBest cX6_findBest 5 none rm_X6_findBest se_X6_findBest := by
  have q1 : gz_OkE M_X6_findBest 0 0 0 0 1 _ := ok_aload_n (i := 0) dX6_findBest_0 rfl
  have q2 : gz_OkE M_X6_findBest 0 0 0 0 4 _ := ok_get q1 cl_6 (k := 0) (by decide) in_6 wd_80 dX6_findBest_1
  have q3 : gz_OkE M_X6_findBest 1 0 0 4 5 _ := ok_iconst (v := 0) dX6_findBest_4 kc_i0
  have q4 : gz_OkE M_X6_findBest 0 0 0 0 6 _ := ok_aald105 q2 q3 dX6_findBest_5
  have q5 : gz_OkE M_X6_findBest 0 0 0 0 9 _ := ok_get q4 cl_2 (k := 0) (by decide) in_2 wd_87 dX6_findBest_6
  have q6 : gz_OkE M_X6_findBest 0 0 0 10 11 _ := ok_aload_n (i := 0) dX6_findBest_10 rfl
  have q7 : gz_OkE M_X6_findBest 0 0 0 10 14 _ := ok_get q6 cl_6 (k := 5) (by decide) in_6 wd_86 dX6_findBest_11
  have q8 : gz_OkE M_X6_findBest 1 0 0 14 15 _ := ok_iconst (v := 3) dX6_findBest_14 kc_i3
  have q9 : gz_OkJ M_X6_findBest 0 0 0 10 22 18 _ := ok_ic_ne q7 q8 dX6_findBest_15 (by decide)
  have q10 : gz_OkE M_X6_findBest 0 0 0 18 19 _ := ok_iload_n (i := 1) dX6_findBest_18 rfl
  have q11 : gz_OkE M_X6_findBest 0 0 0 18 23 _ := ok_eg q10 dX6_findBest_19 (by decide)
  have q12 : gz_OkE M_X6_findBest 0 0 0 22 23 _ := ok_iconst (v := 1) dX6_findBest_22 kc_i1
  have q13 : gz_OkE M_X6_findBest 0 0 0 10 23 _ := ok_te2 q9 q11 q12
  have q14 : gz_OkA M_X6_findBest 0 0 0 24 24 0 _ := ok_a0
  have q15 : gz_OkE M_X6_findBest 0 0 0 24 25 _ := ok_aload_n (i := 0) dX6_findBest_24 rfl
  have q16 : gz_OkA M_X6_findBest 0 0 0 24 25 1 _ := ok_a1 q14 q15
  have q17 : gz_OkE M_X6_findBest 0 0 0 28 29 _ := ok_aload_n (i := 0) dX6_findBest_28 rfl
  have q18 : gz_OkE M_X6_findBest 1 0 0 29 30 _ := ok_iconst (v := -1) dX6_findBest_29 kc_im1
  have q19 : gz_OkE M_X6_findBest 0 0 0 33 34 _ := ok_aload_n (i := 0) dX6_findBest_33 rfl
  have q20 : gz_OkE M_X6_findBest 1 0 0 34 35 _ := ok_iconst (v := -1) dX6_findBest_34 kc_im1
  have q21 : gz_OkE M_X6_findBest 0 0 0 38 39 _ := ok_iconst (v := 0) dX6_findBest_38 kc_i0
  have q22 : gz_OkE M_X6_findBest 0 0 0 40 41 _ := ok_iload_n (i := 3) dX6_findBest_40 rfl
  have q23 : gz_OkE M_X6_findBest 1 0 0 41 42 _ := ok_iload_n (i := 1) dX6_findBest_41 rfl
  have q24 : gz_OkJ M_X6_findBest 0 0 0 40 73 45 _ := ok_ic_ge q22 q23 dX6_findBest_42 (by decide)
  have q25 : gz_OkS M_X6_findBest 0 0 73 _ := ok_at
  have q26 : gz_OkE M_X6_findBest 0 0 0 45 46 _ := ok_iconst (v := 0) dX6_findBest_45 kc_i0
  have q27 : gz_OkE M_X6_findBest 0 0 0 48 50 _ := ok_iload (i := 4) dX6_findBest_48
  have q28 : gz_OkE M_X6_findBest 1 0 0 50 51 _ := ok_iload_n (i := 2) dX6_findBest_50 rfl
  have q29 : gz_OkJ M_X6_findBest 0 0 0 48 67 54 _ := ok_ic_ge q27 q28 dX6_findBest_51 (by decide)
  have q30 : gz_OkS M_X6_findBest 0 0 67 _ := ok_at
  have q31 : gz_OkA M_X6_findBest 0 0 0 54 54 0 _ := ok_a0
  have q32 : gz_OkE M_X6_findBest 0 0 0 54 55 _ := ok_aload_n (i := 0) dX6_findBest_54 rfl
  have q33 : gz_OkA M_X6_findBest 0 0 0 54 55 1 _ := ok_a1 q31 q32
  have q34 : gz_OkE M_X6_findBest 2 0 0 55 56 _ := ok_iload_n (i := 3) dX6_findBest_55 rfl
  have q35 : gz_OkA M_X6_findBest 0 0 0 54 56 2 _ := ok_a1 q33 q34
  have q36 : gz_OkE M_X6_findBest 4 0 0 56 58 _ := ok_iload (i := 4) dX6_findBest_56
  have q37 : gz_OkA M_X6_findBest 0 0 0 54 58 3 _ := ok_a1 q35 q36
  have q38 : gz_OkS M_X6_findBest 0 0 64 (gz_sat 48) := ok_goto dX6_findBest_64 (by decide)
  have q39 : gz_OkS M_X6_findBest 0 0 61 _ := ok_inc (v := 1) dX6_findBest_61 kc_i1 (by decide) q38
  have q40 : gz_OkS M_X6_findBest 0 0 54 _ := ok_vv q37 mt_X6_keepIfBetter cl_6 wd_577 wd_559 de_X6_keepIfBetter (by decide) (by decide) wd_578 wd_579 wd_580 dX6_findBest_58 q39
  have q41 : gz_OkS M_X6_findBest 0 0 48 _ := ok_if q29 q30 q40
  have q42 : gz_OkS M_X6_findBest 0 0 48 lb_X6_findBest_48 := q41
  have q43 : gz_OkS M_X6_findBest 0 0 48 _ := ok_loop (k := 5) q42 rfl rfl
  have q44 : gz_OkS M_X6_findBest 0 0 70 (gz_sat 40) := ok_goto dX6_findBest_70 (by decide)
  have q45 : gz_OkS M_X6_findBest 0 0 67 _ := ok_inc (v := 1) dX6_findBest_67 kc_i1 (by decide) q44
  have q46 : gz_OkS M_X6_findBest 0 0 48 _ := ok_seq (L := 67) (k := 4) q43 q45
  have q47 : gz_OkS M_X6_findBest 0 0 45 _ := ok_seti (k := 4) q26 dX6_findBest_46 (by decide) q46
  have q48 : gz_OkS M_X6_findBest 0 0 40 _ := ok_if q24 q25 q47
  have q49 : gz_OkS M_X6_findBest 0 0 40 lb_X6_findBest_40 := q48
  have q50 : gz_OkS M_X6_findBest 0 0 40 _ := ok_loop (k := 4) q49 rfl rfl
  have q51 : gz_OkS M_X6_findBest 0 0 73 _ := ok_rv dX6_findBest_73
  have q52 : gz_OkS M_X6_findBest 0 0 40 _ := ok_seq (L := 73) (k := 0) q50 q51
  have q53 : gz_OkS M_X6_findBest 0 0 38 _ := ok_seti_n (k := 3) q21 dX6_findBest_39 rfl (by decide) q52
  have q54 : gz_OkS M_X6_findBest 0 0 33 _ := ok_put (ty := .int) q19 q20 cl_6 (k := 7) (by decide) in_6 wd_89 tyX6 tyX6_ok nmX6 rfl rfl dX6_findBest_35 q53
  have q55 : gz_OkS M_X6_findBest 0 0 28 _ := ok_put (ty := .int) q17 q18 cl_6 (k := 6) (by decide) in_6 wd_88 tyX6 tyX6_ok nmX6 rfl rfl dX6_findBest_30 q54
  have q56 : gz_OkS M_X6_findBest 0 0 24 _ := ok_vv q16 mt_X6_layGreens cl_6 wd_581 wd_559 de_X6_layGreens (by decide) (by decide) wd_582 wd_583 wd_584 dX6_findBest_25 q55
  have q57 : gz_OkS M_X6_findBest 0 0 10 _ := ok_seti_n (k := 2) q13 dX6_findBest_23 rfl (by decide) q56
  have q58 : gz_OkS M_X6_findBest 0 0 0 _ := ok_seti_n (k := 1) q5 dX6_findBest_9 rfl (by decide) q57
  have z : gz_OkS M_X6_findBest 0 0 0 sm_X6_findBest := q58
  exact gz_met (plainFor_of_name (by decide)) z (by decide) (by decide)
noncomputable def sm_X7_init : gz_Sx := gz_sup (gz_la 0) (gz_put 7 9 0 (.array (.object "GreenDesk$Junction")) (gz_la 0) (gz_nar 104 .null (gz_i (8)) 8) (gz_put 7 9 1 (.object "GreenDesk$Watch") (gz_la 0) (gz_mk 5 3 (fun j => defaultValue (tyX5 j)) se_X5_init (gz_a0)) (gz_put 7 9 2 (.object "GreenDesk$Apportioner") (gz_la 0) (gz_mk 0 6 (fun j => defaultValue (tyX0 j)) se_X0_init (gz_a0)) (gz_put 7 9 3 (.object "GreenDesk$Way") (gz_la 0) (gz_mk 6 10 (fun j => defaultValue (tyX6 j)) se_X6_init (gz_a0)) (gz_put 7 9 6 .int (gz_la 0) (gz_i (-1)) (gz_put 7 9 7 .int (gz_la 0) (gz_i (-1)) (gz_put 7 9 8 .int (gz_la 0) (gz_i (-1)) (gz_rv))))))))
noncomputable def se_X7_init : gz_Me := gz_sem none 1 sm_X7_init
abbrev rm_X7_init : Room := { frames := 2, cells := 14, slots := 1158, locals := 32 }
abbrev M_X7_init : gz_Mi := (cX7_init, 1, RX7, 2, 32, "<init>", none)
theorem de_X7_init : yX7_init.cls ≠ "java/lang/invoke/MethodHandle" ∧ yX7_init.cls ≠ "java/lang/invoke/VarHandle" ∧ (parseMethodDescriptor yX7_init.desc).map (fun d => d.parameters.length) = some 0 := by decide +kernel
set_option maxRecDepth 100000 in
theorem mt_X7_init : gz_Mt yX7_init cX7_init 1 none rm_X7_init se_X7_init := by
  have q1 : gz_OkE M_X7_init 0 0 0 0 1 _ := ok_aload_n (i := 0) dX7_init_0 rfl
  have q2 : gz_OkE M_X7_init 0 0 0 4 5 _ := ok_aload_n (i := 0) dX7_init_4 rfl
  have q3 : gz_OkE M_X7_init 1 0 0 5 7 _ := ok_bipush (v := 8) dX7_init_5 kc_b8
  have q4 : gz_OkE M_X7_init 1 1 8 5 10 _ := ok_anew104 (n := 8) q3 wd_95 (by decide) dX7_init_7
  have q5 : gz_OkE M_X7_init 0 0 0 13 14 _ := ok_aload_n (i := 0) dX7_init_13 rfl
  have q6 : gz_OkA M_X7_init 3 0 0 18 18 0 _ := ok_a0
  have q7 : gz_OkE M_X7_init 1 2 11 14 21 _ := ok_mkN cl_5 in_5 tyX5 tyX5_ok nf_5 wd_585 wd_586 wd_537 dX7_init_14 dX7_init_17 q6 mt_X5_init wd_587 wd_537 de_X5_init (by decide) (by decide) (host := RX7) (fun _ q => q.1) wd_588 rfl dX7_init_18 (by decide)
  have q8 : gz_OkE M_X7_init 0 0 0 24 25 _ := ok_aload_n (i := 0) dX7_init_24 rfl
  have q9 : gz_OkA M_X7_init 3 0 0 29 29 0 _ := ok_a0
  have q10 : gz_OkE M_X7_init 1 5 34 25 32 _ := ok_mkN cl_0 in_0 tyX0 tyX0_ok nf_0 wd_589 wd_590 wd_415 dX7_init_25 dX7_init_28 q9 mt_X0_init wd_591 wd_415 de_X0_init (by decide) (by decide) (host := RX7) (fun _ q => q.2.1) wd_592 rfl dX7_init_29 (by decide)
  have q11 : gz_OkE M_X7_init 0 0 0 35 36 _ := ok_aload_n (i := 0) dX7_init_35 rfl
  have q12 : gz_OkA M_X7_init 3 0 0 40 40 0 _ := ok_a0
  have q13 : gz_OkE M_X7_init 1 6 1105 36 43 _ := ok_mkN cl_6 in_6 tyX6 tyX6_ok nf_6 wd_593 wd_594 wd_559 dX7_init_36 dX7_init_39 q12 mt_X6_init wd_595 wd_559 de_X6_init (by decide) (by decide) (host := RX7) (fun _ q => q.2.2.1) wd_596 rfl dX7_init_40 (by decide)
  have q14 : gz_OkE M_X7_init 0 0 0 46 47 _ := ok_aload_n (i := 0) dX7_init_46 rfl
  have q15 : gz_OkE M_X7_init 1 0 0 47 48 _ := ok_iconst (v := -1) dX7_init_47 kc_im1
  have q16 : gz_OkE M_X7_init 0 0 0 51 52 _ := ok_aload_n (i := 0) dX7_init_51 rfl
  have q17 : gz_OkE M_X7_init 1 0 0 52 53 _ := ok_iconst (v := -1) dX7_init_52 kc_im1
  have q18 : gz_OkE M_X7_init 0 0 0 56 57 _ := ok_aload_n (i := 0) dX7_init_56 rfl
  have q19 : gz_OkE M_X7_init 1 0 0 57 58 _ := ok_iconst (v := -1) dX7_init_57 kc_im1
  have q20 : gz_OkS M_X7_init 0 0 61 _ := ok_rv dX7_init_61
  have q21 : gz_OkS M_X7_init 0 0 56 _ := ok_put (ty := .int) q18 q19 cl_7 (k := 8) (by decide) in_7 wd_102 tyX7 tyX7_ok nmX7 rfl rfl dX7_init_58 q20
  have q22 : gz_OkS M_X7_init 0 0 51 _ := ok_put (ty := .int) q16 q17 cl_7 (k := 7) (by decide) in_7 wd_101 tyX7 tyX7_ok nmX7 rfl rfl dX7_init_53 q21
  have q23 : gz_OkS M_X7_init 0 0 46 _ := ok_put (ty := .int) q14 q15 cl_7 (k := 6) (by decide) in_7 wd_100 tyX7 tyX7_ok nmX7 rfl rfl dX7_init_48 q22
  have q24 : gz_OkS M_X7_init 6 1105 35 _ := ok_putF (ty := (.object "GreenDesk$Way")) q11 q13 cl_7 (k := 3) (by decide) in_7 wd_99 tyX7 tyX7_ok nmX7 rfl rfl rfl rfl dX7_init_43 q23
  have q25 : gz_OkS M_X7_init 11 1139 24 _ := ok_putF (ty := (.object "GreenDesk$Apportioner")) q8 q10 cl_7 (k := 2) (by decide) in_7 wd_98 tyX7 tyX7_ok nmX7 rfl rfl rfl rfl dX7_init_32 q24
  have q26 : gz_OkS M_X7_init 13 1150 13 _ := ok_putF (ty := (.object "GreenDesk$Watch")) q5 q7 cl_7 (k := 1) (by decide) in_7 wd_97 tyX7 tyX7_ok nmX7 rfl rfl rfl rfl dX7_init_21 q25
  have q27 : gz_OkS M_X7_init 14 1158 4 _ := ok_putF (ty := (.array (.object "GreenDesk$Junction"))) q2 q4 cl_7 (k := 0) (by decide) in_7 wd_96 tyX7 tyX7_ok nmX7 rfl rfl rfl rfl dX7_init_10 q26
  have q28 : gz_OkS M_X7_init 14 1158 0 _ := ok_sup q1 wd_597 wd_403 wd_404 (by decide) (by decide) dX7_init_1 q27
  have z : gz_OkS M_X7_init 14 1158 0 sm_X7_init := q28
  exact gz_met (plainFor_of_name (by decide)) z (by decide) (by decide)
noncomputable def sm_X7_junction : gz_Sx := gz_if (gz_ja (gz_j2 (fun x y => decide (y ≤ x)) (gz_get 7 9 4 (gz_la 0)) (gz_i (8))) (gz_j1 (fun x => decide (x = 0)) (gz_get 7 9 5 (gz_la 0)))) (gz_ast 104 (gz_get 7 9 0 (gz_la 0)) (gz_get 7 9 4 (gz_la 0)) (gz_mk 1 11 (fun j => defaultValue (tyX1 j)) se_X1_init (gz_a0)) (gz_put 7 9 4 .int (gz_la 0) (gz_ib (fun x y => x + y) (gz_get 7 9 4 (gz_dup)) (gz_i (1))) (gz_ri (gz_ib (fun x y => x - y) (gz_get 7 9 4 (gz_la 0)) (gz_i (1)))))) (gz_ri (gz_i (-1)))
noncomputable def se_X7_junction : gz_Me := gz_sem (some .int) 1 sm_X7_junction
abbrev rm_X7_junction : Room := { frames := 2, cells := 6, slots := 299, locals := 32 }
abbrev M_X7_junction : gz_Mi := (cX7_junction, 1, RX7, 2, 32, "junction", none)
theorem de_X7_junction : yX7_junction.cls ≠ "java/lang/invoke/MethodHandle" ∧ yX7_junction.cls ≠ "java/lang/invoke/VarHandle" ∧ (parseMethodDescriptor yX7_junction.desc).map (fun d => d.parameters.length) = some 0 := by decide +kernel
set_option maxRecDepth 100000 in
theorem mt_X7_junction : gz_Mt yX7_junction cX7_junction 1 (some .int) rm_X7_junction se_X7_junction := by
  have q1 : gz_OkE M_X7_junction 0 0 0 0 1 _ := ok_aload_n (i := 0) dX7_junction_0 rfl
  have q2 : gz_OkE M_X7_junction 0 0 0 0 4 _ := ok_get q1 cl_7 (k := 4) (by decide) in_7 wd_103 dX7_junction_1
  have q3 : gz_OkE M_X7_junction 1 0 0 4 6 _ := ok_bipush (v := 8) dX7_junction_4 kc_b8
  have q4 : gz_OkJ M_X7_junction 0 0 0 0 16 9 _ := ok_ic_ge q2 q3 dX7_junction_6 (by decide)
  have q5 : gz_OkE M_X7_junction 0 0 0 9 10 _ := ok_aload_n (i := 0) dX7_junction_9 rfl
  have q6 : gz_OkE M_X7_junction 0 0 0 9 13 _ := ok_get q5 cl_7 (k := 5) (by decide) in_7 wd_104 dX7_junction_10
  have q7 : gz_OkJ M_X7_junction 0 0 0 9 18 16 _ := ok_if_eq q6 dX7_junction_13 (by decide)
  have q8 : gz_OkJ M_X7_junction 0 0 0 0 18 16 _ := ok_ja q4 q7
  have q9 : gz_OkE M_X7_junction 0 0 0 18 19 _ := ok_aload_n (i := 0) dX7_junction_18 rfl
  have q10 : gz_OkE M_X7_junction 0 0 0 18 22 _ := ok_get q9 cl_7 (k := 0) (by decide) in_7 wd_96 dX7_junction_19
  have q11 : gz_OkE M_X7_junction 1 0 0 22 23 _ := ok_aload_n (i := 0) dX7_junction_22 rfl
  have q12 : gz_OkE M_X7_junction 1 0 0 22 26 _ := ok_get q11 cl_7 (k := 4) (by decide) in_7 wd_103 dX7_junction_23
  have q13 : gz_OkA M_X7_junction 4 0 0 30 30 0 _ := ok_a0
  have q14 : gz_OkE M_X7_junction 2 6 299 26 33 _ := ok_mkN cl_1 in_1 tyX1 tyX1_ok nf_1 wd_95 wd_598 wd_458 dX7_junction_26 dX7_junction_29 q13 mt_X1_init wd_599 wd_458 de_X1_init (by decide) (by decide) (host := RX7) (fun _ q => q.2.2.2.1) wd_600 rfl dX7_junction_30 (by decide)
  have q15 : gz_OkE M_X7_junction 0 0 0 34 35 _ := ok_aload_n (i := 0) dX7_junction_34 rfl
  have q16 : gz_OkE M_X7_junction 1 0 0 35 36 _ := ok_dup dX7_junction_35
  have q17 : gz_OkE M_X7_junction 1 0 0 35 39 _ := ok_get q16 cl_7 (k := 4) (by decide) in_7 wd_103 dX7_junction_36
  have q18 : gz_OkE M_X7_junction 2 0 0 39 40 _ := ok_iconst (v := 1) dX7_junction_39 kc_i1
  have q19 : gz_OkE M_X7_junction 1 0 0 35 41 _ := ok_iadd q17 q18 dX7_junction_40
  have q20 : gz_OkE M_X7_junction 0 0 0 44 45 _ := ok_aload_n (i := 0) dX7_junction_44 rfl
  have q21 : gz_OkE M_X7_junction 0 0 0 44 48 _ := ok_get q20 cl_7 (k := 4) (by decide) in_7 wd_103 dX7_junction_45
  have q22 : gz_OkE M_X7_junction 1 0 0 48 49 _ := ok_iconst (v := 1) dX7_junction_48 kc_i1
  have q23 : gz_OkE M_X7_junction 0 0 0 44 50 _ := ok_isub q21 q22 dX7_junction_49
  have q24 : gz_OkS M_X7_junction 0 0 44 _ := ok_ri q23 dX7_junction_50
  have q25 : gz_OkS M_X7_junction 0 0 34 _ := ok_put (ty := .int) q15 q19 cl_7 (k := 4) (by decide) in_7 wd_103 tyX7 tyX7_ok nmX7 rfl rfl dX7_junction_41 q24
  have q26 : gz_OkS M_X7_junction 6 299 18 _ := ok_aast104 q10 q12 q14 dX7_junction_33 q25
  have q27 : gz_OkE M_X7_junction 0 0 0 16 17 _ := ok_iconst (v := -1) dX7_junction_16 kc_im1
  have q28 : gz_OkS M_X7_junction 0 0 16 _ := ok_ri q27 dX7_junction_17
  have q29 : gz_OkS M_X7_junction 6 299 0 _ := ok_if q8 q26 q28
  have z : gz_OkS M_X7_junction 6 299 0 sm_X7_junction := q29
  exact gz_met (plainFor_of_name (by decide)) z (by decide) (by decide)
noncomputable def sm_X7_outside : gz_Sx := gz_ri (gz_te (gz_ja (gz_j2 (fun x y => decide (x < y)) (gz_li 0) (gz_li 1)) (gz_j2 (fun x y => decide (x ≤ y)) (gz_li 0) (gz_li 2))) (gz_i (0)) (gz_i (1)))
noncomputable def se_X7_outside : gz_Me := gz_sem (some .boolean) 3 sm_X7_outside
abbrev rm_X7_outside : Room := { frames := 0, cells := 0, slots := 0, locals := 0 }
abbrev M_X7_outside : gz_Mi := (cX7_outside, 3, RX7, 0, 0, "outside", none)
theorem de_X7_outside : yX7_outside.cls ≠ "java/lang/invoke/MethodHandle" ∧ yX7_outside.cls ≠ "java/lang/invoke/VarHandle" ∧ (parseMethodDescriptor yX7_outside.desc).map (fun d => d.parameters.length) = some 3 := by decide +kernel
set_option maxRecDepth 100000 in
theorem mt_X7_outside : gz_Mt yX7_outside cX7_outside 3 (some .boolean) rm_X7_outside se_X7_outside := by
  have q1 : gz_OkE M_X7_outside 0 0 0 0 1 _ := ok_iload_n (i := 0) dX7_outside_0 rfl
  have q2 : gz_OkE M_X7_outside 1 0 0 1 2 _ := ok_iload_n (i := 1) dX7_outside_1 rfl
  have q3 : gz_OkJ M_X7_outside 0 0 0 0 10 5 _ := ok_ic_lt q1 q2 dX7_outside_2 (by decide)
  have q4 : gz_OkE M_X7_outside 0 0 0 5 6 _ := ok_iload_n (i := 0) dX7_outside_5 rfl
  have q5 : gz_OkE M_X7_outside 1 0 0 6 7 _ := ok_iload_n (i := 2) dX7_outside_6 rfl
  have q6 : gz_OkJ M_X7_outside 0 0 0 5 14 10 _ := ok_ic_le q4 q5 dX7_outside_7 (by decide)
  have q7 : gz_OkJ M_X7_outside 0 0 0 0 14 10 _ := ok_ja q3 q6
  have q8 : gz_OkE M_X7_outside 0 0 0 10 11 _ := ok_iconst (v := 1) dX7_outside_10 kc_i1
  have q9 : gz_OkE M_X7_outside 0 0 0 10 15 _ := ok_eg q8 dX7_outside_11 (by decide)
  have q10 : gz_OkE M_X7_outside 0 0 0 14 15 _ := ok_iconst (v := 0) dX7_outside_14 kc_i0
  have q11 : gz_OkE M_X7_outside 0 0 0 0 15 _ := ok_te2 q7 q9 q10
  have q12 : gz_OkS M_X7_outside 0 0 0 _ := ok_ri q11 dX7_outside_15
  have z : gz_OkS M_X7_outside 0 0 0 sm_X7_outside := q12
  exact gz_met (plainFor_of_name (by decide)) z (by decide) (by decide)
noncomputable def sm_X7_junctionAt : gz_Sx := gz_ra (gz_te (gz_j1 (fun x => decide (x = 0)) (gz_cs se_X7_outside (gz_a1 (gz_a1 (gz_a1 (gz_a0) (gz_li 1)) (gz_i (0))) (gz_ib (fun x y => x - y) (gz_get 7 9 4 (gz_la 0)) (gz_i (1)))))) (gz_ald 104 (gz_get 7 9 0 (gz_la 0)) (gz_li 1)) (gz_nu))
noncomputable def se_X7_junctionAt : gz_Me := gz_sem (some (.object "GreenDesk$Junction")) 2 sm_X7_junctionAt
abbrev rm_X7_junctionAt : Room := { frames := 1, cells := 0, slots := 0, locals := 22 }
abbrev M_X7_junctionAt : gz_Mi := (cX7_junctionAt, 2, RX7, 1, 22, "junctionAt", none)
theorem de_X7_junctionAt : yX7_junctionAt.cls ≠ "java/lang/invoke/MethodHandle" ∧ yX7_junctionAt.cls ≠ "java/lang/invoke/VarHandle" ∧ (parseMethodDescriptor yX7_junctionAt.desc).map (fun d => d.parameters.length) = some 1 := by decide +kernel
set_option maxRecDepth 100000 in
theorem mt_X7_junctionAt : gz_Mt yX7_junctionAt cX7_junctionAt 2 (some (.object "GreenDesk$Junction")) rm_X7_junctionAt se_X7_junctionAt := by
  have q1 : gz_OkA M_X7_junctionAt 0 0 0 0 0 0 _ := ok_a0
  have q2 : gz_OkE M_X7_junctionAt 0 0 0 0 1 _ := ok_iload_n (i := 1) dX7_junctionAt_0 rfl
  have q3 : gz_OkA M_X7_junctionAt 0 0 0 0 1 1 _ := ok_a1 q1 q2
  have q4 : gz_OkE M_X7_junctionAt 2 0 0 1 2 _ := ok_iconst (v := 0) dX7_junctionAt_1 kc_i0
  have q5 : gz_OkA M_X7_junctionAt 0 0 0 0 2 2 _ := ok_a1 q3 q4
  have q6 : gz_OkE M_X7_junctionAt 4 0 0 2 3 _ := ok_aload_n (i := 0) dX7_junctionAt_2 rfl
  have q7 : gz_OkE M_X7_junctionAt 4 0 0 2 6 _ := ok_get q6 cl_7 (k := 4) (by decide) in_7 wd_103 dX7_junctionAt_3
  have q8 : gz_OkE M_X7_junctionAt 5 0 0 6 7 _ := ok_iconst (v := 1) dX7_junctionAt_6 kc_i1
  have q9 : gz_OkE M_X7_junctionAt 4 0 0 2 8 _ := ok_isub q7 q8 dX7_junctionAt_7
  have q10 : gz_OkA M_X7_junctionAt 0 0 0 0 8 3 _ := ok_a1 q5 q9
  have q11 : gz_OkE M_X7_junctionAt 0 0 0 0 11 _ := ok_cs q10 mt_X7_outside wd_601 wd_183 de_X7_outside (by decide) (by decide) wd_602 wd_603 dX7_junctionAt_8 (by decide)
  have q12 : gz_OkJ M_X7_junctionAt 0 0 0 0 18 14 _ := ok_if_eq q11 dX7_junctionAt_11 (by decide)
  have q13 : gz_OkE M_X7_junctionAt 0 0 0 14 15 _ := ok_null dX7_junctionAt_14
  have q14 : gz_OkE M_X7_junctionAt 0 0 0 14 24 _ := ok_eg q13 dX7_junctionAt_15 (by decide)
  have q15 : gz_OkE M_X7_junctionAt 0 0 0 18 19 _ := ok_aload_n (i := 0) dX7_junctionAt_18 rfl
  have q16 : gz_OkE M_X7_junctionAt 0 0 0 18 22 _ := ok_get q15 cl_7 (k := 0) (by decide) in_7 wd_96 dX7_junctionAt_19
  have q17 : gz_OkE M_X7_junctionAt 1 0 0 22 23 _ := ok_iload_n (i := 1) dX7_junctionAt_22 rfl
  have q18 : gz_OkE M_X7_junctionAt 0 0 0 18 24 _ := ok_aald104 q16 q17 dX7_junctionAt_23
  have q19 : gz_OkE M_X7_junctionAt 0 0 0 0 24 _ := ok_te2 q12 q14 q18
  have q20 : gz_OkS M_X7_junctionAt 0 0 0 _ := ok_ra q19 dX7_junctionAt_24
  have z : gz_OkS M_X7_junctionAt 0 0 0 sm_X7_junctionAt := q20
  exact gz_met (plainFor_of_name (by decide)) z (by decide) (by decide)
noncomputable def sm_X7_stream : gz_Sx := gz_seta 6 (gz_cv 7 9 se_X7_junctionAt (gz_a1 (gz_a1 (gz_a0) (gz_la 0)) (gz_li 1))) (gz_if (gz_ja (gz_jn (gz_la 6)) (gz_ja (gz_j1 (fun x => decide (¬ x = 0)) (gz_get 7 9 5 (gz_la 0))) (gz_ja (gz_j2 (fun x y => decide (y ≤ x)) (gz_get 1 11 5 (gz_la 6)) (gz_i (8))) (gz_j1 (fun x => decide (x = 0)) (gz_cv 1 11 se_X1_hasPlan (gz_a1 (gz_a0) (gz_la 6))))))) (gz_seti 7 (gz_te (gz_jo (gz_j2 (fun x y => decide (x = y)) (gz_li 2) (gz_i (2))) (gz_j2 (fun x y => decide (x = y)) (gz_li 2) (gz_i (3)))) (gz_i (0)) (gz_i (1))) (gz_if (gz_ja (gz_j1 (fun x => decide (¬ x = 0)) (gz_cs se_X7_outside (gz_a1 (gz_a1 (gz_a1 (gz_a0) (gz_li 2)) (gz_i (0))) (gz_i (3))))) (gz_ja (gz_j1 (fun x => decide (¬ x = 0)) (gz_cs se_X7_outside (gz_a1 (gz_a1 (gz_a1 (gz_a0) (gz_li 3)) (gz_i (0))) (gz_i (3600))))) (gz_ja (gz_j1 (fun x => decide (¬ x = 0)) (gz_cs se_X7_outside (gz_a1 (gz_a1 (gz_a1 (gz_a0) (gz_li 5)) (gz_i (4))) (gz_i (30))))) (gz_jo (gz_j1 (fun x => decide (x = 0)) (gz_li 7)) (gz_j1 (fun x => decide (x = 0)) (gz_cs se_X7_outside (gz_a1 (gz_a1 (gz_a1 (gz_a0) (gz_li 4)) (gz_i (600))) (gz_i (3600))))))))) (gz_ri (gz_cv 1 11 se_X1_add (gz_a1 (gz_a1 (gz_a0) (gz_la 6)) (gz_mk 3 14 (fun j => defaultValue (tyX3 j)) se_X3_init (gz_a1 (gz_a1 (gz_a1 (gz_a1 (gz_a0) (gz_li 2)) (gz_li 3)) (gz_li 4)) (gz_li 5)))))) (gz_ri (gz_i (-1))))) (gz_ri (gz_i (-1))))
noncomputable def se_X7_stream : gz_Me := gz_sem (some .int) 8 sm_X7_stream
abbrev rm_X7_stream : Room := { frames := 2, cells := 1, slots := 14, locals := 45 }
abbrev M_X7_stream : gz_Mi := (cX7_stream, 8, RX7, 2, 45, "stream", none)
theorem de_X7_stream : yX7_stream.cls ≠ "java/lang/invoke/MethodHandle" ∧ yX7_stream.cls ≠ "java/lang/invoke/VarHandle" ∧ (parseMethodDescriptor yX7_stream.desc).map (fun d => d.parameters.length) = some 5 := by decide +kernel
set_option maxRecDepth 100000 in
theorem mt_X7_stream : gz_Mt yX7_stream cX7_stream 8 (some .int) rm_X7_stream se_X7_stream := by
  have q1 : gz_OkA M_X7_stream 0 0 0 0 0 0 _ := ok_a0
  have q2 : gz_OkE M_X7_stream 0 0 0 0 1 _ := ok_aload_n (i := 0) dX7_stream_0 rfl
  have q3 : gz_OkA M_X7_stream 0 0 0 0 1 1 _ := ok_a1 q1 q2
  have q4 : gz_OkE M_X7_stream 2 0 0 1 2 _ := ok_iload_n (i := 1) dX7_stream_1 rfl
  have q5 : gz_OkA M_X7_stream 0 0 0 0 2 2 _ := ok_a1 q3 q4
  have q6 : gz_OkE M_X7_stream 0 0 0 0 5 _ := ok_cv q5 mt_X7_junctionAt cl_7 wd_604 wd_183 de_X7_junctionAt (by decide) (by decide) wd_605 wd_606 wd_607 dX7_stream_2 (by decide)
  have q7 : gz_OkE M_X7_stream 0 0 0 7 9 _ := ok_aload (i := 6) dX7_stream_7
  have q8 : gz_OkJ M_X7_stream 0 0 0 7 37 12 _ := ok_jn q7 dX7_stream_9 (by decide)
  have q9 : gz_OkE M_X7_stream 0 0 0 12 13 _ := ok_aload_n (i := 0) dX7_stream_12 rfl
  have q10 : gz_OkE M_X7_stream 0 0 0 12 16 _ := ok_get q9 cl_7 (k := 5) (by decide) in_7 wd_104 dX7_stream_13
  have q11 : gz_OkJ M_X7_stream 0 0 0 12 37 19 _ := ok_if_ne q10 dX7_stream_16 (by decide)
  have q12 : gz_OkE M_X7_stream 0 0 0 19 21 _ := ok_aload (i := 6) dX7_stream_19
  have q13 : gz_OkE M_X7_stream 0 0 0 19 24 _ := ok_get q12 cl_1 (k := 5) (by decide) in_1 wd_105 dX7_stream_21
  have q14 : gz_OkE M_X7_stream 1 0 0 24 26 _ := ok_bipush (v := 8) dX7_stream_24 kc_b8
  have q15 : gz_OkJ M_X7_stream 0 0 0 19 37 29 _ := ok_ic_ge q13 q14 dX7_stream_26 (by decide)
  have q16 : gz_OkA M_X7_stream 0 0 0 29 29 0 _ := ok_a0
  have q17 : gz_OkE M_X7_stream 0 0 0 29 31 _ := ok_aload (i := 6) dX7_stream_29
  have q18 : gz_OkA M_X7_stream 0 0 0 29 31 1 _ := ok_a1 q16 q17
  have q19 : gz_OkE M_X7_stream 0 0 0 29 34 _ := ok_cv q18 mt_X1_hasPlan cl_1 wd_608 wd_458 de_X1_hasPlan (by decide) (by decide) wd_609 wd_610 wd_611 dX7_stream_31 (by decide)
  have q20 : gz_OkJ M_X7_stream 0 0 0 29 39 37 _ := ok_if_eq q19 dX7_stream_34 (by decide)
  have q21 : gz_OkJ M_X7_stream 0 0 0 19 39 37 _ := ok_ja q15 q20
  have q22 : gz_OkJ M_X7_stream 0 0 0 12 39 37 _ := ok_ja q11 q21
  have q23 : gz_OkJ M_X7_stream 0 0 0 7 39 37 _ := ok_ja q8 q22
  have q24 : gz_OkE M_X7_stream 0 0 0 39 40 _ := ok_iload_n (i := 2) dX7_stream_39 rfl
  have q25 : gz_OkE M_X7_stream 1 0 0 40 41 _ := ok_iconst (v := 2) dX7_stream_40 kc_i2
  have q26 : gz_OkJ M_X7_stream 0 0 0 39 53 44 _ := ok_ic_eq q24 q25 dX7_stream_41 (by decide)
  have q27 : gz_OkE M_X7_stream 0 0 0 44 45 _ := ok_iload_n (i := 2) dX7_stream_44 rfl
  have q28 : gz_OkE M_X7_stream 1 0 0 45 46 _ := ok_iconst (v := 3) dX7_stream_45 kc_i3
  have q29 : gz_OkJ M_X7_stream 0 0 0 44 53 49 _ := ok_ic_eq q27 q28 dX7_stream_46 (by decide)
  have q30 : gz_OkJ M_X7_stream 0 0 0 39 53 49 _ := ok_jo q26 q29
  have q31 : gz_OkE M_X7_stream 0 0 0 49 50 _ := ok_iconst (v := 1) dX7_stream_49 kc_i1
  have q32 : gz_OkE M_X7_stream 0 0 0 49 54 _ := ok_eg q31 dX7_stream_50 (by decide)
  have q33 : gz_OkE M_X7_stream 0 0 0 53 54 _ := ok_iconst (v := 0) dX7_stream_53 kc_i0
  have q34 : gz_OkE M_X7_stream 0 0 0 39 54 _ := ok_te2 q30 q32 q33
  have q35 : gz_OkA M_X7_stream 0 0 0 56 56 0 _ := ok_a0
  have q36 : gz_OkE M_X7_stream 0 0 0 56 57 _ := ok_iload_n (i := 2) dX7_stream_56 rfl
  have q37 : gz_OkA M_X7_stream 0 0 0 56 57 1 _ := ok_a1 q35 q36
  have q38 : gz_OkE M_X7_stream 2 0 0 57 58 _ := ok_iconst (v := 0) dX7_stream_57 kc_i0
  have q39 : gz_OkA M_X7_stream 0 0 0 56 58 2 _ := ok_a1 q37 q38
  have q40 : gz_OkE M_X7_stream 4 0 0 58 59 _ := ok_iconst (v := 3) dX7_stream_58 kc_i3
  have q41 : gz_OkA M_X7_stream 0 0 0 56 59 3 _ := ok_a1 q39 q40
  have q42 : gz_OkE M_X7_stream 0 0 0 56 62 _ := ok_cs q41 mt_X7_outside wd_601 wd_183 de_X7_outside (by decide) (by decide) wd_602 wd_603 dX7_stream_59 (by decide)
  have q43 : gz_OkJ M_X7_stream 0 0 0 56 106 65 _ := ok_if_ne q42 dX7_stream_62 (by decide)
  have q44 : gz_OkA M_X7_stream 0 0 0 65 65 0 _ := ok_a0
  have q45 : gz_OkE M_X7_stream 0 0 0 65 66 _ := ok_iload_n (i := 3) dX7_stream_65 rfl
  have q46 : gz_OkA M_X7_stream 0 0 0 65 66 1 _ := ok_a1 q44 q45
  have q47 : gz_OkE M_X7_stream 2 0 0 66 67 _ := ok_iconst (v := 0) dX7_stream_66 kc_i0
  have q48 : gz_OkA M_X7_stream 0 0 0 65 67 2 _ := ok_a1 q46 q47
  have q49 : gz_OkE M_X7_stream 4 0 0 67 70 _ := ok_sipush (v := 3600) dX7_stream_67 kc_s3600
  have q50 : gz_OkA M_X7_stream 0 0 0 65 70 3 _ := ok_a1 q48 q49
  have q51 : gz_OkE M_X7_stream 0 0 0 65 73 _ := ok_cs q50 mt_X7_outside wd_601 wd_183 de_X7_outside (by decide) (by decide) wd_602 wd_603 dX7_stream_70 (by decide)
  have q52 : gz_OkJ M_X7_stream 0 0 0 65 106 76 _ := ok_if_ne q51 dX7_stream_73 (by decide)
  have q53 : gz_OkA M_X7_stream 0 0 0 76 76 0 _ := ok_a0
  have q54 : gz_OkE M_X7_stream 0 0 0 76 78 _ := ok_iload (i := 5) dX7_stream_76
  have q55 : gz_OkA M_X7_stream 0 0 0 76 78 1 _ := ok_a1 q53 q54
  have q56 : gz_OkE M_X7_stream 2 0 0 78 79 _ := ok_iconst (v := 4) dX7_stream_78 kc_i4
  have q57 : gz_OkA M_X7_stream 0 0 0 76 79 2 _ := ok_a1 q55 q56
  have q58 : gz_OkE M_X7_stream 4 0 0 79 81 _ := ok_bipush (v := 30) dX7_stream_79 kc_b30
  have q59 : gz_OkA M_X7_stream 0 0 0 76 81 3 _ := ok_a1 q57 q58
  have q60 : gz_OkE M_X7_stream 0 0 0 76 84 _ := ok_cs q59 mt_X7_outside wd_601 wd_183 de_X7_outside (by decide) (by decide) wd_602 wd_603 dX7_stream_81 (by decide)
  have q61 : gz_OkJ M_X7_stream 0 0 0 76 106 87 _ := ok_if_ne q60 dX7_stream_84 (by decide)
  have q62 : gz_OkE M_X7_stream 0 0 0 87 89 _ := ok_iload (i := 7) dX7_stream_87
  have q63 : gz_OkJ M_X7_stream 0 0 0 87 108 92 _ := ok_if_eq q62 dX7_stream_89 (by decide)
  have q64 : gz_OkA M_X7_stream 0 0 0 92 92 0 _ := ok_a0
  have q65 : gz_OkE M_X7_stream 0 0 0 92 94 _ := ok_iload (i := 4) dX7_stream_92
  have q66 : gz_OkA M_X7_stream 0 0 0 92 94 1 _ := ok_a1 q64 q65
  have q67 : gz_OkE M_X7_stream 2 0 0 94 97 _ := ok_sipush (v := 600) dX7_stream_94 kc_s600
  have q68 : gz_OkA M_X7_stream 0 0 0 92 97 2 _ := ok_a1 q66 q67
  have q69 : gz_OkE M_X7_stream 4 0 0 97 100 _ := ok_sipush (v := 3600) dX7_stream_97 kc_s3600
  have q70 : gz_OkA M_X7_stream 0 0 0 92 100 3 _ := ok_a1 q68 q69
  have q71 : gz_OkE M_X7_stream 0 0 0 92 103 _ := ok_cs q70 mt_X7_outside wd_601 wd_183 de_X7_outside (by decide) (by decide) wd_602 wd_603 dX7_stream_100 (by decide)
  have q72 : gz_OkJ M_X7_stream 0 0 0 92 108 106 _ := ok_if_eq q71 dX7_stream_103 (by decide)
  have q73 : gz_OkJ M_X7_stream 0 0 0 87 108 106 _ := ok_jo q63 q72
  have q74 : gz_OkJ M_X7_stream 0 0 0 76 108 106 _ := ok_ja q61 q73
  have q75 : gz_OkJ M_X7_stream 0 0 0 65 108 106 _ := ok_ja q52 q74
  have q76 : gz_OkJ M_X7_stream 0 0 0 56 108 106 _ := ok_ja q43 q75
  have q77 : gz_OkA M_X7_stream 0 0 0 108 108 0 _ := ok_a0
  have q78 : gz_OkE M_X7_stream 0 0 0 108 110 _ := ok_aload (i := 6) dX7_stream_108
  have q79 : gz_OkA M_X7_stream 0 0 0 108 110 1 _ := ok_a1 q77 q78
  have q80 : gz_OkA M_X7_stream 4 0 0 114 114 0 _ := ok_a0
  have q81 : gz_OkE M_X7_stream 4 0 0 114 115 _ := ok_iload_n (i := 2) dX7_stream_114 rfl
  have q82 : gz_OkA M_X7_stream 4 0 0 114 115 1 _ := ok_a1 q80 q81
  have q83 : gz_OkE M_X7_stream 6 0 0 115 116 _ := ok_iload_n (i := 3) dX7_stream_115 rfl
  have q84 : gz_OkA M_X7_stream 4 0 0 114 116 2 _ := ok_a1 q82 q83
  have q85 : gz_OkE M_X7_stream 8 0 0 116 118 _ := ok_iload (i := 4) dX7_stream_116
  have q86 : gz_OkA M_X7_stream 4 0 0 114 118 3 _ := ok_a1 q84 q85
  have q87 : gz_OkE M_X7_stream 10 0 0 118 120 _ := ok_iload (i := 5) dX7_stream_118
  have q88 : gz_OkA M_X7_stream 4 0 0 114 120 4 _ := ok_a1 q86 q87
  have q89 : gz_OkE M_X7_stream 2 1 14 110 123 _ := ok_mk cl_3 in_3 tyX3 tyX3_ok nf_3 wd_612 wd_613 wd_505 dX7_stream_110 dX7_stream_113 q88 mt_X3_init wd_614 wd_505 de_X3_init (by decide) (by decide) wd_615 wd_616 rfl dX7_stream_120 (by decide)
  have q90 : gz_OkA M_X7_stream 0 1 14 108 123 2 _ := ok_a1 q79 q89
  have q91 : gz_OkE M_X7_stream 0 1 14 108 126 _ := ok_cv q90 mt_X1_add cl_1 wd_617 wd_458 de_X1_add (by decide) (by decide) wd_618 wd_619 wd_620 dX7_stream_123 (by decide)
  have q92 : gz_OkS M_X7_stream 1 14 108 _ := ok_ri q91 dX7_stream_126
  have q93 : gz_OkE M_X7_stream 0 0 0 106 107 _ := ok_iconst (v := -1) dX7_stream_106 kc_im1
  have q94 : gz_OkS M_X7_stream 0 0 106 _ := ok_ri q93 dX7_stream_107
  have q95 : gz_OkS M_X7_stream 1 14 56 _ := ok_if q76 q92 q94
  have q96 : gz_OkS M_X7_stream 1 14 39 _ := ok_seti (k := 7) q34 dX7_stream_54 (by decide) q95
  have q97 : gz_OkE M_X7_stream 0 0 0 37 38 _ := ok_iconst (v := -1) dX7_stream_37 kc_im1
  have q98 : gz_OkS M_X7_stream 0 0 37 _ := ok_ri q97 dX7_stream_38
  have q99 : gz_OkS M_X7_stream 1 14 7 _ := ok_if q23 q96 q98
  have q100 : gz_OkS M_X7_stream 1 14 0 _ := ok_seta (k := 6) q6 dX7_stream_5 (by decide) q99
  have z : gz_OkS M_X7_stream 1 14 0 sm_X7_stream := q100
  exact gz_met (plainFor_of_name (by decide)) z (by decide) (by decide)
noncomputable def sm_X7_against : gz_Sx := gz_seta 6 (gz_cv 7 9 se_X7_junctionAt (gz_a1 (gz_a1 (gz_a0) (gz_la 0)) (gz_li 1))) (gz_if (gz_ja (gz_jn (gz_la 6)) (gz_ja (gz_j1 (fun x => decide (¬ x = 0)) (gz_cv 1 11 se_X1_hasPlan (gz_a1 (gz_a0) (gz_la 6)))) (gz_ja (gz_jn (gz_cv 1 11 se_X1_member (gz_a1 (gz_a1 (gz_a0) (gz_la 6)) (gz_li 2)))) (gz_ja (gz_jn (gz_cv 1 11 se_X1_member (gz_a1 (gz_a1 (gz_a0) (gz_la 6)) (gz_li 3)))) (gz_ja (gz_j2 (fun x y => decide (x = y)) (gz_li 2) (gz_li 3)) (gz_ja (gz_j1 (fun x => decide (¬ x = 0)) (gz_cs se_X7_outside (gz_a1 (gz_a1 (gz_a1 (gz_a0) (gz_li 4)) (gz_i (1))) (gz_i (20))))) (gz_j1 (fun x => decide (x = 0)) (gz_cs se_X7_outside (gz_a1 (gz_a1 (gz_a1 (gz_a0) (gz_li 5)) (gz_i (1))) (gz_i (20))))))))))) (gz_vv 1 11 se_X1_oppose (gz_a1 (gz_a1 (gz_a1 (gz_a1 (gz_a1 (gz_a0) (gz_la 6)) (gz_li 2)) (gz_li 3)) (gz_li 4)) (gz_li 5)) (gz_ri (gz_i (1)))) (gz_ri (gz_i (0))))
noncomputable def se_X7_against : gz_Me := gz_sem (some .boolean) 7 sm_X7_against
abbrev rm_X7_against : Room := { frames := 2, cells := 0, slots := 0, locals := 43 }
abbrev M_X7_against : gz_Mi := (cX7_against, 7, RX7, 2, 43, "against", none)
theorem de_X7_against : yX7_against.cls ≠ "java/lang/invoke/MethodHandle" ∧ yX7_against.cls ≠ "java/lang/invoke/VarHandle" ∧ (parseMethodDescriptor yX7_against.desc).map (fun d => d.parameters.length) = some 5 := by decide +kernel
set_option maxRecDepth 100000 in
theorem mt_X7_against : gz_Mt yX7_against cX7_against 7 (some .boolean) rm_X7_against se_X7_against := by
  have q1 : gz_OkA M_X7_against 0 0 0 0 0 0 _ := ok_a0
  have q2 : gz_OkE M_X7_against 0 0 0 0 1 _ := ok_aload_n (i := 0) dX7_against_0 rfl
  have q3 : gz_OkA M_X7_against 0 0 0 0 1 1 _ := ok_a1 q1 q2
  have q4 : gz_OkE M_X7_against 2 0 0 1 2 _ := ok_iload_n (i := 1) dX7_against_1 rfl
  have q5 : gz_OkA M_X7_against 0 0 0 0 2 2 _ := ok_a1 q3 q4
  have q6 : gz_OkE M_X7_against 0 0 0 0 5 _ := ok_cv q5 mt_X7_junctionAt cl_7 wd_604 wd_183 de_X7_junctionAt (by decide) (by decide) wd_605 wd_606 wd_607 dX7_against_2 (by decide)
  have q7 : gz_OkE M_X7_against 0 0 0 7 9 _ := ok_aload (i := 6) dX7_against_7
  have q8 : gz_OkJ M_X7_against 0 0 0 7 65 12 _ := ok_jn q7 dX7_against_9 (by decide)
  have q9 : gz_OkA M_X7_against 0 0 0 12 12 0 _ := ok_a0
  have q10 : gz_OkE M_X7_against 0 0 0 12 14 _ := ok_aload (i := 6) dX7_against_12
  have q11 : gz_OkA M_X7_against 0 0 0 12 14 1 _ := ok_a1 q9 q10
  have q12 : gz_OkE M_X7_against 0 0 0 12 17 _ := ok_cv q11 mt_X1_hasPlan cl_1 wd_608 wd_458 de_X1_hasPlan (by decide) (by decide) wd_609 wd_610 wd_611 dX7_against_14 (by decide)
  have q13 : gz_OkJ M_X7_against 0 0 0 12 65 20 _ := ok_if_ne q12 dX7_against_17 (by decide)
  have q14 : gz_OkA M_X7_against 0 0 0 20 20 0 _ := ok_a0
  have q15 : gz_OkE M_X7_against 0 0 0 20 22 _ := ok_aload (i := 6) dX7_against_20
  have q16 : gz_OkA M_X7_against 0 0 0 20 22 1 _ := ok_a1 q14 q15
  have q17 : gz_OkE M_X7_against 2 0 0 22 23 _ := ok_iload_n (i := 2) dX7_against_22 rfl
  have q18 : gz_OkA M_X7_against 0 0 0 20 23 2 _ := ok_a1 q16 q17
  have q19 : gz_OkE M_X7_against 0 0 0 20 26 _ := ok_cv q18 mt_X1_member cl_1 wd_457 wd_458 de_X1_member (by decide) (by decide) wd_621 wd_460 wd_461 dX7_against_23 (by decide)
  have q20 : gz_OkJ M_X7_against 0 0 0 20 65 29 _ := ok_jn q19 dX7_against_26 (by decide)
  have q21 : gz_OkA M_X7_against 0 0 0 29 29 0 _ := ok_a0
  have q22 : gz_OkE M_X7_against 0 0 0 29 31 _ := ok_aload (i := 6) dX7_against_29
  have q23 : gz_OkA M_X7_against 0 0 0 29 31 1 _ := ok_a1 q21 q22
  have q24 : gz_OkE M_X7_against 2 0 0 31 32 _ := ok_iload_n (i := 3) dX7_against_31 rfl
  have q25 : gz_OkA M_X7_against 0 0 0 29 32 2 _ := ok_a1 q23 q24
  have q26 : gz_OkE M_X7_against 0 0 0 29 35 _ := ok_cv q25 mt_X1_member cl_1 wd_457 wd_458 de_X1_member (by decide) (by decide) wd_621 wd_460 wd_461 dX7_against_32 (by decide)
  have q27 : gz_OkJ M_X7_against 0 0 0 29 65 38 _ := ok_jn q26 dX7_against_35 (by decide)
  have q28 : gz_OkE M_X7_against 0 0 0 38 39 _ := ok_iload_n (i := 2) dX7_against_38 rfl
  have q29 : gz_OkE M_X7_against 1 0 0 39 40 _ := ok_iload_n (i := 3) dX7_against_39 rfl
  have q30 : gz_OkJ M_X7_against 0 0 0 38 65 43 _ := ok_ic_eq q28 q29 dX7_against_40 (by decide)
  have q31 : gz_OkA M_X7_against 0 0 0 43 43 0 _ := ok_a0
  have q32 : gz_OkE M_X7_against 0 0 0 43 45 _ := ok_iload (i := 4) dX7_against_43
  have q33 : gz_OkA M_X7_against 0 0 0 43 45 1 _ := ok_a1 q31 q32
  have q34 : gz_OkE M_X7_against 2 0 0 45 46 _ := ok_iconst (v := 1) dX7_against_45 kc_i1
  have q35 : gz_OkA M_X7_against 0 0 0 43 46 2 _ := ok_a1 q33 q34
  have q36 : gz_OkE M_X7_against 4 0 0 46 48 _ := ok_bipush (v := 20) dX7_against_46 kc_b20
  have q37 : gz_OkA M_X7_against 0 0 0 43 48 3 _ := ok_a1 q35 q36
  have q38 : gz_OkE M_X7_against 0 0 0 43 51 _ := ok_cs q37 mt_X7_outside wd_601 wd_183 de_X7_outside (by decide) (by decide) wd_602 wd_603 dX7_against_48 (by decide)
  have q39 : gz_OkJ M_X7_against 0 0 0 43 65 54 _ := ok_if_ne q38 dX7_against_51 (by decide)
  have q40 : gz_OkA M_X7_against 0 0 0 54 54 0 _ := ok_a0
  have q41 : gz_OkE M_X7_against 0 0 0 54 56 _ := ok_iload (i := 5) dX7_against_54
  have q42 : gz_OkA M_X7_against 0 0 0 54 56 1 _ := ok_a1 q40 q41
  have q43 : gz_OkE M_X7_against 2 0 0 56 57 _ := ok_iconst (v := 1) dX7_against_56 kc_i1
  have q44 : gz_OkA M_X7_against 0 0 0 54 57 2 _ := ok_a1 q42 q43
  have q45 : gz_OkE M_X7_against 4 0 0 57 59 _ := ok_bipush (v := 20) dX7_against_57 kc_b20
  have q46 : gz_OkA M_X7_against 0 0 0 54 59 3 _ := ok_a1 q44 q45
  have q47 : gz_OkE M_X7_against 0 0 0 54 62 _ := ok_cs q46 mt_X7_outside wd_601 wd_183 de_X7_outside (by decide) (by decide) wd_602 wd_603 dX7_against_59 (by decide)
  have q48 : gz_OkJ M_X7_against 0 0 0 54 67 65 _ := ok_if_eq q47 dX7_against_62 (by decide)
  have q49 : gz_OkJ M_X7_against 0 0 0 43 67 65 _ := ok_ja q39 q48
  have q50 : gz_OkJ M_X7_against 0 0 0 38 67 65 _ := ok_ja q30 q49
  have q51 : gz_OkJ M_X7_against 0 0 0 29 67 65 _ := ok_ja q27 q50
  have q52 : gz_OkJ M_X7_against 0 0 0 20 67 65 _ := ok_ja q20 q51
  have q53 : gz_OkJ M_X7_against 0 0 0 12 67 65 _ := ok_ja q13 q52
  have q54 : gz_OkJ M_X7_against 0 0 0 7 67 65 _ := ok_ja q8 q53
  have q55 : gz_OkA M_X7_against 0 0 0 67 67 0 _ := ok_a0
  have q56 : gz_OkE M_X7_against 0 0 0 67 69 _ := ok_aload (i := 6) dX7_against_67
  have q57 : gz_OkA M_X7_against 0 0 0 67 69 1 _ := ok_a1 q55 q56
  have q58 : gz_OkE M_X7_against 2 0 0 69 70 _ := ok_iload_n (i := 2) dX7_against_69 rfl
  have q59 : gz_OkA M_X7_against 0 0 0 67 70 2 _ := ok_a1 q57 q58
  have q60 : gz_OkE M_X7_against 4 0 0 70 71 _ := ok_iload_n (i := 3) dX7_against_70 rfl
  have q61 : gz_OkA M_X7_against 0 0 0 67 71 3 _ := ok_a1 q59 q60
  have q62 : gz_OkE M_X7_against 6 0 0 71 73 _ := ok_iload (i := 4) dX7_against_71
  have q63 : gz_OkA M_X7_against 0 0 0 67 73 4 _ := ok_a1 q61 q62
  have q64 : gz_OkE M_X7_against 8 0 0 73 75 _ := ok_iload (i := 5) dX7_against_73
  have q65 : gz_OkA M_X7_against 0 0 0 67 75 5 _ := ok_a1 q63 q64
  have q66 : gz_OkE M_X7_against 0 0 0 78 79 _ := ok_iconst (v := 1) dX7_against_78 kc_i1
  have q67 : gz_OkS M_X7_against 0 0 78 _ := ok_ri q66 dX7_against_79
  have q68 : gz_OkS M_X7_against 0 0 67 _ := ok_vv q65 mt_X1_oppose cl_1 wd_622 wd_458 de_X1_oppose (by decide) (by decide) wd_623 wd_624 wd_625 dX7_against_75 q67
  have q69 : gz_OkE M_X7_against 0 0 0 65 66 _ := ok_iconst (v := 0) dX7_against_65 kc_i0
  have q70 : gz_OkS M_X7_against 0 0 65 _ := ok_ri q69 dX7_against_66
  have q71 : gz_OkS M_X7_against 0 0 7 _ := ok_if q54 q68 q70
  have q72 : gz_OkS M_X7_against 0 0 0 _ := ok_seta (k := 6) q6 dX7_against_5 (by decide) q71
  have z : gz_OkS M_X7_against 0 0 0 sm_X7_against := q72
  exact gz_met (plainFor_of_name (by decide)) z (by decide) (by decide)
noncomputable def sm_X7_yields : gz_Sx := gz_seta 4 (gz_cv 7 9 se_X7_junctionAt (gz_a1 (gz_a1 (gz_a0) (gz_la 0)) (gz_li 1))) (gz_if (gz_ja (gz_jn (gz_la 4)) (gz_ja (gz_j1 (fun x => decide (¬ x = 0)) (gz_cv 1 11 se_X1_hasPlan (gz_a1 (gz_a0) (gz_la 4)))) (gz_j1 (fun x => decide (¬ x = 0)) (gz_cv 1 11 se_X1_mayYield (gz_a1 (gz_a1 (gz_a1 (gz_a0) (gz_la 4)) (gz_li 2)) (gz_li 3)))))) (gz_vv 1 11 se_X1_giveWay (gz_a1 (gz_a1 (gz_a1 (gz_a0) (gz_la 4)) (gz_li 2)) (gz_li 3)) (gz_ri (gz_i (1)))) (gz_ri (gz_i (0))))
noncomputable def se_X7_yields : gz_Me := gz_sem (some .boolean) 5 sm_X7_yields
abbrev rm_X7_yields : Room := { frames := 2, cells := 0, slots := 0, locals := 45 }
abbrev M_X7_yields : gz_Mi := (cX7_yields, 5, RX7, 2, 45, "yields", none)
theorem de_X7_yields : yX7_yields.cls ≠ "java/lang/invoke/MethodHandle" ∧ yX7_yields.cls ≠ "java/lang/invoke/VarHandle" ∧ (parseMethodDescriptor yX7_yields.desc).map (fun d => d.parameters.length) = some 3 := by decide +kernel
set_option maxRecDepth 100000 in
theorem mt_X7_yields : gz_Mt yX7_yields cX7_yields 5 (some .boolean) rm_X7_yields se_X7_yields := by
  have q1 : gz_OkA M_X7_yields 0 0 0 0 0 0 _ := ok_a0
  have q2 : gz_OkE M_X7_yields 0 0 0 0 1 _ := ok_aload_n (i := 0) dX7_yields_0 rfl
  have q3 : gz_OkA M_X7_yields 0 0 0 0 1 1 _ := ok_a1 q1 q2
  have q4 : gz_OkE M_X7_yields 2 0 0 1 2 _ := ok_iload_n (i := 1) dX7_yields_1 rfl
  have q5 : gz_OkA M_X7_yields 0 0 0 0 2 2 _ := ok_a1 q3 q4
  have q6 : gz_OkE M_X7_yields 0 0 0 0 5 _ := ok_cv q5 mt_X7_junctionAt cl_7 wd_604 wd_183 de_X7_junctionAt (by decide) (by decide) wd_605 wd_606 wd_607 dX7_yields_2 (by decide)
  have q7 : gz_OkE M_X7_yields 0 0 0 7 9 _ := ok_aload (i := 4) dX7_yields_7
  have q8 : gz_OkJ M_X7_yields 0 0 0 7 30 12 _ := ok_jn q7 dX7_yields_9 (by decide)
  have q9 : gz_OkA M_X7_yields 0 0 0 12 12 0 _ := ok_a0
  have q10 : gz_OkE M_X7_yields 0 0 0 12 14 _ := ok_aload (i := 4) dX7_yields_12
  have q11 : gz_OkA M_X7_yields 0 0 0 12 14 1 _ := ok_a1 q9 q10
  have q12 : gz_OkE M_X7_yields 0 0 0 12 17 _ := ok_cv q11 mt_X1_hasPlan cl_1 wd_608 wd_458 de_X1_hasPlan (by decide) (by decide) wd_609 wd_610 wd_611 dX7_yields_14 (by decide)
  have q13 : gz_OkJ M_X7_yields 0 0 0 12 30 20 _ := ok_if_ne q12 dX7_yields_17 (by decide)
  have q14 : gz_OkA M_X7_yields 0 0 0 20 20 0 _ := ok_a0
  have q15 : gz_OkE M_X7_yields 0 0 0 20 22 _ := ok_aload (i := 4) dX7_yields_20
  have q16 : gz_OkA M_X7_yields 0 0 0 20 22 1 _ := ok_a1 q14 q15
  have q17 : gz_OkE M_X7_yields 2 0 0 22 23 _ := ok_iload_n (i := 2) dX7_yields_22 rfl
  have q18 : gz_OkA M_X7_yields 0 0 0 20 23 2 _ := ok_a1 q16 q17
  have q19 : gz_OkE M_X7_yields 4 0 0 23 24 _ := ok_iload_n (i := 3) dX7_yields_23 rfl
  have q20 : gz_OkA M_X7_yields 0 0 0 20 24 3 _ := ok_a1 q18 q19
  have q21 : gz_OkE M_X7_yields 0 0 0 20 27 _ := ok_cv q20 mt_X1_mayYield cl_1 wd_626 wd_458 de_X1_mayYield (by decide) (by decide) wd_627 wd_628 wd_629 dX7_yields_24 (by decide)
  have q22 : gz_OkJ M_X7_yields 0 0 0 20 32 30 _ := ok_if_ne q21 dX7_yields_27 (by decide)
  have q23 : gz_OkJ M_X7_yields 0 0 0 12 32 30 _ := ok_ja q13 q22
  have q24 : gz_OkJ M_X7_yields 0 0 0 7 32 30 _ := ok_ja q8 q23
  have q25 : gz_OkA M_X7_yields 0 0 0 32 32 0 _ := ok_a0
  have q26 : gz_OkE M_X7_yields 0 0 0 32 34 _ := ok_aload (i := 4) dX7_yields_32
  have q27 : gz_OkA M_X7_yields 0 0 0 32 34 1 _ := ok_a1 q25 q26
  have q28 : gz_OkE M_X7_yields 2 0 0 34 35 _ := ok_iload_n (i := 2) dX7_yields_34 rfl
  have q29 : gz_OkA M_X7_yields 0 0 0 32 35 2 _ := ok_a1 q27 q28
  have q30 : gz_OkE M_X7_yields 4 0 0 35 36 _ := ok_iload_n (i := 3) dX7_yields_35 rfl
  have q31 : gz_OkA M_X7_yields 0 0 0 32 36 3 _ := ok_a1 q29 q30
  have q32 : gz_OkE M_X7_yields 0 0 0 39 40 _ := ok_iconst (v := 1) dX7_yields_39 kc_i1
  have q33 : gz_OkS M_X7_yields 0 0 39 _ := ok_ri q32 dX7_yields_40
  have q34 : gz_OkS M_X7_yields 0 0 32 _ := ok_vv q31 mt_X1_giveWay cl_1 wd_630 wd_458 de_X1_giveWay (by decide) (by decide) wd_631 wd_632 wd_633 dX7_yields_36 q33
  have q35 : gz_OkE M_X7_yields 0 0 0 30 31 _ := ok_iconst (v := 0) dX7_yields_30 kc_i0
  have q36 : gz_OkS M_X7_yields 0 0 30 _ := ok_ri q35 dX7_yields_31
  have q37 : gz_OkS M_X7_yields 0 0 7 _ := ok_if q24 q34 q36
  have q38 : gz_OkS M_X7_yields 0 0 0 _ := ok_seta (k := 4) q6 dX7_yields_5 (by decide) q37
  have z : gz_OkS M_X7_yields 0 0 0 sm_X7_yields := q38
  exact gz_met (plainFor_of_name (by decide)) z (by decide) (by decide)
noncomputable def sm_X7_streamAt : gz_Sx := gz_seta 3 (gz_cv 7 9 se_X7_junctionAt (gz_a1 (gz_a1 (gz_a0) (gz_la 0)) (gz_li 1))) (gz_ra (gz_te (gz_jk (gz_la 3)) (gz_cv 1 11 se_X1_member (gz_a1 (gz_a1 (gz_a0) (gz_la 3)) (gz_li 2))) (gz_nu)))
noncomputable def se_X7_streamAt : gz_Me := gz_sem (some (.object "GreenDesk$Stream")) 4 sm_X7_streamAt
abbrev rm_X7_streamAt : Room := { frames := 2, cells := 0, slots := 0, locals := 43 }
abbrev M_X7_streamAt : gz_Mi := (cX7_streamAt, 4, RX7, 2, 43, "streamAt", none)
theorem de_X7_streamAt : yX7_streamAt.cls ≠ "java/lang/invoke/MethodHandle" ∧ yX7_streamAt.cls ≠ "java/lang/invoke/VarHandle" ∧ (parseMethodDescriptor yX7_streamAt.desc).map (fun d => d.parameters.length) = some 2 := by decide +kernel
set_option maxRecDepth 100000 in
theorem mt_X7_streamAt : gz_Mt yX7_streamAt cX7_streamAt 4 (some (.object "GreenDesk$Stream")) rm_X7_streamAt se_X7_streamAt := by
  have q1 : gz_OkA M_X7_streamAt 0 0 0 0 0 0 _ := ok_a0
  have q2 : gz_OkE M_X7_streamAt 0 0 0 0 1 _ := ok_aload_n (i := 0) dX7_streamAt_0 rfl
  have q3 : gz_OkA M_X7_streamAt 0 0 0 0 1 1 _ := ok_a1 q1 q2
  have q4 : gz_OkE M_X7_streamAt 2 0 0 1 2 _ := ok_iload_n (i := 1) dX7_streamAt_1 rfl
  have q5 : gz_OkA M_X7_streamAt 0 0 0 0 2 2 _ := ok_a1 q3 q4
  have q6 : gz_OkE M_X7_streamAt 0 0 0 0 5 _ := ok_cv q5 mt_X7_junctionAt cl_7 wd_604 wd_183 de_X7_junctionAt (by decide) (by decide) wd_605 wd_606 wd_607 dX7_streamAt_2 (by decide)
  have q7 : gz_OkE M_X7_streamAt 0 0 0 6 7 _ := ok_aload_n (i := 3) dX7_streamAt_6 rfl
  have q8 : gz_OkJ M_X7_streamAt 0 0 0 6 14 10 _ := ok_jk q7 dX7_streamAt_7 (by decide)
  have q9 : gz_OkE M_X7_streamAt 0 0 0 10 11 _ := ok_null dX7_streamAt_10
  have q10 : gz_OkE M_X7_streamAt 0 0 0 10 19 _ := ok_eg q9 dX7_streamAt_11 (by decide)
  have q11 : gz_OkA M_X7_streamAt 0 0 0 14 14 0 _ := ok_a0
  have q12 : gz_OkE M_X7_streamAt 0 0 0 14 15 _ := ok_aload_n (i := 3) dX7_streamAt_14 rfl
  have q13 : gz_OkA M_X7_streamAt 0 0 0 14 15 1 _ := ok_a1 q11 q12
  have q14 : gz_OkE M_X7_streamAt 2 0 0 15 16 _ := ok_iload_n (i := 2) dX7_streamAt_15 rfl
  have q15 : gz_OkA M_X7_streamAt 0 0 0 14 16 2 _ := ok_a1 q13 q14
  have q16 : gz_OkE M_X7_streamAt 0 0 0 14 19 _ := ok_cv q15 mt_X1_member cl_1 wd_457 wd_458 de_X1_member (by decide) (by decide) wd_621 wd_460 wd_461 dX7_streamAt_16 (by decide)
  have q17 : gz_OkE M_X7_streamAt 0 0 0 6 19 _ := ok_te2 q8 q10 q16
  have q18 : gz_OkS M_X7_streamAt 0 0 6 _ := ok_ra q17 dX7_streamAt_19
  have q19 : gz_OkS M_X7_streamAt 0 0 0 _ := ok_seta_n (k := 3) q6 dX7_streamAt_5 rfl (by decide) q18
  have z : gz_OkS M_X7_streamAt 0 0 0 sm_X7_streamAt := q19
  exact gz_met (plainFor_of_name (by decide)) z (by decide) (by decide)
noncomputable def sm_X7_street : gz_Sx := gz_seta 7 (gz_cv 7 9 se_X7_streamAt (gz_a1 (gz_a1 (gz_a1 (gz_a0) (gz_la 0)) (gz_li 1)) (gz_li 2))) (gz_seta 8 (gz_cv 7 9 se_X7_streamAt (gz_a1 (gz_a1 (gz_a1 (gz_a0) (gz_la 0)) (gz_li 3)) (gz_li 4))) (gz_if (gz_ja (gz_jn (gz_la 7)) (gz_ja (gz_jn (gz_la 8)) (gz_ja (gz_j2 (fun x y => decide (x = y)) (gz_li 1) (gz_li 3)) (gz_ja (gz_jk (gz_get 3 14 4 (gz_la 7))) (gz_ja (gz_j1 (fun x => decide (¬ x = 0)) (gz_get 7 9 5 (gz_la 0))) (gz_ja (gz_j1 (fun x => decide (¬ x = 0)) (gz_cs se_X7_outside (gz_a1 (gz_a1 (gz_a1 (gz_a0) (gz_li 5)) (gz_i (1))) (gz_i (60))))) (gz_j1 (fun x => decide (x = 0)) (gz_cs se_X7_outside (gz_a1 (gz_a1 (gz_a1 (gz_a0) (gz_li 6)) (gz_i (1))) (gz_i (60))))))))))) (gz_put 3 14 4 (.object "GreenDesk$Street") (gz_la 7) (gz_mk 4 6 (fun j => defaultValue (tyX4 j)) se_X4_init (gz_a1 (gz_a1 (gz_a1 (gz_a0) (gz_la 8)) (gz_li 5)) (gz_li 6))) (gz_put 3 14 5 (.object "GreenDesk$Street") (gz_la 8) (gz_get 3 14 4 (gz_la 7)) (gz_ri (gz_i (1))))) (gz_ri (gz_i (0)))))
noncomputable def se_X7_street : gz_Me := gz_sem (some .boolean) 9 sm_X7_street
abbrev rm_X7_street : Room := { frames := 3, cells := 2, slots := 67, locals := 66 }
abbrev M_X7_street : gz_Mi := (cX7_street, 9, RX7, 3, 66, "street", none)
theorem de_X7_street : yX7_street.cls ≠ "java/lang/invoke/MethodHandle" ∧ yX7_street.cls ≠ "java/lang/invoke/VarHandle" ∧ (parseMethodDescriptor yX7_street.desc).map (fun d => d.parameters.length) = some 6 := by decide +kernel
set_option maxRecDepth 100000 in
theorem mt_X7_street : gz_Mt yX7_street cX7_street 9 (some .boolean) rm_X7_street se_X7_street := by
  have q1 : gz_OkA M_X7_street 0 0 0 0 0 0 _ := ok_a0
  have q2 : gz_OkE M_X7_street 0 0 0 0 1 _ := ok_aload_n (i := 0) dX7_street_0 rfl
  have q3 : gz_OkA M_X7_street 0 0 0 0 1 1 _ := ok_a1 q1 q2
  have q4 : gz_OkE M_X7_street 2 0 0 1 2 _ := ok_iload_n (i := 1) dX7_street_1 rfl
  have q5 : gz_OkA M_X7_street 0 0 0 0 2 2 _ := ok_a1 q3 q4
  have q6 : gz_OkE M_X7_street 4 0 0 2 3 _ := ok_iload_n (i := 2) dX7_street_2 rfl
  have q7 : gz_OkA M_X7_street 0 0 0 0 3 3 _ := ok_a1 q5 q6
  have q8 : gz_OkE M_X7_street 0 0 0 0 6 _ := ok_cv q7 mt_X7_streamAt cl_7 wd_634 wd_183 de_X7_streamAt (by decide) (by decide) wd_635 wd_636 wd_637 dX7_street_3 (by decide)
  have q9 : gz_OkA M_X7_street 0 0 0 8 8 0 _ := ok_a0
  have q10 : gz_OkE M_X7_street 0 0 0 8 9 _ := ok_aload_n (i := 0) dX7_street_8 rfl
  have q11 : gz_OkA M_X7_street 0 0 0 8 9 1 _ := ok_a1 q9 q10
  have q12 : gz_OkE M_X7_street 2 0 0 9 10 _ := ok_iload_n (i := 3) dX7_street_9 rfl
  have q13 : gz_OkA M_X7_street 0 0 0 8 10 2 _ := ok_a1 q11 q12
  have q14 : gz_OkE M_X7_street 4 0 0 10 12 _ := ok_iload (i := 4) dX7_street_10
  have q15 : gz_OkA M_X7_street 0 0 0 8 12 3 _ := ok_a1 q13 q14
  have q16 : gz_OkE M_X7_street 0 0 0 8 15 _ := ok_cv q15 mt_X7_streamAt cl_7 wd_634 wd_183 de_X7_streamAt (by decide) (by decide) wd_635 wd_636 wd_637 dX7_street_12 (by decide)
  have q17 : gz_OkE M_X7_street 0 0 0 17 19 _ := ok_aload (i := 7) dX7_street_17
  have q18 : gz_OkJ M_X7_street 0 0 0 17 69 22 _ := ok_jn q17 dX7_street_19 (by decide)
  have q19 : gz_OkE M_X7_street 0 0 0 22 24 _ := ok_aload (i := 8) dX7_street_22
  have q20 : gz_OkJ M_X7_street 0 0 0 22 69 27 _ := ok_jn q19 dX7_street_24 (by decide)
  have q21 : gz_OkE M_X7_street 0 0 0 27 28 _ := ok_iload_n (i := 1) dX7_street_27 rfl
  have q22 : gz_OkE M_X7_street 1 0 0 28 29 _ := ok_iload_n (i := 3) dX7_street_28 rfl
  have q23 : gz_OkJ M_X7_street 0 0 0 27 69 32 _ := ok_ic_eq q21 q22 dX7_street_29 (by decide)
  have q24 : gz_OkE M_X7_street 0 0 0 32 34 _ := ok_aload (i := 7) dX7_street_32
  have q25 : gz_OkE M_X7_street 0 0 0 32 37 _ := ok_get q24 cl_3 (k := 4) (by decide) in_3 wd_106 dX7_street_34
  have q26 : gz_OkJ M_X7_street 0 0 0 32 69 40 _ := ok_jk q25 dX7_street_37 (by decide)
  have q27 : gz_OkE M_X7_street 0 0 0 40 41 _ := ok_aload_n (i := 0) dX7_street_40 rfl
  have q28 : gz_OkE M_X7_street 0 0 0 40 44 _ := ok_get q27 cl_7 (k := 5) (by decide) in_7 wd_104 dX7_street_41
  have q29 : gz_OkJ M_X7_street 0 0 0 40 69 47 _ := ok_if_ne q28 dX7_street_44 (by decide)
  have q30 : gz_OkA M_X7_street 0 0 0 47 47 0 _ := ok_a0
  have q31 : gz_OkE M_X7_street 0 0 0 47 49 _ := ok_iload (i := 5) dX7_street_47
  have q32 : gz_OkA M_X7_street 0 0 0 47 49 1 _ := ok_a1 q30 q31
  have q33 : gz_OkE M_X7_street 2 0 0 49 50 _ := ok_iconst (v := 1) dX7_street_49 kc_i1
  have q34 : gz_OkA M_X7_street 0 0 0 47 50 2 _ := ok_a1 q32 q33
  have q35 : gz_OkE M_X7_street 4 0 0 50 52 _ := ok_bipush (v := 60) dX7_street_50 kc_b60
  have q36 : gz_OkA M_X7_street 0 0 0 47 52 3 _ := ok_a1 q34 q35
  have q37 : gz_OkE M_X7_street 0 0 0 47 55 _ := ok_cs q36 mt_X7_outside wd_601 wd_183 de_X7_outside (by decide) (by decide) wd_602 wd_603 dX7_street_52 (by decide)
  have q38 : gz_OkJ M_X7_street 0 0 0 47 69 58 _ := ok_if_ne q37 dX7_street_55 (by decide)
  have q39 : gz_OkA M_X7_street 0 0 0 58 58 0 _ := ok_a0
  have q40 : gz_OkE M_X7_street 0 0 0 58 60 _ := ok_iload (i := 6) dX7_street_58
  have q41 : gz_OkA M_X7_street 0 0 0 58 60 1 _ := ok_a1 q39 q40
  have q42 : gz_OkE M_X7_street 2 0 0 60 61 _ := ok_iconst (v := 1) dX7_street_60 kc_i1
  have q43 : gz_OkA M_X7_street 0 0 0 58 61 2 _ := ok_a1 q41 q42
  have q44 : gz_OkE M_X7_street 4 0 0 61 63 _ := ok_bipush (v := 60) dX7_street_61 kc_b60
  have q45 : gz_OkA M_X7_street 0 0 0 58 63 3 _ := ok_a1 q43 q44
  have q46 : gz_OkE M_X7_street 0 0 0 58 66 _ := ok_cs q45 mt_X7_outside wd_601 wd_183 de_X7_outside (by decide) (by decide) wd_602 wd_603 dX7_street_63 (by decide)
  have q47 : gz_OkJ M_X7_street 0 0 0 58 71 69 _ := ok_if_eq q46 dX7_street_66 (by decide)
  have q48 : gz_OkJ M_X7_street 0 0 0 47 71 69 _ := ok_ja q38 q47
  have q49 : gz_OkJ M_X7_street 0 0 0 40 71 69 _ := ok_ja q29 q48
  have q50 : gz_OkJ M_X7_street 0 0 0 32 71 69 _ := ok_ja q26 q49
  have q51 : gz_OkJ M_X7_street 0 0 0 27 71 69 _ := ok_ja q23 q50
  have q52 : gz_OkJ M_X7_street 0 0 0 22 71 69 _ := ok_ja q20 q51
  have q53 : gz_OkJ M_X7_street 0 0 0 17 71 69 _ := ok_ja q18 q52
  have q54 : gz_OkE M_X7_street 0 0 0 71 73 _ := ok_aload (i := 7) dX7_street_71
  have q55 : gz_OkA M_X7_street 3 0 0 77 77 0 _ := ok_a0
  have q56 : gz_OkE M_X7_street 3 0 0 77 79 _ := ok_aload (i := 8) dX7_street_77
  have q57 : gz_OkA M_X7_street 3 0 0 77 79 1 _ := ok_a1 q55 q56
  have q58 : gz_OkE M_X7_street 5 0 0 79 81 _ := ok_iload (i := 5) dX7_street_79
  have q59 : gz_OkA M_X7_street 3 0 0 77 81 2 _ := ok_a1 q57 q58
  have q60 : gz_OkE M_X7_street 7 0 0 81 83 _ := ok_iload (i := 6) dX7_street_81
  have q61 : gz_OkA M_X7_street 3 0 0 77 83 3 _ := ok_a1 q59 q60
  have q62 : gz_OkE M_X7_street 1 2 67 73 86 _ := ok_mk cl_4 in_4 tyX4 tyX4_ok nf_4 wd_638 wd_639 wd_495 dX7_street_73 dX7_street_76 q61 mt_X4_init wd_640 wd_495 de_X4_init (by decide) (by decide) wd_641 wd_642 rfl dX7_street_83 (by decide)
  have q63 : gz_OkE M_X7_street 0 0 0 89 91 _ := ok_aload (i := 8) dX7_street_89
  have q64 : gz_OkE M_X7_street 1 0 0 91 93 _ := ok_aload (i := 7) dX7_street_91
  have q65 : gz_OkE M_X7_street 1 0 0 91 96 _ := ok_get q64 cl_3 (k := 4) (by decide) in_3 wd_106 dX7_street_93
  have q66 : gz_OkE M_X7_street 0 0 0 99 100 _ := ok_iconst (v := 1) dX7_street_99 kc_i1
  have q67 : gz_OkS M_X7_street 0 0 99 _ := ok_ri q66 dX7_street_100
  have q68 : gz_OkS M_X7_street 0 0 89 _ := ok_put (ty := (.object "GreenDesk$Street")) q63 q65 cl_3 (k := 5) (by decide) in_3 wd_107 tyX3 tyX3_ok nmX3 rfl rfl dX7_street_96 q67
  have q69 : gz_OkS M_X7_street 2 67 71 _ := ok_put (ty := (.object "GreenDesk$Street")) q54 q62 cl_3 (k := 4) (by decide) in_3 wd_106 tyX3 tyX3_ok nmX3 rfl rfl dX7_street_86 q68
  have q70 : gz_OkE M_X7_street 0 0 0 69 70 _ := ok_iconst (v := 0) dX7_street_69 kc_i0
  have q71 : gz_OkS M_X7_street 0 0 69 _ := ok_ri q70 dX7_street_70
  have q72 : gz_OkS M_X7_street 2 67 17 _ := ok_if q53 q69 q71
  have q73 : gz_OkS M_X7_street 2 67 8 _ := ok_seta (k := 8) q16 dX7_street_15 (by decide) q72
  have q74 : gz_OkS M_X7_street 2 67 0 _ := ok_seta (k := 7) q8 dX7_street_6 (by decide) q73
  have z : gz_OkS M_X7_street 2 67 0 sm_X7_street := q74
  exact gz_met (plainFor_of_name (by decide)) z (by decide) (by decide)
