noncomputable def sm_X8_yields : gz_Sx := gz_if (gz_ja (gz_j1 (fun x => decide (x = 0)) (gz_cv 8 48 se_X8_isStream (gz_a1 (gz_a1 (gz_a1 (gz_a0) (gz_la 0)) (gz_li 1)) (gz_li 2)))) (gz_ja (gz_j1 (fun x => decide (x = 0)) (gz_cv 8 48 se_X8_isStream (gz_a1 (gz_a1 (gz_a1 (gz_a0) (gz_la 0)) (gz_li 1)) (gz_li 3)))) (gz_ja (gz_j2 (fun x y => decide (¬ x = y)) (gz_ald 100 (gz_get 8 48 3 (gz_la 0)) (gz_ib (fun x y => x + y) (gz_ib (fun x y => x * y) (gz_i (8)) (gz_li 1)) (gz_li 2))) (gz_i (1))) (gz_ja (gz_j2 (fun x y => decide (x = y)) (gz_ald 100 (gz_get 8 48 3 (gz_la 0)) (gz_ib (fun x y => x + y) (gz_ib (fun x y => x * y) (gz_i (8)) (gz_li 1)) (gz_li 3))) (gz_i (1))) (gz_j1 (fun x => decide (¬ x = 0)) (gz_cv 8 48 se_X8_seconds (gz_a1 (gz_a1 (gz_a1 (gz_a1 (gz_a0) (gz_la 0)) (gz_li 1)) (gz_li 2)) (gz_li 3)))))))) (gz_if (gz_ja (gz_j1 (fun x => decide (¬ x = 0)) (gz_ald 101 (gz_get 8 48 8 (gz_la 0)) (gz_ib (fun x y => x + y) (gz_ib (fun x y => x + y) (gz_ib (fun x y => x * y) (gz_i (64)) (gz_li 1)) (gz_ib (fun x y => x * y) (gz_i (8)) (gz_li 2))) (gz_li 3)))) (gz_j1 (fun x => decide (x = 0)) (gz_cv 8 48 se_X8_isPlanned (gz_a1 (gz_a1 (gz_a0) (gz_la 0)) (gz_li 1))))) (gz_ast 101 (gz_get 8 48 8 (gz_la 0)) (gz_ib (fun x y => x + y) (gz_ib (fun x y => x + y) (gz_ib (fun x y => x * y) (gz_i (64)) (gz_li 1)) (gz_ib (fun x y => x * y) (gz_i (8)) (gz_li 2))) (gz_li 3)) (gz_i (1)) (gz_ri (gz_i (1)))) (gz_ri (gz_i (0)))) (gz_ri (gz_i (0)))
noncomputable def se_X8_yields : gz_Me := gz_sem (some .boolean) 4 sm_X8_yields
abbrev rm_X8_yields : Room := { frames := 2, cells := 0, slots := 0, locals := 43 }
abbrev M_X8_yields : gz_Mi := (cX8_yields, 4, RX8, 2, 43, "yields", none)
theorem de_X8_yields : yX8_yields.cls ≠ "java/lang/invoke/MethodHandle" ∧ yX8_yields.cls ≠ "java/lang/invoke/VarHandle" ∧ (parseMethodDescriptor yX8_yields.desc).map (fun d => d.parameters.length) = some 3 := by decide +kernel
set_option maxRecDepth 100000 in
theorem mt_X8_yields : gz_Mt yX8_yields cX8_yields 4 (some .boolean) rm_X8_yields se_X8_yields := by
  have q1 : gz_OkA M_X8_yields 0 0 0 0 0 0 _ := ok_a0
  have q2 : gz_OkE M_X8_yields 0 0 0 0 1 _ := ok_aload_n (i := 0) dX8_yields_0 rfl
  have q3 : gz_OkA M_X8_yields 0 0 0 0 1 1 _ := ok_a1 q1 q2
  have q4 : gz_OkE M_X8_yields 2 0 0 1 2 _ := ok_iload_n (i := 1) dX8_yields_1 rfl
  have q5 : gz_OkA M_X8_yields 0 0 0 0 2 2 _ := ok_a1 q3 q4
  have q6 : gz_OkE M_X8_yields 4 0 0 2 3 _ := ok_iload_n (i := 2) dX8_yields_2 rfl
  have q7 : gz_OkA M_X8_yields 0 0 0 0 3 3 _ := ok_a1 q5 q6
  have q8 : gz_OkE M_X8_yields 0 0 0 0 6 _ := ok_cv q7 mt_X8_isStream cl_8 wd_781 wd_188 de_X8_isStream (by decide) (by decide) wd_782 wd_783 wd_784 dX8_yields_3 (by decide)
  have q9 : gz_OkJ M_X8_yields 0 0 0 0 58 9 _ := ok_if_eq q8 dX8_yields_6 (by decide)
  have q10 : gz_OkA M_X8_yields 0 0 0 9 9 0 _ := ok_a0
  have q11 : gz_OkE M_X8_yields 0 0 0 9 10 _ := ok_aload_n (i := 0) dX8_yields_9 rfl
  have q12 : gz_OkA M_X8_yields 0 0 0 9 10 1 _ := ok_a1 q10 q11
  have q13 : gz_OkE M_X8_yields 2 0 0 10 11 _ := ok_iload_n (i := 1) dX8_yields_10 rfl
  have q14 : gz_OkA M_X8_yields 0 0 0 9 11 2 _ := ok_a1 q12 q13
  have q15 : gz_OkE M_X8_yields 4 0 0 11 12 _ := ok_iload_n (i := 3) dX8_yields_11 rfl
  have q16 : gz_OkA M_X8_yields 0 0 0 9 12 3 _ := ok_a1 q14 q15
  have q17 : gz_OkE M_X8_yields 0 0 0 9 15 _ := ok_cv q16 mt_X8_isStream cl_8 wd_781 wd_188 de_X8_isStream (by decide) (by decide) wd_782 wd_783 wd_784 dX8_yields_12 (by decide)
  have q18 : gz_OkJ M_X8_yields 0 0 0 9 58 18 _ := ok_if_eq q17 dX8_yields_15 (by decide)
  have q19 : gz_OkE M_X8_yields 0 0 0 18 19 _ := ok_aload_n (i := 0) dX8_yields_18 rfl
  have q20 : gz_OkE M_X8_yields 0 0 0 18 22 _ := ok_get q19 cl_8 (k := 3) (by decide) in_8 wd_129 dX8_yields_19
  have q21 : gz_OkE M_X8_yields 1 0 0 22 24 _ := ok_bipush (v := 8) dX8_yields_22 kc_b8
  have q22 : gz_OkE M_X8_yields 2 0 0 24 25 _ := ok_iload_n (i := 1) dX8_yields_24 rfl
  have q23 : gz_OkE M_X8_yields 1 0 0 22 26 _ := ok_imul q21 q22 dX8_yields_25
  have q24 : gz_OkE M_X8_yields 2 0 0 26 27 _ := ok_iload_n (i := 2) dX8_yields_26 rfl
  have q25 : gz_OkE M_X8_yields 1 0 0 22 28 _ := ok_iadd q23 q24 dX8_yields_27
  have q26 : gz_OkE M_X8_yields 0 0 0 18 29 _ := ok_iald q20 q25 dX8_yields_28
  have q27 : gz_OkE M_X8_yields 1 0 0 29 30 _ := ok_iconst (v := 1) dX8_yields_29 kc_i1
  have q28 : gz_OkJ M_X8_yields 0 0 0 18 58 33 _ := ok_ic_ne q26 q27 dX8_yields_30 (by decide)
  have q29 : gz_OkE M_X8_yields 0 0 0 33 34 _ := ok_aload_n (i := 0) dX8_yields_33 rfl
  have q30 : gz_OkE M_X8_yields 0 0 0 33 37 _ := ok_get q29 cl_8 (k := 3) (by decide) in_8 wd_129 dX8_yields_34
  have q31 : gz_OkE M_X8_yields 1 0 0 37 39 _ := ok_bipush (v := 8) dX8_yields_37 kc_b8
  have q32 : gz_OkE M_X8_yields 2 0 0 39 40 _ := ok_iload_n (i := 1) dX8_yields_39 rfl
  have q33 : gz_OkE M_X8_yields 1 0 0 37 41 _ := ok_imul q31 q32 dX8_yields_40
  have q34 : gz_OkE M_X8_yields 2 0 0 41 42 _ := ok_iload_n (i := 3) dX8_yields_41 rfl
  have q35 : gz_OkE M_X8_yields 1 0 0 37 43 _ := ok_iadd q33 q34 dX8_yields_42
  have q36 : gz_OkE M_X8_yields 0 0 0 33 44 _ := ok_iald q30 q35 dX8_yields_43
  have q37 : gz_OkE M_X8_yields 1 0 0 44 45 _ := ok_iconst (v := 1) dX8_yields_44 kc_i1
  have q38 : gz_OkJ M_X8_yields 0 0 0 33 58 48 _ := ok_ic_eq q36 q37 dX8_yields_45 (by decide)
  have q39 : gz_OkA M_X8_yields 0 0 0 48 48 0 _ := ok_a0
  have q40 : gz_OkE M_X8_yields 0 0 0 48 49 _ := ok_aload_n (i := 0) dX8_yields_48 rfl
  have q41 : gz_OkA M_X8_yields 0 0 0 48 49 1 _ := ok_a1 q39 q40
  have q42 : gz_OkE M_X8_yields 2 0 0 49 50 _ := ok_iload_n (i := 1) dX8_yields_49 rfl
  have q43 : gz_OkA M_X8_yields 0 0 0 48 50 2 _ := ok_a1 q41 q42
  have q44 : gz_OkE M_X8_yields 4 0 0 50 51 _ := ok_iload_n (i := 2) dX8_yields_50 rfl
  have q45 : gz_OkA M_X8_yields 0 0 0 48 51 3 _ := ok_a1 q43 q44
  have q46 : gz_OkE M_X8_yields 6 0 0 51 52 _ := ok_iload_n (i := 3) dX8_yields_51 rfl
  have q47 : gz_OkA M_X8_yields 0 0 0 48 52 4 _ := ok_a1 q45 q46
  have q48 : gz_OkE M_X8_yields 0 0 0 48 55 _ := ok_cv q47 mt_X8_seconds cl_8 wd_777 wd_188 de_X8_seconds (by decide) (by decide) wd_778 wd_779 wd_780 dX8_yields_52 (by decide)
  have q49 : gz_OkJ M_X8_yields 0 0 0 48 60 58 _ := ok_if_ne q48 dX8_yields_55 (by decide)
  have q50 : gz_OkJ M_X8_yields 0 0 0 33 60 58 _ := ok_ja q38 q49
  have q51 : gz_OkJ M_X8_yields 0 0 0 18 60 58 _ := ok_ja q28 q50
  have q52 : gz_OkJ M_X8_yields 0 0 0 9 60 58 _ := ok_ja q18 q51
  have q53 : gz_OkJ M_X8_yields 0 0 0 0 60 58 _ := ok_ja q9 q52
  have q54 : gz_OkE M_X8_yields 0 0 0 60 61 _ := ok_aload_n (i := 0) dX8_yields_60 rfl
  have q55 : gz_OkE M_X8_yields 0 0 0 60 64 _ := ok_get q54 cl_8 (k := 8) (by decide) in_8 wd_134 dX8_yields_61
  have q56 : gz_OkE M_X8_yields 1 0 0 64 66 _ := ok_bipush (v := 64) dX8_yields_64 kc_b64
  have q57 : gz_OkE M_X8_yields 2 0 0 66 67 _ := ok_iload_n (i := 1) dX8_yields_66 rfl
  have q58 : gz_OkE M_X8_yields 1 0 0 64 68 _ := ok_imul q56 q57 dX8_yields_67
  have q59 : gz_OkE M_X8_yields 2 0 0 68 70 _ := ok_bipush (v := 8) dX8_yields_68 kc_b8
  have q60 : gz_OkE M_X8_yields 3 0 0 70 71 _ := ok_iload_n (i := 2) dX8_yields_70 rfl
  have q61 : gz_OkE M_X8_yields 2 0 0 68 72 _ := ok_imul q59 q60 dX8_yields_71
  have q62 : gz_OkE M_X8_yields 1 0 0 64 73 _ := ok_iadd q58 q61 dX8_yields_72
  have q63 : gz_OkE M_X8_yields 2 0 0 73 74 _ := ok_iload_n (i := 3) dX8_yields_73 rfl
  have q64 : gz_OkE M_X8_yields 1 0 0 64 75 _ := ok_iadd q62 q63 dX8_yields_74
  have q65 : gz_OkE M_X8_yields 0 0 0 60 76 _ := ok_zald q55 q64 dX8_yields_75
  have q66 : gz_OkJ M_X8_yields 0 0 0 60 87 79 _ := ok_if_ne q65 dX8_yields_76 (by decide)
  have q67 : gz_OkA M_X8_yields 0 0 0 79 79 0 _ := ok_a0
  have q68 : gz_OkE M_X8_yields 0 0 0 79 80 _ := ok_aload_n (i := 0) dX8_yields_79 rfl
  have q69 : gz_OkA M_X8_yields 0 0 0 79 80 1 _ := ok_a1 q67 q68
  have q70 : gz_OkE M_X8_yields 2 0 0 80 81 _ := ok_iload_n (i := 1) dX8_yields_80 rfl
  have q71 : gz_OkA M_X8_yields 0 0 0 79 81 2 _ := ok_a1 q69 q70
  have q72 : gz_OkE M_X8_yields 0 0 0 79 84 _ := ok_cv q71 mt_X8_isPlanned cl_8 wd_768 wd_188 de_X8_isPlanned (by decide) (by decide) wd_769 wd_770 wd_771 dX8_yields_81 (by decide)
  have q73 : gz_OkJ M_X8_yields 0 0 0 79 89 87 _ := ok_if_eq q72 dX8_yields_84 (by decide)
  have q74 : gz_OkJ M_X8_yields 0 0 0 60 89 87 _ := ok_ja q66 q73
  have q75 : gz_OkE M_X8_yields 0 0 0 89 90 _ := ok_aload_n (i := 0) dX8_yields_89 rfl
  have q76 : gz_OkE M_X8_yields 0 0 0 89 93 _ := ok_get q75 cl_8 (k := 8) (by decide) in_8 wd_134 dX8_yields_90
  have q77 : gz_OkE M_X8_yields 1 0 0 93 95 _ := ok_bipush (v := 64) dX8_yields_93 kc_b64
  have q78 : gz_OkE M_X8_yields 2 0 0 95 96 _ := ok_iload_n (i := 1) dX8_yields_95 rfl
  have q79 : gz_OkE M_X8_yields 1 0 0 93 97 _ := ok_imul q77 q78 dX8_yields_96
  have q80 : gz_OkE M_X8_yields 2 0 0 97 99 _ := ok_bipush (v := 8) dX8_yields_97 kc_b8
  have q81 : gz_OkE M_X8_yields 3 0 0 99 100 _ := ok_iload_n (i := 2) dX8_yields_99 rfl
  have q82 : gz_OkE M_X8_yields 2 0 0 97 101 _ := ok_imul q80 q81 dX8_yields_100
  have q83 : gz_OkE M_X8_yields 1 0 0 93 102 _ := ok_iadd q79 q82 dX8_yields_101
  have q84 : gz_OkE M_X8_yields 2 0 0 102 103 _ := ok_iload_n (i := 3) dX8_yields_102 rfl
  have q85 : gz_OkE M_X8_yields 1 0 0 93 104 _ := ok_iadd q83 q84 dX8_yields_103
  have q86 : gz_OkE M_X8_yields 2 0 0 104 105 _ := ok_iconst (v := 1) dX8_yields_104 kc_i1
  have q87 : gz_OkE M_X8_yields 0 0 0 106 107 _ := ok_iconst (v := 1) dX8_yields_106 kc_i1
  have q88 : gz_OkS M_X8_yields 0 0 106 _ := ok_ri q87 dX8_yields_107
  have q89 : gz_OkS M_X8_yields 0 0 89 _ := ok_zast q76 q85 q86 dX8_yields_105 q88
  have q90 : gz_OkE M_X8_yields 0 0 0 87 88 _ := ok_iconst (v := 0) dX8_yields_87 kc_i0
  have q91 : gz_OkS M_X8_yields 0 0 87 _ := ok_ri q90 dX8_yields_88
  have q92 : gz_OkS M_X8_yields 0 0 60 _ := ok_if q74 q89 q91
  have q93 : gz_OkE M_X8_yields 0 0 0 58 59 _ := ok_iconst (v := 0) dX8_yields_58 kc_i0
  have q94 : gz_OkS M_X8_yields 0 0 58 _ := ok_ri q93 dX8_yields_59
  have q95 : gz_OkS M_X8_yields 0 0 0 _ := ok_if q53 q92 q94
  have z : gz_OkS M_X8_yields 0 0 0 sm_X8_yields := q95
  exact gz_met (plainFor_of_name (by decide)) z (by decide) (by decide)
noncomputable def lb_X8_isSet_33 : gz_Sx := gz_if (gz_j2 (fun x y => decide (y ≤ x)) (gz_li 4) (gz_li 3)) (gz_sat 77) (gz_if (gz_jo (gz_j2 (fun x y => decide (¬ x = y)) (gz_ib (fun x y => x &&& y) (gz_ib (fun x y => x >>> (y &&& 31)) (gz_li 2) (gz_li 3)) (gz_i (1))) (gz_i (1))) (gz_jo (gz_j2 (fun x y => decide (¬ x = y)) (gz_ib (fun x y => x &&& y) (gz_ib (fun x y => x >>> (y &&& 31)) (gz_li 2) (gz_li 4)) (gz_i (1))) (gz_i (1))) (gz_j1 (fun x => decide (x ≤ 0)) (gz_cv 8 48 se_X8_apart (gz_a1 (gz_a1 (gz_a1 (gz_a1 (gz_a0) (gz_la 0)) (gz_li 1)) (gz_li 3)) (gz_li 4)))))) (gz_inc 4 (1) (gz_sat 33)) (gz_ri (gz_i (0))))
noncomputable def lb_X8_isSet_20 : gz_Sx := gz_if (gz_j2 (fun x y => decide (y ≤ x)) (gz_li 3) (gz_ald 100 (gz_get 8 48 2 (gz_la 0)) (gz_li 1))) (gz_sat 83) (gz_seti 4 (gz_i (0)) (gz_seq 77 4 (gz_loop 33 5 lb_X8_isSet_33) (gz_inc 3 (1) (gz_sat 20))))
noncomputable def sm_X8_isSet : gz_Sx := gz_if (gz_ja (gz_j1 (fun x => decide (x < 0)) (gz_li 2)) (gz_j2 (fun x y => decide (x < y)) (gz_li 2) (gz_ib (fun x y => x <<< (y &&& 31)) (gz_i (1)) (gz_ald 100 (gz_get 8 48 2 (gz_la 0)) (gz_li 1))))) (gz_seti 3 (gz_i (0)) (gz_seq 83 0 (gz_loop 20 4 lb_X8_isSet_20) (gz_ri (gz_i (1))))) (gz_ri (gz_i (0)))
noncomputable def se_X8_isSet : gz_Me := gz_sem (some .boolean) 5 sm_X8_isSet
abbrev rm_X8_isSet : Room := { frames := 2, cells := 0, slots := 0, locals := 46 }
abbrev M_X8_isSet : gz_Mi := (cX8_isSet, 5, RX8, 2, 46, "isSet", none)
theorem de_X8_isSet : yX8_isSet.cls ≠ "java/lang/invoke/MethodHandle" ∧ yX8_isSet.cls ≠ "java/lang/invoke/VarHandle" ∧ (parseMethodDescriptor yX8_isSet.desc).map (fun d => d.parameters.length) = some 2 := by decide +kernel
set_option maxRecDepth 100000 in
theorem mt_X8_isSet : gz_Mt yX8_isSet cX8_isSet 5 (some .boolean) rm_X8_isSet se_X8_isSet := by
  have q1 : gz_OkE M_X8_isSet 0 0 0 0 1 _ := ok_iload_n (i := 2) dX8_isSet_0 rfl
  have q2 : gz_OkJ M_X8_isSet 0 0 0 0 16 4 _ := ok_if_lt q1 dX8_isSet_1 (by decide)
  have q3 : gz_OkE M_X8_isSet 0 0 0 4 5 _ := ok_iload_n (i := 2) dX8_isSet_4 rfl
  have q4 : gz_OkE M_X8_isSet 1 0 0 5 6 _ := ok_iconst (v := 1) dX8_isSet_5 kc_i1
  have q5 : gz_OkE M_X8_isSet 2 0 0 6 7 _ := ok_aload_n (i := 0) dX8_isSet_6 rfl
  have q6 : gz_OkE M_X8_isSet 2 0 0 6 10 _ := ok_get q5 cl_8 (k := 2) (by decide) in_8 wd_128 dX8_isSet_7
  have q7 : gz_OkE M_X8_isSet 3 0 0 10 11 _ := ok_iload_n (i := 1) dX8_isSet_10 rfl
  have q8 : gz_OkE M_X8_isSet 2 0 0 6 12 _ := ok_iald q6 q7 dX8_isSet_11
  have q9 : gz_OkE M_X8_isSet 1 0 0 5 13 _ := ok_ishl q4 q8 dX8_isSet_12
  have q10 : gz_OkJ M_X8_isSet 0 0 0 4 18 16 _ := ok_ic_lt q3 q9 dX8_isSet_13 (by decide)
  have q11 : gz_OkJ M_X8_isSet 0 0 0 0 18 16 _ := ok_ja q2 q10
  have q12 : gz_OkE M_X8_isSet 0 0 0 18 19 _ := ok_iconst (v := 0) dX8_isSet_18 kc_i0
  have q13 : gz_OkE M_X8_isSet 0 0 0 20 21 _ := ok_iload_n (i := 3) dX8_isSet_20 rfl
  have q14 : gz_OkE M_X8_isSet 1 0 0 21 22 _ := ok_aload_n (i := 0) dX8_isSet_21 rfl
  have q15 : gz_OkE M_X8_isSet 1 0 0 21 25 _ := ok_get q14 cl_8 (k := 2) (by decide) in_8 wd_128 dX8_isSet_22
  have q16 : gz_OkE M_X8_isSet 2 0 0 25 26 _ := ok_iload_n (i := 1) dX8_isSet_25 rfl
  have q17 : gz_OkE M_X8_isSet 1 0 0 21 27 _ := ok_iald q15 q16 dX8_isSet_26
  have q18 : gz_OkJ M_X8_isSet 0 0 0 20 83 30 _ := ok_ic_ge q13 q17 dX8_isSet_27 (by decide)
  have q19 : gz_OkS M_X8_isSet 0 0 83 _ := ok_at
  have q20 : gz_OkE M_X8_isSet 0 0 0 30 31 _ := ok_iconst (v := 0) dX8_isSet_30 kc_i0
  have q21 : gz_OkE M_X8_isSet 0 0 0 33 35 _ := ok_iload (i := 4) dX8_isSet_33
  have q22 : gz_OkE M_X8_isSet 1 0 0 35 36 _ := ok_iload_n (i := 3) dX8_isSet_35 rfl
  have q23 : gz_OkJ M_X8_isSet 0 0 0 33 77 39 _ := ok_ic_ge q21 q22 dX8_isSet_36 (by decide)
  have q24 : gz_OkS M_X8_isSet 0 0 77 _ := ok_at
  have q25 : gz_OkE M_X8_isSet 0 0 0 39 40 _ := ok_iload_n (i := 2) dX8_isSet_39 rfl
  have q26 : gz_OkE M_X8_isSet 1 0 0 40 41 _ := ok_iload_n (i := 3) dX8_isSet_40 rfl
  have q27 : gz_OkE M_X8_isSet 0 0 0 39 42 _ := ok_ishr q25 q26 dX8_isSet_41
  have q28 : gz_OkE M_X8_isSet 1 0 0 42 43 _ := ok_iconst (v := 1) dX8_isSet_42 kc_i1
  have q29 : gz_OkE M_X8_isSet 0 0 0 39 44 _ := ok_iand q27 q28 dX8_isSet_43
  have q30 : gz_OkE M_X8_isSet 1 0 0 44 45 _ := ok_iconst (v := 1) dX8_isSet_44 kc_i1
  have q31 : gz_OkJ M_X8_isSet 0 0 0 39 71 48 _ := ok_ic_ne q29 q30 dX8_isSet_45 (by decide)
  have q32 : gz_OkE M_X8_isSet 0 0 0 48 49 _ := ok_iload_n (i := 2) dX8_isSet_48 rfl
  have q33 : gz_OkE M_X8_isSet 1 0 0 49 51 _ := ok_iload (i := 4) dX8_isSet_49
  have q34 : gz_OkE M_X8_isSet 0 0 0 48 52 _ := ok_ishr q32 q33 dX8_isSet_51
  have q35 : gz_OkE M_X8_isSet 1 0 0 52 53 _ := ok_iconst (v := 1) dX8_isSet_52 kc_i1
  have q36 : gz_OkE M_X8_isSet 0 0 0 48 54 _ := ok_iand q34 q35 dX8_isSet_53
  have q37 : gz_OkE M_X8_isSet 1 0 0 54 55 _ := ok_iconst (v := 1) dX8_isSet_54 kc_i1
  have q38 : gz_OkJ M_X8_isSet 0 0 0 48 71 58 _ := ok_ic_ne q36 q37 dX8_isSet_55 (by decide)
  have q39 : gz_OkA M_X8_isSet 0 0 0 58 58 0 _ := ok_a0
  have q40 : gz_OkE M_X8_isSet 0 0 0 58 59 _ := ok_aload_n (i := 0) dX8_isSet_58 rfl
  have q41 : gz_OkA M_X8_isSet 0 0 0 58 59 1 _ := ok_a1 q39 q40
  have q42 : gz_OkE M_X8_isSet 2 0 0 59 60 _ := ok_iload_n (i := 1) dX8_isSet_59 rfl
  have q43 : gz_OkA M_X8_isSet 0 0 0 58 60 2 _ := ok_a1 q41 q42
  have q44 : gz_OkE M_X8_isSet 4 0 0 60 61 _ := ok_iload_n (i := 3) dX8_isSet_60 rfl
  have q45 : gz_OkA M_X8_isSet 0 0 0 58 61 3 _ := ok_a1 q43 q44
  have q46 : gz_OkE M_X8_isSet 6 0 0 61 63 _ := ok_iload (i := 4) dX8_isSet_61
  have q47 : gz_OkA M_X8_isSet 0 0 0 58 63 4 _ := ok_a1 q45 q46
  have q48 : gz_OkE M_X8_isSet 0 0 0 58 66 _ := ok_cv q47 mt_X8_apart cl_8 wd_785 wd_188 de_X8_apart (by decide) (by decide) wd_786 wd_787 wd_788 dX8_isSet_63 (by decide)
  have q49 : gz_OkJ M_X8_isSet 0 0 0 58 71 69 _ := ok_if_le q48 dX8_isSet_66 (by decide)
  have q50 : gz_OkJ M_X8_isSet 0 0 0 48 71 69 _ := ok_jo q38 q49
  have q51 : gz_OkJ M_X8_isSet 0 0 0 39 71 69 _ := ok_jo q31 q50
  have q52 : gz_OkS M_X8_isSet 0 0 74 (gz_sat 33) := ok_goto dX8_isSet_74 (by decide)
  have q53 : gz_OkS M_X8_isSet 0 0 71 _ := ok_inc (v := 1) dX8_isSet_71 kc_i1 (by decide) q52
  have q54 : gz_OkE M_X8_isSet 0 0 0 69 70 _ := ok_iconst (v := 0) dX8_isSet_69 kc_i0
  have q55 : gz_OkS M_X8_isSet 0 0 69 _ := ok_ri q54 dX8_isSet_70
  have q56 : gz_OkS M_X8_isSet 0 0 39 _ := ok_if q51 q53 q55
  have q57 : gz_OkS M_X8_isSet 0 0 33 _ := ok_if q23 q24 q56
  have q58 : gz_OkS M_X8_isSet 0 0 33 lb_X8_isSet_33 := q57
  have q59 : gz_OkS M_X8_isSet 0 0 33 _ := ok_loop (k := 5) q58 rfl rfl
  have q60 : gz_OkS M_X8_isSet 0 0 80 (gz_sat 20) := ok_goto dX8_isSet_80 (by decide)
  have q61 : gz_OkS M_X8_isSet 0 0 77 _ := ok_inc (v := 1) dX8_isSet_77 kc_i1 (by decide) q60
  have q62 : gz_OkS M_X8_isSet 0 0 33 _ := ok_seq (L := 77) (k := 4) q59 q61
  have q63 : gz_OkS M_X8_isSet 0 0 30 _ := ok_seti (k := 4) q20 dX8_isSet_31 (by decide) q62
  have q64 : gz_OkS M_X8_isSet 0 0 20 _ := ok_if q18 q19 q63
  have q65 : gz_OkS M_X8_isSet 0 0 20 lb_X8_isSet_20 := q64
  have q66 : gz_OkS M_X8_isSet 0 0 20 _ := ok_loop (k := 4) q65 rfl rfl
  have q67 : gz_OkE M_X8_isSet 0 0 0 83 84 _ := ok_iconst (v := 1) dX8_isSet_83 kc_i1
  have q68 : gz_OkS M_X8_isSet 0 0 83 _ := ok_ri q67 dX8_isSet_84
  have q69 : gz_OkS M_X8_isSet 0 0 20 _ := ok_seq (L := 83) (k := 0) q66 q68
  have q70 : gz_OkS M_X8_isSet 0 0 18 _ := ok_seti_n (k := 3) q12 dX8_isSet_19 rfl (by decide) q69
  have q71 : gz_OkE M_X8_isSet 0 0 0 16 17 _ := ok_iconst (v := 0) dX8_isSet_16 kc_i0
  have q72 : gz_OkS M_X8_isSet 0 0 16 _ := ok_ri q71 dX8_isSet_17
  have q73 : gz_OkS M_X8_isSet 0 0 0 _ := ok_if q11 q70 q72
  have z : gz_OkS M_X8_isSet 0 0 0 sm_X8_isSet := q73
  exact gz_met (plainFor_of_name (by decide)) z (by decide) (by decide)
noncomputable def lb_X8_isGreatest_13 : gz_Sx := gz_if (gz_j2 (fun x y => decide (y ≤ x)) (gz_li 3) (gz_ald 100 (gz_get 8 48 2 (gz_la 0)) (gz_li 1))) (gz_sat 52) (gz_if (gz_jo (gz_j1 (fun x => decide (¬ x = 0)) (gz_ib (fun x y => x &&& y) (gz_ib (fun x y => x >>> (y &&& 31)) (gz_li 2) (gz_li 3)) (gz_i (1)))) (gz_j1 (fun x => decide (x = 0)) (gz_cv 8 48 se_X8_isSet (gz_a1 (gz_a1 (gz_a1 (gz_a0) (gz_la 0)) (gz_li 1)) (gz_ib (fun x y => x ||| y) (gz_li 2) (gz_ib (fun x y => x <<< (y &&& 31)) (gz_i (1)) (gz_li 3))))))) (gz_inc 3 (1) (gz_sat 13)) (gz_ri (gz_i (0))))
noncomputable def sm_X8_isGreatest : gz_Sx := gz_if (gz_j1 (fun x => decide (¬ x = 0)) (gz_cv 8 48 se_X8_isSet (gz_a1 (gz_a1 (gz_a1 (gz_a0) (gz_la 0)) (gz_li 1)) (gz_li 2)))) (gz_seti 3 (gz_i (0)) (gz_seq 52 0 (gz_loop 13 4 lb_X8_isGreatest_13) (gz_ri (gz_i (1))))) (gz_ri (gz_i (0)))
noncomputable def se_X8_isGreatest : gz_Me := gz_sem (some .boolean) 4 sm_X8_isGreatest
abbrev rm_X8_isGreatest : Room := { frames := 3, cells := 0, slots := 0, locals := 70 }
abbrev M_X8_isGreatest : gz_Mi := (cX8_isGreatest, 4, RX8, 3, 70, "isGreatest", none)
theorem de_X8_isGreatest : yX8_isGreatest.cls ≠ "java/lang/invoke/MethodHandle" ∧ yX8_isGreatest.cls ≠ "java/lang/invoke/VarHandle" ∧ (parseMethodDescriptor yX8_isGreatest.desc).map (fun d => d.parameters.length) = some 2 := by decide +kernel
set_option maxRecDepth 100000 in
theorem mt_X8_isGreatest : gz_Mt yX8_isGreatest cX8_isGreatest 4 (some .boolean) rm_X8_isGreatest se_X8_isGreatest := by
  have q1 : gz_OkA M_X8_isGreatest 0 0 0 0 0 0 _ := ok_a0
  have q2 : gz_OkE M_X8_isGreatest 0 0 0 0 1 _ := ok_aload_n (i := 0) dX8_isGreatest_0 rfl
  have q3 : gz_OkA M_X8_isGreatest 0 0 0 0 1 1 _ := ok_a1 q1 q2
  have q4 : gz_OkE M_X8_isGreatest 2 0 0 1 2 _ := ok_iload_n (i := 1) dX8_isGreatest_1 rfl
  have q5 : gz_OkA M_X8_isGreatest 0 0 0 0 2 2 _ := ok_a1 q3 q4
  have q6 : gz_OkE M_X8_isGreatest 4 0 0 2 3 _ := ok_iload_n (i := 2) dX8_isGreatest_2 rfl
  have q7 : gz_OkA M_X8_isGreatest 0 0 0 0 3 3 _ := ok_a1 q5 q6
  have q8 : gz_OkE M_X8_isGreatest 0 0 0 0 6 _ := ok_cv q7 mt_X8_isSet cl_8 wd_789 wd_188 de_X8_isSet (by decide) (by decide) wd_790 wd_791 wd_792 dX8_isGreatest_3 (by decide)
  have q9 : gz_OkJ M_X8_isGreatest 0 0 0 0 11 9 _ := ok_if_ne q8 dX8_isGreatest_6 (by decide)
  have q10 : gz_OkE M_X8_isGreatest 0 0 0 11 12 _ := ok_iconst (v := 0) dX8_isGreatest_11 kc_i0
  have q11 : gz_OkE M_X8_isGreatest 0 0 0 13 14 _ := ok_iload_n (i := 3) dX8_isGreatest_13 rfl
  have q12 : gz_OkE M_X8_isGreatest 1 0 0 14 15 _ := ok_aload_n (i := 0) dX8_isGreatest_14 rfl
  have q13 : gz_OkE M_X8_isGreatest 1 0 0 14 18 _ := ok_get q12 cl_8 (k := 2) (by decide) in_8 wd_128 dX8_isGreatest_15
  have q14 : gz_OkE M_X8_isGreatest 2 0 0 18 19 _ := ok_iload_n (i := 1) dX8_isGreatest_18 rfl
  have q15 : gz_OkE M_X8_isGreatest 1 0 0 14 20 _ := ok_iald q13 q14 dX8_isGreatest_19
  have q16 : gz_OkJ M_X8_isGreatest 0 0 0 13 52 23 _ := ok_ic_ge q11 q15 dX8_isGreatest_20 (by decide)
  have q17 : gz_OkS M_X8_isGreatest 0 0 52 _ := ok_at
  have q18 : gz_OkE M_X8_isGreatest 0 0 0 23 24 _ := ok_iload_n (i := 2) dX8_isGreatest_23 rfl
  have q19 : gz_OkE M_X8_isGreatest 1 0 0 24 25 _ := ok_iload_n (i := 3) dX8_isGreatest_24 rfl
  have q20 : gz_OkE M_X8_isGreatest 0 0 0 23 26 _ := ok_ishr q18 q19 dX8_isGreatest_25
  have q21 : gz_OkE M_X8_isGreatest 1 0 0 26 27 _ := ok_iconst (v := 1) dX8_isGreatest_26 kc_i1
  have q22 : gz_OkE M_X8_isGreatest 0 0 0 23 28 _ := ok_iand q20 q21 dX8_isGreatest_27
  have q23 : gz_OkJ M_X8_isGreatest 0 0 0 23 46 31 _ := ok_if_ne q22 dX8_isGreatest_28 (by decide)
  have q24 : gz_OkA M_X8_isGreatest 0 0 0 31 31 0 _ := ok_a0
  have q25 : gz_OkE M_X8_isGreatest 0 0 0 31 32 _ := ok_aload_n (i := 0) dX8_isGreatest_31 rfl
  have q26 : gz_OkA M_X8_isGreatest 0 0 0 31 32 1 _ := ok_a1 q24 q25
  have q27 : gz_OkE M_X8_isGreatest 2 0 0 32 33 _ := ok_iload_n (i := 1) dX8_isGreatest_32 rfl
  have q28 : gz_OkA M_X8_isGreatest 0 0 0 31 33 2 _ := ok_a1 q26 q27
  have q29 : gz_OkE M_X8_isGreatest 4 0 0 33 34 _ := ok_iload_n (i := 2) dX8_isGreatest_33 rfl
  have q30 : gz_OkE M_X8_isGreatest 5 0 0 34 35 _ := ok_iconst (v := 1) dX8_isGreatest_34 kc_i1
  have q31 : gz_OkE M_X8_isGreatest 6 0 0 35 36 _ := ok_iload_n (i := 3) dX8_isGreatest_35 rfl
  have q32 : gz_OkE M_X8_isGreatest 5 0 0 34 37 _ := ok_ishl q30 q31 dX8_isGreatest_36
  have q33 : gz_OkE M_X8_isGreatest 4 0 0 33 38 _ := ok_ior q29 q32 dX8_isGreatest_37
  have q34 : gz_OkA M_X8_isGreatest 0 0 0 31 38 3 _ := ok_a1 q28 q33
  have q35 : gz_OkE M_X8_isGreatest 0 0 0 31 41 _ := ok_cv q34 mt_X8_isSet cl_8 wd_789 wd_188 de_X8_isSet (by decide) (by decide) wd_790 wd_791 wd_792 dX8_isGreatest_38 (by decide)
  have q36 : gz_OkJ M_X8_isGreatest 0 0 0 31 46 44 _ := ok_if_eq q35 dX8_isGreatest_41 (by decide)
  have q37 : gz_OkJ M_X8_isGreatest 0 0 0 23 46 44 _ := ok_jo q23 q36
  have q38 : gz_OkS M_X8_isGreatest 0 0 49 (gz_sat 13) := ok_goto dX8_isGreatest_49 (by decide)
  have q39 : gz_OkS M_X8_isGreatest 0 0 46 _ := ok_inc (v := 1) dX8_isGreatest_46 kc_i1 (by decide) q38
  have q40 : gz_OkE M_X8_isGreatest 0 0 0 44 45 _ := ok_iconst (v := 0) dX8_isGreatest_44 kc_i0
  have q41 : gz_OkS M_X8_isGreatest 0 0 44 _ := ok_ri q40 dX8_isGreatest_45
  have q42 : gz_OkS M_X8_isGreatest 0 0 23 _ := ok_if q37 q39 q41
  have q43 : gz_OkS M_X8_isGreatest 0 0 13 _ := ok_if q16 q17 q42
  have q44 : gz_OkS M_X8_isGreatest 0 0 13 lb_X8_isGreatest_13 := q43
  have q45 : gz_OkS M_X8_isGreatest 0 0 13 _ := ok_loop (k := 4) q44 rfl rfl
  have q46 : gz_OkE M_X8_isGreatest 0 0 0 52 53 _ := ok_iconst (v := 1) dX8_isGreatest_52 kc_i1
  have q47 : gz_OkS M_X8_isGreatest 0 0 52 _ := ok_ri q46 dX8_isGreatest_53
  have q48 : gz_OkS M_X8_isGreatest 0 0 13 _ := ok_seq (L := 52) (k := 0) q45 q47
  have q49 : gz_OkS M_X8_isGreatest 0 0 11 _ := ok_seti_n (k := 3) q10 dX8_isGreatest_12 rfl (by decide) q48
  have q50 : gz_OkE M_X8_isGreatest 0 0 0 9 10 _ := ok_iconst (v := 0) dX8_isGreatest_9 kc_i0
  have q51 : gz_OkS M_X8_isGreatest 0 0 9 _ := ok_ri q50 dX8_isGreatest_10
  have q52 : gz_OkS M_X8_isGreatest 0 0 0 _ := ok_if q9 q49 q51
  have z : gz_OkS M_X8_isGreatest 0 0 0 sm_X8_isGreatest := q52
  exact gz_met (plainFor_of_name (by decide)) z (by decide) (by decide)
noncomputable def lb_X8_sets_14 : gz_Sx := gz_if (gz_j2 (fun x y => decide (y ≤ x)) (gz_li 3) (gz_ib (fun x y => x <<< (y &&& 31)) (gz_i (1)) (gz_ald 100 (gz_get 8 48 2 (gz_la 0)) (gz_li 1)))) (gz_sat 49) (gz_seti 2 (gz_ib (fun x y => x + y) (gz_li 2) (gz_te (gz_j1 (fun x => decide (x = 0)) (gz_cv 8 48 se_X8_isGreatest (gz_a1 (gz_a1 (gz_a1 (gz_a0) (gz_la 0)) (gz_li 1)) (gz_li 3)))) (gz_i (0)) (gz_i (1)))) (gz_inc 3 (1) (gz_sat 14)))
noncomputable def sm_X8_sets : gz_Sx := gz_if (gz_j1 (fun x => decide (¬ x = 0)) (gz_cv 8 48 se_X8_isJunction (gz_a1 (gz_a1 (gz_a0) (gz_la 0)) (gz_li 1)))) (gz_seti 2 (gz_i (0)) (gz_seti 3 (gz_i (1)) (gz_seq 49 3 (gz_loop 14 4 lb_X8_sets_14) (gz_ri (gz_li 2))))) (gz_ri (gz_i (-1)))
noncomputable def se_X8_sets : gz_Me := gz_sem (some .int) 4 sm_X8_sets
abbrev rm_X8_sets : Room := { frames := 4, cells := 0, slots := 0, locals := 93 }
abbrev M_X8_sets : gz_Mi := (cX8_sets, 4, RX8, 4, 93, "sets", none)
theorem de_X8_sets : yX8_sets.cls ≠ "java/lang/invoke/MethodHandle" ∧ yX8_sets.cls ≠ "java/lang/invoke/VarHandle" ∧ (parseMethodDescriptor yX8_sets.desc).map (fun d => d.parameters.length) = some 1 := by decide +kernel
set_option maxRecDepth 100000 in
theorem mt_X8_sets : gz_Mt yX8_sets cX8_sets 4 (some .int) rm_X8_sets se_X8_sets := by
  have q1 : gz_OkA M_X8_sets 0 0 0 0 0 0 _ := ok_a0
  have q2 : gz_OkE M_X8_sets 0 0 0 0 1 _ := ok_aload_n (i := 0) dX8_sets_0 rfl
  have q3 : gz_OkA M_X8_sets 0 0 0 0 1 1 _ := ok_a1 q1 q2
  have q4 : gz_OkE M_X8_sets 2 0 0 1 2 _ := ok_iload_n (i := 1) dX8_sets_1 rfl
  have q5 : gz_OkA M_X8_sets 0 0 0 0 2 2 _ := ok_a1 q3 q4
  have q6 : gz_OkE M_X8_sets 0 0 0 0 5 _ := ok_cv q5 mt_X8_isJunction cl_8 wd_761 wd_188 de_X8_isJunction (by decide) (by decide) wd_762 wd_763 wd_764 dX8_sets_2 (by decide)
  have q7 : gz_OkJ M_X8_sets 0 0 0 0 10 8 _ := ok_if_ne q6 dX8_sets_5 (by decide)
  have q8 : gz_OkE M_X8_sets 0 0 0 10 11 _ := ok_iconst (v := 0) dX8_sets_10 kc_i0
  have q9 : gz_OkE M_X8_sets 0 0 0 12 13 _ := ok_iconst (v := 1) dX8_sets_12 kc_i1
  have q10 : gz_OkE M_X8_sets 0 0 0 14 15 _ := ok_iload_n (i := 3) dX8_sets_14 rfl
  have q11 : gz_OkE M_X8_sets 1 0 0 15 16 _ := ok_iconst (v := 1) dX8_sets_15 kc_i1
  have q12 : gz_OkE M_X8_sets 2 0 0 16 17 _ := ok_aload_n (i := 0) dX8_sets_16 rfl
  have q13 : gz_OkE M_X8_sets 2 0 0 16 20 _ := ok_get q12 cl_8 (k := 2) (by decide) in_8 wd_128 dX8_sets_17
  have q14 : gz_OkE M_X8_sets 3 0 0 20 21 _ := ok_iload_n (i := 1) dX8_sets_20 rfl
  have q15 : gz_OkE M_X8_sets 2 0 0 16 22 _ := ok_iald q13 q14 dX8_sets_21
  have q16 : gz_OkE M_X8_sets 1 0 0 15 23 _ := ok_ishl q11 q15 dX8_sets_22
  have q17 : gz_OkJ M_X8_sets 0 0 0 14 49 26 _ := ok_ic_ge q10 q16 dX8_sets_23 (by decide)
  have q18 : gz_OkS M_X8_sets 0 0 49 _ := ok_at
  have q19 : gz_OkE M_X8_sets 0 0 0 26 27 _ := ok_iload_n (i := 2) dX8_sets_26 rfl
  have q20 : gz_OkA M_X8_sets 1 0 0 27 27 0 _ := ok_a0
  have q21 : gz_OkE M_X8_sets 1 0 0 27 28 _ := ok_aload_n (i := 0) dX8_sets_27 rfl
  have q22 : gz_OkA M_X8_sets 1 0 0 27 28 1 _ := ok_a1 q20 q21
  have q23 : gz_OkE M_X8_sets 3 0 0 28 29 _ := ok_iload_n (i := 1) dX8_sets_28 rfl
  have q24 : gz_OkA M_X8_sets 1 0 0 27 29 2 _ := ok_a1 q22 q23
  have q25 : gz_OkE M_X8_sets 5 0 0 29 30 _ := ok_iload_n (i := 3) dX8_sets_29 rfl
  have q26 : gz_OkA M_X8_sets 1 0 0 27 30 3 _ := ok_a1 q24 q25
  have q27 : gz_OkE M_X8_sets 1 0 0 27 33 _ := ok_cv q26 mt_X8_isGreatest cl_8 wd_793 wd_188 de_X8_isGreatest (by decide) (by decide) wd_794 wd_795 wd_796 dX8_sets_30 (by decide)
  have q28 : gz_OkJ M_X8_sets 1 0 0 27 40 36 _ := ok_if_eq q27 dX8_sets_33 (by decide)
  have q29 : gz_OkE M_X8_sets 1 0 0 36 37 _ := ok_iconst (v := 1) dX8_sets_36 kc_i1
  have q30 : gz_OkE M_X8_sets 1 0 0 36 41 _ := ok_eg q29 dX8_sets_37 (by decide)
  have q31 : gz_OkE M_X8_sets 1 0 0 40 41 _ := ok_iconst (v := 0) dX8_sets_40 kc_i0
  have q32 : gz_OkE M_X8_sets 1 0 0 27 41 _ := ok_te2 q28 q30 q31
  have q33 : gz_OkE M_X8_sets 0 0 0 26 42 _ := ok_iadd q19 q32 dX8_sets_41
  have q34 : gz_OkS M_X8_sets 0 0 46 (gz_sat 14) := ok_goto dX8_sets_46 (by decide)
  have q35 : gz_OkS M_X8_sets 0 0 43 _ := ok_inc (v := 1) dX8_sets_43 kc_i1 (by decide) q34
  have q36 : gz_OkS M_X8_sets 0 0 26 _ := ok_seti_n (k := 2) q33 dX8_sets_42 rfl (by decide) q35
  have q37 : gz_OkS M_X8_sets 0 0 14 _ := ok_if q17 q18 q36
  have q38 : gz_OkS M_X8_sets 0 0 14 lb_X8_sets_14 := q37
  have q39 : gz_OkS M_X8_sets 0 0 14 _ := ok_loop (k := 4) q38 rfl rfl
  have q40 : gz_OkE M_X8_sets 0 0 0 49 50 _ := ok_iload_n (i := 2) dX8_sets_49 rfl
  have q41 : gz_OkS M_X8_sets 0 0 49 _ := ok_ri q40 dX8_sets_50
  have q42 : gz_OkS M_X8_sets 0 0 14 _ := ok_seq (L := 49) (k := 3) q39 q41
  have q43 : gz_OkS M_X8_sets 0 0 12 _ := ok_seti_n (k := 3) q9 dX8_sets_13 rfl (by decide) q42
  have q44 : gz_OkS M_X8_sets 0 0 10 _ := ok_seti_n (k := 2) q8 dX8_sets_11 rfl (by decide) q43
  have q45 : gz_OkE M_X8_sets 0 0 0 8 9 _ := ok_iconst (v := -1) dX8_sets_8 kc_im1
  have q46 : gz_OkS M_X8_sets 0 0 8 _ := ok_ri q45 dX8_sets_9
  have q47 : gz_OkS M_X8_sets 0 0 0 _ := ok_if q7 q44 q46
  have z : gz_OkS M_X8_sets 0 0 0 sm_X8_sets := q47
  exact gz_met (plainFor_of_name (by decide)) z (by decide) (by decide)
noncomputable def lb_X8_set_19 : gz_Sx := gz_if (gz_j2 (fun x y => decide (y ≤ x)) (gz_li 4) (gz_ib (fun x y => x <<< (y &&& 31)) (gz_i (1)) (gz_ald 100 (gz_get 8 48 2 (gz_la 0)) (gz_li 1)))) (gz_sat 61) (gz_seq 55 5 (gz_if (gz_j1 (fun x => decide (¬ x = 0)) (gz_cv 8 48 se_X8_isGreatest (gz_a1 (gz_a1 (gz_a1 (gz_a0) (gz_la 0)) (gz_li 1)) (gz_li 4)))) (gz_if (gz_j1 (fun x => decide (¬ x = 0)) (gz_li 3)) (gz_inc 3 (-1) (gz_sat 55)) (gz_ri (gz_li 4))) (gz_sat 55)) (gz_inc 4 (1) (gz_sat 19)))
noncomputable def sm_X8_set : gz_Sx := gz_if (gz_ja (gz_j1 (fun x => decide (x = 0)) (gz_cv 8 48 se_X8_isJunction (gz_a1 (gz_a1 (gz_a0) (gz_la 0)) (gz_li 1)))) (gz_j1 (fun x => decide (0 ≤ x)) (gz_li 2))) (gz_seti 3 (gz_li 2) (gz_seti 4 (gz_i (1)) (gz_seq 61 0 (gz_loop 19 5 lb_X8_set_19) (gz_ri (gz_i (-1)))))) (gz_ri (gz_i (-1)))
noncomputable def se_X8_set : gz_Me := gz_sem (some .int) 5 sm_X8_set
abbrev rm_X8_set : Room := { frames := 4, cells := 0, slots := 0, locals := 93 }
abbrev M_X8_set : gz_Mi := (cX8_set, 5, RX8, 4, 93, "set", none)
theorem de_X8_set : yX8_set.cls ≠ "java/lang/invoke/MethodHandle" ∧ yX8_set.cls ≠ "java/lang/invoke/VarHandle" ∧ (parseMethodDescriptor yX8_set.desc).map (fun d => d.parameters.length) = some 2 := by decide +kernel
set_option maxRecDepth 100000 in
theorem mt_X8_set : gz_Mt yX8_set cX8_set 5 (some .int) rm_X8_set se_X8_set := by
  have q1 : gz_OkA M_X8_set 0 0 0 0 0 0 _ := ok_a0
  have q2 : gz_OkE M_X8_set 0 0 0 0 1 _ := ok_aload_n (i := 0) dX8_set_0 rfl
  have q3 : gz_OkA M_X8_set 0 0 0 0 1 1 _ := ok_a1 q1 q2
  have q4 : gz_OkE M_X8_set 2 0 0 1 2 _ := ok_iload_n (i := 1) dX8_set_1 rfl
  have q5 : gz_OkA M_X8_set 0 0 0 0 2 2 _ := ok_a1 q3 q4
  have q6 : gz_OkE M_X8_set 0 0 0 0 5 _ := ok_cv q5 mt_X8_isJunction cl_8 wd_761 wd_188 de_X8_isJunction (by decide) (by decide) wd_762 wd_763 wd_764 dX8_set_2 (by decide)
  have q7 : gz_OkJ M_X8_set 0 0 0 0 12 8 _ := ok_if_eq q6 dX8_set_5 (by decide)
  have q8 : gz_OkE M_X8_set 0 0 0 8 9 _ := ok_iload_n (i := 2) dX8_set_8 rfl
  have q9 : gz_OkJ M_X8_set 0 0 0 8 14 12 _ := ok_if_ge q8 dX8_set_9 (by decide)
  have q10 : gz_OkJ M_X8_set 0 0 0 0 14 12 _ := ok_ja q7 q9
  have q11 : gz_OkE M_X8_set 0 0 0 14 15 _ := ok_iload_n (i := 2) dX8_set_14 rfl
  have q12 : gz_OkE M_X8_set 0 0 0 16 17 _ := ok_iconst (v := 1) dX8_set_16 kc_i1
  have q13 : gz_OkE M_X8_set 0 0 0 19 21 _ := ok_iload (i := 4) dX8_set_19
  have q14 : gz_OkE M_X8_set 1 0 0 21 22 _ := ok_iconst (v := 1) dX8_set_21 kc_i1
  have q15 : gz_OkE M_X8_set 2 0 0 22 23 _ := ok_aload_n (i := 0) dX8_set_22 rfl
  have q16 : gz_OkE M_X8_set 2 0 0 22 26 _ := ok_get q15 cl_8 (k := 2) (by decide) in_8 wd_128 dX8_set_23
  have q17 : gz_OkE M_X8_set 3 0 0 26 27 _ := ok_iload_n (i := 1) dX8_set_26 rfl
  have q18 : gz_OkE M_X8_set 2 0 0 22 28 _ := ok_iald q16 q17 dX8_set_27
  have q19 : gz_OkE M_X8_set 1 0 0 21 29 _ := ok_ishl q14 q18 dX8_set_28
  have q20 : gz_OkJ M_X8_set 0 0 0 19 61 32 _ := ok_ic_ge q13 q19 dX8_set_29 (by decide)
  have q21 : gz_OkS M_X8_set 0 0 61 _ := ok_at
  have q22 : gz_OkA M_X8_set 0 0 0 32 32 0 _ := ok_a0
  have q23 : gz_OkE M_X8_set 0 0 0 32 33 _ := ok_aload_n (i := 0) dX8_set_32 rfl
  have q24 : gz_OkA M_X8_set 0 0 0 32 33 1 _ := ok_a1 q22 q23
  have q25 : gz_OkE M_X8_set 2 0 0 33 34 _ := ok_iload_n (i := 1) dX8_set_33 rfl
  have q26 : gz_OkA M_X8_set 0 0 0 32 34 2 _ := ok_a1 q24 q25
  have q27 : gz_OkE M_X8_set 4 0 0 34 36 _ := ok_iload (i := 4) dX8_set_34
  have q28 : gz_OkA M_X8_set 0 0 0 32 36 3 _ := ok_a1 q26 q27
  have q29 : gz_OkE M_X8_set 0 0 0 32 39 _ := ok_cv q28 mt_X8_isGreatest cl_8 wd_793 wd_188 de_X8_isGreatest (by decide) (by decide) wd_794 wd_795 wd_796 dX8_set_36 (by decide)
  have q30 : gz_OkJ M_X8_set 0 0 0 32 45 42 _ := ok_if_ne q29 dX8_set_39 (by decide)
  have q31 : gz_OkE M_X8_set 0 0 0 45 46 _ := ok_iload_n (i := 3) dX8_set_45 rfl
  have q32 : gz_OkJ M_X8_set 0 0 0 45 52 49 _ := ok_if_ne q31 dX8_set_46 (by decide)
  have q33 : gz_OkS M_X8_set 0 0 55 _ := ok_at
  have q34 : gz_OkS M_X8_set 0 0 52 _ := ok_inc (v := -1) dX8_set_52 kc_im1 (by decide) q33
  have q35 : gz_OkE M_X8_set 0 0 0 49 51 _ := ok_iload (i := 4) dX8_set_49
  have q36 : gz_OkS M_X8_set 0 0 49 _ := ok_ri q35 dX8_set_51
  have q37 : gz_OkS M_X8_set 0 0 45 _ := ok_if q32 q34 q36
  have q38 : gz_OkS M_X8_set 0 0 42 (gz_sat 55) := ok_goto dX8_set_42 (by decide)
  have q39 : gz_OkS M_X8_set 0 0 32 _ := ok_if q30 q37 q38
  have q40 : gz_OkS M_X8_set 0 0 58 (gz_sat 19) := ok_goto dX8_set_58 (by decide)
  have q41 : gz_OkS M_X8_set 0 0 55 _ := ok_inc (v := 1) dX8_set_55 kc_i1 (by decide) q40
  have q42 : gz_OkS M_X8_set 0 0 32 _ := ok_seq (L := 55) (k := 5) q39 q41
  have q43 : gz_OkS M_X8_set 0 0 19 _ := ok_if q20 q21 q42
  have q44 : gz_OkS M_X8_set 0 0 19 lb_X8_set_19 := q43
  have q45 : gz_OkS M_X8_set 0 0 19 _ := ok_loop (k := 5) q44 rfl rfl
  have q46 : gz_OkE M_X8_set 0 0 0 61 62 _ := ok_iconst (v := -1) dX8_set_61 kc_im1
  have q47 : gz_OkS M_X8_set 0 0 61 _ := ok_ri q46 dX8_set_62
  have q48 : gz_OkS M_X8_set 0 0 19 _ := ok_seq (L := 61) (k := 0) q45 q47
  have q49 : gz_OkS M_X8_set 0 0 16 _ := ok_seti (k := 4) q12 dX8_set_17 (by decide) q48
  have q50 : gz_OkS M_X8_set 0 0 14 _ := ok_seti_n (k := 3) q11 dX8_set_15 rfl (by decide) q49
  have q51 : gz_OkE M_X8_set 0 0 0 12 13 _ := ok_iconst (v := -1) dX8_set_12 kc_im1
  have q52 : gz_OkS M_X8_set 0 0 12 _ := ok_ri q51 dX8_set_13
  have q53 : gz_OkS M_X8_set 0 0 0 _ := ok_if q10 q50 q52
  have z : gz_OkS M_X8_set 0 0 0 sm_X8_set := q53
  exact gz_met (plainFor_of_name (by decide)) z (by decide) (by decide)
noncomputable def sm_X8_goes : gz_Sx := gz_ri (gz_te (gz_jo (gz_j1 (fun x => decide (x = 0)) (gz_cv 8 48 se_X8_isJunction (gz_a1 (gz_a1 (gz_a0) (gz_la 0)) (gz_li 1)))) (gz_j1 (fun x => decide (x = 0)) (gz_cv 8 48 se_X8_isSet (gz_a1 (gz_a1 (gz_a1 (gz_a0) (gz_la 0)) (gz_li 1)) (gz_li 2))))) (gz_i (0)) (gz_i (1)))
noncomputable def se_X8_goes : gz_Me := gz_sem (some .boolean) 3 sm_X8_goes
abbrev rm_X8_goes : Room := { frames := 3, cells := 0, slots := 0, locals := 70 }
abbrev M_X8_goes : gz_Mi := (cX8_goes, 3, RX8, 3, 70, "goes", none)
theorem de_X8_goes : yX8_goes.cls ≠ "java/lang/invoke/MethodHandle" ∧ yX8_goes.cls ≠ "java/lang/invoke/VarHandle" ∧ (parseMethodDescriptor yX8_goes.desc).map (fun d => d.parameters.length) = some 2 := by decide +kernel
set_option maxRecDepth 100000 in
theorem mt_X8_goes : gz_Mt yX8_goes cX8_goes 3 (some .boolean) rm_X8_goes se_X8_goes := by
  have q1 : gz_OkA M_X8_goes 0 0 0 0 0 0 _ := ok_a0
  have q2 : gz_OkE M_X8_goes 0 0 0 0 1 _ := ok_aload_n (i := 0) dX8_goes_0 rfl
  have q3 : gz_OkA M_X8_goes 0 0 0 0 1 1 _ := ok_a1 q1 q2
  have q4 : gz_OkE M_X8_goes 2 0 0 1 2 _ := ok_iload_n (i := 1) dX8_goes_1 rfl
  have q5 : gz_OkA M_X8_goes 0 0 0 0 2 2 _ := ok_a1 q3 q4
  have q6 : gz_OkE M_X8_goes 0 0 0 0 5 _ := ok_cv q5 mt_X8_isJunction cl_8 wd_761 wd_188 de_X8_isJunction (by decide) (by decide) wd_762 wd_763 wd_764 dX8_goes_2 (by decide)
  have q7 : gz_OkJ M_X8_goes 0 0 0 0 21 8 _ := ok_if_eq q6 dX8_goes_5 (by decide)
  have q8 : gz_OkA M_X8_goes 0 0 0 8 8 0 _ := ok_a0
  have q9 : gz_OkE M_X8_goes 0 0 0 8 9 _ := ok_aload_n (i := 0) dX8_goes_8 rfl
  have q10 : gz_OkA M_X8_goes 0 0 0 8 9 1 _ := ok_a1 q8 q9
  have q11 : gz_OkE M_X8_goes 2 0 0 9 10 _ := ok_iload_n (i := 1) dX8_goes_9 rfl
  have q12 : gz_OkA M_X8_goes 0 0 0 8 10 2 _ := ok_a1 q10 q11
  have q13 : gz_OkE M_X8_goes 4 0 0 10 11 _ := ok_iload_n (i := 2) dX8_goes_10 rfl
  have q14 : gz_OkA M_X8_goes 0 0 0 8 11 3 _ := ok_a1 q12 q13
  have q15 : gz_OkE M_X8_goes 0 0 0 8 14 _ := ok_cv q14 mt_X8_isSet cl_8 wd_789 wd_188 de_X8_isSet (by decide) (by decide) wd_790 wd_791 wd_792 dX8_goes_11 (by decide)
  have q16 : gz_OkJ M_X8_goes 0 0 0 8 21 17 _ := ok_if_eq q15 dX8_goes_14 (by decide)
  have q17 : gz_OkJ M_X8_goes 0 0 0 0 21 17 _ := ok_jo q7 q16
  have q18 : gz_OkE M_X8_goes 0 0 0 17 18 _ := ok_iconst (v := 1) dX8_goes_17 kc_i1
  have q19 : gz_OkE M_X8_goes 0 0 0 17 22 _ := ok_eg q18 dX8_goes_18 (by decide)
  have q20 : gz_OkE M_X8_goes 0 0 0 21 22 _ := ok_iconst (v := 0) dX8_goes_21 kc_i0
  have q21 : gz_OkE M_X8_goes 0 0 0 0 22 _ := ok_te2 q17 q19 q20
  have q22 : gz_OkS M_X8_goes 0 0 0 _ := ok_ri q21 dX8_goes_22
  have z : gz_OkS M_X8_goes 0 0 0 sm_X8_goes := q22
  exact gz_met (plainFor_of_name (by decide)) z (by decide) (by decide)
noncomputable def sm_X8_plan : gz_Sx := gz_if (gz_ja (gz_j1 (fun x => decide (x = 0)) (gz_cv 8 48 se_X8_isJunction (gz_a1 (gz_a1 (gz_a0) (gz_la 0)) (gz_li 1)))) (gz_j1 (fun x => decide (¬ x = 0)) (gz_cs se_X8_isIn (gz_a1 (gz_a1 (gz_a1 (gz_a0) (gz_li 2)) (gz_i (20))) (gz_i (90)))))) (gz_ast 101 (gz_get 8 48 9 (gz_la 0)) (gz_li 1) (gz_i (1)) (gz_ast 100 (gz_get 8 48 10 (gz_la 0)) (gz_li 1) (gz_li 2) (gz_ast 100 (gz_get 8 48 11 (gz_la 0)) (gz_li 1) (gz_i (0)) (gz_ri (gz_i (1)))))) (gz_ri (gz_i (0)))
noncomputable def se_X8_plan : gz_Me := gz_sem (some .boolean) 3 sm_X8_plan
abbrev rm_X8_plan : Room := { frames := 1, cells := 0, slots := 0, locals := 22 }
abbrev M_X8_plan : gz_Mi := (cX8_plan, 3, RX8, 1, 22, "plan", none)
theorem de_X8_plan : yX8_plan.cls ≠ "java/lang/invoke/MethodHandle" ∧ yX8_plan.cls ≠ "java/lang/invoke/VarHandle" ∧ (parseMethodDescriptor yX8_plan.desc).map (fun d => d.parameters.length) = some 2 := by decide +kernel
set_option maxRecDepth 100000 in
theorem mt_X8_plan : gz_Mt yX8_plan cX8_plan 3 (some .boolean) rm_X8_plan se_X8_plan := by
  have q1 : gz_OkA M_X8_plan 0 0 0 0 0 0 _ := ok_a0
  have q2 : gz_OkE M_X8_plan 0 0 0 0 1 _ := ok_aload_n (i := 0) dX8_plan_0 rfl
  have q3 : gz_OkA M_X8_plan 0 0 0 0 1 1 _ := ok_a1 q1 q2
  have q4 : gz_OkE M_X8_plan 2 0 0 1 2 _ := ok_iload_n (i := 1) dX8_plan_1 rfl
  have q5 : gz_OkA M_X8_plan 0 0 0 0 2 2 _ := ok_a1 q3 q4
  have q6 : gz_OkE M_X8_plan 0 0 0 0 5 _ := ok_cv q5 mt_X8_isJunction cl_8 wd_761 wd_188 de_X8_isJunction (by decide) (by decide) wd_762 wd_763 wd_764 dX8_plan_2 (by decide)
  have q7 : gz_OkJ M_X8_plan 0 0 0 0 19 8 _ := ok_if_eq q6 dX8_plan_5 (by decide)
  have q8 : gz_OkA M_X8_plan 0 0 0 8 8 0 _ := ok_a0
  have q9 : gz_OkE M_X8_plan 0 0 0 8 9 _ := ok_iload_n (i := 2) dX8_plan_8 rfl
  have q10 : gz_OkA M_X8_plan 0 0 0 8 9 1 _ := ok_a1 q8 q9
  have q11 : gz_OkE M_X8_plan 2 0 0 9 11 _ := ok_bipush (v := 20) dX8_plan_9 kc_b20
  have q12 : gz_OkA M_X8_plan 0 0 0 8 11 2 _ := ok_a1 q10 q11
  have q13 : gz_OkE M_X8_plan 4 0 0 11 13 _ := ok_bipush (v := 90) dX8_plan_11 kc_b90
  have q14 : gz_OkA M_X8_plan 0 0 0 8 13 3 _ := ok_a1 q12 q13
  have q15 : gz_OkE M_X8_plan 0 0 0 8 16 _ := ok_cs q14 mt_X8_isIn wd_765 wd_188 de_X8_isIn (by decide) (by decide) wd_766 wd_767 dX8_plan_13 (by decide)
  have q16 : gz_OkJ M_X8_plan 0 0 0 8 21 19 _ := ok_if_ne q15 dX8_plan_16 (by decide)
  have q17 : gz_OkJ M_X8_plan 0 0 0 0 21 19 _ := ok_ja q7 q16
  have q18 : gz_OkE M_X8_plan 0 0 0 21 22 _ := ok_aload_n (i := 0) dX8_plan_21 rfl
  have q19 : gz_OkE M_X8_plan 0 0 0 21 25 _ := ok_get q18 cl_8 (k := 9) (by decide) in_8 wd_135 dX8_plan_22
  have q20 : gz_OkE M_X8_plan 1 0 0 25 26 _ := ok_iload_n (i := 1) dX8_plan_25 rfl
  have q21 : gz_OkE M_X8_plan 2 0 0 26 27 _ := ok_iconst (v := 1) dX8_plan_26 kc_i1
  have q22 : gz_OkE M_X8_plan 0 0 0 28 29 _ := ok_aload_n (i := 0) dX8_plan_28 rfl
  have q23 : gz_OkE M_X8_plan 0 0 0 28 32 _ := ok_get q22 cl_8 (k := 10) (by decide) in_8 wd_136 dX8_plan_29
  have q24 : gz_OkE M_X8_plan 1 0 0 32 33 _ := ok_iload_n (i := 1) dX8_plan_32 rfl
  have q25 : gz_OkE M_X8_plan 2 0 0 33 34 _ := ok_iload_n (i := 2) dX8_plan_33 rfl
  have q26 : gz_OkE M_X8_plan 0 0 0 35 36 _ := ok_aload_n (i := 0) dX8_plan_35 rfl
  have q27 : gz_OkE M_X8_plan 0 0 0 35 39 _ := ok_get q26 cl_8 (k := 11) (by decide) in_8 wd_137 dX8_plan_36
  have q28 : gz_OkE M_X8_plan 1 0 0 39 40 _ := ok_iload_n (i := 1) dX8_plan_39 rfl
  have q29 : gz_OkE M_X8_plan 2 0 0 40 41 _ := ok_iconst (v := 0) dX8_plan_40 kc_i0
  have q30 : gz_OkE M_X8_plan 0 0 0 42 43 _ := ok_iconst (v := 1) dX8_plan_42 kc_i1
  have q31 : gz_OkS M_X8_plan 0 0 42 _ := ok_ri q30 dX8_plan_43
  have q32 : gz_OkS M_X8_plan 0 0 35 _ := ok_iast q27 q28 q29 dX8_plan_41 q31
  have q33 : gz_OkS M_X8_plan 0 0 28 _ := ok_iast q23 q24 q25 dX8_plan_34 q32
  have q34 : gz_OkS M_X8_plan 0 0 21 _ := ok_zast q19 q20 q21 dX8_plan_27 q33
  have q35 : gz_OkE M_X8_plan 0 0 0 19 20 _ := ok_iconst (v := 0) dX8_plan_19 kc_i0
  have q36 : gz_OkS M_X8_plan 0 0 19 _ := ok_ri q35 dX8_plan_20
  have q37 : gz_OkS M_X8_plan 0 0 0 _ := ok_if q17 q34 q36
  have z : gz_OkS M_X8_plan 0 0 0 sm_X8_plan := q37
  exact gz_met (plainFor_of_name (by decide)) z (by decide) (by decide)
noncomputable def sm_X8_stage : gz_Sx := gz_if (gz_ja (gz_j1 (fun x => decide (x = 0)) (gz_cv 8 48 se_X8_isJunction (gz_a1 (gz_a1 (gz_a0) (gz_la 0)) (gz_li 1)))) (gz_ja (gz_j1 (fun x => decide (x = 0)) (gz_ald 101 (gz_get 8 48 9 (gz_la 0)) (gz_li 1))) (gz_ja (gz_j1 (fun x => decide (x = 0)) (gz_li 2)) (gz_ja (gz_j1 (fun x => decide (x = 0)) (gz_cv 8 48 se_X8_isSet (gz_a1 (gz_a1 (gz_a1 (gz_a0) (gz_la 0)) (gz_li 1)) (gz_li 2)))) (gz_ja (gz_j1 (fun x => decide (x = 0)) (gz_cs se_X8_isIn (gz_a1 (gz_a1 (gz_a1 (gz_a0) (gz_li 3)) (gz_i (0))) (gz_i (90))))) (gz_j2 (fun x y => decide (¬ x = y)) (gz_ald 100 (gz_get 8 48 11 (gz_la 0)) (gz_li 1)) (gz_i (4)))))))) (gz_seti 4 (gz_ald 100 (gz_get 8 48 11 (gz_la 0)) (gz_li 1)) (gz_ast 100 (gz_get 8 48 11 (gz_la 0)) (gz_li 1) (gz_ib (fun x y => x + y) (gz_d2 100) (gz_i (1))) (gz_ast 100 (gz_get 8 48 12 (gz_la 0)) (gz_ib (fun x y => x + y) (gz_ib (fun x y => x * y) (gz_i (4)) (gz_li 1)) (gz_li 4)) (gz_li 2) (gz_ast 100 (gz_get 8 48 13 (gz_la 0)) (gz_ib (fun x y => x + y) (gz_ib (fun x y => x * y) (gz_i (4)) (gz_li 1)) (gz_li 4)) (gz_li 3) (gz_ri (gz_li 4)))))) (gz_ri (gz_i (-1)))
noncomputable def se_X8_stage : gz_Me := gz_sem (some .int) 5 sm_X8_stage
abbrev rm_X8_stage : Room := { frames := 3, cells := 0, slots := 0, locals := 70 }
abbrev M_X8_stage : gz_Mi := (cX8_stage, 5, RX8, 3, 70, "stage", none)
theorem de_X8_stage : yX8_stage.cls ≠ "java/lang/invoke/MethodHandle" ∧ yX8_stage.cls ≠ "java/lang/invoke/VarHandle" ∧ (parseMethodDescriptor yX8_stage.desc).map (fun d => d.parameters.length) = some 3 := by decide +kernel
set_option maxRecDepth 100000 in
theorem mt_X8_stage : gz_Mt yX8_stage cX8_stage 5 (some .int) rm_X8_stage se_X8_stage := by
  have q1 : gz_OkA M_X8_stage 0 0 0 0 0 0 _ := ok_a0
  have q2 : gz_OkE M_X8_stage 0 0 0 0 1 _ := ok_aload_n (i := 0) dX8_stage_0 rfl
  have q3 : gz_OkA M_X8_stage 0 0 0 0 1 1 _ := ok_a1 q1 q2
  have q4 : gz_OkE M_X8_stage 2 0 0 1 2 _ := ok_iload_n (i := 1) dX8_stage_1 rfl
  have q5 : gz_OkA M_X8_stage 0 0 0 0 2 2 _ := ok_a1 q3 q4
  have q6 : gz_OkE M_X8_stage 0 0 0 0 5 _ := ok_cv q5 mt_X8_isJunction cl_8 wd_761 wd_188 de_X8_isJunction (by decide) (by decide) wd_762 wd_763 wd_764 dX8_stage_2 (by decide)
  have q7 : gz_OkJ M_X8_stage 0 0 0 0 50 8 _ := ok_if_eq q6 dX8_stage_5 (by decide)
  have q8 : gz_OkE M_X8_stage 0 0 0 8 9 _ := ok_aload_n (i := 0) dX8_stage_8 rfl
  have q9 : gz_OkE M_X8_stage 0 0 0 8 12 _ := ok_get q8 cl_8 (k := 9) (by decide) in_8 wd_135 dX8_stage_9
  have q10 : gz_OkE M_X8_stage 1 0 0 12 13 _ := ok_iload_n (i := 1) dX8_stage_12 rfl
  have q11 : gz_OkE M_X8_stage 0 0 0 8 14 _ := ok_zald q9 q10 dX8_stage_13
  have q12 : gz_OkJ M_X8_stage 0 0 0 8 50 17 _ := ok_if_eq q11 dX8_stage_14 (by decide)
  have q13 : gz_OkE M_X8_stage 0 0 0 17 18 _ := ok_iload_n (i := 2) dX8_stage_17 rfl
  have q14 : gz_OkJ M_X8_stage 0 0 0 17 50 21 _ := ok_if_eq q13 dX8_stage_18 (by decide)
  have q15 : gz_OkA M_X8_stage 0 0 0 21 21 0 _ := ok_a0
  have q16 : gz_OkE M_X8_stage 0 0 0 21 22 _ := ok_aload_n (i := 0) dX8_stage_21 rfl
  have q17 : gz_OkA M_X8_stage 0 0 0 21 22 1 _ := ok_a1 q15 q16
  have q18 : gz_OkE M_X8_stage 2 0 0 22 23 _ := ok_iload_n (i := 1) dX8_stage_22 rfl
  have q19 : gz_OkA M_X8_stage 0 0 0 21 23 2 _ := ok_a1 q17 q18
  have q20 : gz_OkE M_X8_stage 4 0 0 23 24 _ := ok_iload_n (i := 2) dX8_stage_23 rfl
  have q21 : gz_OkA M_X8_stage 0 0 0 21 24 3 _ := ok_a1 q19 q20
  have q22 : gz_OkE M_X8_stage 0 0 0 21 27 _ := ok_cv q21 mt_X8_isSet cl_8 wd_789 wd_188 de_X8_isSet (by decide) (by decide) wd_790 wd_791 wd_792 dX8_stage_24 (by decide)
  have q23 : gz_OkJ M_X8_stage 0 0 0 21 50 30 _ := ok_if_eq q22 dX8_stage_27 (by decide)
  have q24 : gz_OkA M_X8_stage 0 0 0 30 30 0 _ := ok_a0
  have q25 : gz_OkE M_X8_stage 0 0 0 30 31 _ := ok_iload_n (i := 3) dX8_stage_30 rfl
  have q26 : gz_OkA M_X8_stage 0 0 0 30 31 1 _ := ok_a1 q24 q25
  have q27 : gz_OkE M_X8_stage 2 0 0 31 32 _ := ok_iconst (v := 0) dX8_stage_31 kc_i0
  have q28 : gz_OkA M_X8_stage 0 0 0 30 32 2 _ := ok_a1 q26 q27
  have q29 : gz_OkE M_X8_stage 4 0 0 32 34 _ := ok_bipush (v := 90) dX8_stage_32 kc_b90
  have q30 : gz_OkA M_X8_stage 0 0 0 30 34 3 _ := ok_a1 q28 q29
  have q31 : gz_OkE M_X8_stage 0 0 0 30 37 _ := ok_cs q30 mt_X8_isIn wd_765 wd_188 de_X8_isIn (by decide) (by decide) wd_766 wd_767 dX8_stage_34 (by decide)
  have q32 : gz_OkJ M_X8_stage 0 0 0 30 50 40 _ := ok_if_eq q31 dX8_stage_37 (by decide)
  have q33 : gz_OkE M_X8_stage 0 0 0 40 41 _ := ok_aload_n (i := 0) dX8_stage_40 rfl
  have q34 : gz_OkE M_X8_stage 0 0 0 40 44 _ := ok_get q33 cl_8 (k := 11) (by decide) in_8 wd_137 dX8_stage_41
  have q35 : gz_OkE M_X8_stage 1 0 0 44 45 _ := ok_iload_n (i := 1) dX8_stage_44 rfl
  have q36 : gz_OkE M_X8_stage 0 0 0 40 46 _ := ok_iald q34 q35 dX8_stage_45
  have q37 : gz_OkE M_X8_stage 1 0 0 46 47 _ := ok_iconst (v := 4) dX8_stage_46 kc_i4
  have q38 : gz_OkJ M_X8_stage 0 0 0 40 52 50 _ := ok_ic_ne q36 q37 dX8_stage_47 (by decide)
  have q39 : gz_OkJ M_X8_stage 0 0 0 30 52 50 _ := ok_ja q32 q38
  have q40 : gz_OkJ M_X8_stage 0 0 0 21 52 50 _ := ok_ja q23 q39
  have q41 : gz_OkJ M_X8_stage 0 0 0 17 52 50 _ := ok_ja q14 q40
  have q42 : gz_OkJ M_X8_stage 0 0 0 8 52 50 _ := ok_ja q12 q41
  have q43 : gz_OkJ M_X8_stage 0 0 0 0 52 50 _ := ok_ja q7 q42
  have q44 : gz_OkE M_X8_stage 0 0 0 52 53 _ := ok_aload_n (i := 0) dX8_stage_52 rfl
  have q45 : gz_OkE M_X8_stage 0 0 0 52 56 _ := ok_get q44 cl_8 (k := 11) (by decide) in_8 wd_137 dX8_stage_53
  have q46 : gz_OkE M_X8_stage 1 0 0 56 57 _ := ok_iload_n (i := 1) dX8_stage_56 rfl
  have q47 : gz_OkE M_X8_stage 0 0 0 52 58 _ := ok_iald q45 q46 dX8_stage_57
  have q48 : gz_OkE M_X8_stage 0 0 0 60 61 _ := ok_aload_n (i := 0) dX8_stage_60 rfl
  have q49 : gz_OkE M_X8_stage 0 0 0 60 64 _ := ok_get q48 cl_8 (k := 11) (by decide) in_8 wd_137 dX8_stage_61
  have q50 : gz_OkE M_X8_stage 1 0 0 64 65 _ := ok_iload_n (i := 1) dX8_stage_64 rfl
  have q51 : gz_OkE M_X8_stage 2 0 0 65 67 _ := ok_d2iald dX8_stage_65 dX8_stage_66
  have q52 : gz_OkE M_X8_stage 3 0 0 67 68 _ := ok_iconst (v := 1) dX8_stage_67 kc_i1
  have q53 : gz_OkE M_X8_stage 2 0 0 65 69 _ := ok_iadd q51 q52 dX8_stage_68
  have q54 : gz_OkE M_X8_stage 0 0 0 70 71 _ := ok_aload_n (i := 0) dX8_stage_70 rfl
  have q55 : gz_OkE M_X8_stage 0 0 0 70 74 _ := ok_get q54 cl_8 (k := 12) (by decide) in_8 wd_138 dX8_stage_71
  have q56 : gz_OkE M_X8_stage 1 0 0 74 75 _ := ok_iconst (v := 4) dX8_stage_74 kc_i4
  have q57 : gz_OkE M_X8_stage 2 0 0 75 76 _ := ok_iload_n (i := 1) dX8_stage_75 rfl
  have q58 : gz_OkE M_X8_stage 1 0 0 74 77 _ := ok_imul q56 q57 dX8_stage_76
  have q59 : gz_OkE M_X8_stage 2 0 0 77 79 _ := ok_iload (i := 4) dX8_stage_77
  have q60 : gz_OkE M_X8_stage 1 0 0 74 80 _ := ok_iadd q58 q59 dX8_stage_79
  have q61 : gz_OkE M_X8_stage 2 0 0 80 81 _ := ok_iload_n (i := 2) dX8_stage_80 rfl
  have q62 : gz_OkE M_X8_stage 0 0 0 82 83 _ := ok_aload_n (i := 0) dX8_stage_82 rfl
  have q63 : gz_OkE M_X8_stage 0 0 0 82 86 _ := ok_get q62 cl_8 (k := 13) (by decide) in_8 wd_139 dX8_stage_83
  have q64 : gz_OkE M_X8_stage 1 0 0 86 87 _ := ok_iconst (v := 4) dX8_stage_86 kc_i4
  have q65 : gz_OkE M_X8_stage 2 0 0 87 88 _ := ok_iload_n (i := 1) dX8_stage_87 rfl
  have q66 : gz_OkE M_X8_stage 1 0 0 86 89 _ := ok_imul q64 q65 dX8_stage_88
  have q67 : gz_OkE M_X8_stage 2 0 0 89 91 _ := ok_iload (i := 4) dX8_stage_89
  have q68 : gz_OkE M_X8_stage 1 0 0 86 92 _ := ok_iadd q66 q67 dX8_stage_91
  have q69 : gz_OkE M_X8_stage 2 0 0 92 93 _ := ok_iload_n (i := 3) dX8_stage_92 rfl
  have q70 : gz_OkE M_X8_stage 0 0 0 94 96 _ := ok_iload (i := 4) dX8_stage_94
  have q71 : gz_OkS M_X8_stage 0 0 94 _ := ok_ri q70 dX8_stage_96
  have q72 : gz_OkS M_X8_stage 0 0 82 _ := ok_iast q63 q68 q69 dX8_stage_93 q71
  have q73 : gz_OkS M_X8_stage 0 0 70 _ := ok_iast q55 q60 q61 dX8_stage_81 q72
  have q74 : gz_OkS M_X8_stage 0 0 60 _ := ok_iast q49 q50 q53 dX8_stage_69 q73
  have q75 : gz_OkS M_X8_stage 0 0 52 _ := ok_seti (k := 4) q47 dX8_stage_58 (by decide) q74
  have q76 : gz_OkE M_X8_stage 0 0 0 50 51 _ := ok_iconst (v := -1) dX8_stage_50 kc_im1
  have q77 : gz_OkS M_X8_stage 0 0 50 _ := ok_ri q76 dX8_stage_51
  have q78 : gz_OkS M_X8_stage 0 0 0 _ := ok_if q43 q75 q77
  have z : gz_OkS M_X8_stage 0 0 0 sm_X8_stage := q78
  exact gz_met (plainFor_of_name (by decide)) z (by decide) (by decide)
noncomputable def lb_X8_between_54 : gz_Sx := gz_if (gz_j2 (fun x y => decide (y ≤ x)) (gz_li 8) (gz_i (8))) (gz_sat 115) (gz_seq 109 9 (gz_if (gz_jo (gz_j2 (fun x y => decide (¬ x = y)) (gz_ib (fun x y => x &&& y) (gz_ib (fun x y => x >>> (y &&& 31)) (gz_ib (fun x y => x &&& y) (gz_li 4) (gz_ib (fun x y => x ^^^ y) (gz_li 5) (gz_i (-1)))) (gz_li 7)) (gz_i (1))) (gz_i (1))) (gz_j2 (fun x y => decide (¬ x = y)) (gz_ib (fun x y => x &&& y) (gz_ib (fun x y => x >>> (y &&& 31)) (gz_ib (fun x y => x &&& y) (gz_li 5) (gz_ib (fun x y => x ^^^ y) (gz_li 4) (gz_i (-1)))) (gz_li 8)) (gz_i (1))) (gz_i (1)))) (gz_sat 109) (gz_seti 6 (gz_cs se_J9_max_7cf53 (gz_a1 (gz_a1 (gz_a0) (gz_li 6)) (gz_cv 8 48 se_X8_apart (gz_a1 (gz_a1 (gz_a1 (gz_a1 (gz_a0) (gz_la 0)) (gz_li 3)) (gz_li 7)) (gz_li 8))))) (gz_sat 109))) (gz_inc 8 (1) (gz_sat 54)))
noncomputable def lb_X8_between_44 : gz_Sx := gz_if (gz_j2 (fun x y => decide (y ≤ x)) (gz_li 7) (gz_i (8))) (gz_sat 121) (gz_seti 8 (gz_i (0)) (gz_seq 115 8 (gz_loop 54 9 lb_X8_between_54) (gz_inc 7 (1) (gz_sat 44))))
noncomputable def sm_X8_between : gz_Sx := gz_seti 3 (gz_iz (fun x y => x - x / y * y) (gz_li 1) (gz_i (8))) (gz_seti 4 (gz_ald 100 (gz_get 8 48 12 (gz_la 0)) (gz_ib (fun x y => x + y) (gz_ib (fun x y => x * y) (gz_i (4)) (gz_li 1)) (gz_li 2))) (gz_seti 5 (gz_ald 100 (gz_get 8 48 12 (gz_la 0)) (gz_ib (fun x y => x + y) (gz_ib (fun x y => x * y) (gz_i (4)) (gz_li 1)) (gz_iz (fun x y => x - x / y * y) (gz_ib (fun x y => x + y) (gz_li 2) (gz_i (1))) (gz_ald 100 (gz_get 8 48 11 (gz_la 0)) (gz_li 1))))) (gz_seti 6 (gz_i (0)) (gz_seti 7 (gz_i (0)) (gz_seq 121 7 (gz_loop 44 8 lb_X8_between_44) (gz_ri (gz_li 6)))))))
noncomputable def se_X8_between : gz_Me := gz_sem (some .int) 9 sm_X8_between
abbrev rm_X8_between : Room := { frames := 2, cells := 0, slots := 0, locals := 46 }
abbrev M_X8_between : gz_Mi := (cX8_between, 9, RX8, 2, 46, "between", none)
theorem de_X8_between : yX8_between.cls ≠ "java/lang/invoke/MethodHandle" ∧ yX8_between.cls ≠ "java/lang/invoke/VarHandle" ∧ (parseMethodDescriptor yX8_between.desc).map (fun d => d.parameters.length) = some 2 := by decide +kernel
set_option maxRecDepth 100000 in
theorem mt_X8_between : gz_Mt yX8_between cX8_between 9 (some .int) rm_X8_between se_X8_between := by
  have q1 : gz_OkE M_X8_between 0 0 0 0 1 _ := ok_iload_n (i := 1) dX8_between_0 rfl
  have q2 : gz_OkE M_X8_between 1 0 0 1 3 _ := ok_bipush (v := 8) dX8_between_1 kc_b8
  have q3 : gz_OkE M_X8_between 0 0 0 0 4 _ := ok_irem q1 q2 dX8_between_3
  have q4 : gz_OkE M_X8_between 0 0 0 5 6 _ := ok_aload_n (i := 0) dX8_between_5 rfl
  have q5 : gz_OkE M_X8_between 0 0 0 5 9 _ := ok_get q4 cl_8 (k := 12) (by decide) in_8 wd_138 dX8_between_6
  have q6 : gz_OkE M_X8_between 1 0 0 9 10 _ := ok_iconst (v := 4) dX8_between_9 kc_i4
  have q7 : gz_OkE M_X8_between 2 0 0 10 11 _ := ok_iload_n (i := 1) dX8_between_10 rfl
  have q8 : gz_OkE M_X8_between 1 0 0 9 12 _ := ok_imul q6 q7 dX8_between_11
  have q9 : gz_OkE M_X8_between 2 0 0 12 13 _ := ok_iload_n (i := 2) dX8_between_12 rfl
  have q10 : gz_OkE M_X8_between 1 0 0 9 14 _ := ok_iadd q8 q9 dX8_between_13
  have q11 : gz_OkE M_X8_between 0 0 0 5 15 _ := ok_iald q5 q10 dX8_between_14
  have q12 : gz_OkE M_X8_between 0 0 0 17 18 _ := ok_aload_n (i := 0) dX8_between_17 rfl
  have q13 : gz_OkE M_X8_between 0 0 0 17 21 _ := ok_get q12 cl_8 (k := 12) (by decide) in_8 wd_138 dX8_between_18
  have q14 : gz_OkE M_X8_between 1 0 0 21 22 _ := ok_iconst (v := 4) dX8_between_21 kc_i4
  have q15 : gz_OkE M_X8_between 2 0 0 22 23 _ := ok_iload_n (i := 1) dX8_between_22 rfl
  have q16 : gz_OkE M_X8_between 1 0 0 21 24 _ := ok_imul q14 q15 dX8_between_23
  have q17 : gz_OkE M_X8_between 2 0 0 24 25 _ := ok_iload_n (i := 2) dX8_between_24 rfl
  have q18 : gz_OkE M_X8_between 3 0 0 25 26 _ := ok_iconst (v := 1) dX8_between_25 kc_i1
  have q19 : gz_OkE M_X8_between 2 0 0 24 27 _ := ok_iadd q17 q18 dX8_between_26
  have q20 : gz_OkE M_X8_between 3 0 0 27 28 _ := ok_aload_n (i := 0) dX8_between_27 rfl
  have q21 : gz_OkE M_X8_between 3 0 0 27 31 _ := ok_get q20 cl_8 (k := 11) (by decide) in_8 wd_137 dX8_between_28
  have q22 : gz_OkE M_X8_between 4 0 0 31 32 _ := ok_iload_n (i := 1) dX8_between_31 rfl
  have q23 : gz_OkE M_X8_between 3 0 0 27 33 _ := ok_iald q21 q22 dX8_between_32
  have q24 : gz_OkE M_X8_between 2 0 0 24 34 _ := ok_irem q19 q23 dX8_between_33
  have q25 : gz_OkE M_X8_between 1 0 0 21 35 _ := ok_iadd q16 q24 dX8_between_34
  have q26 : gz_OkE M_X8_between 0 0 0 17 36 _ := ok_iald q13 q25 dX8_between_35
  have q27 : gz_OkE M_X8_between 0 0 0 38 39 _ := ok_iconst (v := 0) dX8_between_38 kc_i0
  have q28 : gz_OkE M_X8_between 0 0 0 41 42 _ := ok_iconst (v := 0) dX8_between_41 kc_i0
  have q29 : gz_OkE M_X8_between 0 0 0 44 46 _ := ok_iload (i := 7) dX8_between_44
  have q30 : gz_OkE M_X8_between 1 0 0 46 48 _ := ok_bipush (v := 8) dX8_between_46 kc_b8
  have q31 : gz_OkJ M_X8_between 0 0 0 44 121 51 _ := ok_ic_ge q29 q30 dX8_between_48 (by decide)
  have q32 : gz_OkS M_X8_between 0 0 121 _ := ok_at
  have q33 : gz_OkE M_X8_between 0 0 0 51 52 _ := ok_iconst (v := 0) dX8_between_51 kc_i0
  have q34 : gz_OkE M_X8_between 0 0 0 54 56 _ := ok_iload (i := 8) dX8_between_54
  have q35 : gz_OkE M_X8_between 1 0 0 56 58 _ := ok_bipush (v := 8) dX8_between_56 kc_b8
  have q36 : gz_OkJ M_X8_between 0 0 0 54 115 61 _ := ok_ic_ge q34 q35 dX8_between_58 (by decide)
  have q37 : gz_OkS M_X8_between 0 0 115 _ := ok_at
  have q38 : gz_OkE M_X8_between 0 0 0 61 63 _ := ok_iload (i := 4) dX8_between_61
  have q39 : gz_OkE M_X8_between 1 0 0 63 65 _ := ok_iload (i := 5) dX8_between_63
  have q40 : gz_OkE M_X8_between 2 0 0 65 66 _ := ok_iconst (v := -1) dX8_between_65 kc_im1
  have q41 : gz_OkE M_X8_between 1 0 0 63 67 _ := ok_ixor q39 q40 dX8_between_66
  have q42 : gz_OkE M_X8_between 0 0 0 61 68 _ := ok_iand q38 q41 dX8_between_67
  have q43 : gz_OkE M_X8_between 1 0 0 68 70 _ := ok_iload (i := 7) dX8_between_68
  have q44 : gz_OkE M_X8_between 0 0 0 61 71 _ := ok_ishr q42 q43 dX8_between_70
  have q45 : gz_OkE M_X8_between 1 0 0 71 72 _ := ok_iconst (v := 1) dX8_between_71 kc_i1
  have q46 : gz_OkE M_X8_between 0 0 0 61 73 _ := ok_iand q44 q45 dX8_between_72
  have q47 : gz_OkE M_X8_between 1 0 0 73 74 _ := ok_iconst (v := 1) dX8_between_73 kc_i1
  have q48 : gz_OkJ M_X8_between 0 0 0 61 109 77 _ := ok_ic_ne q46 q47 dX8_between_74 (by decide)
  have q49 : gz_OkE M_X8_between 0 0 0 77 79 _ := ok_iload (i := 5) dX8_between_77
  have q50 : gz_OkE M_X8_between 1 0 0 79 81 _ := ok_iload (i := 4) dX8_between_79
  have q51 : gz_OkE M_X8_between 2 0 0 81 82 _ := ok_iconst (v := -1) dX8_between_81 kc_im1
  have q52 : gz_OkE M_X8_between 1 0 0 79 83 _ := ok_ixor q50 q51 dX8_between_82
  have q53 : gz_OkE M_X8_between 0 0 0 77 84 _ := ok_iand q49 q52 dX8_between_83
  have q54 : gz_OkE M_X8_between 1 0 0 84 86 _ := ok_iload (i := 8) dX8_between_84
  have q55 : gz_OkE M_X8_between 0 0 0 77 87 _ := ok_ishr q53 q54 dX8_between_86
  have q56 : gz_OkE M_X8_between 1 0 0 87 88 _ := ok_iconst (v := 1) dX8_between_87 kc_i1
  have q57 : gz_OkE M_X8_between 0 0 0 77 89 _ := ok_iand q55 q56 dX8_between_88
  have q58 : gz_OkE M_X8_between 1 0 0 89 90 _ := ok_iconst (v := 1) dX8_between_89 kc_i1
  have q59 : gz_OkJ M_X8_between 0 0 0 77 109 93 _ := ok_ic_ne q57 q58 dX8_between_90 (by decide)
  have q60 : gz_OkJ M_X8_between 0 0 0 61 109 93 _ := ok_jo q48 q59
  have q61 : gz_OkS M_X8_between 0 0 109 _ := ok_at
  have q62 : gz_OkA M_X8_between 0 0 0 93 93 0 _ := ok_a0
  have q63 : gz_OkE M_X8_between 0 0 0 93 95 _ := ok_iload (i := 6) dX8_between_93
  have q64 : gz_OkA M_X8_between 0 0 0 93 95 1 _ := ok_a1 q62 q63
  have q65 : gz_OkA M_X8_between 2 0 0 95 95 0 _ := ok_a0
  have q66 : gz_OkE M_X8_between 2 0 0 95 96 _ := ok_aload_n (i := 0) dX8_between_95 rfl
  have q67 : gz_OkA M_X8_between 2 0 0 95 96 1 _ := ok_a1 q65 q66
  have q68 : gz_OkE M_X8_between 4 0 0 96 97 _ := ok_iload_n (i := 3) dX8_between_96 rfl
  have q69 : gz_OkA M_X8_between 2 0 0 95 97 2 _ := ok_a1 q67 q68
  have q70 : gz_OkE M_X8_between 6 0 0 97 99 _ := ok_iload (i := 7) dX8_between_97
  have q71 : gz_OkA M_X8_between 2 0 0 95 99 3 _ := ok_a1 q69 q70
  have q72 : gz_OkE M_X8_between 8 0 0 99 101 _ := ok_iload (i := 8) dX8_between_99
  have q73 : gz_OkA M_X8_between 2 0 0 95 101 4 _ := ok_a1 q71 q72
  have q74 : gz_OkE M_X8_between 2 0 0 95 104 _ := ok_cv q73 mt_X8_apart cl_8 wd_785 wd_188 de_X8_apart (by decide) (by decide) wd_786 wd_787 wd_788 dX8_between_101 (by decide)
  have q75 : gz_OkA M_X8_between 0 0 0 93 104 2 _ := ok_a1 q64 q74
  have q76 : gz_OkE M_X8_between 0 0 0 93 107 _ := ok_cs q75 mt_J9_max_7cf53 wd_418 wd_411 de_J9_max_7cf53 (by decide) (by decide) wd_772 wd_420 dX8_between_104 (by decide)
  have q77 : gz_OkS M_X8_between 0 0 109 _ := ok_at
  have q78 : gz_OkS M_X8_between 0 0 93 _ := ok_seti (k := 6) q76 dX8_between_107 (by decide) q77
  have q79 : gz_OkS M_X8_between 0 0 61 _ := ok_if q60 q61 q78
  have q80 : gz_OkS M_X8_between 0 0 112 (gz_sat 54) := ok_goto dX8_between_112 (by decide)
  have q81 : gz_OkS M_X8_between 0 0 109 _ := ok_inc (v := 1) dX8_between_109 kc_i1 (by decide) q80
  have q82 : gz_OkS M_X8_between 0 0 61 _ := ok_seq (L := 109) (k := 9) q79 q81
  have q83 : gz_OkS M_X8_between 0 0 54 _ := ok_if q36 q37 q82
  have q84 : gz_OkS M_X8_between 0 0 54 lb_X8_between_54 := q83
  have q85 : gz_OkS M_X8_between 0 0 54 _ := ok_loop (k := 9) q84 rfl rfl
  have q86 : gz_OkS M_X8_between 0 0 118 (gz_sat 44) := ok_goto dX8_between_118 (by decide)
  have q87 : gz_OkS M_X8_between 0 0 115 _ := ok_inc (v := 1) dX8_between_115 kc_i1 (by decide) q86
  have q88 : gz_OkS M_X8_between 0 0 54 _ := ok_seq (L := 115) (k := 8) q85 q87
  have q89 : gz_OkS M_X8_between 0 0 51 _ := ok_seti (k := 8) q33 dX8_between_52 (by decide) q88
  have q90 : gz_OkS M_X8_between 0 0 44 _ := ok_if q31 q32 q89
  have q91 : gz_OkS M_X8_between 0 0 44 lb_X8_between_44 := q90
  have q92 : gz_OkS M_X8_between 0 0 44 _ := ok_loop (k := 8) q91 rfl rfl
  have q93 : gz_OkE M_X8_between 0 0 0 121 123 _ := ok_iload (i := 6) dX8_between_121
  have q94 : gz_OkS M_X8_between 0 0 121 _ := ok_ri q93 dX8_between_123
  have q95 : gz_OkS M_X8_between 0 0 44 _ := ok_seq (L := 121) (k := 7) q92 q94
  have q96 : gz_OkS M_X8_between 0 0 41 _ := ok_seti (k := 7) q28 dX8_between_42 (by decide) q95
  have q97 : gz_OkS M_X8_between 0 0 38 _ := ok_seti (k := 6) q27 dX8_between_39 (by decide) q96
  have q98 : gz_OkS M_X8_between 0 0 17 _ := ok_seti (k := 5) q26 dX8_between_36 (by decide) q97
  have q99 : gz_OkS M_X8_between 0 0 5 _ := ok_seti (k := 4) q11 dX8_between_15 (by decide) q98
  have q100 : gz_OkS M_X8_between 0 0 0 _ := ok_seti_n (k := 3) q3 dX8_between_4 rfl (by decide) q99
  have z : gz_OkS M_X8_between 0 0 0 sm_X8_between := q100
  exact gz_met (plainFor_of_name (by decide)) z (by decide) (by decide)
noncomputable def lb_X8_betweens_4 : gz_Sx := gz_if (gz_j2 (fun x y => decide (y ≤ x)) (gz_li 3) (gz_ald 100 (gz_get 8 48 11 (gz_la 0)) (gz_li 1))) (gz_sat 29) (gz_seti 2 (gz_ib (fun x y => x + y) (gz_li 2) (gz_cv 8 48 se_X8_between (gz_a1 (gz_a1 (gz_a1 (gz_a0) (gz_la 0)) (gz_li 1)) (gz_li 3)))) (gz_inc 3 (1) (gz_sat 4)))
noncomputable def sm_X8_betweens : gz_Sx := gz_seti 2 (gz_i (0)) (gz_seti 3 (gz_i (0)) (gz_seq 29 3 (gz_loop 4 4 lb_X8_betweens_4) (gz_ri (gz_li 2))))
noncomputable def se_X8_betweens : gz_Me := gz_sem (some .int) 4 sm_X8_betweens
abbrev rm_X8_betweens : Room := { frames := 3, cells := 0, slots := 0, locals := 74 }
abbrev M_X8_betweens : gz_Mi := (cX8_betweens, 4, RX8, 3, 74, "betweens", none)
theorem de_X8_betweens : yX8_betweens.cls ≠ "java/lang/invoke/MethodHandle" ∧ yX8_betweens.cls ≠ "java/lang/invoke/VarHandle" ∧ (parseMethodDescriptor yX8_betweens.desc).map (fun d => d.parameters.length) = some 1 := by decide +kernel
set_option maxRecDepth 100000 in
theorem mt_X8_betweens : gz_Mt yX8_betweens cX8_betweens 4 (some .int) rm_X8_betweens se_X8_betweens := by
  have q1 : gz_OkE M_X8_betweens 0 0 0 0 1 _ := ok_iconst (v := 0) dX8_betweens_0 kc_i0
  have q2 : gz_OkE M_X8_betweens 0 0 0 2 3 _ := ok_iconst (v := 0) dX8_betweens_2 kc_i0
  have q3 : gz_OkE M_X8_betweens 0 0 0 4 5 _ := ok_iload_n (i := 3) dX8_betweens_4 rfl
  have q4 : gz_OkE M_X8_betweens 1 0 0 5 6 _ := ok_aload_n (i := 0) dX8_betweens_5 rfl
  have q5 : gz_OkE M_X8_betweens 1 0 0 5 9 _ := ok_get q4 cl_8 (k := 11) (by decide) in_8 wd_137 dX8_betweens_6
  have q6 : gz_OkE M_X8_betweens 2 0 0 9 10 _ := ok_iload_n (i := 1) dX8_betweens_9 rfl
  have q7 : gz_OkE M_X8_betweens 1 0 0 5 11 _ := ok_iald q5 q6 dX8_betweens_10
  have q8 : gz_OkJ M_X8_betweens 0 0 0 4 29 14 _ := ok_ic_ge q3 q7 dX8_betweens_11 (by decide)
  have q9 : gz_OkS M_X8_betweens 0 0 29 _ := ok_at
  have q10 : gz_OkE M_X8_betweens 0 0 0 14 15 _ := ok_iload_n (i := 2) dX8_betweens_14 rfl
  have q11 : gz_OkA M_X8_betweens 1 0 0 15 15 0 _ := ok_a0
  have q12 : gz_OkE M_X8_betweens 1 0 0 15 16 _ := ok_aload_n (i := 0) dX8_betweens_15 rfl
  have q13 : gz_OkA M_X8_betweens 1 0 0 15 16 1 _ := ok_a1 q11 q12
  have q14 : gz_OkE M_X8_betweens 3 0 0 16 17 _ := ok_iload_n (i := 1) dX8_betweens_16 rfl
  have q15 : gz_OkA M_X8_betweens 1 0 0 15 17 2 _ := ok_a1 q13 q14
  have q16 : gz_OkE M_X8_betweens 5 0 0 17 18 _ := ok_iload_n (i := 3) dX8_betweens_17 rfl
  have q17 : gz_OkA M_X8_betweens 1 0 0 15 18 3 _ := ok_a1 q15 q16
  have q18 : gz_OkE M_X8_betweens 1 0 0 15 21 _ := ok_cv q17 mt_X8_between cl_8 wd_797 wd_188 de_X8_between (by decide) (by decide) wd_798 wd_799 wd_800 dX8_betweens_18 (by decide)
  have q19 : gz_OkE M_X8_betweens 0 0 0 14 22 _ := ok_iadd q10 q18 dX8_betweens_21
  have q20 : gz_OkS M_X8_betweens 0 0 26 (gz_sat 4) := ok_goto dX8_betweens_26 (by decide)
  have q21 : gz_OkS M_X8_betweens 0 0 23 _ := ok_inc (v := 1) dX8_betweens_23 kc_i1 (by decide) q20
  have q22 : gz_OkS M_X8_betweens 0 0 14 _ := ok_seti_n (k := 2) q19 dX8_betweens_22 rfl (by decide) q21
  have q23 : gz_OkS M_X8_betweens 0 0 4 _ := ok_if q8 q9 q22
  have q24 : gz_OkS M_X8_betweens 0 0 4 lb_X8_betweens_4 := q23
  have q25 : gz_OkS M_X8_betweens 0 0 4 _ := ok_loop (k := 4) q24 rfl rfl
  have q26 : gz_OkE M_X8_betweens 0 0 0 29 30 _ := ok_iload_n (i := 2) dX8_betweens_29 rfl
  have q27 : gz_OkS M_X8_betweens 0 0 29 _ := ok_ri q26 dX8_betweens_30
  have q28 : gz_OkS M_X8_betweens 0 0 4 _ := ok_seq (L := 29) (k := 3) q25 q27
  have q29 : gz_OkS M_X8_betweens 0 0 2 _ := ok_seti_n (k := 3) q2 dX8_betweens_3 rfl (by decide) q28
  have q30 : gz_OkS M_X8_betweens 0 0 0 _ := ok_seti_n (k := 2) q1 dX8_betweens_1 rfl (by decide) q29
  have z : gz_OkS M_X8_betweens 0 0 0 sm_X8_betweens := q30
  exact gz_met (plainFor_of_name (by decide)) z (by decide) (by decide)
noncomputable def lb_X8_layOut_64 : gz_Sx := gz_if (gz_j2 (fun x y => decide (y ≤ x)) (gz_li 7) (gz_ib (fun x y => x + y) (gz_ald 100 (gz_get 8 48 13 (gz_la 0)) (gz_ib (fun x y => x + y) (gz_ib (fun x y => x * y) (gz_i (4)) (gz_li 1)) (gz_li 3))) (gz_li 6))) (gz_sat 126) (gz_ast 100 (gz_get 8 48 22 (gz_la 0)) (gz_li 2) (gz_te (gz_j2 (fun x y => decide (y ≤ x)) (gz_li 7) (gz_ald 100 (gz_get 8 48 13 (gz_la 0)) (gz_ib (fun x y => x + y) (gz_ib (fun x y => x * y) (gz_i (4)) (gz_li 1)) (gz_li 3)))) (gz_li 5) (gz_li 4)) (gz_ast 100 (gz_get 8 48 23 (gz_la 0)) (gz_li 2) (gz_li 3) (gz_inc 2 (1) (gz_inc 7 (1) (gz_sat 64)))))
noncomputable def lb_X8_layOut_7 : gz_Sx := gz_if (gz_j2 (fun x y => decide (y ≤ x)) (gz_li 3) (gz_ald 100 (gz_get 8 48 11 (gz_la 0)) (gz_li 1))) (gz_sat 132) (gz_seti 4 (gz_ald 100 (gz_get 8 48 12 (gz_la 0)) (gz_ib (fun x y => x + y) (gz_ib (fun x y => x * y) (gz_i (4)) (gz_li 1)) (gz_li 3))) (gz_seti 5 (gz_ib (fun x y => x &&& y) (gz_li 4) (gz_ald 100 (gz_get 8 48 12 (gz_la 0)) (gz_ib (fun x y => x + y) (gz_ib (fun x y => x * y) (gz_i (4)) (gz_li 1)) (gz_iz (fun x y => x - x / y * y) (gz_ib (fun x y => x + y) (gz_li 3) (gz_i (1))) (gz_ald 100 (gz_get 8 48 11 (gz_la 0)) (gz_li 1)))))) (gz_seti 6 (gz_cv 8 48 se_X8_between (gz_a1 (gz_a1 (gz_a1 (gz_a0) (gz_la 0)) (gz_li 1)) (gz_li 3))) (gz_seti 7 (gz_i (0)) (gz_seq 126 4 (gz_loop 64 8 lb_X8_layOut_64) (gz_inc 3 (1) (gz_sat 7)))))))
noncomputable def sm_X8_layOut : gz_Sx := gz_seti 2 (gz_ib (fun x y => x * y) (gz_i (90)) (gz_li 1)) (gz_seti 3 (gz_i (0)) (gz_seq 132 0 (gz_loop 7 4 lb_X8_layOut_7) (gz_rv)))
noncomputable def se_X8_layOut : gz_Me := gz_sem none 8 sm_X8_layOut
abbrev rm_X8_layOut : Room := { frames := 3, cells := 0, slots := 0, locals := 74 }
abbrev M_X8_layOut : gz_Mi := (cX8_layOut, 8, RX8, 3, 74, "layOut", none)
theorem de_X8_layOut : yX8_layOut.cls ≠ "java/lang/invoke/MethodHandle" ∧ yX8_layOut.cls ≠ "java/lang/invoke/VarHandle" ∧ (parseMethodDescriptor yX8_layOut.desc).map (fun d => d.parameters.length) = some 1 := by decide +kernel
set_option maxRecDepth 100000 in
theorem mt_X8_layOut : gz_Mt yX8_layOut cX8_layOut 8 none rm_X8_layOut se_X8_layOut := by
  have q1 : gz_OkE M_X8_layOut 0 0 0 0 2 _ := ok_bipush (v := 90) dX8_layOut_0 kc_b90
  have q2 : gz_OkE M_X8_layOut 1 0 0 2 3 _ := ok_iload_n (i := 1) dX8_layOut_2 rfl
  have q3 : gz_OkE M_X8_layOut 0 0 0 0 4 _ := ok_imul q1 q2 dX8_layOut_3
  have q4 : gz_OkE M_X8_layOut 0 0 0 5 6 _ := ok_iconst (v := 0) dX8_layOut_5 kc_i0
  have q5 : gz_OkE M_X8_layOut 0 0 0 7 8 _ := ok_iload_n (i := 3) dX8_layOut_7 rfl
  have q6 : gz_OkE M_X8_layOut 1 0 0 8 9 _ := ok_aload_n (i := 0) dX8_layOut_8 rfl
  have q7 : gz_OkE M_X8_layOut 1 0 0 8 12 _ := ok_get q6 cl_8 (k := 11) (by decide) in_8 wd_137 dX8_layOut_9
  have q8 : gz_OkE M_X8_layOut 2 0 0 12 13 _ := ok_iload_n (i := 1) dX8_layOut_12 rfl
  have q9 : gz_OkE M_X8_layOut 1 0 0 8 14 _ := ok_iald q7 q8 dX8_layOut_13
  have q10 : gz_OkJ M_X8_layOut 0 0 0 7 132 17 _ := ok_ic_ge q5 q9 dX8_layOut_14 (by decide)
  have q11 : gz_OkS M_X8_layOut 0 0 132 _ := ok_at
  have q12 : gz_OkE M_X8_layOut 0 0 0 17 18 _ := ok_aload_n (i := 0) dX8_layOut_17 rfl
  have q13 : gz_OkE M_X8_layOut 0 0 0 17 21 _ := ok_get q12 cl_8 (k := 12) (by decide) in_8 wd_138 dX8_layOut_18
  have q14 : gz_OkE M_X8_layOut 1 0 0 21 22 _ := ok_iconst (v := 4) dX8_layOut_21 kc_i4
  have q15 : gz_OkE M_X8_layOut 2 0 0 22 23 _ := ok_iload_n (i := 1) dX8_layOut_22 rfl
  have q16 : gz_OkE M_X8_layOut 1 0 0 21 24 _ := ok_imul q14 q15 dX8_layOut_23
  have q17 : gz_OkE M_X8_layOut 2 0 0 24 25 _ := ok_iload_n (i := 3) dX8_layOut_24 rfl
  have q18 : gz_OkE M_X8_layOut 1 0 0 21 26 _ := ok_iadd q16 q17 dX8_layOut_25
  have q19 : gz_OkE M_X8_layOut 0 0 0 17 27 _ := ok_iald q13 q18 dX8_layOut_26
  have q20 : gz_OkE M_X8_layOut 0 0 0 29 31 _ := ok_iload (i := 4) dX8_layOut_29
  have q21 : gz_OkE M_X8_layOut 1 0 0 31 32 _ := ok_aload_n (i := 0) dX8_layOut_31 rfl
  have q22 : gz_OkE M_X8_layOut 1 0 0 31 35 _ := ok_get q21 cl_8 (k := 12) (by decide) in_8 wd_138 dX8_layOut_32
  have q23 : gz_OkE M_X8_layOut 2 0 0 35 36 _ := ok_iconst (v := 4) dX8_layOut_35 kc_i4
  have q24 : gz_OkE M_X8_layOut 3 0 0 36 37 _ := ok_iload_n (i := 1) dX8_layOut_36 rfl
  have q25 : gz_OkE M_X8_layOut 2 0 0 35 38 _ := ok_imul q23 q24 dX8_layOut_37
  have q26 : gz_OkE M_X8_layOut 3 0 0 38 39 _ := ok_iload_n (i := 3) dX8_layOut_38 rfl
  have q27 : gz_OkE M_X8_layOut 4 0 0 39 40 _ := ok_iconst (v := 1) dX8_layOut_39 kc_i1
  have q28 : gz_OkE M_X8_layOut 3 0 0 38 41 _ := ok_iadd q26 q27 dX8_layOut_40
  have q29 : gz_OkE M_X8_layOut 4 0 0 41 42 _ := ok_aload_n (i := 0) dX8_layOut_41 rfl
  have q30 : gz_OkE M_X8_layOut 4 0 0 41 45 _ := ok_get q29 cl_8 (k := 11) (by decide) in_8 wd_137 dX8_layOut_42
  have q31 : gz_OkE M_X8_layOut 5 0 0 45 46 _ := ok_iload_n (i := 1) dX8_layOut_45 rfl
  have q32 : gz_OkE M_X8_layOut 4 0 0 41 47 _ := ok_iald q30 q31 dX8_layOut_46
  have q33 : gz_OkE M_X8_layOut 3 0 0 38 48 _ := ok_irem q28 q32 dX8_layOut_47
  have q34 : gz_OkE M_X8_layOut 2 0 0 35 49 _ := ok_iadd q25 q33 dX8_layOut_48
  have q35 : gz_OkE M_X8_layOut 1 0 0 31 50 _ := ok_iald q22 q34 dX8_layOut_49
  have q36 : gz_OkE M_X8_layOut 0 0 0 29 51 _ := ok_iand q20 q35 dX8_layOut_50
  have q37 : gz_OkA M_X8_layOut 0 0 0 53 53 0 _ := ok_a0
  have q38 : gz_OkE M_X8_layOut 0 0 0 53 54 _ := ok_aload_n (i := 0) dX8_layOut_53 rfl
  have q39 : gz_OkA M_X8_layOut 0 0 0 53 54 1 _ := ok_a1 q37 q38
  have q40 : gz_OkE M_X8_layOut 2 0 0 54 55 _ := ok_iload_n (i := 1) dX8_layOut_54 rfl
  have q41 : gz_OkA M_X8_layOut 0 0 0 53 55 2 _ := ok_a1 q39 q40
  have q42 : gz_OkE M_X8_layOut 4 0 0 55 56 _ := ok_iload_n (i := 3) dX8_layOut_55 rfl
  have q43 : gz_OkA M_X8_layOut 0 0 0 53 56 3 _ := ok_a1 q41 q42
  have q44 : gz_OkE M_X8_layOut 0 0 0 53 59 _ := ok_cv q43 mt_X8_between cl_8 wd_797 wd_188 de_X8_between (by decide) (by decide) wd_798 wd_799 wd_800 dX8_layOut_56 (by decide)
  have q45 : gz_OkE M_X8_layOut 0 0 0 61 62 _ := ok_iconst (v := 0) dX8_layOut_61 kc_i0
  have q46 : gz_OkE M_X8_layOut 0 0 0 64 66 _ := ok_iload (i := 7) dX8_layOut_64
  have q47 : gz_OkE M_X8_layOut 1 0 0 66 67 _ := ok_aload_n (i := 0) dX8_layOut_66 rfl
  have q48 : gz_OkE M_X8_layOut 1 0 0 66 70 _ := ok_get q47 cl_8 (k := 13) (by decide) in_8 wd_139 dX8_layOut_67
  have q49 : gz_OkE M_X8_layOut 2 0 0 70 71 _ := ok_iconst (v := 4) dX8_layOut_70 kc_i4
  have q50 : gz_OkE M_X8_layOut 3 0 0 71 72 _ := ok_iload_n (i := 1) dX8_layOut_71 rfl
  have q51 : gz_OkE M_X8_layOut 2 0 0 70 73 _ := ok_imul q49 q50 dX8_layOut_72
  have q52 : gz_OkE M_X8_layOut 3 0 0 73 74 _ := ok_iload_n (i := 3) dX8_layOut_73 rfl
  have q53 : gz_OkE M_X8_layOut 2 0 0 70 75 _ := ok_iadd q51 q52 dX8_layOut_74
  have q54 : gz_OkE M_X8_layOut 1 0 0 66 76 _ := ok_iald q48 q53 dX8_layOut_75
  have q55 : gz_OkE M_X8_layOut 2 0 0 76 78 _ := ok_iload (i := 6) dX8_layOut_76
  have q56 : gz_OkE M_X8_layOut 1 0 0 66 79 _ := ok_iadd q54 q55 dX8_layOut_78
  have q57 : gz_OkJ M_X8_layOut 0 0 0 64 126 82 _ := ok_ic_ge q46 q56 dX8_layOut_79 (by decide)
  have q58 : gz_OkS M_X8_layOut 0 0 126 _ := ok_at
  have q59 : gz_OkE M_X8_layOut 0 0 0 82 83 _ := ok_aload_n (i := 0) dX8_layOut_82 rfl
  have q60 : gz_OkE M_X8_layOut 0 0 0 82 86 _ := ok_get q59 cl_8 (k := 22) (by decide) in_8 wd_147 dX8_layOut_83
  have q61 : gz_OkE M_X8_layOut 1 0 0 86 87 _ := ok_iload_n (i := 2) dX8_layOut_86 rfl
  have q62 : gz_OkE M_X8_layOut 2 0 0 87 89 _ := ok_iload (i := 7) dX8_layOut_87
  have q63 : gz_OkE M_X8_layOut 3 0 0 89 90 _ := ok_aload_n (i := 0) dX8_layOut_89 rfl
  have q64 : gz_OkE M_X8_layOut 3 0 0 89 93 _ := ok_get q63 cl_8 (k := 13) (by decide) in_8 wd_139 dX8_layOut_90
  have q65 : gz_OkE M_X8_layOut 4 0 0 93 94 _ := ok_iconst (v := 4) dX8_layOut_93 kc_i4
  have q66 : gz_OkE M_X8_layOut 5 0 0 94 95 _ := ok_iload_n (i := 1) dX8_layOut_94 rfl
  have q67 : gz_OkE M_X8_layOut 4 0 0 93 96 _ := ok_imul q65 q66 dX8_layOut_95
  have q68 : gz_OkE M_X8_layOut 5 0 0 96 97 _ := ok_iload_n (i := 3) dX8_layOut_96 rfl
  have q69 : gz_OkE M_X8_layOut 4 0 0 93 98 _ := ok_iadd q67 q68 dX8_layOut_97
  have q70 : gz_OkE M_X8_layOut 3 0 0 89 99 _ := ok_iald q64 q69 dX8_layOut_98
  have q71 : gz_OkJ M_X8_layOut 2 0 0 87 107 102 _ := ok_ic_ge q62 q70 dX8_layOut_99 (by decide)
  have q72 : gz_OkE M_X8_layOut 2 0 0 102 104 _ := ok_iload (i := 4) dX8_layOut_102
  have q73 : gz_OkE M_X8_layOut 2 0 0 102 109 _ := ok_eg q72 dX8_layOut_104 (by decide)
  have q74 : gz_OkE M_X8_layOut 2 0 0 107 109 _ := ok_iload (i := 5) dX8_layOut_107
  have q75 : gz_OkE M_X8_layOut 2 0 0 87 109 _ := ok_te2 q71 q73 q74
  have q76 : gz_OkE M_X8_layOut 0 0 0 110 111 _ := ok_aload_n (i := 0) dX8_layOut_110 rfl
  have q77 : gz_OkE M_X8_layOut 0 0 0 110 114 _ := ok_get q76 cl_8 (k := 23) (by decide) in_8 wd_148 dX8_layOut_111
  have q78 : gz_OkE M_X8_layOut 1 0 0 114 115 _ := ok_iload_n (i := 2) dX8_layOut_114 rfl
  have q79 : gz_OkE M_X8_layOut 2 0 0 115 116 _ := ok_iload_n (i := 3) dX8_layOut_115 rfl
  have q80 : gz_OkS M_X8_layOut 0 0 123 (gz_sat 64) := ok_goto dX8_layOut_123 (by decide)
  have q81 : gz_OkS M_X8_layOut 0 0 120 _ := ok_inc (v := 1) dX8_layOut_120 kc_i1 (by decide) q80
  have q82 : gz_OkS M_X8_layOut 0 0 117 _ := ok_inc (v := 1) dX8_layOut_117 kc_i1 (by decide) q81
  have q83 : gz_OkS M_X8_layOut 0 0 110 _ := ok_iast q77 q78 q79 dX8_layOut_116 q82
  have q84 : gz_OkS M_X8_layOut 0 0 82 _ := ok_iast q60 q61 q75 dX8_layOut_109 q83
  have q85 : gz_OkS M_X8_layOut 0 0 64 _ := ok_if q57 q58 q84
  have q86 : gz_OkS M_X8_layOut 0 0 64 lb_X8_layOut_64 := q85
  have q87 : gz_OkS M_X8_layOut 0 0 64 _ := ok_loop (k := 8) q86 rfl rfl
  have q88 : gz_OkS M_X8_layOut 0 0 129 (gz_sat 7) := ok_goto dX8_layOut_129 (by decide)
  have q89 : gz_OkS M_X8_layOut 0 0 126 _ := ok_inc (v := 1) dX8_layOut_126 kc_i1 (by decide) q88
  have q90 : gz_OkS M_X8_layOut 0 0 64 _ := ok_seq (L := 126) (k := 4) q87 q89
  have q91 : gz_OkS M_X8_layOut 0 0 61 _ := ok_seti (k := 7) q45 dX8_layOut_62 (by decide) q90
  have q92 : gz_OkS M_X8_layOut 0 0 53 _ := ok_seti (k := 6) q44 dX8_layOut_59 (by decide) q91
  have q93 : gz_OkS M_X8_layOut 0 0 29 _ := ok_seti (k := 5) q36 dX8_layOut_51 (by decide) q92
  have q94 : gz_OkS M_X8_layOut 0 0 17 _ := ok_seti (k := 4) q19 dX8_layOut_27 (by decide) q93
  have q95 : gz_OkS M_X8_layOut 0 0 7 _ := ok_if q10 q11 q94
  have q96 : gz_OkS M_X8_layOut 0 0 7 lb_X8_layOut_7 := q95
  have q97 : gz_OkS M_X8_layOut 0 0 7 _ := ok_loop (k := 4) q96 rfl rfl
  have q98 : gz_OkS M_X8_layOut 0 0 132 _ := ok_rv dX8_layOut_132
  have q99 : gz_OkS M_X8_layOut 0 0 7 _ := ok_seq (L := 132) (k := 0) q97 q98
  have q100 : gz_OkS M_X8_layOut 0 0 5 _ := ok_seti_n (k := 3) q4 dX8_layOut_6 rfl (by decide) q99
  have q101 : gz_OkS M_X8_layOut 0 0 0 _ := ok_seti_n (k := 2) q3 dX8_layOut_4 rfl (by decide) q100
  have z : gz_OkS M_X8_layOut 0 0 0 sm_X8_layOut := q101
  exact gz_met (plainFor_of_name (by decide)) z (by decide) (by decide)
noncomputable def sm_X8_isGreen : gz_Sx := gz_ri (gz_te (gz_j2 (fun x y => decide (¬ x = y)) (gz_ib (fun x y => x &&& y) (gz_ib (fun x y => x >>> (y &&& 31)) (gz_ald 100 (gz_get 8 48 22 (gz_la 0)) (gz_ib (fun x y => x + y) (gz_ib (fun x y => x * y) (gz_i (90)) (gz_li 1)) (gz_cs se_J9_floorMod_7cf53 (gz_a1 (gz_a1 (gz_a0) (gz_li 3)) (gz_ald 100 (gz_get 8 48 10 (gz_la 0)) (gz_li 1)))))) (gz_li 2)) (gz_i (1))) (gz_i (1))) (gz_i (0)) (gz_i (1)))
noncomputable def se_X8_isGreen : gz_Me := gz_sem (some .boolean) 4 sm_X8_isGreen
abbrev rm_X8_isGreen : Room := { frames := 1, cells := 0, slots := 0, locals := 22 }
abbrev M_X8_isGreen : gz_Mi := (cX8_isGreen, 4, RX8, 1, 22, "isGreen", none)
theorem de_X8_isGreen : yX8_isGreen.cls ≠ "java/lang/invoke/MethodHandle" ∧ yX8_isGreen.cls ≠ "java/lang/invoke/VarHandle" ∧ (parseMethodDescriptor yX8_isGreen.desc).map (fun d => d.parameters.length) = some 3 := by decide +kernel
set_option maxRecDepth 100000 in
theorem mt_X8_isGreen : gz_Mt yX8_isGreen cX8_isGreen 4 (some .boolean) rm_X8_isGreen se_X8_isGreen := by
  have q1 : gz_OkE M_X8_isGreen 0 0 0 0 1 _ := ok_aload_n (i := 0) dX8_isGreen_0 rfl
  have q2 : gz_OkE M_X8_isGreen 0 0 0 0 4 _ := ok_get q1 cl_8 (k := 22) (by decide) in_8 wd_147 dX8_isGreen_1
  have q3 : gz_OkE M_X8_isGreen 1 0 0 4 6 _ := ok_bipush (v := 90) dX8_isGreen_4 kc_b90
  have q4 : gz_OkE M_X8_isGreen 2 0 0 6 7 _ := ok_iload_n (i := 1) dX8_isGreen_6 rfl
  have q5 : gz_OkE M_X8_isGreen 1 0 0 4 8 _ := ok_imul q3 q4 dX8_isGreen_7
  have q6 : gz_OkA M_X8_isGreen 2 0 0 8 8 0 _ := ok_a0
  have q7 : gz_OkE M_X8_isGreen 2 0 0 8 9 _ := ok_iload_n (i := 3) dX8_isGreen_8 rfl
  have q8 : gz_OkA M_X8_isGreen 2 0 0 8 9 1 _ := ok_a1 q6 q7
  have q9 : gz_OkE M_X8_isGreen 4 0 0 9 10 _ := ok_aload_n (i := 0) dX8_isGreen_9 rfl
  have q10 : gz_OkE M_X8_isGreen 4 0 0 9 13 _ := ok_get q9 cl_8 (k := 10) (by decide) in_8 wd_136 dX8_isGreen_10
  have q11 : gz_OkE M_X8_isGreen 5 0 0 13 14 _ := ok_iload_n (i := 1) dX8_isGreen_13 rfl
  have q12 : gz_OkE M_X8_isGreen 4 0 0 9 15 _ := ok_iald q10 q11 dX8_isGreen_14
  have q13 : gz_OkA M_X8_isGreen 2 0 0 8 15 2 _ := ok_a1 q8 q12
  have q14 : gz_OkE M_X8_isGreen 2 0 0 8 18 _ := ok_cs q13 mt_J9_floorMod_7cf53 wd_483 wd_411 de_J9_floorMod_7cf53 (by decide) (by decide) wd_801 wd_485 dX8_isGreen_15 (by decide)
  have q15 : gz_OkE M_X8_isGreen 1 0 0 4 19 _ := ok_iadd q5 q14 dX8_isGreen_18
  have q16 : gz_OkE M_X8_isGreen 0 0 0 0 20 _ := ok_iald q2 q15 dX8_isGreen_19
  have q17 : gz_OkE M_X8_isGreen 1 0 0 20 21 _ := ok_iload_n (i := 2) dX8_isGreen_20 rfl
  have q18 : gz_OkE M_X8_isGreen 0 0 0 0 22 _ := ok_ishr q16 q17 dX8_isGreen_21
  have q19 : gz_OkE M_X8_isGreen 1 0 0 22 23 _ := ok_iconst (v := 1) dX8_isGreen_22 kc_i1
  have q20 : gz_OkE M_X8_isGreen 0 0 0 0 24 _ := ok_iand q18 q19 dX8_isGreen_23
  have q21 : gz_OkE M_X8_isGreen 1 0 0 24 25 _ := ok_iconst (v := 1) dX8_isGreen_24 kc_i1
  have q22 : gz_OkJ M_X8_isGreen 0 0 0 0 32 28 _ := ok_ic_ne q20 q21 dX8_isGreen_25 (by decide)
  have q23 : gz_OkE M_X8_isGreen 0 0 0 28 29 _ := ok_iconst (v := 1) dX8_isGreen_28 kc_i1
  have q24 : gz_OkE M_X8_isGreen 0 0 0 28 33 _ := ok_eg q23 dX8_isGreen_29 (by decide)
  have q25 : gz_OkE M_X8_isGreen 0 0 0 32 33 _ := ok_iconst (v := 0) dX8_isGreen_32 kc_i0
  have q26 : gz_OkE M_X8_isGreen 0 0 0 0 33 _ := ok_te2 q22 q24 q25
  have q27 : gz_OkS M_X8_isGreen 0 0 0 _ := ok_ri q26 dX8_isGreen_33
  have z : gz_OkS M_X8_isGreen 0 0 0 sm_X8_isGreen := q27
  exact gz_met (plainFor_of_name (by decide)) z (by decide) (by decide)
noncomputable def sm_X8_tells : gz_Sx := gz_put 8 48 18 .int (gz_la 0) (gz_li 1) (gz_put 8 48 19 .int (gz_la 0) (gz_li 2) (gz_put 8 48 20 .int (gz_la 0) (gz_li 3) (gz_put 8 48 21 .int (gz_la 0) (gz_li 4) (gz_ri (gz_i (0))))))
noncomputable def se_X8_tells : gz_Me := gz_sem (some .boolean) 5 sm_X8_tells
abbrev rm_X8_tells : Room := { frames := 0, cells := 0, slots := 0, locals := 0 }
abbrev M_X8_tells : gz_Mi := (cX8_tells, 5, RX8, 0, 0, "tells", none)
theorem de_X8_tells : yX8_tells.cls ≠ "java/lang/invoke/MethodHandle" ∧ yX8_tells.cls ≠ "java/lang/invoke/VarHandle" ∧ (parseMethodDescriptor yX8_tells.desc).map (fun d => d.parameters.length) = some 4 := by decide +kernel
set_option maxRecDepth 100000 in
theorem mt_X8_tells : gz_Mt yX8_tells cX8_tells 5 (some .boolean) rm_X8_tells se_X8_tells := by
  have q1 : gz_OkE M_X8_tells 0 0 0 0 1 _ := ok_aload_n (i := 0) dX8_tells_0 rfl
  have q2 : gz_OkE M_X8_tells 1 0 0 1 2 _ := ok_iload_n (i := 1) dX8_tells_1 rfl
  have q3 : gz_OkE M_X8_tells 0 0 0 5 6 _ := ok_aload_n (i := 0) dX8_tells_5 rfl
  have q4 : gz_OkE M_X8_tells 1 0 0 6 7 _ := ok_iload_n (i := 2) dX8_tells_6 rfl
  have q5 : gz_OkE M_X8_tells 0 0 0 10 11 _ := ok_aload_n (i := 0) dX8_tells_10 rfl
  have q6 : gz_OkE M_X8_tells 1 0 0 11 12 _ := ok_iload_n (i := 3) dX8_tells_11 rfl
  have q7 : gz_OkE M_X8_tells 0 0 0 15 16 _ := ok_aload_n (i := 0) dX8_tells_15 rfl
  have q8 : gz_OkE M_X8_tells 1 0 0 16 18 _ := ok_iload (i := 4) dX8_tells_16
  have q9 : gz_OkE M_X8_tells 0 0 0 21 22 _ := ok_iconst (v := 0) dX8_tells_21 kc_i0
  have q10 : gz_OkS M_X8_tells 0 0 21 _ := ok_ri q9 dX8_tells_22
  have q11 : gz_OkS M_X8_tells 0 0 15 _ := ok_put (ty := .int) q7 q8 cl_8 (k := 21) (by decide) in_8 wd_146 tyX8 tyX8_ok nmX8 rfl rfl dX8_tells_18 q10
  have q12 : gz_OkS M_X8_tells 0 0 10 _ := ok_put (ty := .int) q5 q6 cl_8 (k := 20) (by decide) in_8 wd_145 tyX8 tyX8_ok nmX8 rfl rfl dX8_tells_12 q11
  have q13 : gz_OkS M_X8_tells 0 0 5 _ := ok_put (ty := .int) q3 q4 cl_8 (k := 19) (by decide) in_8 wd_144 tyX8 tyX8_ok nmX8 rfl rfl dX8_tells_7 q12
  have q14 : gz_OkS M_X8_tells 0 0 0 _ := ok_put (ty := .int) q1 q2 cl_8 (k := 18) (by decide) in_8 wd_172 tyX8 tyX8_ok nmX8 rfl rfl dX8_tells_2 q13
  have z : gz_OkS M_X8_tells 0 0 0 sm_X8_tells := q14
  exact gz_met (plainFor_of_name (by decide)) z (by decide) (by decide)
noncomputable def lb_X8_hasLeast_52 : gz_Sx := gz_if (gz_j1 (fun x => decide (x = 0)) (gz_cv 8 48 se_X8_isGreen (gz_a1 (gz_a1 (gz_a1 (gz_a1 (gz_a0) (gz_la 0)) (gz_li 1)) (gz_li 3)) (gz_ib (fun x y => x + y) (gz_li 2) (gz_li 4))))) (gz_sat 71) (gz_inc 4 (1) (gz_sat 52))
noncomputable def lb_X8_hasLeast_14 : gz_Sx := gz_if (gz_j2 (fun x y => decide (y ≤ x)) (gz_li 3) (gz_ald 100 (gz_get 8 48 2 (gz_la 0)) (gz_li 1))) (gz_sat 102) (gz_seq 96 4 (gz_if (gz_j1 (fun x => decide (x = 0)) (gz_cv 8 48 se_X8_isGreen (gz_a1 (gz_a1 (gz_a1 (gz_a1 (gz_a0) (gz_la 0)) (gz_li 1)) (gz_li 3)) (gz_li 2)))) (gz_sat 96) (gz_if (gz_j1 (fun x => decide (x = 0)) (gz_cv 8 48 se_X8_isGreen (gz_a1 (gz_a1 (gz_a1 (gz_a1 (gz_a0) (gz_la 0)) (gz_li 1)) (gz_li 3)) (gz_ib (fun x y => x - y) (gz_li 2) (gz_i (1)))))) (gz_seti 4 (gz_i (0)) (gz_seq 71 5 (gz_loop 52 5 lb_X8_hasLeast_52) (gz_if (gz_j2 (fun x y => decide (y ≤ x)) (gz_li 4) (gz_ald 100 (gz_get 8 48 6 (gz_la 0)) (gz_ib (fun x y => x + y) (gz_ib (fun x y => x * y) (gz_i (8)) (gz_li 1)) (gz_li 3)))) (gz_sat 96) (gz_ri (gz_cv 8 48 se_X8_tells (gz_a1 (gz_a1 (gz_a1 (gz_a1 (gz_a1 (gz_a0) (gz_la 0)) (gz_i (5))) (gz_li 2)) (gz_li 3)) (gz_i (-1)))))))) (gz_sat 96))) (gz_inc 3 (1) (gz_sat 14)))
noncomputable def lb_X8_hasLeast_2 : gz_Sx := gz_if (gz_j2 (fun x y => decide (y ≤ x)) (gz_li 2) (gz_ald 100 (gz_get 8 48 10 (gz_la 0)) (gz_li 1))) (gz_sat 108) (gz_seti 3 (gz_i (0)) (gz_seq 102 3 (gz_loop 14 4 lb_X8_hasLeast_14) (gz_inc 2 (1) (gz_sat 2))))
noncomputable def sm_X8_hasLeast : gz_Sx := gz_seti 2 (gz_i (0)) (gz_seq 108 0 (gz_loop 2 3 lb_X8_hasLeast_2) (gz_ri (gz_i (1))))
noncomputable def se_X8_hasLeast : gz_Me := gz_sem (some .boolean) 5 sm_X8_hasLeast
abbrev rm_X8_hasLeast : Room := { frames := 2, cells := 0, slots := 0, locals := 45 }
abbrev M_X8_hasLeast : gz_Mi := (cX8_hasLeast, 5, RX8, 2, 45, "hasLeast", none)
theorem de_X8_hasLeast : yX8_hasLeast.cls ≠ "java/lang/invoke/MethodHandle" ∧ yX8_hasLeast.cls ≠ "java/lang/invoke/VarHandle" ∧ (parseMethodDescriptor yX8_hasLeast.desc).map (fun d => d.parameters.length) = some 1 := by decide +kernel
set_option maxRecDepth 100000 in
theorem mt_X8_hasLeast : gz_Mt yX8_hasLeast cX8_hasLeast 5 (some .boolean) rm_X8_hasLeast se_X8_hasLeast := by
  have q1 : gz_OkE M_X8_hasLeast 0 0 0 0 1 _ := ok_iconst (v := 0) dX8_hasLeast_0 kc_i0
  have q2 : gz_OkE M_X8_hasLeast 0 0 0 2 3 _ := ok_iload_n (i := 2) dX8_hasLeast_2 rfl
  have q3 : gz_OkE M_X8_hasLeast 1 0 0 3 4 _ := ok_aload_n (i := 0) dX8_hasLeast_3 rfl
  have q4 : gz_OkE M_X8_hasLeast 1 0 0 3 7 _ := ok_get q3 cl_8 (k := 10) (by decide) in_8 wd_136 dX8_hasLeast_4
  have q5 : gz_OkE M_X8_hasLeast 2 0 0 7 8 _ := ok_iload_n (i := 1) dX8_hasLeast_7 rfl
  have q6 : gz_OkE M_X8_hasLeast 1 0 0 3 9 _ := ok_iald q4 q5 dX8_hasLeast_8
  have q7 : gz_OkJ M_X8_hasLeast 0 0 0 2 108 12 _ := ok_ic_ge q2 q6 dX8_hasLeast_9 (by decide)
  have q8 : gz_OkS M_X8_hasLeast 0 0 108 _ := ok_at
  have q9 : gz_OkE M_X8_hasLeast 0 0 0 12 13 _ := ok_iconst (v := 0) dX8_hasLeast_12 kc_i0
  have q10 : gz_OkE M_X8_hasLeast 0 0 0 14 15 _ := ok_iload_n (i := 3) dX8_hasLeast_14 rfl
  have q11 : gz_OkE M_X8_hasLeast 1 0 0 15 16 _ := ok_aload_n (i := 0) dX8_hasLeast_15 rfl
  have q12 : gz_OkE M_X8_hasLeast 1 0 0 15 19 _ := ok_get q11 cl_8 (k := 2) (by decide) in_8 wd_128 dX8_hasLeast_16
  have q13 : gz_OkE M_X8_hasLeast 2 0 0 19 20 _ := ok_iload_n (i := 1) dX8_hasLeast_19 rfl
  have q14 : gz_OkE M_X8_hasLeast 1 0 0 15 21 _ := ok_iald q12 q13 dX8_hasLeast_20
  have q15 : gz_OkJ M_X8_hasLeast 0 0 0 14 102 24 _ := ok_ic_ge q10 q14 dX8_hasLeast_21 (by decide)
  have q16 : gz_OkS M_X8_hasLeast 0 0 102 _ := ok_at
  have q17 : gz_OkA M_X8_hasLeast 0 0 0 24 24 0 _ := ok_a0
  have q18 : gz_OkE M_X8_hasLeast 0 0 0 24 25 _ := ok_aload_n (i := 0) dX8_hasLeast_24 rfl
  have q19 : gz_OkA M_X8_hasLeast 0 0 0 24 25 1 _ := ok_a1 q17 q18
  have q20 : gz_OkE M_X8_hasLeast 2 0 0 25 26 _ := ok_iload_n (i := 1) dX8_hasLeast_25 rfl
  have q21 : gz_OkA M_X8_hasLeast 0 0 0 24 26 2 _ := ok_a1 q19 q20
  have q22 : gz_OkE M_X8_hasLeast 4 0 0 26 27 _ := ok_iload_n (i := 3) dX8_hasLeast_26 rfl
  have q23 : gz_OkA M_X8_hasLeast 0 0 0 24 27 3 _ := ok_a1 q21 q22
  have q24 : gz_OkE M_X8_hasLeast 6 0 0 27 28 _ := ok_iload_n (i := 2) dX8_hasLeast_27 rfl
  have q25 : gz_OkA M_X8_hasLeast 0 0 0 24 28 4 _ := ok_a1 q23 q24
  have q26 : gz_OkE M_X8_hasLeast 0 0 0 24 31 _ := ok_cv q25 mt_X8_isGreen cl_8 wd_802 wd_188 de_X8_isGreen (by decide) (by decide) wd_803 wd_804 wd_805 dX8_hasLeast_28 (by decide)
  have q27 : gz_OkJ M_X8_hasLeast 0 0 0 24 96 34 _ := ok_if_eq q26 dX8_hasLeast_31 (by decide)
  have q28 : gz_OkS M_X8_hasLeast 0 0 96 _ := ok_at
  have q29 : gz_OkA M_X8_hasLeast 0 0 0 34 34 0 _ := ok_a0
  have q30 : gz_OkE M_X8_hasLeast 0 0 0 34 35 _ := ok_aload_n (i := 0) dX8_hasLeast_34 rfl
  have q31 : gz_OkA M_X8_hasLeast 0 0 0 34 35 1 _ := ok_a1 q29 q30
  have q32 : gz_OkE M_X8_hasLeast 2 0 0 35 36 _ := ok_iload_n (i := 1) dX8_hasLeast_35 rfl
  have q33 : gz_OkA M_X8_hasLeast 0 0 0 34 36 2 _ := ok_a1 q31 q32
  have q34 : gz_OkE M_X8_hasLeast 4 0 0 36 37 _ := ok_iload_n (i := 3) dX8_hasLeast_36 rfl
  have q35 : gz_OkA M_X8_hasLeast 0 0 0 34 37 3 _ := ok_a1 q33 q34
  have q36 : gz_OkE M_X8_hasLeast 6 0 0 37 38 _ := ok_iload_n (i := 2) dX8_hasLeast_37 rfl
  have q37 : gz_OkE M_X8_hasLeast 7 0 0 38 39 _ := ok_iconst (v := 1) dX8_hasLeast_38 kc_i1
  have q38 : gz_OkE M_X8_hasLeast 6 0 0 37 40 _ := ok_isub q36 q37 dX8_hasLeast_39
  have q39 : gz_OkA M_X8_hasLeast 0 0 0 34 40 4 _ := ok_a1 q35 q38
  have q40 : gz_OkE M_X8_hasLeast 0 0 0 34 43 _ := ok_cv q39 mt_X8_isGreen cl_8 wd_802 wd_188 de_X8_isGreen (by decide) (by decide) wd_803 wd_804 wd_805 dX8_hasLeast_40 (by decide)
  have q41 : gz_OkJ M_X8_hasLeast 0 0 0 34 49 46 _ := ok_if_eq q40 dX8_hasLeast_43 (by decide)
  have q42 : gz_OkE M_X8_hasLeast 0 0 0 49 50 _ := ok_iconst (v := 0) dX8_hasLeast_49 kc_i0
  have q43 : gz_OkA M_X8_hasLeast 0 0 0 52 52 0 _ := ok_a0
  have q44 : gz_OkE M_X8_hasLeast 0 0 0 52 53 _ := ok_aload_n (i := 0) dX8_hasLeast_52 rfl
  have q45 : gz_OkA M_X8_hasLeast 0 0 0 52 53 1 _ := ok_a1 q43 q44
  have q46 : gz_OkE M_X8_hasLeast 2 0 0 53 54 _ := ok_iload_n (i := 1) dX8_hasLeast_53 rfl
  have q47 : gz_OkA M_X8_hasLeast 0 0 0 52 54 2 _ := ok_a1 q45 q46
  have q48 : gz_OkE M_X8_hasLeast 4 0 0 54 55 _ := ok_iload_n (i := 3) dX8_hasLeast_54 rfl
  have q49 : gz_OkA M_X8_hasLeast 0 0 0 52 55 3 _ := ok_a1 q47 q48
  have q50 : gz_OkE M_X8_hasLeast 6 0 0 55 56 _ := ok_iload_n (i := 2) dX8_hasLeast_55 rfl
  have q51 : gz_OkE M_X8_hasLeast 7 0 0 56 58 _ := ok_iload (i := 4) dX8_hasLeast_56
  have q52 : gz_OkE M_X8_hasLeast 6 0 0 55 59 _ := ok_iadd q50 q51 dX8_hasLeast_58
  have q53 : gz_OkA M_X8_hasLeast 0 0 0 52 59 4 _ := ok_a1 q49 q52
  have q54 : gz_OkE M_X8_hasLeast 0 0 0 52 62 _ := ok_cv q53 mt_X8_isGreen cl_8 wd_802 wd_188 de_X8_isGreen (by decide) (by decide) wd_803 wd_804 wd_805 dX8_hasLeast_59 (by decide)
  have q55 : gz_OkJ M_X8_hasLeast 0 0 0 52 71 65 _ := ok_if_eq q54 dX8_hasLeast_62 (by decide)
  have q56 : gz_OkS M_X8_hasLeast 0 0 71 _ := ok_at
  have q57 : gz_OkS M_X8_hasLeast 0 0 68 (gz_sat 52) := ok_goto dX8_hasLeast_68 (by decide)
  have q58 : gz_OkS M_X8_hasLeast 0 0 65 _ := ok_inc (v := 1) dX8_hasLeast_65 kc_i1 (by decide) q57
  have q59 : gz_OkS M_X8_hasLeast 0 0 52 _ := ok_if q55 q56 q58
  have q60 : gz_OkS M_X8_hasLeast 0 0 52 lb_X8_hasLeast_52 := q59
  have q61 : gz_OkS M_X8_hasLeast 0 0 52 _ := ok_loop (k := 5) q60 rfl rfl
  have q62 : gz_OkE M_X8_hasLeast 0 0 0 71 73 _ := ok_iload (i := 4) dX8_hasLeast_71
  have q63 : gz_OkE M_X8_hasLeast 1 0 0 73 74 _ := ok_aload_n (i := 0) dX8_hasLeast_73 rfl
  have q64 : gz_OkE M_X8_hasLeast 1 0 0 73 77 _ := ok_get q63 cl_8 (k := 6) (by decide) in_8 wd_132 dX8_hasLeast_74
  have q65 : gz_OkE M_X8_hasLeast 2 0 0 77 79 _ := ok_bipush (v := 8) dX8_hasLeast_77 kc_b8
  have q66 : gz_OkE M_X8_hasLeast 3 0 0 79 80 _ := ok_iload_n (i := 1) dX8_hasLeast_79 rfl
  have q67 : gz_OkE M_X8_hasLeast 2 0 0 77 81 _ := ok_imul q65 q66 dX8_hasLeast_80
  have q68 : gz_OkE M_X8_hasLeast 3 0 0 81 82 _ := ok_iload_n (i := 3) dX8_hasLeast_81 rfl
  have q69 : gz_OkE M_X8_hasLeast 2 0 0 77 83 _ := ok_iadd q67 q68 dX8_hasLeast_82
  have q70 : gz_OkE M_X8_hasLeast 1 0 0 73 84 _ := ok_iald q64 q69 dX8_hasLeast_83
  have q71 : gz_OkJ M_X8_hasLeast 0 0 0 71 96 87 _ := ok_ic_ge q62 q70 dX8_hasLeast_84 (by decide)
  have q72 : gz_OkS M_X8_hasLeast 0 0 96 _ := ok_at
  have q73 : gz_OkA M_X8_hasLeast 0 0 0 87 87 0 _ := ok_a0
  have q74 : gz_OkE M_X8_hasLeast 0 0 0 87 88 _ := ok_aload_n (i := 0) dX8_hasLeast_87 rfl
  have q75 : gz_OkA M_X8_hasLeast 0 0 0 87 88 1 _ := ok_a1 q73 q74
  have q76 : gz_OkE M_X8_hasLeast 2 0 0 88 89 _ := ok_iconst (v := 5) dX8_hasLeast_88 kc_i5
  have q77 : gz_OkA M_X8_hasLeast 0 0 0 87 89 2 _ := ok_a1 q75 q76
  have q78 : gz_OkE M_X8_hasLeast 4 0 0 89 90 _ := ok_iload_n (i := 2) dX8_hasLeast_89 rfl
  have q79 : gz_OkA M_X8_hasLeast 0 0 0 87 90 3 _ := ok_a1 q77 q78
  have q80 : gz_OkE M_X8_hasLeast 6 0 0 90 91 _ := ok_iload_n (i := 3) dX8_hasLeast_90 rfl
  have q81 : gz_OkA M_X8_hasLeast 0 0 0 87 91 4 _ := ok_a1 q79 q80
  have q82 : gz_OkE M_X8_hasLeast 8 0 0 91 92 _ := ok_iconst (v := -1) dX8_hasLeast_91 kc_im1
  have q83 : gz_OkA M_X8_hasLeast 0 0 0 87 92 5 _ := ok_a1 q81 q82
  have q84 : gz_OkE M_X8_hasLeast 0 0 0 87 95 _ := ok_cv q83 mt_X8_tells cl_8 wd_806 wd_188 de_X8_tells (by decide) (by decide) wd_807 wd_808 wd_809 dX8_hasLeast_92 (by decide)
  have q85 : gz_OkS M_X8_hasLeast 0 0 87 _ := ok_ri q84 dX8_hasLeast_95
  have q86 : gz_OkS M_X8_hasLeast 0 0 71 _ := ok_if q71 q72 q85
  have q87 : gz_OkS M_X8_hasLeast 0 0 52 _ := ok_seq (L := 71) (k := 5) q61 q86
  have q88 : gz_OkS M_X8_hasLeast 0 0 49 _ := ok_seti (k := 4) q42 dX8_hasLeast_50 (by decide) q87
  have q89 : gz_OkS M_X8_hasLeast 0 0 46 (gz_sat 96) := ok_goto dX8_hasLeast_46 (by decide)
  have q90 : gz_OkS M_X8_hasLeast 0 0 34 _ := ok_if q41 q88 q89
  have q91 : gz_OkS M_X8_hasLeast 0 0 24 _ := ok_if q27 q28 q90
  have q92 : gz_OkS M_X8_hasLeast 0 0 99 (gz_sat 14) := ok_goto dX8_hasLeast_99 (by decide)
  have q93 : gz_OkS M_X8_hasLeast 0 0 96 _ := ok_inc (v := 1) dX8_hasLeast_96 kc_i1 (by decide) q92
  have q94 : gz_OkS M_X8_hasLeast 0 0 24 _ := ok_seq (L := 96) (k := 4) q91 q93
  have q95 : gz_OkS M_X8_hasLeast 0 0 14 _ := ok_if q15 q16 q94
  have q96 : gz_OkS M_X8_hasLeast 0 0 14 lb_X8_hasLeast_14 := q95
  have q97 : gz_OkS M_X8_hasLeast 0 0 14 _ := ok_loop (k := 4) q96 rfl rfl
  have q98 : gz_OkS M_X8_hasLeast 0 0 105 (gz_sat 2) := ok_goto dX8_hasLeast_105 (by decide)
  have q99 : gz_OkS M_X8_hasLeast 0 0 102 _ := ok_inc (v := 1) dX8_hasLeast_102 kc_i1 (by decide) q98
  have q100 : gz_OkS M_X8_hasLeast 0 0 14 _ := ok_seq (L := 102) (k := 3) q97 q99
  have q101 : gz_OkS M_X8_hasLeast 0 0 12 _ := ok_seti_n (k := 3) q9 dX8_hasLeast_13 rfl (by decide) q100
  have q102 : gz_OkS M_X8_hasLeast 0 0 2 _ := ok_if q7 q8 q101
  have q103 : gz_OkS M_X8_hasLeast 0 0 2 lb_X8_hasLeast_2 := q102
  have q104 : gz_OkS M_X8_hasLeast 0 0 2 _ := ok_loop (k := 3) q103 rfl rfl
  have q105 : gz_OkE M_X8_hasLeast 0 0 0 108 109 _ := ok_iconst (v := 1) dX8_hasLeast_108 kc_i1
  have q106 : gz_OkS M_X8_hasLeast 0 0 108 _ := ok_ri q105 dX8_hasLeast_109
  have q107 : gz_OkS M_X8_hasLeast 0 0 2 _ := ok_seq (L := 108) (k := 0) q104 q106
  have q108 : gz_OkS M_X8_hasLeast 0 0 0 _ := ok_seti_n (k := 2) q1 dX8_hasLeast_1 rfl (by decide) q107
  have z : gz_OkS M_X8_hasLeast 0 0 0 sm_X8_hasLeast := q108
  exact gz_met (plainFor_of_name (by decide)) z (by decide) (by decide)
noncomputable def lb_X8_isApart_64 : gz_Sx := gz_if (gz_jo (gz_j2 (fun x y => decide (y < x)) (gz_li 6) (gz_li 5)) (gz_j1 (fun x => decide (x ≤ 0)) (gz_li 5))) (gz_sat 107) (gz_if (gz_j1 (fun x => decide (x = 0)) (gz_cv 8 48 se_X8_isGreen (gz_a1 (gz_a1 (gz_a1 (gz_a1 (gz_a0) (gz_la 0)) (gz_li 1)) (gz_li 4)) (gz_ib (fun x y => x - y) (gz_li 2) (gz_li 6))))) (gz_inc 6 (1) (gz_sat 64)) (gz_ri (gz_cv 8 48 se_X8_tells (gz_a1 (gz_a1 (gz_a1 (gz_a1 (gz_a1 (gz_a0) (gz_la 0)) (gz_i (6))) (gz_li 2)) (gz_li 4)) (gz_li 3)))))
noncomputable def lb_X8_isApart_40 : gz_Sx := gz_if (gz_j2 (fun x y => decide (y ≤ x)) (gz_li 4) (gz_ald 100 (gz_get 8 48 2 (gz_la 0)) (gz_li 1))) (gz_sat 113) (gz_seti 5 (gz_cv 8 48 se_X8_apart (gz_a1 (gz_a1 (gz_a1 (gz_a1 (gz_a0) (gz_la 0)) (gz_li 1)) (gz_li 4)) (gz_li 3))) (gz_seti 6 (gz_i (0)) (gz_seq 107 5 (gz_loop 64 7 lb_X8_isApart_64) (gz_inc 4 (1) (gz_sat 40)))))
noncomputable def lb_X8_isApart_14 : gz_Sx := gz_if (gz_j2 (fun x y => decide (y ≤ x)) (gz_li 3) (gz_ald 100 (gz_get 8 48 2 (gz_la 0)) (gz_li 1))) (gz_sat 119) (gz_seq 113 4 (gz_if (gz_j1 (fun x => decide (¬ x = 0)) (gz_cv 8 48 se_X8_isGreen (gz_a1 (gz_a1 (gz_a1 (gz_a1 (gz_a0) (gz_la 0)) (gz_li 1)) (gz_li 3)) (gz_li 2)))) (gz_seti 4 (gz_i (0)) (gz_loop 40 5 lb_X8_isApart_40)) (gz_sat 113)) (gz_inc 3 (1) (gz_sat 14)))
noncomputable def lb_X8_isApart_2 : gz_Sx := gz_if (gz_j2 (fun x y => decide (y ≤ x)) (gz_li 2) (gz_ald 100 (gz_get 8 48 10 (gz_la 0)) (gz_li 1))) (gz_sat 125) (gz_seti 3 (gz_i (0)) (gz_seq 119 3 (gz_loop 14 4 lb_X8_isApart_14) (gz_inc 2 (1) (gz_sat 2))))
noncomputable def sm_X8_isApart : gz_Sx := gz_seti 2 (gz_i (0)) (gz_seq 125 0 (gz_loop 2 3 lb_X8_isApart_2) (gz_ri (gz_i (1))))
noncomputable def se_X8_isApart : gz_Me := gz_sem (some .boolean) 7 sm_X8_isApart
abbrev rm_X8_isApart : Room := { frames := 2, cells := 0, slots := 0, locals := 46 }
abbrev M_X8_isApart : gz_Mi := (cX8_isApart, 7, RX8, 2, 46, "isApart", none)
theorem de_X8_isApart : yX8_isApart.cls ≠ "java/lang/invoke/MethodHandle" ∧ yX8_isApart.cls ≠ "java/lang/invoke/VarHandle" ∧ (parseMethodDescriptor yX8_isApart.desc).map (fun d => d.parameters.length) = some 1 := by decide +kernel
set_option maxRecDepth 100000 in
theorem mt_X8_isApart : gz_Mt yX8_isApart cX8_isApart 7 (some .boolean) rm_X8_isApart se_X8_isApart := by
  have q1 : gz_OkE M_X8_isApart 0 0 0 0 1 _ := ok_iconst (v := 0) dX8_isApart_0 kc_i0
  have q2 : gz_OkE M_X8_isApart 0 0 0 2 3 _ := ok_iload_n (i := 2) dX8_isApart_2 rfl
  have q3 : gz_OkE M_X8_isApart 1 0 0 3 4 _ := ok_aload_n (i := 0) dX8_isApart_3 rfl
  have q4 : gz_OkE M_X8_isApart 1 0 0 3 7 _ := ok_get q3 cl_8 (k := 10) (by decide) in_8 wd_136 dX8_isApart_4
  have q5 : gz_OkE M_X8_isApart 2 0 0 7 8 _ := ok_iload_n (i := 1) dX8_isApart_7 rfl
  have q6 : gz_OkE M_X8_isApart 1 0 0 3 9 _ := ok_iald q4 q5 dX8_isApart_8
  have q7 : gz_OkJ M_X8_isApart 0 0 0 2 125 12 _ := ok_ic_ge q2 q6 dX8_isApart_9 (by decide)
  have q8 : gz_OkS M_X8_isApart 0 0 125 _ := ok_at
  have q9 : gz_OkE M_X8_isApart 0 0 0 12 13 _ := ok_iconst (v := 0) dX8_isApart_12 kc_i0
  have q10 : gz_OkE M_X8_isApart 0 0 0 14 15 _ := ok_iload_n (i := 3) dX8_isApart_14 rfl
  have q11 : gz_OkE M_X8_isApart 1 0 0 15 16 _ := ok_aload_n (i := 0) dX8_isApart_15 rfl
  have q12 : gz_OkE M_X8_isApart 1 0 0 15 19 _ := ok_get q11 cl_8 (k := 2) (by decide) in_8 wd_128 dX8_isApart_16
  have q13 : gz_OkE M_X8_isApart 2 0 0 19 20 _ := ok_iload_n (i := 1) dX8_isApart_19 rfl
  have q14 : gz_OkE M_X8_isApart 1 0 0 15 21 _ := ok_iald q12 q13 dX8_isApart_20
  have q15 : gz_OkJ M_X8_isApart 0 0 0 14 119 24 _ := ok_ic_ge q10 q14 dX8_isApart_21 (by decide)
  have q16 : gz_OkS M_X8_isApart 0 0 119 _ := ok_at
  have q17 : gz_OkA M_X8_isApart 0 0 0 24 24 0 _ := ok_a0
  have q18 : gz_OkE M_X8_isApart 0 0 0 24 25 _ := ok_aload_n (i := 0) dX8_isApart_24 rfl
  have q19 : gz_OkA M_X8_isApart 0 0 0 24 25 1 _ := ok_a1 q17 q18
  have q20 : gz_OkE M_X8_isApart 2 0 0 25 26 _ := ok_iload_n (i := 1) dX8_isApart_25 rfl
  have q21 : gz_OkA M_X8_isApart 0 0 0 24 26 2 _ := ok_a1 q19 q20
  have q22 : gz_OkE M_X8_isApart 4 0 0 26 27 _ := ok_iload_n (i := 3) dX8_isApart_26 rfl
  have q23 : gz_OkA M_X8_isApart 0 0 0 24 27 3 _ := ok_a1 q21 q22
  have q24 : gz_OkE M_X8_isApart 6 0 0 27 28 _ := ok_iload_n (i := 2) dX8_isApart_27 rfl
  have q25 : gz_OkA M_X8_isApart 0 0 0 24 28 4 _ := ok_a1 q23 q24
  have q26 : gz_OkE M_X8_isApart 0 0 0 24 31 _ := ok_cv q25 mt_X8_isGreen cl_8 wd_802 wd_188 de_X8_isGreen (by decide) (by decide) wd_803 wd_804 wd_805 dX8_isApart_28 (by decide)
  have q27 : gz_OkJ M_X8_isApart 0 0 0 24 37 34 _ := ok_if_ne q26 dX8_isApart_31 (by decide)
  have q28 : gz_OkE M_X8_isApart 0 0 0 37 38 _ := ok_iconst (v := 0) dX8_isApart_37 kc_i0
  have q29 : gz_OkE M_X8_isApart 0 0 0 40 42 _ := ok_iload (i := 4) dX8_isApart_40
  have q30 : gz_OkE M_X8_isApart 1 0 0 42 43 _ := ok_aload_n (i := 0) dX8_isApart_42 rfl
  have q31 : gz_OkE M_X8_isApart 1 0 0 42 46 _ := ok_get q30 cl_8 (k := 2) (by decide) in_8 wd_128 dX8_isApart_43
  have q32 : gz_OkE M_X8_isApart 2 0 0 46 47 _ := ok_iload_n (i := 1) dX8_isApart_46 rfl
  have q33 : gz_OkE M_X8_isApart 1 0 0 42 48 _ := ok_iald q31 q32 dX8_isApart_47
  have q34 : gz_OkJ M_X8_isApart 0 0 0 40 113 51 _ := ok_ic_ge q29 q33 dX8_isApart_48 (by decide)
  have q35 : gz_OkS M_X8_isApart 0 0 113 _ := ok_at
  have q36 : gz_OkA M_X8_isApart 0 0 0 51 51 0 _ := ok_a0
  have q37 : gz_OkE M_X8_isApart 0 0 0 51 52 _ := ok_aload_n (i := 0) dX8_isApart_51 rfl
  have q38 : gz_OkA M_X8_isApart 0 0 0 51 52 1 _ := ok_a1 q36 q37
  have q39 : gz_OkE M_X8_isApart 2 0 0 52 53 _ := ok_iload_n (i := 1) dX8_isApart_52 rfl
  have q40 : gz_OkA M_X8_isApart 0 0 0 51 53 2 _ := ok_a1 q38 q39
  have q41 : gz_OkE M_X8_isApart 4 0 0 53 55 _ := ok_iload (i := 4) dX8_isApart_53
  have q42 : gz_OkA M_X8_isApart 0 0 0 51 55 3 _ := ok_a1 q40 q41
  have q43 : gz_OkE M_X8_isApart 6 0 0 55 56 _ := ok_iload_n (i := 3) dX8_isApart_55 rfl
  have q44 : gz_OkA M_X8_isApart 0 0 0 51 56 4 _ := ok_a1 q42 q43
  have q45 : gz_OkE M_X8_isApart 0 0 0 51 59 _ := ok_cv q44 mt_X8_apart cl_8 wd_785 wd_188 de_X8_apart (by decide) (by decide) wd_786 wd_787 wd_788 dX8_isApart_56 (by decide)
  have q46 : gz_OkE M_X8_isApart 0 0 0 61 62 _ := ok_iconst (v := 0) dX8_isApart_61 kc_i0
  have q47 : gz_OkE M_X8_isApart 0 0 0 64 66 _ := ok_iload (i := 6) dX8_isApart_64
  have q48 : gz_OkE M_X8_isApart 1 0 0 66 68 _ := ok_iload (i := 5) dX8_isApart_66
  have q49 : gz_OkJ M_X8_isApart 0 0 0 64 107 71 _ := ok_ic_gt q47 q48 dX8_isApart_68 (by decide)
  have q50 : gz_OkE M_X8_isApart 0 0 0 71 73 _ := ok_iload (i := 5) dX8_isApart_71
  have q51 : gz_OkJ M_X8_isApart 0 0 0 71 107 76 _ := ok_if_le q50 dX8_isApart_73 (by decide)
  have q52 : gz_OkJ M_X8_isApart 0 0 0 64 107 76 _ := ok_jo q49 q51
  have q53 : gz_OkS M_X8_isApart 0 0 107 _ := ok_at
  have q54 : gz_OkA M_X8_isApart 0 0 0 76 76 0 _ := ok_a0
  have q55 : gz_OkE M_X8_isApart 0 0 0 76 77 _ := ok_aload_n (i := 0) dX8_isApart_76 rfl
  have q56 : gz_OkA M_X8_isApart 0 0 0 76 77 1 _ := ok_a1 q54 q55
  have q57 : gz_OkE M_X8_isApart 2 0 0 77 78 _ := ok_iload_n (i := 1) dX8_isApart_77 rfl
  have q58 : gz_OkA M_X8_isApart 0 0 0 76 78 2 _ := ok_a1 q56 q57
  have q59 : gz_OkE M_X8_isApart 4 0 0 78 80 _ := ok_iload (i := 4) dX8_isApart_78
  have q60 : gz_OkA M_X8_isApart 0 0 0 76 80 3 _ := ok_a1 q58 q59
  have q61 : gz_OkE M_X8_isApart 6 0 0 80 81 _ := ok_iload_n (i := 2) dX8_isApart_80 rfl
  have q62 : gz_OkE M_X8_isApart 7 0 0 81 83 _ := ok_iload (i := 6) dX8_isApart_81
  have q63 : gz_OkE M_X8_isApart 6 0 0 80 84 _ := ok_isub q61 q62 dX8_isApart_83
  have q64 : gz_OkA M_X8_isApart 0 0 0 76 84 4 _ := ok_a1 q60 q63
  have q65 : gz_OkE M_X8_isApart 0 0 0 76 87 _ := ok_cv q64 mt_X8_isGreen cl_8 wd_802 wd_188 de_X8_isGreen (by decide) (by decide) wd_803 wd_804 wd_805 dX8_isApart_84 (by decide)
  have q66 : gz_OkJ M_X8_isApart 0 0 0 76 101 90 _ := ok_if_eq q65 dX8_isApart_87 (by decide)
  have q67 : gz_OkS M_X8_isApart 0 0 104 (gz_sat 64) := ok_goto dX8_isApart_104 (by decide)
  have q68 : gz_OkS M_X8_isApart 0 0 101 _ := ok_inc (v := 1) dX8_isApart_101 kc_i1 (by decide) q67
  have q69 : gz_OkA M_X8_isApart 0 0 0 90 90 0 _ := ok_a0
  have q70 : gz_OkE M_X8_isApart 0 0 0 90 91 _ := ok_aload_n (i := 0) dX8_isApart_90 rfl
  have q71 : gz_OkA M_X8_isApart 0 0 0 90 91 1 _ := ok_a1 q69 q70
  have q72 : gz_OkE M_X8_isApart 2 0 0 91 93 _ := ok_bipush (v := 6) dX8_isApart_91 kc_b6
  have q73 : gz_OkA M_X8_isApart 0 0 0 90 93 2 _ := ok_a1 q71 q72
  have q74 : gz_OkE M_X8_isApart 4 0 0 93 94 _ := ok_iload_n (i := 2) dX8_isApart_93 rfl
  have q75 : gz_OkA M_X8_isApart 0 0 0 90 94 3 _ := ok_a1 q73 q74
  have q76 : gz_OkE M_X8_isApart 6 0 0 94 96 _ := ok_iload (i := 4) dX8_isApart_94
  have q77 : gz_OkA M_X8_isApart 0 0 0 90 96 4 _ := ok_a1 q75 q76
  have q78 : gz_OkE M_X8_isApart 8 0 0 96 97 _ := ok_iload_n (i := 3) dX8_isApart_96 rfl
  have q79 : gz_OkA M_X8_isApart 0 0 0 90 97 5 _ := ok_a1 q77 q78
  have q80 : gz_OkE M_X8_isApart 0 0 0 90 100 _ := ok_cv q79 mt_X8_tells cl_8 wd_806 wd_188 de_X8_tells (by decide) (by decide) wd_807 wd_808 wd_809 dX8_isApart_97 (by decide)
  have q81 : gz_OkS M_X8_isApart 0 0 90 _ := ok_ri q80 dX8_isApart_100
  have q82 : gz_OkS M_X8_isApart 0 0 76 _ := ok_if q66 q68 q81
  have q83 : gz_OkS M_X8_isApart 0 0 64 _ := ok_if q52 q53 q82
  have q84 : gz_OkS M_X8_isApart 0 0 64 lb_X8_isApart_64 := q83
  have q85 : gz_OkS M_X8_isApart 0 0 64 _ := ok_loop (k := 7) q84 rfl rfl
  have q86 : gz_OkS M_X8_isApart 0 0 110 (gz_sat 40) := ok_goto dX8_isApart_110 (by decide)
  have q87 : gz_OkS M_X8_isApart 0 0 107 _ := ok_inc (v := 1) dX8_isApart_107 kc_i1 (by decide) q86
  have q88 : gz_OkS M_X8_isApart 0 0 64 _ := ok_seq (L := 107) (k := 5) q85 q87
  have q89 : gz_OkS M_X8_isApart 0 0 61 _ := ok_seti (k := 6) q46 dX8_isApart_62 (by decide) q88
  have q90 : gz_OkS M_X8_isApart 0 0 51 _ := ok_seti (k := 5) q45 dX8_isApart_59 (by decide) q89
  have q91 : gz_OkS M_X8_isApart 0 0 40 _ := ok_if q34 q35 q90
  have q92 : gz_OkS M_X8_isApart 0 0 40 lb_X8_isApart_40 := q91
  have q93 : gz_OkS M_X8_isApart 0 0 40 _ := ok_loop (k := 5) q92 rfl rfl
  have q94 : gz_OkS M_X8_isApart 0 0 37 _ := ok_seti (k := 4) q28 dX8_isApart_38 (by decide) q93
  have q95 : gz_OkS M_X8_isApart 0 0 34 (gz_sat 113) := ok_goto dX8_isApart_34 (by decide)
  have q96 : gz_OkS M_X8_isApart 0 0 24 _ := ok_if q27 q94 q95
  have q97 : gz_OkS M_X8_isApart 0 0 116 (gz_sat 14) := ok_goto dX8_isApart_116 (by decide)
  have q98 : gz_OkS M_X8_isApart 0 0 113 _ := ok_inc (v := 1) dX8_isApart_113 kc_i1 (by decide) q97
  have q99 : gz_OkS M_X8_isApart 0 0 24 _ := ok_seq (L := 113) (k := 4) q96 q98
  have q100 : gz_OkS M_X8_isApart 0 0 14 _ := ok_if q15 q16 q99
  have q101 : gz_OkS M_X8_isApart 0 0 14 lb_X8_isApart_14 := q100
  have q102 : gz_OkS M_X8_isApart 0 0 14 _ := ok_loop (k := 4) q101 rfl rfl
  have q103 : gz_OkS M_X8_isApart 0 0 122 (gz_sat 2) := ok_goto dX8_isApart_122 (by decide)
  have q104 : gz_OkS M_X8_isApart 0 0 119 _ := ok_inc (v := 1) dX8_isApart_119 kc_i1 (by decide) q103
  have q105 : gz_OkS M_X8_isApart 0 0 14 _ := ok_seq (L := 119) (k := 3) q102 q104
  have q106 : gz_OkS M_X8_isApart 0 0 12 _ := ok_seti_n (k := 3) q9 dX8_isApart_13 rfl (by decide) q105
  have q107 : gz_OkS M_X8_isApart 0 0 2 _ := ok_if q7 q8 q106
  have q108 : gz_OkS M_X8_isApart 0 0 2 lb_X8_isApart_2 := q107
  have q109 : gz_OkS M_X8_isApart 0 0 2 _ := ok_loop (k := 3) q108 rfl rfl
  have q110 : gz_OkE M_X8_isApart 0 0 0 125 126 _ := ok_iconst (v := 1) dX8_isApart_125 kc_i1
  have q111 : gz_OkS M_X8_isApart 0 0 125 _ := ok_ri q110 dX8_isApart_126
  have q112 : gz_OkS M_X8_isApart 0 0 2 _ := ok_seq (L := 125) (k := 0) q109 q111
  have q113 : gz_OkS M_X8_isApart 0 0 0 _ := ok_seti_n (k := 2) q1 dX8_isApart_1 rfl (by decide) q112
  have z : gz_OkS M_X8_isApart 0 0 0 sm_X8_isApart := q113
  exact gz_met (plainFor_of_name (by decide)) z (by decide) (by decide)
noncomputable def lb_X8_take_59 : gz_Sx := gz_if (gz_j2 (fun x y => decide (y ≤ x)) (gz_li 5) (gz_ald 100 (gz_get 8 48 11 (gz_la 0)) (gz_li 3))) (gz_sat 109) (gz_if (gz_j2 (fun x y => decide (y ≤ x)) (gz_ald 100 (gz_get 8 48 13 (gz_la 0)) (gz_ib (fun x y => x + y) (gz_ib (fun x y => x * y) (gz_i (4)) (gz_li 3)) (gz_li 5))) (gz_i (1))) (gz_seti 4 (gz_ib (fun x y => x + y) (gz_li 4) (gz_ald 100 (gz_get 8 48 13 (gz_la 0)) (gz_ib (fun x y => x + y) (gz_ib (fun x y => x * y) (gz_i (4)) (gz_li 3)) (gz_li 5)))) (gz_inc 5 (1) (gz_sat 59))) (gz_ri (gz_i (3))))
noncomputable def lb_X8_take_191 : gz_Sx := gz_if (gz_j2 (fun x y => decide (y ≤ x)) (gz_li 6) (gz_i (4))) (gz_sat 249) (gz_ast 100 (gz_get 8 48 12 (gz_la 0)) (gz_ib (fun x y => x + y) (gz_ib (fun x y => x * y) (gz_i (4)) (gz_li 5)) (gz_li 6)) (gz_ald 100 (gz_get 8 48 12 (gz_la 0)) (gz_ib (fun x y => x + y) (gz_ib (fun x y => x * y) (gz_i (4)) (gz_li 3)) (gz_li 6))) (gz_ast 100 (gz_get 8 48 13 (gz_la 0)) (gz_ib (fun x y => x + y) (gz_ib (fun x y => x * y) (gz_i (4)) (gz_li 5)) (gz_li 6)) (gz_ald 100 (gz_get 8 48 13 (gz_la 0)) (gz_ib (fun x y => x + y) (gz_ib (fun x y => x * y) (gz_i (4)) (gz_li 3)) (gz_li 6))) (gz_inc 6 (1) (gz_sat 191))))
noncomputable def sm_X8_take : gz_Sx := gz_if (gz_ja (gz_j1 (fun x => decide (x = 0)) (gz_cv 8 48 se_X8_isJunction (gz_a1 (gz_a1 (gz_a0) (gz_la 0)) (gz_li 1)))) (gz_ja (gz_j1 (fun x => decide (x = 0)) (gz_ald 101 (gz_get 8 48 9 (gz_la 0)) (gz_li 1))) (gz_j1 (fun x => decide (¬ x = 0)) (gz_cs se_X8_isIn (gz_a1 (gz_a1 (gz_a1 (gz_a0) (gz_li 2)) (gz_i (0))) (gz_ib (fun x y => x - y) (gz_ald 100 (gz_get 8 48 10 (gz_la 0)) (gz_li 1)) (gz_i (1)))))))) (gz_seti 3 (gz_li 1) (gz_if (gz_j2 (fun x y => decide (y ≤ x)) (gz_ald 100 (gz_get 8 48 11 (gz_la 0)) (gz_li 3)) (gz_i (2))) (gz_seti 4 (gz_cv 8 48 se_X8_betweens (gz_a1 (gz_a1 (gz_a0) (gz_la 0)) (gz_li 3))) (gz_seti 5 (gz_i (0)) (gz_seq 109 5 (gz_loop 59 6 lb_X8_take_59) (gz_if (gz_j2 (fun x y => decide (x = y)) (gz_li 4) (gz_ald 100 (gz_get 8 48 10 (gz_la 0)) (gz_li 3))) (gz_vv 8 48 se_X8_layOut (gz_a1 (gz_a1 (gz_a0) (gz_la 0)) (gz_li 3)) (gz_if (gz_j1 (fun x => decide (¬ x = 0)) (gz_cv 8 48 se_X8_hasLeast (gz_a1 (gz_a1 (gz_a0) (gz_la 0)) (gz_li 3)))) (gz_if (gz_j1 (fun x => decide (¬ x = 0)) (gz_cv 8 48 se_X8_isApart (gz_a1 (gz_a1 (gz_a0) (gz_la 0)) (gz_li 3)))) (gz_seti 5 (gz_ib (fun x y => x + y) (gz_i (8)) (gz_li 1)) (gz_ast 101 (gz_get 8 48 9 (gz_la 0)) (gz_li 5) (gz_i (1)) (gz_ast 100 (gz_get 8 48 10 (gz_la 0)) (gz_li 5) (gz_ald 100 (gz_get 8 48 10 (gz_la 0)) (gz_li 3)) (gz_ast 100 (gz_get 8 48 11 (gz_la 0)) (gz_li 5) (gz_ald 100 (gz_get 8 48 11 (gz_la 0)) (gz_li 3)) (gz_seti 6 (gz_i (0)) (gz_seq 249 6 (gz_loop 191 7 lb_X8_take_191) (gz_vv 8 48 se_X8_layOut (gz_a1 (gz_a1 (gz_a0) (gz_la 0)) (gz_li 5)) (gz_ast 101 (gz_get 8 48 9 (gz_la 0)) (gz_li 3) (gz_i (0)) (gz_ast 100 (gz_get 8 48 14 (gz_la 0)) (gz_li 5) (gz_li 2) (gz_ast 100 (gz_get 8 48 15 (gz_la 0)) (gz_li 1) (gz_ald 100 (gz_get 8 48 11 (gz_la 0)) (gz_li 5)) (gz_ast 101 (gz_get 8 48 17 (gz_la 0)) (gz_li 1) (gz_i (0)) (gz_seq 310 0 (gz_if (gz_j1 (fun x => decide (x ≤ 0)) (gz_get 8 48 1 (gz_la 0))) (gz_sat 310) (gz_ast 100 (gz_get 8 48 16 (gz_la 0)) (gz_li 1) (gz_ib (fun x y => x + y) (gz_get 8 48 1 (gz_la 0)) (gz_i (20))) (gz_sat 310))) (gz_ri (gz_i (0))))))))))))))) (gz_ri (gz_i (6)))) (gz_ri (gz_i (5))))) (gz_ri (gz_i (4))))))) (gz_ri (gz_i (2))))) (gz_ri (gz_i (1)))
noncomputable def se_X8_take : gz_Me := gz_sem (some .int) 7 sm_X8_take
abbrev rm_X8_take : Room := { frames := 4, cells := 0, slots := 0, locals := 101 }
abbrev M_X8_take : gz_Mi := (cX8_take, 7, RX8, 4, 101, "take", none)
theorem de_X8_take : yX8_take.cls ≠ "java/lang/invoke/MethodHandle" ∧ yX8_take.cls ≠ "java/lang/invoke/VarHandle" ∧ (parseMethodDescriptor yX8_take.desc).map (fun d => d.parameters.length) = some 2 := by decide +kernel
set_option maxRecDepth 100000 in
theorem mt_X8_take : gz_Mt yX8_take cX8_take 7 (some .int) rm_X8_take se_X8_take := by
  have q1 : gz_OkA M_X8_take 0 0 0 0 0 0 _ := ok_a0
  have q2 : gz_OkE M_X8_take 0 0 0 0 1 _ := ok_aload_n (i := 0) dX8_take_0 rfl
  have q3 : gz_OkA M_X8_take 0 0 0 0 1 1 _ := ok_a1 q1 q2
  have q4 : gz_OkE M_X8_take 2 0 0 1 2 _ := ok_iload_n (i := 1) dX8_take_1 rfl
  have q5 : gz_OkA M_X8_take 0 0 0 0 2 2 _ := ok_a1 q3 q4
  have q6 : gz_OkE M_X8_take 0 0 0 0 5 _ := ok_cv q5 mt_X8_isJunction cl_8 wd_761 wd_188 de_X8_isJunction (by decide) (by decide) wd_762 wd_763 wd_764 dX8_take_2 (by decide)
  have q7 : gz_OkJ M_X8_take 0 0 0 0 33 8 _ := ok_if_eq q6 dX8_take_5 (by decide)
  have q8 : gz_OkE M_X8_take 0 0 0 8 9 _ := ok_aload_n (i := 0) dX8_take_8 rfl
  have q9 : gz_OkE M_X8_take 0 0 0 8 12 _ := ok_get q8 cl_8 (k := 9) (by decide) in_8 wd_135 dX8_take_9
  have q10 : gz_OkE M_X8_take 1 0 0 12 13 _ := ok_iload_n (i := 1) dX8_take_12 rfl
  have q11 : gz_OkE M_X8_take 0 0 0 8 14 _ := ok_zald q9 q10 dX8_take_13
  have q12 : gz_OkJ M_X8_take 0 0 0 8 33 17 _ := ok_if_eq q11 dX8_take_14 (by decide)
  have q13 : gz_OkA M_X8_take 0 0 0 17 17 0 _ := ok_a0
  have q14 : gz_OkE M_X8_take 0 0 0 17 18 _ := ok_iload_n (i := 2) dX8_take_17 rfl
  have q15 : gz_OkA M_X8_take 0 0 0 17 18 1 _ := ok_a1 q13 q14
  have q16 : gz_OkE M_X8_take 2 0 0 18 19 _ := ok_iconst (v := 0) dX8_take_18 kc_i0
  have q17 : gz_OkA M_X8_take 0 0 0 17 19 2 _ := ok_a1 q15 q16
  have q18 : gz_OkE M_X8_take 4 0 0 19 20 _ := ok_aload_n (i := 0) dX8_take_19 rfl
  have q19 : gz_OkE M_X8_take 4 0 0 19 23 _ := ok_get q18 cl_8 (k := 10) (by decide) in_8 wd_136 dX8_take_20
  have q20 : gz_OkE M_X8_take 5 0 0 23 24 _ := ok_iload_n (i := 1) dX8_take_23 rfl
  have q21 : gz_OkE M_X8_take 4 0 0 19 25 _ := ok_iald q19 q20 dX8_take_24
  have q22 : gz_OkE M_X8_take 5 0 0 25 26 _ := ok_iconst (v := 1) dX8_take_25 kc_i1
  have q23 : gz_OkE M_X8_take 4 0 0 19 27 _ := ok_isub q21 q22 dX8_take_26
  have q24 : gz_OkA M_X8_take 0 0 0 17 27 3 _ := ok_a1 q17 q23
  have q25 : gz_OkE M_X8_take 0 0 0 17 30 _ := ok_cs q24 mt_X8_isIn wd_765 wd_188 de_X8_isIn (by decide) (by decide) wd_766 wd_767 dX8_take_27 (by decide)
  have q26 : gz_OkJ M_X8_take 0 0 0 17 35 33 _ := ok_if_ne q25 dX8_take_30 (by decide)
  have q27 : gz_OkJ M_X8_take 0 0 0 8 35 33 _ := ok_ja q12 q26
  have q28 : gz_OkJ M_X8_take 0 0 0 0 35 33 _ := ok_ja q7 q27
  have q29 : gz_OkE M_X8_take 0 0 0 35 36 _ := ok_iload_n (i := 1) dX8_take_35 rfl
  have q30 : gz_OkE M_X8_take 0 0 0 37 38 _ := ok_aload_n (i := 0) dX8_take_37 rfl
  have q31 : gz_OkE M_X8_take 0 0 0 37 41 _ := ok_get q30 cl_8 (k := 11) (by decide) in_8 wd_137 dX8_take_38
  have q32 : gz_OkE M_X8_take 1 0 0 41 42 _ := ok_iload_n (i := 3) dX8_take_41 rfl
  have q33 : gz_OkE M_X8_take 0 0 0 37 43 _ := ok_iald q31 q32 dX8_take_42
  have q34 : gz_OkE M_X8_take 1 0 0 43 44 _ := ok_iconst (v := 2) dX8_take_43 kc_i2
  have q35 : gz_OkJ M_X8_take 0 0 0 37 49 47 _ := ok_ic_ge q33 q34 dX8_take_44 (by decide)
  have q36 : gz_OkA M_X8_take 0 0 0 49 49 0 _ := ok_a0
  have q37 : gz_OkE M_X8_take 0 0 0 49 50 _ := ok_aload_n (i := 0) dX8_take_49 rfl
  have q38 : gz_OkA M_X8_take 0 0 0 49 50 1 _ := ok_a1 q36 q37
  have q39 : gz_OkE M_X8_take 2 0 0 50 51 _ := ok_iload_n (i := 3) dX8_take_50 rfl
  have q40 : gz_OkA M_X8_take 0 0 0 49 51 2 _ := ok_a1 q38 q39
  have q41 : gz_OkE M_X8_take 0 0 0 49 54 _ := ok_cv q40 mt_X8_betweens cl_8 wd_810 wd_188 de_X8_betweens (by decide) (by decide) wd_811 wd_812 wd_813 dX8_take_51 (by decide)
  have q42 : gz_OkE M_X8_take 0 0 0 56 57 _ := ok_iconst (v := 0) dX8_take_56 kc_i0
  have q43 : gz_OkE M_X8_take 0 0 0 59 61 _ := ok_iload (i := 5) dX8_take_59
  have q44 : gz_OkE M_X8_take 1 0 0 61 62 _ := ok_aload_n (i := 0) dX8_take_61 rfl
  have q45 : gz_OkE M_X8_take 1 0 0 61 65 _ := ok_get q44 cl_8 (k := 11) (by decide) in_8 wd_137 dX8_take_62
  have q46 : gz_OkE M_X8_take 2 0 0 65 66 _ := ok_iload_n (i := 3) dX8_take_65 rfl
  have q47 : gz_OkE M_X8_take 1 0 0 61 67 _ := ok_iald q45 q46 dX8_take_66
  have q48 : gz_OkJ M_X8_take 0 0 0 59 109 70 _ := ok_ic_ge q43 q47 dX8_take_67 (by decide)
  have q49 : gz_OkS M_X8_take 0 0 109 _ := ok_at
  have q50 : gz_OkE M_X8_take 0 0 0 70 71 _ := ok_aload_n (i := 0) dX8_take_70 rfl
  have q51 : gz_OkE M_X8_take 0 0 0 70 74 _ := ok_get q50 cl_8 (k := 13) (by decide) in_8 wd_139 dX8_take_71
  have q52 : gz_OkE M_X8_take 1 0 0 74 75 _ := ok_iconst (v := 4) dX8_take_74 kc_i4
  have q53 : gz_OkE M_X8_take 2 0 0 75 76 _ := ok_iload_n (i := 3) dX8_take_75 rfl
  have q54 : gz_OkE M_X8_take 1 0 0 74 77 _ := ok_imul q52 q53 dX8_take_76
  have q55 : gz_OkE M_X8_take 2 0 0 77 79 _ := ok_iload (i := 5) dX8_take_77
  have q56 : gz_OkE M_X8_take 1 0 0 74 80 _ := ok_iadd q54 q55 dX8_take_79
  have q57 : gz_OkE M_X8_take 0 0 0 70 81 _ := ok_iald q51 q56 dX8_take_80
  have q58 : gz_OkE M_X8_take 1 0 0 81 82 _ := ok_iconst (v := 1) dX8_take_81 kc_i1
  have q59 : gz_OkJ M_X8_take 0 0 0 70 87 85 _ := ok_ic_ge q57 q58 dX8_take_82 (by decide)
  have q60 : gz_OkE M_X8_take 0 0 0 87 89 _ := ok_iload (i := 4) dX8_take_87
  have q61 : gz_OkE M_X8_take 1 0 0 89 90 _ := ok_aload_n (i := 0) dX8_take_89 rfl
  have q62 : gz_OkE M_X8_take 1 0 0 89 93 _ := ok_get q61 cl_8 (k := 13) (by decide) in_8 wd_139 dX8_take_90
  have q63 : gz_OkE M_X8_take 2 0 0 93 94 _ := ok_iconst (v := 4) dX8_take_93 kc_i4
  have q64 : gz_OkE M_X8_take 3 0 0 94 95 _ := ok_iload_n (i := 3) dX8_take_94 rfl
  have q65 : gz_OkE M_X8_take 2 0 0 93 96 _ := ok_imul q63 q64 dX8_take_95
  have q66 : gz_OkE M_X8_take 3 0 0 96 98 _ := ok_iload (i := 5) dX8_take_96
  have q67 : gz_OkE M_X8_take 2 0 0 93 99 _ := ok_iadd q65 q66 dX8_take_98
  have q68 : gz_OkE M_X8_take 1 0 0 89 100 _ := ok_iald q62 q67 dX8_take_99
  have q69 : gz_OkE M_X8_take 0 0 0 87 101 _ := ok_iadd q60 q68 dX8_take_100
  have q70 : gz_OkS M_X8_take 0 0 106 (gz_sat 59) := ok_goto dX8_take_106 (by decide)
  have q71 : gz_OkS M_X8_take 0 0 103 _ := ok_inc (v := 1) dX8_take_103 kc_i1 (by decide) q70
  have q72 : gz_OkS M_X8_take 0 0 87 _ := ok_seti (k := 4) q69 dX8_take_101 (by decide) q71
  have q73 : gz_OkE M_X8_take 0 0 0 85 86 _ := ok_iconst (v := 3) dX8_take_85 kc_i3
  have q74 : gz_OkS M_X8_take 0 0 85 _ := ok_ri q73 dX8_take_86
  have q75 : gz_OkS M_X8_take 0 0 70 _ := ok_if q59 q72 q74
  have q76 : gz_OkS M_X8_take 0 0 59 _ := ok_if q48 q49 q75
  have q77 : gz_OkS M_X8_take 0 0 59 lb_X8_take_59 := q76
  have q78 : gz_OkS M_X8_take 0 0 59 _ := ok_loop (k := 6) q77 rfl rfl
  have q79 : gz_OkE M_X8_take 0 0 0 109 111 _ := ok_iload (i := 4) dX8_take_109
  have q80 : gz_OkE M_X8_take 1 0 0 111 112 _ := ok_aload_n (i := 0) dX8_take_111 rfl
  have q81 : gz_OkE M_X8_take 1 0 0 111 115 _ := ok_get q80 cl_8 (k := 10) (by decide) in_8 wd_136 dX8_take_112
  have q82 : gz_OkE M_X8_take 2 0 0 115 116 _ := ok_iload_n (i := 3) dX8_take_115 rfl
  have q83 : gz_OkE M_X8_take 1 0 0 111 117 _ := ok_iald q81 q82 dX8_take_116
  have q84 : gz_OkJ M_X8_take 0 0 0 109 122 120 _ := ok_ic_eq q79 q83 dX8_take_117 (by decide)
  have q85 : gz_OkA M_X8_take 0 0 0 122 122 0 _ := ok_a0
  have q86 : gz_OkE M_X8_take 0 0 0 122 123 _ := ok_aload_n (i := 0) dX8_take_122 rfl
  have q87 : gz_OkA M_X8_take 0 0 0 122 123 1 _ := ok_a1 q85 q86
  have q88 : gz_OkE M_X8_take 2 0 0 123 124 _ := ok_iload_n (i := 3) dX8_take_123 rfl
  have q89 : gz_OkA M_X8_take 0 0 0 122 124 2 _ := ok_a1 q87 q88
  have q90 : gz_OkA M_X8_take 0 0 0 127 127 0 _ := ok_a0
  have q91 : gz_OkE M_X8_take 0 0 0 127 128 _ := ok_aload_n (i := 0) dX8_take_127 rfl
  have q92 : gz_OkA M_X8_take 0 0 0 127 128 1 _ := ok_a1 q90 q91
  have q93 : gz_OkE M_X8_take 2 0 0 128 129 _ := ok_iload_n (i := 3) dX8_take_128 rfl
  have q94 : gz_OkA M_X8_take 0 0 0 127 129 2 _ := ok_a1 q92 q93
  have q95 : gz_OkE M_X8_take 0 0 0 127 132 _ := ok_cv q94 mt_X8_hasLeast cl_8 wd_814 wd_188 de_X8_hasLeast (by decide) (by decide) wd_815 wd_816 wd_817 dX8_take_129 (by decide)
  have q96 : gz_OkJ M_X8_take 0 0 0 127 137 135 _ := ok_if_ne q95 dX8_take_132 (by decide)
  have q97 : gz_OkA M_X8_take 0 0 0 137 137 0 _ := ok_a0
  have q98 : gz_OkE M_X8_take 0 0 0 137 138 _ := ok_aload_n (i := 0) dX8_take_137 rfl
  have q99 : gz_OkA M_X8_take 0 0 0 137 138 1 _ := ok_a1 q97 q98
  have q100 : gz_OkE M_X8_take 2 0 0 138 139 _ := ok_iload_n (i := 3) dX8_take_138 rfl
  have q101 : gz_OkA M_X8_take 0 0 0 137 139 2 _ := ok_a1 q99 q100
  have q102 : gz_OkE M_X8_take 0 0 0 137 142 _ := ok_cv q101 mt_X8_isApart cl_8 wd_818 wd_188 de_X8_isApart (by decide) (by decide) wd_819 wd_820 wd_821 dX8_take_139 (by decide)
  have q103 : gz_OkJ M_X8_take 0 0 0 137 148 145 _ := ok_if_ne q102 dX8_take_142 (by decide)
  have q104 : gz_OkE M_X8_take 0 0 0 148 150 _ := ok_bipush (v := 8) dX8_take_148 kc_b8
  have q105 : gz_OkE M_X8_take 1 0 0 150 151 _ := ok_iload_n (i := 1) dX8_take_150 rfl
  have q106 : gz_OkE M_X8_take 0 0 0 148 152 _ := ok_iadd q104 q105 dX8_take_151
  have q107 : gz_OkE M_X8_take 0 0 0 154 155 _ := ok_aload_n (i := 0) dX8_take_154 rfl
  have q108 : gz_OkE M_X8_take 0 0 0 154 158 _ := ok_get q107 cl_8 (k := 9) (by decide) in_8 wd_135 dX8_take_155
  have q109 : gz_OkE M_X8_take 1 0 0 158 160 _ := ok_iload (i := 5) dX8_take_158
  have q110 : gz_OkE M_X8_take 2 0 0 160 161 _ := ok_iconst (v := 1) dX8_take_160 kc_i1
  have q111 : gz_OkE M_X8_take 0 0 0 162 163 _ := ok_aload_n (i := 0) dX8_take_162 rfl
  have q112 : gz_OkE M_X8_take 0 0 0 162 166 _ := ok_get q111 cl_8 (k := 10) (by decide) in_8 wd_136 dX8_take_163
  have q113 : gz_OkE M_X8_take 1 0 0 166 168 _ := ok_iload (i := 5) dX8_take_166
  have q114 : gz_OkE M_X8_take 2 0 0 168 169 _ := ok_aload_n (i := 0) dX8_take_168 rfl
  have q115 : gz_OkE M_X8_take 2 0 0 168 172 _ := ok_get q114 cl_8 (k := 10) (by decide) in_8 wd_136 dX8_take_169
  have q116 : gz_OkE M_X8_take 3 0 0 172 173 _ := ok_iload_n (i := 3) dX8_take_172 rfl
  have q117 : gz_OkE M_X8_take 2 0 0 168 174 _ := ok_iald q115 q116 dX8_take_173
  have q118 : gz_OkE M_X8_take 0 0 0 175 176 _ := ok_aload_n (i := 0) dX8_take_175 rfl
  have q119 : gz_OkE M_X8_take 0 0 0 175 179 _ := ok_get q118 cl_8 (k := 11) (by decide) in_8 wd_137 dX8_take_176
  have q120 : gz_OkE M_X8_take 1 0 0 179 181 _ := ok_iload (i := 5) dX8_take_179
  have q121 : gz_OkE M_X8_take 2 0 0 181 182 _ := ok_aload_n (i := 0) dX8_take_181 rfl
  have q122 : gz_OkE M_X8_take 2 0 0 181 185 _ := ok_get q121 cl_8 (k := 11) (by decide) in_8 wd_137 dX8_take_182
  have q123 : gz_OkE M_X8_take 3 0 0 185 186 _ := ok_iload_n (i := 3) dX8_take_185 rfl
  have q124 : gz_OkE M_X8_take 2 0 0 181 187 _ := ok_iald q122 q123 dX8_take_186
  have q125 : gz_OkE M_X8_take 0 0 0 188 189 _ := ok_iconst (v := 0) dX8_take_188 kc_i0
  have q126 : gz_OkE M_X8_take 0 0 0 191 193 _ := ok_iload (i := 6) dX8_take_191
  have q127 : gz_OkE M_X8_take 1 0 0 193 194 _ := ok_iconst (v := 4) dX8_take_193 kc_i4
  have q128 : gz_OkJ M_X8_take 0 0 0 191 249 197 _ := ok_ic_ge q126 q127 dX8_take_194 (by decide)
  have q129 : gz_OkS M_X8_take 0 0 249 _ := ok_at
  have q130 : gz_OkE M_X8_take 0 0 0 197 198 _ := ok_aload_n (i := 0) dX8_take_197 rfl
  have q131 : gz_OkE M_X8_take 0 0 0 197 201 _ := ok_get q130 cl_8 (k := 12) (by decide) in_8 wd_138 dX8_take_198
  have q132 : gz_OkE M_X8_take 1 0 0 201 202 _ := ok_iconst (v := 4) dX8_take_201 kc_i4
  have q133 : gz_OkE M_X8_take 2 0 0 202 204 _ := ok_iload (i := 5) dX8_take_202
  have q134 : gz_OkE M_X8_take 1 0 0 201 205 _ := ok_imul q132 q133 dX8_take_204
  have q135 : gz_OkE M_X8_take 2 0 0 205 207 _ := ok_iload (i := 6) dX8_take_205
  have q136 : gz_OkE M_X8_take 1 0 0 201 208 _ := ok_iadd q134 q135 dX8_take_207
  have q137 : gz_OkE M_X8_take 2 0 0 208 209 _ := ok_aload_n (i := 0) dX8_take_208 rfl
  have q138 : gz_OkE M_X8_take 2 0 0 208 212 _ := ok_get q137 cl_8 (k := 12) (by decide) in_8 wd_138 dX8_take_209
  have q139 : gz_OkE M_X8_take 3 0 0 212 213 _ := ok_iconst (v := 4) dX8_take_212 kc_i4
  have q140 : gz_OkE M_X8_take 4 0 0 213 214 _ := ok_iload_n (i := 3) dX8_take_213 rfl
  have q141 : gz_OkE M_X8_take 3 0 0 212 215 _ := ok_imul q139 q140 dX8_take_214
  have q142 : gz_OkE M_X8_take 4 0 0 215 217 _ := ok_iload (i := 6) dX8_take_215
  have q143 : gz_OkE M_X8_take 3 0 0 212 218 _ := ok_iadd q141 q142 dX8_take_217
  have q144 : gz_OkE M_X8_take 2 0 0 208 219 _ := ok_iald q138 q143 dX8_take_218
  have q145 : gz_OkE M_X8_take 0 0 0 220 221 _ := ok_aload_n (i := 0) dX8_take_220 rfl
  have q146 : gz_OkE M_X8_take 0 0 0 220 224 _ := ok_get q145 cl_8 (k := 13) (by decide) in_8 wd_139 dX8_take_221
  have q147 : gz_OkE M_X8_take 1 0 0 224 225 _ := ok_iconst (v := 4) dX8_take_224 kc_i4
  have q148 : gz_OkE M_X8_take 2 0 0 225 227 _ := ok_iload (i := 5) dX8_take_225
  have q149 : gz_OkE M_X8_take 1 0 0 224 228 _ := ok_imul q147 q148 dX8_take_227
  have q150 : gz_OkE M_X8_take 2 0 0 228 230 _ := ok_iload (i := 6) dX8_take_228
  have q151 : gz_OkE M_X8_take 1 0 0 224 231 _ := ok_iadd q149 q150 dX8_take_230
  have q152 : gz_OkE M_X8_take 2 0 0 231 232 _ := ok_aload_n (i := 0) dX8_take_231 rfl
  have q153 : gz_OkE M_X8_take 2 0 0 231 235 _ := ok_get q152 cl_8 (k := 13) (by decide) in_8 wd_139 dX8_take_232
  have q154 : gz_OkE M_X8_take 3 0 0 235 236 _ := ok_iconst (v := 4) dX8_take_235 kc_i4
  have q155 : gz_OkE M_X8_take 4 0 0 236 237 _ := ok_iload_n (i := 3) dX8_take_236 rfl
  have q156 : gz_OkE M_X8_take 3 0 0 235 238 _ := ok_imul q154 q155 dX8_take_237
  have q157 : gz_OkE M_X8_take 4 0 0 238 240 _ := ok_iload (i := 6) dX8_take_238
  have q158 : gz_OkE M_X8_take 3 0 0 235 241 _ := ok_iadd q156 q157 dX8_take_240
  have q159 : gz_OkE M_X8_take 2 0 0 231 242 _ := ok_iald q153 q158 dX8_take_241
  have q160 : gz_OkS M_X8_take 0 0 246 (gz_sat 191) := ok_goto dX8_take_246 (by decide)
  have q161 : gz_OkS M_X8_take 0 0 243 _ := ok_inc (v := 1) dX8_take_243 kc_i1 (by decide) q160
  have q162 : gz_OkS M_X8_take 0 0 220 _ := ok_iast q146 q151 q159 dX8_take_242 q161
  have q163 : gz_OkS M_X8_take 0 0 197 _ := ok_iast q131 q136 q144 dX8_take_219 q162
  have q164 : gz_OkS M_X8_take 0 0 191 _ := ok_if q128 q129 q163
  have q165 : gz_OkS M_X8_take 0 0 191 lb_X8_take_191 := q164
  have q166 : gz_OkS M_X8_take 0 0 191 _ := ok_loop (k := 7) q165 rfl rfl
  have q167 : gz_OkA M_X8_take 0 0 0 249 249 0 _ := ok_a0
  have q168 : gz_OkE M_X8_take 0 0 0 249 250 _ := ok_aload_n (i := 0) dX8_take_249 rfl
  have q169 : gz_OkA M_X8_take 0 0 0 249 250 1 _ := ok_a1 q167 q168
  have q170 : gz_OkE M_X8_take 2 0 0 250 252 _ := ok_iload (i := 5) dX8_take_250
  have q171 : gz_OkA M_X8_take 0 0 0 249 252 2 _ := ok_a1 q169 q170
  have q172 : gz_OkE M_X8_take 0 0 0 255 256 _ := ok_aload_n (i := 0) dX8_take_255 rfl
  have q173 : gz_OkE M_X8_take 0 0 0 255 259 _ := ok_get q172 cl_8 (k := 9) (by decide) in_8 wd_135 dX8_take_256
  have q174 : gz_OkE M_X8_take 1 0 0 259 260 _ := ok_iload_n (i := 3) dX8_take_259 rfl
  have q175 : gz_OkE M_X8_take 2 0 0 260 261 _ := ok_iconst (v := 0) dX8_take_260 kc_i0
  have q176 : gz_OkE M_X8_take 0 0 0 262 263 _ := ok_aload_n (i := 0) dX8_take_262 rfl
  have q177 : gz_OkE M_X8_take 0 0 0 262 266 _ := ok_get q176 cl_8 (k := 14) (by decide) in_8 wd_140 dX8_take_263
  have q178 : gz_OkE M_X8_take 1 0 0 266 268 _ := ok_iload (i := 5) dX8_take_266
  have q179 : gz_OkE M_X8_take 2 0 0 268 269 _ := ok_iload_n (i := 2) dX8_take_268 rfl
  have q180 : gz_OkE M_X8_take 0 0 0 270 271 _ := ok_aload_n (i := 0) dX8_take_270 rfl
  have q181 : gz_OkE M_X8_take 0 0 0 270 274 _ := ok_get q180 cl_8 (k := 15) (by decide) in_8 wd_141 dX8_take_271
  have q182 : gz_OkE M_X8_take 1 0 0 274 275 _ := ok_iload_n (i := 1) dX8_take_274 rfl
  have q183 : gz_OkE M_X8_take 2 0 0 275 276 _ := ok_aload_n (i := 0) dX8_take_275 rfl
  have q184 : gz_OkE M_X8_take 2 0 0 275 279 _ := ok_get q183 cl_8 (k := 11) (by decide) in_8 wd_137 dX8_take_276
  have q185 : gz_OkE M_X8_take 3 0 0 279 281 _ := ok_iload (i := 5) dX8_take_279
  have q186 : gz_OkE M_X8_take 2 0 0 275 282 _ := ok_iald q184 q185 dX8_take_281
  have q187 : gz_OkE M_X8_take 0 0 0 283 284 _ := ok_aload_n (i := 0) dX8_take_283 rfl
  have q188 : gz_OkE M_X8_take 0 0 0 283 287 _ := ok_get q187 cl_8 (k := 17) (by decide) in_8 wd_143 dX8_take_284
  have q189 : gz_OkE M_X8_take 1 0 0 287 288 _ := ok_iload_n (i := 1) dX8_take_287 rfl
  have q190 : gz_OkE M_X8_take 2 0 0 288 289 _ := ok_iconst (v := 0) dX8_take_288 kc_i0
  have q191 : gz_OkE M_X8_take 0 0 0 290 291 _ := ok_aload_n (i := 0) dX8_take_290 rfl
  have q192 : gz_OkE M_X8_take 0 0 0 290 294 _ := ok_get q191 cl_8 (k := 1) (by decide) in_8 wd_171 dX8_take_291
  have q193 : gz_OkJ M_X8_take 0 0 0 290 310 297 _ := ok_if_le q192 dX8_take_294 (by decide)
  have q194 : gz_OkS M_X8_take 0 0 310 _ := ok_at
  have q195 : gz_OkE M_X8_take 0 0 0 297 298 _ := ok_aload_n (i := 0) dX8_take_297 rfl
  have q196 : gz_OkE M_X8_take 0 0 0 297 301 _ := ok_get q195 cl_8 (k := 16) (by decide) in_8 wd_142 dX8_take_298
  have q197 : gz_OkE M_X8_take 1 0 0 301 302 _ := ok_iload_n (i := 1) dX8_take_301 rfl
  have q198 : gz_OkE M_X8_take 2 0 0 302 303 _ := ok_aload_n (i := 0) dX8_take_302 rfl
  have q199 : gz_OkE M_X8_take 2 0 0 302 306 _ := ok_get q198 cl_8 (k := 1) (by decide) in_8 wd_171 dX8_take_303
  have q200 : gz_OkE M_X8_take 3 0 0 306 308 _ := ok_bipush (v := 20) dX8_take_306 kc_b20
  have q201 : gz_OkE M_X8_take 2 0 0 302 309 _ := ok_iadd q199 q200 dX8_take_308
  have q202 : gz_OkS M_X8_take 0 0 310 _ := ok_at
  have q203 : gz_OkS M_X8_take 0 0 297 _ := ok_iast q196 q197 q201 dX8_take_309 q202
  have q204 : gz_OkS M_X8_take 0 0 290 _ := ok_if q193 q194 q203
  have q205 : gz_OkE M_X8_take 0 0 0 310 311 _ := ok_iconst (v := 0) dX8_take_310 kc_i0
  have q206 : gz_OkS M_X8_take 0 0 310 _ := ok_ri q205 dX8_take_311
  have q207 : gz_OkS M_X8_take 0 0 290 _ := ok_seq (L := 310) (k := 0) q204 q206
  have q208 : gz_OkS M_X8_take 0 0 283 _ := ok_zast q188 q189 q190 dX8_take_289 q207
  have q209 : gz_OkS M_X8_take 0 0 270 _ := ok_iast q181 q182 q186 dX8_take_282 q208
  have q210 : gz_OkS M_X8_take 0 0 262 _ := ok_iast q177 q178 q179 dX8_take_269 q209
  have q211 : gz_OkS M_X8_take 0 0 255 _ := ok_zast q173 q174 q175 dX8_take_261 q210
  have q212 : gz_OkS M_X8_take 0 0 249 _ := ok_vv q171 mt_X8_layOut cl_8 wd_822 wd_188 de_X8_layOut (by decide) (by decide) wd_823 wd_824 wd_825 dX8_take_252 q211
  have q213 : gz_OkS M_X8_take 0 0 191 _ := ok_seq (L := 249) (k := 6) q166 q212
  have q214 : gz_OkS M_X8_take 0 0 188 _ := ok_seti (k := 6) q125 dX8_take_189 (by decide) q213
  have q215 : gz_OkS M_X8_take 0 0 175 _ := ok_iast q119 q120 q124 dX8_take_187 q214
  have q216 : gz_OkS M_X8_take 0 0 162 _ := ok_iast q112 q113 q117 dX8_take_174 q215
  have q217 : gz_OkS M_X8_take 0 0 154 _ := ok_zast q108 q109 q110 dX8_take_161 q216
  have q218 : gz_OkS M_X8_take 0 0 148 _ := ok_seti (k := 5) q106 dX8_take_152 (by decide) q217
  have q219 : gz_OkE M_X8_take 0 0 0 145 147 _ := ok_bipush (v := 6) dX8_take_145 kc_b6
  have q220 : gz_OkS M_X8_take 0 0 145 _ := ok_ri q219 dX8_take_147
  have q221 : gz_OkS M_X8_take 0 0 137 _ := ok_if q103 q218 q220
  have q222 : gz_OkE M_X8_take 0 0 0 135 136 _ := ok_iconst (v := 5) dX8_take_135 kc_i5
  have q223 : gz_OkS M_X8_take 0 0 135 _ := ok_ri q222 dX8_take_136
  have q224 : gz_OkS M_X8_take 0 0 127 _ := ok_if q96 q221 q223
  have q225 : gz_OkS M_X8_take 0 0 122 _ := ok_vv q89 mt_X8_layOut cl_8 wd_822 wd_188 de_X8_layOut (by decide) (by decide) wd_823 wd_824 wd_825 dX8_take_124 q224
  have q226 : gz_OkE M_X8_take 0 0 0 120 121 _ := ok_iconst (v := 4) dX8_take_120 kc_i4
  have q227 : gz_OkS M_X8_take 0 0 120 _ := ok_ri q226 dX8_take_121
  have q228 : gz_OkS M_X8_take 0 0 109 _ := ok_if q84 q225 q227
  have q229 : gz_OkS M_X8_take 0 0 59 _ := ok_seq (L := 109) (k := 5) q78 q228
  have q230 : gz_OkS M_X8_take 0 0 56 _ := ok_seti (k := 5) q42 dX8_take_57 (by decide) q229
  have q231 : gz_OkS M_X8_take 0 0 49 _ := ok_seti (k := 4) q41 dX8_take_54 (by decide) q230
  have q232 : gz_OkE M_X8_take 0 0 0 47 48 _ := ok_iconst (v := 2) dX8_take_47 kc_i2
  have q233 : gz_OkS M_X8_take 0 0 47 _ := ok_ri q232 dX8_take_48
  have q234 : gz_OkS M_X8_take 0 0 37 _ := ok_if q35 q231 q233
  have q235 : gz_OkS M_X8_take 0 0 35 _ := ok_seti_n (k := 3) q29 dX8_take_36 rfl (by decide) q234
  have q236 : gz_OkE M_X8_take 0 0 0 33 34 _ := ok_iconst (v := 1) dX8_take_33 kc_i1
  have q237 : gz_OkS M_X8_take 0 0 33 _ := ok_ri q236 dX8_take_34
  have q238 : gz_OkS M_X8_take 0 0 0 _ := ok_if q28 q235 q237
  have z : gz_OkS M_X8_take 0 0 0 sm_X8_take := q238
  exact gz_met (plainFor_of_name (by decide)) z (by decide) (by decide)
noncomputable def sm_X8_why : gz_Sx := gz_ri (gz_te (gz_j1 (fun x => decide (¬ x = 0)) (gz_get 8 48 18 (gz_la 0))) (gz_te (gz_j1 (fun x => decide (¬ x = 0)) (gz_li 1)) (gz_te (gz_j2 (fun x y => decide (¬ x = y)) (gz_li 1) (gz_i (1))) (gz_te (gz_j2 (fun x y => decide (¬ x = y)) (gz_li 1) (gz_i (2))) (gz_i (-1)) (gz_get 8 48 21 (gz_la 0))) (gz_get 8 48 20 (gz_la 0))) (gz_get 8 48 19 (gz_la 0))) (gz_i (-1)))
noncomputable def se_X8_why : gz_Me := gz_sem (some .int) 2 sm_X8_why
abbrev rm_X8_why : Room := { frames := 0, cells := 0, slots := 0, locals := 0 }
abbrev M_X8_why : gz_Mi := (cX8_why, 2, RX8, 0, 0, "why", none)
theorem de_X8_why : yX8_why.cls ≠ "java/lang/invoke/MethodHandle" ∧ yX8_why.cls ≠ "java/lang/invoke/VarHandle" ∧ (parseMethodDescriptor yX8_why.desc).map (fun d => d.parameters.length) = some 1 := by decide +kernel
set_option maxRecDepth 100000 in
theorem mt_X8_why : gz_Mt yX8_why cX8_why 2 (some .int) rm_X8_why se_X8_why := by
  have q1 : gz_OkE M_X8_why 0 0 0 0 1 _ := ok_aload_n (i := 0) dX8_why_0 rfl
  have q2 : gz_OkE M_X8_why 0 0 0 0 4 _ := ok_get q1 cl_8 (k := 18) (by decide) in_8 wd_172 dX8_why_1
  have q3 : gz_OkJ M_X8_why 0 0 0 0 11 7 _ := ok_if_ne q2 dX8_why_4 (by decide)
  have q4 : gz_OkE M_X8_why 0 0 0 7 8 _ := ok_iconst (v := -1) dX8_why_7 kc_im1
  have q5 : gz_OkE M_X8_why 0 0 0 7 47 _ := ok_eg q4 dX8_why_8 (by decide)
  have q6 : gz_OkE M_X8_why 0 0 0 11 12 _ := ok_iload_n (i := 1) dX8_why_11 rfl
  have q7 : gz_OkJ M_X8_why 0 0 0 11 22 15 _ := ok_if_ne q6 dX8_why_12 (by decide)
  have q8 : gz_OkE M_X8_why 0 0 0 15 16 _ := ok_aload_n (i := 0) dX8_why_15 rfl
  have q9 : gz_OkE M_X8_why 0 0 0 15 19 _ := ok_get q8 cl_8 (k := 19) (by decide) in_8 wd_144 dX8_why_16
  have q10 : gz_OkE M_X8_why 0 0 0 15 47 _ := ok_eg q9 dX8_why_19 (by decide)
  have q11 : gz_OkE M_X8_why 0 0 0 22 23 _ := ok_iload_n (i := 1) dX8_why_22 rfl
  have q12 : gz_OkE M_X8_why 1 0 0 23 24 _ := ok_iconst (v := 1) dX8_why_23 kc_i1
  have q13 : gz_OkJ M_X8_why 0 0 0 22 34 27 _ := ok_ic_ne q11 q12 dX8_why_24 (by decide)
  have q14 : gz_OkE M_X8_why 0 0 0 27 28 _ := ok_aload_n (i := 0) dX8_why_27 rfl
  have q15 : gz_OkE M_X8_why 0 0 0 27 31 _ := ok_get q14 cl_8 (k := 20) (by decide) in_8 wd_145 dX8_why_28
  have q16 : gz_OkE M_X8_why 0 0 0 27 47 _ := ok_eg q15 dX8_why_31 (by decide)
  have q17 : gz_OkE M_X8_why 0 0 0 34 35 _ := ok_iload_n (i := 1) dX8_why_34 rfl
  have q18 : gz_OkE M_X8_why 1 0 0 35 36 _ := ok_iconst (v := 2) dX8_why_35 kc_i2
  have q19 : gz_OkJ M_X8_why 0 0 0 34 46 39 _ := ok_ic_ne q17 q18 dX8_why_36 (by decide)
  have q20 : gz_OkE M_X8_why 0 0 0 39 40 _ := ok_aload_n (i := 0) dX8_why_39 rfl
  have q21 : gz_OkE M_X8_why 0 0 0 39 43 _ := ok_get q20 cl_8 (k := 21) (by decide) in_8 wd_146 dX8_why_40
  have q22 : gz_OkE M_X8_why 0 0 0 39 47 _ := ok_eg q21 dX8_why_43 (by decide)
  have q23 : gz_OkE M_X8_why 0 0 0 46 47 _ := ok_iconst (v := -1) dX8_why_46 kc_im1
  have q24 : gz_OkE M_X8_why 0 0 0 34 47 _ := ok_te2 q19 q22 q23
  have q25 : gz_OkE M_X8_why 0 0 0 22 47 _ := ok_te2 q13 q16 q24
  have q26 : gz_OkE M_X8_why 0 0 0 11 47 _ := ok_te2 q7 q10 q25
  have q27 : gz_OkE M_X8_why 0 0 0 0 47 _ := ok_te2 q3 q5 q26
  have q28 : gz_OkS M_X8_why 0 0 0 _ := ok_ri q27 dX8_why_47
  have z : gz_OkS M_X8_why 0 0 0 sm_X8_why := q28
  exact gz_met (plainFor_of_name (by decide)) z (by decide) (by decide)
noncomputable def sm_X8_told : gz_Sx := gz_if (gz_ja (gz_j1 (fun x => decide (x = 0)) (gz_cv 8 48 se_X8_isJunction (gz_a1 (gz_a1 (gz_a0) (gz_la 0)) (gz_li 1)))) (gz_j1 (fun x => decide (¬ x = 0)) (gz_ald 101 (gz_get 8 48 9 (gz_la 0)) (gz_ib (fun x y => x + y) (gz_i (8)) (gz_li 1))))) (gz_seti 3 (gz_ib (fun x y => x + y) (gz_i (8)) (gz_li 1)) (gz_seti 4 (gz_iz (fun x y => x - x / y * y) (gz_li 2) (gz_i (10))) (gz_if (gz_j1 (fun x => decide (¬ x = 0)) (gz_li 2)) (gz_if (gz_j2 (fun x y => decide (¬ x = y)) (gz_li 2) (gz_i (1))) (gz_if (gz_j2 (fun x y => decide (¬ x = y)) (gz_li 2) (gz_i (2))) (gz_if (gz_j2 (fun x y => decide (¬ x = y)) (gz_li 2) (gz_i (3))) (gz_if (gz_ja (gz_j2 (fun x y => decide (x < y)) (gz_li 2) (gz_i (10))) (gz_ja (gz_j2 (fun x y => decide (y < x)) (gz_li 2) (gz_i (39))) (gz_j2 (fun x y => decide (x < y)) (gz_li 4) (gz_ald 100 (gz_get 8 48 11 (gz_la 0)) (gz_li 3))))) (gz_if (gz_j2 (fun x y => decide (y ≤ x)) (gz_li 2) (gz_i (20))) (gz_ri (gz_te (gz_j2 (fun x y => decide (x ≤ y)) (gz_li 2) (gz_i (29))) (gz_te (gz_j2 (fun x y => decide (y ≤ x)) (gz_li 4) (gz_ald 100 (gz_get 8 48 15 (gz_la 0)) (gz_li 1))) (gz_i (-1)) (gz_ald 100 (gz_get 8 48 13 (gz_la 0)) (gz_ib (fun x y => x + y) (gz_ib (fun x y => x * y) (gz_i (4)) (gz_li 3)) (gz_li 4)))) (gz_cv 8 48 se_X8_between (gz_a1 (gz_a1 (gz_a1 (gz_a0) (gz_la 0)) (gz_li 3)) (gz_li 4))))) (gz_ri (gz_ald 100 (gz_get 8 48 12 (gz_la 0)) (gz_ib (fun x y => x + y) (gz_ib (fun x y => x * y) (gz_i (4)) (gz_li 3)) (gz_li 4))))) (gz_ri (gz_i (-1)))) (gz_ri (gz_cv 8 48 se_X8_betweens (gz_a1 (gz_a1 (gz_a0) (gz_la 0)) (gz_li 3))))) (gz_ri (gz_ald 100 (gz_get 8 48 11 (gz_la 0)) (gz_li 3)))) (gz_ri (gz_ald 100 (gz_get 8 48 14 (gz_la 0)) (gz_li 3)))) (gz_ri (gz_ald 100 (gz_get 8 48 10 (gz_la 0)) (gz_li 3)))))) (gz_ri (gz_i (-1)))
noncomputable def se_X8_told : gz_Me := gz_sem (some .int) 5 sm_X8_told
abbrev rm_X8_told : Room := { frames := 4, cells := 0, slots := 0, locals := 97 }
abbrev M_X8_told : gz_Mi := (cX8_told, 5, RX8, 4, 97, "told", none)
theorem de_X8_told : yX8_told.cls ≠ "java/lang/invoke/MethodHandle" ∧ yX8_told.cls ≠ "java/lang/invoke/VarHandle" ∧ (parseMethodDescriptor yX8_told.desc).map (fun d => d.parameters.length) = some 2 := by decide +kernel
set_option maxRecDepth 100000 in
theorem mt_X8_told : gz_Mt yX8_told cX8_told 5 (some .int) rm_X8_told se_X8_told := by
  have q1 : gz_OkA M_X8_told 0 0 0 0 0 0 _ := ok_a0
  have q2 : gz_OkE M_X8_told 0 0 0 0 1 _ := ok_aload_n (i := 0) dX8_told_0 rfl
  have q3 : gz_OkA M_X8_told 0 0 0 0 1 1 _ := ok_a1 q1 q2
  have q4 : gz_OkE M_X8_told 2 0 0 1 2 _ := ok_iload_n (i := 1) dX8_told_1 rfl
  have q5 : gz_OkA M_X8_told 0 0 0 0 2 2 _ := ok_a1 q3 q4
  have q6 : gz_OkE M_X8_told 0 0 0 0 5 _ := ok_cv q5 mt_X8_isJunction cl_8 wd_761 wd_188 de_X8_isJunction (by decide) (by decide) wd_762 wd_763 wd_764 dX8_told_2 (by decide)
  have q7 : gz_OkJ M_X8_told 0 0 0 0 20 8 _ := ok_if_eq q6 dX8_told_5 (by decide)
  have q8 : gz_OkE M_X8_told 0 0 0 8 9 _ := ok_aload_n (i := 0) dX8_told_8 rfl
  have q9 : gz_OkE M_X8_told 0 0 0 8 12 _ := ok_get q8 cl_8 (k := 9) (by decide) in_8 wd_135 dX8_told_9
  have q10 : gz_OkE M_X8_told 1 0 0 12 14 _ := ok_bipush (v := 8) dX8_told_12 kc_b8
  have q11 : gz_OkE M_X8_told 2 0 0 14 15 _ := ok_iload_n (i := 1) dX8_told_14 rfl
  have q12 : gz_OkE M_X8_told 1 0 0 12 16 _ := ok_iadd q10 q11 dX8_told_15
  have q13 : gz_OkE M_X8_told 0 0 0 8 17 _ := ok_zald q9 q12 dX8_told_16
  have q14 : gz_OkJ M_X8_told 0 0 0 8 22 20 _ := ok_if_ne q13 dX8_told_17 (by decide)
  have q15 : gz_OkJ M_X8_told 0 0 0 0 22 20 _ := ok_ja q7 q14
  have q16 : gz_OkE M_X8_told 0 0 0 22 24 _ := ok_bipush (v := 8) dX8_told_22 kc_b8
  have q17 : gz_OkE M_X8_told 1 0 0 24 25 _ := ok_iload_n (i := 1) dX8_told_24 rfl
  have q18 : gz_OkE M_X8_told 0 0 0 22 26 _ := ok_iadd q16 q17 dX8_told_25
  have q19 : gz_OkE M_X8_told 0 0 0 27 28 _ := ok_iload_n (i := 2) dX8_told_27 rfl
  have q20 : gz_OkE M_X8_told 1 0 0 28 30 _ := ok_bipush (v := 10) dX8_told_28 kc_b10
  have q21 : gz_OkE M_X8_told 0 0 0 27 31 _ := ok_irem q19 q20 dX8_told_30
  have q22 : gz_OkE M_X8_told 0 0 0 33 34 _ := ok_iload_n (i := 2) dX8_told_33 rfl
  have q23 : gz_OkJ M_X8_told 0 0 0 33 44 37 _ := ok_if_ne q22 dX8_told_34 (by decide)
  have q24 : gz_OkE M_X8_told 0 0 0 44 45 _ := ok_iload_n (i := 2) dX8_told_44 rfl
  have q25 : gz_OkE M_X8_told 1 0 0 45 46 _ := ok_iconst (v := 1) dX8_told_45 kc_i1
  have q26 : gz_OkJ M_X8_told 0 0 0 44 56 49 _ := ok_ic_ne q24 q25 dX8_told_46 (by decide)
  have q27 : gz_OkE M_X8_told 0 0 0 56 57 _ := ok_iload_n (i := 2) dX8_told_56 rfl
  have q28 : gz_OkE M_X8_told 1 0 0 57 58 _ := ok_iconst (v := 2) dX8_told_57 kc_i2
  have q29 : gz_OkJ M_X8_told 0 0 0 56 68 61 _ := ok_ic_ne q27 q28 dX8_told_58 (by decide)
  have q30 : gz_OkE M_X8_told 0 0 0 68 69 _ := ok_iload_n (i := 2) dX8_told_68 rfl
  have q31 : gz_OkE M_X8_told 1 0 0 69 70 _ := ok_iconst (v := 3) dX8_told_69 kc_i3
  have q32 : gz_OkJ M_X8_told 0 0 0 68 79 73 _ := ok_ic_ne q30 q31 dX8_told_70 (by decide)
  have q33 : gz_OkE M_X8_told 0 0 0 79 80 _ := ok_iload_n (i := 2) dX8_told_79 rfl
  have q34 : gz_OkE M_X8_told 1 0 0 80 82 _ := ok_bipush (v := 10) dX8_told_80 kc_b10
  have q35 : gz_OkJ M_X8_told 0 0 0 79 102 85 _ := ok_ic_lt q33 q34 dX8_told_82 (by decide)
  have q36 : gz_OkE M_X8_told 0 0 0 85 86 _ := ok_iload_n (i := 2) dX8_told_85 rfl
  have q37 : gz_OkE M_X8_told 1 0 0 86 88 _ := ok_bipush (v := 39) dX8_told_86 kc_b39
  have q38 : gz_OkJ M_X8_told 0 0 0 85 102 91 _ := ok_ic_gt q36 q37 dX8_told_88 (by decide)
  have q39 : gz_OkE M_X8_told 0 0 0 91 93 _ := ok_iload (i := 4) dX8_told_91
  have q40 : gz_OkE M_X8_told 1 0 0 93 94 _ := ok_aload_n (i := 0) dX8_told_93 rfl
  have q41 : gz_OkE M_X8_told 1 0 0 93 97 _ := ok_get q40 cl_8 (k := 11) (by decide) in_8 wd_137 dX8_told_94
  have q42 : gz_OkE M_X8_told 2 0 0 97 98 _ := ok_iload_n (i := 3) dX8_told_97 rfl
  have q43 : gz_OkE M_X8_told 1 0 0 93 99 _ := ok_iald q41 q42 dX8_told_98
  have q44 : gz_OkJ M_X8_told 0 0 0 91 104 102 _ := ok_ic_lt q39 q43 dX8_told_99 (by decide)
  have q45 : gz_OkJ M_X8_told 0 0 0 85 104 102 _ := ok_ja q38 q44
  have q46 : gz_OkJ M_X8_told 0 0 0 79 104 102 _ := ok_ja q35 q45
  have q47 : gz_OkE M_X8_told 0 0 0 104 105 _ := ok_iload_n (i := 2) dX8_told_104 rfl
  have q48 : gz_OkE M_X8_told 1 0 0 105 107 _ := ok_bipush (v := 20) dX8_told_105 kc_b20
  have q49 : gz_OkJ M_X8_told 0 0 0 104 122 110 _ := ok_ic_ge q47 q48 dX8_told_107 (by decide)
  have q50 : gz_OkE M_X8_told 0 0 0 122 123 _ := ok_iload_n (i := 2) dX8_told_122 rfl
  have q51 : gz_OkE M_X8_told 1 0 0 123 125 _ := ok_bipush (v := 29) dX8_told_123 kc_b29
  have q52 : gz_OkJ M_X8_told 0 0 0 122 138 128 _ := ok_ic_le q50 q51 dX8_told_125 (by decide)
  have q53 : gz_OkA M_X8_told 0 0 0 128 128 0 _ := ok_a0
  have q54 : gz_OkE M_X8_told 0 0 0 128 129 _ := ok_aload_n (i := 0) dX8_told_128 rfl
  have q55 : gz_OkA M_X8_told 0 0 0 128 129 1 _ := ok_a1 q53 q54
  have q56 : gz_OkE M_X8_told 2 0 0 129 130 _ := ok_iload_n (i := 3) dX8_told_129 rfl
  have q57 : gz_OkA M_X8_told 0 0 0 128 130 2 _ := ok_a1 q55 q56
  have q58 : gz_OkE M_X8_told 4 0 0 130 132 _ := ok_iload (i := 4) dX8_told_130
  have q59 : gz_OkA M_X8_told 0 0 0 128 132 3 _ := ok_a1 q57 q58
  have q60 : gz_OkE M_X8_told 0 0 0 128 135 _ := ok_cv q59 mt_X8_between cl_8 wd_797 wd_188 de_X8_between (by decide) (by decide) wd_798 wd_799 wd_800 dX8_told_132 (by decide)
  have q61 : gz_OkE M_X8_told 0 0 0 128 164 _ := ok_eg q60 dX8_told_135 (by decide)
  have q62 : gz_OkE M_X8_told 0 0 0 138 140 _ := ok_iload (i := 4) dX8_told_138
  have q63 : gz_OkE M_X8_told 1 0 0 140 141 _ := ok_aload_n (i := 0) dX8_told_140 rfl
  have q64 : gz_OkE M_X8_told 1 0 0 140 144 _ := ok_get q63 cl_8 (k := 15) (by decide) in_8 wd_141 dX8_told_141
  have q65 : gz_OkE M_X8_told 2 0 0 144 145 _ := ok_iload_n (i := 1) dX8_told_144 rfl
  have q66 : gz_OkE M_X8_told 1 0 0 140 146 _ := ok_iald q64 q65 dX8_told_145
  have q67 : gz_OkJ M_X8_told 0 0 0 138 163 149 _ := ok_ic_ge q62 q66 dX8_told_146 (by decide)
  have q68 : gz_OkE M_X8_told 0 0 0 149 150 _ := ok_aload_n (i := 0) dX8_told_149 rfl
  have q69 : gz_OkE M_X8_told 0 0 0 149 153 _ := ok_get q68 cl_8 (k := 13) (by decide) in_8 wd_139 dX8_told_150
  have q70 : gz_OkE M_X8_told 1 0 0 153 154 _ := ok_iconst (v := 4) dX8_told_153 kc_i4
  have q71 : gz_OkE M_X8_told 2 0 0 154 155 _ := ok_iload_n (i := 3) dX8_told_154 rfl
  have q72 : gz_OkE M_X8_told 1 0 0 153 156 _ := ok_imul q70 q71 dX8_told_155
  have q73 : gz_OkE M_X8_told 2 0 0 156 158 _ := ok_iload (i := 4) dX8_told_156
  have q74 : gz_OkE M_X8_told 1 0 0 153 159 _ := ok_iadd q72 q73 dX8_told_158
  have q75 : gz_OkE M_X8_told 0 0 0 149 160 _ := ok_iald q69 q74 dX8_told_159
  have q76 : gz_OkE M_X8_told 0 0 0 149 164 _ := ok_eg q75 dX8_told_160 (by decide)
  have q77 : gz_OkE M_X8_told 0 0 0 163 164 _ := ok_iconst (v := -1) dX8_told_163 kc_im1
  have q78 : gz_OkE M_X8_told 0 0 0 138 164 _ := ok_te2 q67 q76 q77
  have q79 : gz_OkE M_X8_told 0 0 0 122 164 _ := ok_te2 q52 q61 q78
  have q80 : gz_OkS M_X8_told 0 0 122 _ := ok_ri q79 dX8_told_164
  have q81 : gz_OkE M_X8_told 0 0 0 110 111 _ := ok_aload_n (i := 0) dX8_told_110 rfl
  have q82 : gz_OkE M_X8_told 0 0 0 110 114 _ := ok_get q81 cl_8 (k := 12) (by decide) in_8 wd_138 dX8_told_111
  have q83 : gz_OkE M_X8_told 1 0 0 114 115 _ := ok_iconst (v := 4) dX8_told_114 kc_i4
  have q84 : gz_OkE M_X8_told 2 0 0 115 116 _ := ok_iload_n (i := 3) dX8_told_115 rfl
  have q85 : gz_OkE M_X8_told 1 0 0 114 117 _ := ok_imul q83 q84 dX8_told_116
  have q86 : gz_OkE M_X8_told 2 0 0 117 119 _ := ok_iload (i := 4) dX8_told_117
  have q87 : gz_OkE M_X8_told 1 0 0 114 120 _ := ok_iadd q85 q86 dX8_told_119
  have q88 : gz_OkE M_X8_told 0 0 0 110 121 _ := ok_iald q82 q87 dX8_told_120
  have q89 : gz_OkS M_X8_told 0 0 110 _ := ok_ri q88 dX8_told_121
  have q90 : gz_OkS M_X8_told 0 0 104 _ := ok_if q49 q80 q89
  have q91 : gz_OkE M_X8_told 0 0 0 102 103 _ := ok_iconst (v := -1) dX8_told_102 kc_im1
  have q92 : gz_OkS M_X8_told 0 0 102 _ := ok_ri q91 dX8_told_103
  have q93 : gz_OkS M_X8_told 0 0 79 _ := ok_if q46 q90 q92
  have q94 : gz_OkA M_X8_told 0 0 0 73 73 0 _ := ok_a0
  have q95 : gz_OkE M_X8_told 0 0 0 73 74 _ := ok_aload_n (i := 0) dX8_told_73 rfl
  have q96 : gz_OkA M_X8_told 0 0 0 73 74 1 _ := ok_a1 q94 q95
  have q97 : gz_OkE M_X8_told 2 0 0 74 75 _ := ok_iload_n (i := 3) dX8_told_74 rfl
  have q98 : gz_OkA M_X8_told 0 0 0 73 75 2 _ := ok_a1 q96 q97
  have q99 : gz_OkE M_X8_told 0 0 0 73 78 _ := ok_cv q98 mt_X8_betweens cl_8 wd_810 wd_188 de_X8_betweens (by decide) (by decide) wd_811 wd_812 wd_813 dX8_told_75 (by decide)
  have q100 : gz_OkS M_X8_told 0 0 73 _ := ok_ri q99 dX8_told_78
  have q101 : gz_OkS M_X8_told 0 0 68 _ := ok_if q32 q93 q100
  have q102 : gz_OkE M_X8_told 0 0 0 61 62 _ := ok_aload_n (i := 0) dX8_told_61 rfl
  have q103 : gz_OkE M_X8_told 0 0 0 61 65 _ := ok_get q102 cl_8 (k := 11) (by decide) in_8 wd_137 dX8_told_62
  have q104 : gz_OkE M_X8_told 1 0 0 65 66 _ := ok_iload_n (i := 3) dX8_told_65 rfl
  have q105 : gz_OkE M_X8_told 0 0 0 61 67 _ := ok_iald q103 q104 dX8_told_66
  have q106 : gz_OkS M_X8_told 0 0 61 _ := ok_ri q105 dX8_told_67
  have q107 : gz_OkS M_X8_told 0 0 56 _ := ok_if q29 q101 q106
  have q108 : gz_OkE M_X8_told 0 0 0 49 50 _ := ok_aload_n (i := 0) dX8_told_49 rfl
  have q109 : gz_OkE M_X8_told 0 0 0 49 53 _ := ok_get q108 cl_8 (k := 14) (by decide) in_8 wd_140 dX8_told_50
  have q110 : gz_OkE M_X8_told 1 0 0 53 54 _ := ok_iload_n (i := 3) dX8_told_53 rfl
  have q111 : gz_OkE M_X8_told 0 0 0 49 55 _ := ok_iald q109 q110 dX8_told_54
  have q112 : gz_OkS M_X8_told 0 0 49 _ := ok_ri q111 dX8_told_55
  have q113 : gz_OkS M_X8_told 0 0 44 _ := ok_if q26 q107 q112
  have q114 : gz_OkE M_X8_told 0 0 0 37 38 _ := ok_aload_n (i := 0) dX8_told_37 rfl
  have q115 : gz_OkE M_X8_told 0 0 0 37 41 _ := ok_get q114 cl_8 (k := 10) (by decide) in_8 wd_136 dX8_told_38
  have q116 : gz_OkE M_X8_told 1 0 0 41 42 _ := ok_iload_n (i := 3) dX8_told_41 rfl
  have q117 : gz_OkE M_X8_told 0 0 0 37 43 _ := ok_iald q115 q116 dX8_told_42
  have q118 : gz_OkS M_X8_told 0 0 37 _ := ok_ri q117 dX8_told_43
  have q119 : gz_OkS M_X8_told 0 0 33 _ := ok_if q23 q113 q118
  have q120 : gz_OkS M_X8_told 0 0 27 _ := ok_seti (k := 4) q21 dX8_told_31 (by decide) q119
  have q121 : gz_OkS M_X8_told 0 0 22 _ := ok_seti_n (k := 3) q18 dX8_told_26 rfl (by decide) q120
  have q122 : gz_OkE M_X8_told 0 0 0 20 21 _ := ok_iconst (v := -1) dX8_told_20 kc_im1
  have q123 : gz_OkS M_X8_told 0 0 20 _ := ok_ri q122 dX8_told_21
  have q124 : gz_OkS M_X8_told 0 0 0 _ := ok_if q15 q121 q123
  have z : gz_OkS M_X8_told 0 0 0 sm_X8_told := q124
  exact gz_met (plainFor_of_name (by decide)) z (by decide) (by decide)
noncomputable def sm_X8_offset : gz_Sx := gz_if (gz_ja (gz_j1 (fun x => decide (x = 0)) (gz_cv 8 48 se_X8_isJunction (gz_a1 (gz_a1 (gz_a0) (gz_la 0)) (gz_li 1)))) (gz_ja (gz_j1 (fun x => decide (x = 0)) (gz_ald 101 (gz_get 8 48 9 (gz_la 0)) (gz_ib (fun x y => x + y) (gz_i (8)) (gz_li 1)))) (gz_ja (gz_j1 (fun x => decide (x = 0)) (gz_cs se_X8_isIn (gz_a1 (gz_a1 (gz_a1 (gz_a0) (gz_li 2)) (gz_i (0))) (gz_ib (fun x y => x - y) (gz_ald 100 (gz_get 8 48 10 (gz_la 0)) (gz_ib (fun x y => x + y) (gz_i (8)) (gz_li 1))) (gz_i (1)))))) (gz_j2 (fun x y => decide (¬ x = y)) (gz_ald 100 (gz_get 8 48 14 (gz_la 0)) (gz_ib (fun x y => x + y) (gz_i (8)) (gz_li 1))) (gz_li 2))))) (gz_ast 100 (gz_get 8 48 14 (gz_la 0)) (gz_ib (fun x y => x + y) (gz_i (8)) (gz_li 1)) (gz_li 2) (gz_seq 84 0 (gz_if (gz_j1 (fun x => decide (x ≤ 0)) (gz_get 8 48 1 (gz_la 0))) (gz_sat 84) (gz_ast 100 (gz_get 8 48 16 (gz_la 0)) (gz_li 1) (gz_ib (fun x y => x + y) (gz_get 8 48 1 (gz_la 0)) (gz_i (20))) (gz_sat 84))) (gz_ri (gz_i (1))))) (gz_ri (gz_i (0)))
noncomputable def se_X8_offset : gz_Me := gz_sem (some .boolean) 3 sm_X8_offset
abbrev rm_X8_offset : Room := { frames := 1, cells := 0, slots := 0, locals := 22 }
abbrev M_X8_offset : gz_Mi := (cX8_offset, 3, RX8, 1, 22, "offset", none)
theorem de_X8_offset : yX8_offset.cls ≠ "java/lang/invoke/MethodHandle" ∧ yX8_offset.cls ≠ "java/lang/invoke/VarHandle" ∧ (parseMethodDescriptor yX8_offset.desc).map (fun d => d.parameters.length) = some 2 := by decide +kernel
set_option maxRecDepth 100000 in
theorem mt_X8_offset : gz_Mt yX8_offset cX8_offset 3 (some .boolean) rm_X8_offset se_X8_offset := by
  have q1 : gz_OkA M_X8_offset 0 0 0 0 0 0 _ := ok_a0
  have q2 : gz_OkE M_X8_offset 0 0 0 0 1 _ := ok_aload_n (i := 0) dX8_offset_0 rfl
  have q3 : gz_OkA M_X8_offset 0 0 0 0 1 1 _ := ok_a1 q1 q2
  have q4 : gz_OkE M_X8_offset 2 0 0 1 2 _ := ok_iload_n (i := 1) dX8_offset_1 rfl
  have q5 : gz_OkA M_X8_offset 0 0 0 0 2 2 _ := ok_a1 q3 q4
  have q6 : gz_OkE M_X8_offset 0 0 0 0 5 _ := ok_cv q5 mt_X8_isJunction cl_8 wd_761 wd_188 de_X8_isJunction (by decide) (by decide) wd_762 wd_763 wd_764 dX8_offset_2 (by decide)
  have q7 : gz_OkJ M_X8_offset 0 0 0 0 52 8 _ := ok_if_eq q6 dX8_offset_5 (by decide)
  have q8 : gz_OkE M_X8_offset 0 0 0 8 9 _ := ok_aload_n (i := 0) dX8_offset_8 rfl
  have q9 : gz_OkE M_X8_offset 0 0 0 8 12 _ := ok_get q8 cl_8 (k := 9) (by decide) in_8 wd_135 dX8_offset_9
  have q10 : gz_OkE M_X8_offset 1 0 0 12 14 _ := ok_bipush (v := 8) dX8_offset_12 kc_b8
  have q11 : gz_OkE M_X8_offset 2 0 0 14 15 _ := ok_iload_n (i := 1) dX8_offset_14 rfl
  have q12 : gz_OkE M_X8_offset 1 0 0 12 16 _ := ok_iadd q10 q11 dX8_offset_15
  have q13 : gz_OkE M_X8_offset 0 0 0 8 17 _ := ok_zald q9 q12 dX8_offset_16
  have q14 : gz_OkJ M_X8_offset 0 0 0 8 52 20 _ := ok_if_eq q13 dX8_offset_17 (by decide)
  have q15 : gz_OkA M_X8_offset 0 0 0 20 20 0 _ := ok_a0
  have q16 : gz_OkE M_X8_offset 0 0 0 20 21 _ := ok_iload_n (i := 2) dX8_offset_20 rfl
  have q17 : gz_OkA M_X8_offset 0 0 0 20 21 1 _ := ok_a1 q15 q16
  have q18 : gz_OkE M_X8_offset 2 0 0 21 22 _ := ok_iconst (v := 0) dX8_offset_21 kc_i0
  have q19 : gz_OkA M_X8_offset 0 0 0 20 22 2 _ := ok_a1 q17 q18
  have q20 : gz_OkE M_X8_offset 4 0 0 22 23 _ := ok_aload_n (i := 0) dX8_offset_22 rfl
  have q21 : gz_OkE M_X8_offset 4 0 0 22 26 _ := ok_get q20 cl_8 (k := 10) (by decide) in_8 wd_136 dX8_offset_23
  have q22 : gz_OkE M_X8_offset 5 0 0 26 28 _ := ok_bipush (v := 8) dX8_offset_26 kc_b8
  have q23 : gz_OkE M_X8_offset 6 0 0 28 29 _ := ok_iload_n (i := 1) dX8_offset_28 rfl
  have q24 : gz_OkE M_X8_offset 5 0 0 26 30 _ := ok_iadd q22 q23 dX8_offset_29
  have q25 : gz_OkE M_X8_offset 4 0 0 22 31 _ := ok_iald q21 q24 dX8_offset_30
  have q26 : gz_OkE M_X8_offset 5 0 0 31 32 _ := ok_iconst (v := 1) dX8_offset_31 kc_i1
  have q27 : gz_OkE M_X8_offset 4 0 0 22 33 _ := ok_isub q25 q26 dX8_offset_32
  have q28 : gz_OkA M_X8_offset 0 0 0 20 33 3 _ := ok_a1 q19 q27
  have q29 : gz_OkE M_X8_offset 0 0 0 20 36 _ := ok_cs q28 mt_X8_isIn wd_765 wd_188 de_X8_isIn (by decide) (by decide) wd_766 wd_767 dX8_offset_33 (by decide)
  have q30 : gz_OkJ M_X8_offset 0 0 0 20 52 39 _ := ok_if_eq q29 dX8_offset_36 (by decide)
  have q31 : gz_OkE M_X8_offset 0 0 0 39 40 _ := ok_aload_n (i := 0) dX8_offset_39 rfl
  have q32 : gz_OkE M_X8_offset 0 0 0 39 43 _ := ok_get q31 cl_8 (k := 14) (by decide) in_8 wd_140 dX8_offset_40
  have q33 : gz_OkE M_X8_offset 1 0 0 43 45 _ := ok_bipush (v := 8) dX8_offset_43 kc_b8
  have q34 : gz_OkE M_X8_offset 2 0 0 45 46 _ := ok_iload_n (i := 1) dX8_offset_45 rfl
  have q35 : gz_OkE M_X8_offset 1 0 0 43 47 _ := ok_iadd q33 q34 dX8_offset_46
  have q36 : gz_OkE M_X8_offset 0 0 0 39 48 _ := ok_iald q32 q35 dX8_offset_47
  have q37 : gz_OkE M_X8_offset 1 0 0 48 49 _ := ok_iload_n (i := 2) dX8_offset_48 rfl
  have q38 : gz_OkJ M_X8_offset 0 0 0 39 54 52 _ := ok_ic_ne q36 q37 dX8_offset_49 (by decide)
  have q39 : gz_OkJ M_X8_offset 0 0 0 20 54 52 _ := ok_ja q30 q38
  have q40 : gz_OkJ M_X8_offset 0 0 0 8 54 52 _ := ok_ja q14 q39
  have q41 : gz_OkJ M_X8_offset 0 0 0 0 54 52 _ := ok_ja q7 q40
  have q42 : gz_OkE M_X8_offset 0 0 0 54 55 _ := ok_aload_n (i := 0) dX8_offset_54 rfl
  have q43 : gz_OkE M_X8_offset 0 0 0 54 58 _ := ok_get q42 cl_8 (k := 14) (by decide) in_8 wd_140 dX8_offset_55
  have q44 : gz_OkE M_X8_offset 1 0 0 58 60 _ := ok_bipush (v := 8) dX8_offset_58 kc_b8
  have q45 : gz_OkE M_X8_offset 2 0 0 60 61 _ := ok_iload_n (i := 1) dX8_offset_60 rfl
  have q46 : gz_OkE M_X8_offset 1 0 0 58 62 _ := ok_iadd q44 q45 dX8_offset_61
  have q47 : gz_OkE M_X8_offset 2 0 0 62 63 _ := ok_iload_n (i := 2) dX8_offset_62 rfl
  have q48 : gz_OkE M_X8_offset 0 0 0 64 65 _ := ok_aload_n (i := 0) dX8_offset_64 rfl
  have q49 : gz_OkE M_X8_offset 0 0 0 64 68 _ := ok_get q48 cl_8 (k := 1) (by decide) in_8 wd_171 dX8_offset_65
  have q50 : gz_OkJ M_X8_offset 0 0 0 64 84 71 _ := ok_if_le q49 dX8_offset_68 (by decide)
  have q51 : gz_OkS M_X8_offset 0 0 84 _ := ok_at
  have q52 : gz_OkE M_X8_offset 0 0 0 71 72 _ := ok_aload_n (i := 0) dX8_offset_71 rfl
  have q53 : gz_OkE M_X8_offset 0 0 0 71 75 _ := ok_get q52 cl_8 (k := 16) (by decide) in_8 wd_142 dX8_offset_72
  have q54 : gz_OkE M_X8_offset 1 0 0 75 76 _ := ok_iload_n (i := 1) dX8_offset_75 rfl
  have q55 : gz_OkE M_X8_offset 2 0 0 76 77 _ := ok_aload_n (i := 0) dX8_offset_76 rfl
  have q56 : gz_OkE M_X8_offset 2 0 0 76 80 _ := ok_get q55 cl_8 (k := 1) (by decide) in_8 wd_171 dX8_offset_77
  have q57 : gz_OkE M_X8_offset 3 0 0 80 82 _ := ok_bipush (v := 20) dX8_offset_80 kc_b20
  have q58 : gz_OkE M_X8_offset 2 0 0 76 83 _ := ok_iadd q56 q57 dX8_offset_82
  have q59 : gz_OkS M_X8_offset 0 0 84 _ := ok_at
  have q60 : gz_OkS M_X8_offset 0 0 71 _ := ok_iast q53 q54 q58 dX8_offset_83 q59
  have q61 : gz_OkS M_X8_offset 0 0 64 _ := ok_if q50 q51 q60
  have q62 : gz_OkE M_X8_offset 0 0 0 84 85 _ := ok_iconst (v := 1) dX8_offset_84 kc_i1
  have q63 : gz_OkS M_X8_offset 0 0 84 _ := ok_ri q62 dX8_offset_85
  have q64 : gz_OkS M_X8_offset 0 0 64 _ := ok_seq (L := 84) (k := 0) q61 q63
  have q65 : gz_OkS M_X8_offset 0 0 54 _ := ok_iast q43 q46 q47 dX8_offset_63 q64
  have q66 : gz_OkE M_X8_offset 0 0 0 52 53 _ := ok_iconst (v := 0) dX8_offset_52 kc_i0
  have q67 : gz_OkS M_X8_offset 0 0 52 _ := ok_ri q66 dX8_offset_53
  have q68 : gz_OkS M_X8_offset 0 0 0 _ := ok_if q41 q65 q67
  have z : gz_OkS M_X8_offset 0 0 0 sm_X8_offset := q68
  exact gz_met (plainFor_of_name (by decide)) z (by decide) (by decide)
noncomputable def sm_X8_tear : gz_Sx := gz_if (gz_ja (gz_j1 (fun x => decide (x = 0)) (gz_cv 8 48 se_X8_isJunction (gz_a1 (gz_a1 (gz_a0) (gz_la 0)) (gz_li 1)))) (gz_ja (gz_j1 (fun x => decide (x = 0)) (gz_ald 101 (gz_get 8 48 9 (gz_la 0)) (gz_ib (fun x y => x + y) (gz_i (8)) (gz_li 1)))) (gz_j1 (fun x => decide (¬ x = 0)) (gz_cs se_X8_isIn (gz_a1 (gz_a1 (gz_a1 (gz_a0) (gz_li 2)) (gz_i (0))) (gz_ald 100 (gz_get 8 48 11 (gz_la 0)) (gz_ib (fun x y => x + y) (gz_i (8)) (gz_li 1)))))))) (gz_ast 100 (gz_get 8 48 15 (gz_la 0)) (gz_li 1) (gz_cs se_J9_min_7cf53 (gz_a1 (gz_a1 (gz_a0) (gz_ald 100 (gz_get 8 48 15 (gz_la 0)) (gz_li 1))) (gz_li 2))) (gz_ri (gz_i (1)))) (gz_ri (gz_i (0)))
noncomputable def se_X8_tear : gz_Me := gz_sem (some .boolean) 3 sm_X8_tear
abbrev rm_X8_tear : Room := { frames := 1, cells := 0, slots := 0, locals := 22 }
abbrev M_X8_tear : gz_Mi := (cX8_tear, 3, RX8, 1, 22, "tear", none)
theorem de_X8_tear : yX8_tear.cls ≠ "java/lang/invoke/MethodHandle" ∧ yX8_tear.cls ≠ "java/lang/invoke/VarHandle" ∧ (parseMethodDescriptor yX8_tear.desc).map (fun d => d.parameters.length) = some 2 := by decide +kernel
set_option maxRecDepth 100000 in
theorem mt_X8_tear : gz_Mt yX8_tear cX8_tear 3 (some .boolean) rm_X8_tear se_X8_tear := by
  have q1 : gz_OkA M_X8_tear 0 0 0 0 0 0 _ := ok_a0
  have q2 : gz_OkE M_X8_tear 0 0 0 0 1 _ := ok_aload_n (i := 0) dX8_tear_0 rfl
  have q3 : gz_OkA M_X8_tear 0 0 0 0 1 1 _ := ok_a1 q1 q2
  have q4 : gz_OkE M_X8_tear 2 0 0 1 2 _ := ok_iload_n (i := 1) dX8_tear_1 rfl
  have q5 : gz_OkA M_X8_tear 0 0 0 0 2 2 _ := ok_a1 q3 q4
  have q6 : gz_OkE M_X8_tear 0 0 0 0 5 _ := ok_cv q5 mt_X8_isJunction cl_8 wd_761 wd_188 de_X8_isJunction (by decide) (by decide) wd_762 wd_763 wd_764 dX8_tear_2 (by decide)
  have q7 : gz_OkJ M_X8_tear 0 0 0 0 37 8 _ := ok_if_eq q6 dX8_tear_5 (by decide)
  have q8 : gz_OkE M_X8_tear 0 0 0 8 9 _ := ok_aload_n (i := 0) dX8_tear_8 rfl
  have q9 : gz_OkE M_X8_tear 0 0 0 8 12 _ := ok_get q8 cl_8 (k := 9) (by decide) in_8 wd_135 dX8_tear_9
  have q10 : gz_OkE M_X8_tear 1 0 0 12 14 _ := ok_bipush (v := 8) dX8_tear_12 kc_b8
  have q11 : gz_OkE M_X8_tear 2 0 0 14 15 _ := ok_iload_n (i := 1) dX8_tear_14 rfl
  have q12 : gz_OkE M_X8_tear 1 0 0 12 16 _ := ok_iadd q10 q11 dX8_tear_15
  have q13 : gz_OkE M_X8_tear 0 0 0 8 17 _ := ok_zald q9 q12 dX8_tear_16
  have q14 : gz_OkJ M_X8_tear 0 0 0 8 37 20 _ := ok_if_eq q13 dX8_tear_17 (by decide)
  have q15 : gz_OkA M_X8_tear 0 0 0 20 20 0 _ := ok_a0
  have q16 : gz_OkE M_X8_tear 0 0 0 20 21 _ := ok_iload_n (i := 2) dX8_tear_20 rfl
  have q17 : gz_OkA M_X8_tear 0 0 0 20 21 1 _ := ok_a1 q15 q16
  have q18 : gz_OkE M_X8_tear 2 0 0 21 22 _ := ok_iconst (v := 0) dX8_tear_21 kc_i0
  have q19 : gz_OkA M_X8_tear 0 0 0 20 22 2 _ := ok_a1 q17 q18
  have q20 : gz_OkE M_X8_tear 4 0 0 22 23 _ := ok_aload_n (i := 0) dX8_tear_22 rfl
  have q21 : gz_OkE M_X8_tear 4 0 0 22 26 _ := ok_get q20 cl_8 (k := 11) (by decide) in_8 wd_137 dX8_tear_23
  have q22 : gz_OkE M_X8_tear 5 0 0 26 28 _ := ok_bipush (v := 8) dX8_tear_26 kc_b8
  have q23 : gz_OkE M_X8_tear 6 0 0 28 29 _ := ok_iload_n (i := 1) dX8_tear_28 rfl
  have q24 : gz_OkE M_X8_tear 5 0 0 26 30 _ := ok_iadd q22 q23 dX8_tear_29
  have q25 : gz_OkE M_X8_tear 4 0 0 22 31 _ := ok_iald q21 q24 dX8_tear_30
  have q26 : gz_OkA M_X8_tear 0 0 0 20 31 3 _ := ok_a1 q19 q25
  have q27 : gz_OkE M_X8_tear 0 0 0 20 34 _ := ok_cs q26 mt_X8_isIn wd_765 wd_188 de_X8_isIn (by decide) (by decide) wd_766 wd_767 dX8_tear_31 (by decide)
  have q28 : gz_OkJ M_X8_tear 0 0 0 20 39 37 _ := ok_if_ne q27 dX8_tear_34 (by decide)
  have q29 : gz_OkJ M_X8_tear 0 0 0 8 39 37 _ := ok_ja q14 q28
  have q30 : gz_OkJ M_X8_tear 0 0 0 0 39 37 _ := ok_ja q7 q29
  have q31 : gz_OkE M_X8_tear 0 0 0 39 40 _ := ok_aload_n (i := 0) dX8_tear_39 rfl
  have q32 : gz_OkE M_X8_tear 0 0 0 39 43 _ := ok_get q31 cl_8 (k := 15) (by decide) in_8 wd_141 dX8_tear_40
  have q33 : gz_OkE M_X8_tear 1 0 0 43 44 _ := ok_iload_n (i := 1) dX8_tear_43 rfl
  have q34 : gz_OkA M_X8_tear 2 0 0 44 44 0 _ := ok_a0
  have q35 : gz_OkE M_X8_tear 2 0 0 44 45 _ := ok_aload_n (i := 0) dX8_tear_44 rfl
  have q36 : gz_OkE M_X8_tear 2 0 0 44 48 _ := ok_get q35 cl_8 (k := 15) (by decide) in_8 wd_141 dX8_tear_45
  have q37 : gz_OkE M_X8_tear 3 0 0 48 49 _ := ok_iload_n (i := 1) dX8_tear_48 rfl
  have q38 : gz_OkE M_X8_tear 2 0 0 44 50 _ := ok_iald q36 q37 dX8_tear_49
  have q39 : gz_OkA M_X8_tear 2 0 0 44 50 1 _ := ok_a1 q34 q38
  have q40 : gz_OkE M_X8_tear 4 0 0 50 51 _ := ok_iload_n (i := 2) dX8_tear_50 rfl
  have q41 : gz_OkA M_X8_tear 2 0 0 44 51 2 _ := ok_a1 q39 q40
  have q42 : gz_OkE M_X8_tear 2 0 0 44 54 _ := ok_cs q41 mt_J9_min_7cf53 wd_425 wd_411 de_J9_min_7cf53 (by decide) (by decide) wd_826 wd_427 dX8_tear_51 (by decide)
  have q43 : gz_OkE M_X8_tear 0 0 0 55 56 _ := ok_iconst (v := 1) dX8_tear_55 kc_i1
  have q44 : gz_OkS M_X8_tear 0 0 55 _ := ok_ri q43 dX8_tear_56
  have q45 : gz_OkS M_X8_tear 0 0 39 _ := ok_iast q32 q33 q42 dX8_tear_54 q44
  have q46 : gz_OkE M_X8_tear 0 0 0 37 38 _ := ok_iconst (v := 0) dX8_tear_37 kc_i0
  have q47 : gz_OkS M_X8_tear 0 0 37 _ := ok_ri q46 dX8_tear_38
  have q48 : gz_OkS M_X8_tear 0 0 0 _ := ok_if q30 q45 q47
  have z : gz_OkS M_X8_tear 0 0 0 sm_X8_tear := q48
  exact gz_met (plainFor_of_name (by decide)) z (by decide) (by decide)
noncomputable def sm_X8_isBegun : gz_Sx := gz_ri (gz_te (gz_jo (gz_j1 (fun x => decide (x = 0)) (gz_cv 8 48 se_X8_isJunction (gz_a1 (gz_a1 (gz_a0) (gz_la 0)) (gz_li 1)))) (gz_jo (gz_j1 (fun x => decide (x = 0)) (gz_ald 101 (gz_get 8 48 9 (gz_la 0)) (gz_li 1))) (gz_j2 (fun x y => decide (x ≤ y)) (gz_ald 100 (gz_get 8 48 11 (gz_la 0)) (gz_li 1)) (gz_i (1))))) (gz_i (0)) (gz_i (1)))
noncomputable def se_X8_isBegun : gz_Me := gz_sem (some .boolean) 2 sm_X8_isBegun
abbrev rm_X8_isBegun : Room := { frames := 1, cells := 0, slots := 0, locals := 21 }
abbrev M_X8_isBegun : gz_Mi := (cX8_isBegun, 2, RX8, 1, 21, "isBegun", none)
theorem de_X8_isBegun : yX8_isBegun.cls ≠ "java/lang/invoke/MethodHandle" ∧ yX8_isBegun.cls ≠ "java/lang/invoke/VarHandle" ∧ (parseMethodDescriptor yX8_isBegun.desc).map (fun d => d.parameters.length) = some 1 := by decide +kernel
set_option maxRecDepth 100000 in
theorem mt_X8_isBegun : gz_Mt yX8_isBegun cX8_isBegun 2 (some .boolean) rm_X8_isBegun se_X8_isBegun := by
  have q1 : gz_OkA M_X8_isBegun 0 0 0 0 0 0 _ := ok_a0
  have q2 : gz_OkE M_X8_isBegun 0 0 0 0 1 _ := ok_aload_n (i := 0) dX8_isBegun_0 rfl
  have q3 : gz_OkA M_X8_isBegun 0 0 0 0 1 1 _ := ok_a1 q1 q2
  have q4 : gz_OkE M_X8_isBegun 2 0 0 1 2 _ := ok_iload_n (i := 1) dX8_isBegun_1 rfl
  have q5 : gz_OkA M_X8_isBegun 0 0 0 0 2 2 _ := ok_a1 q3 q4
  have q6 : gz_OkE M_X8_isBegun 0 0 0 0 5 _ := ok_cv q5 mt_X8_isJunction cl_8 wd_761 wd_188 de_X8_isJunction (by decide) (by decide) wd_762 wd_763 wd_764 dX8_isBegun_2 (by decide)
  have q7 : gz_OkJ M_X8_isBegun 0 0 0 0 31 8 _ := ok_if_eq q6 dX8_isBegun_5 (by decide)
  have q8 : gz_OkE M_X8_isBegun 0 0 0 8 9 _ := ok_aload_n (i := 0) dX8_isBegun_8 rfl
  have q9 : gz_OkE M_X8_isBegun 0 0 0 8 12 _ := ok_get q8 cl_8 (k := 9) (by decide) in_8 wd_135 dX8_isBegun_9
  have q10 : gz_OkE M_X8_isBegun 1 0 0 12 13 _ := ok_iload_n (i := 1) dX8_isBegun_12 rfl
  have q11 : gz_OkE M_X8_isBegun 0 0 0 8 14 _ := ok_zald q9 q10 dX8_isBegun_13
  have q12 : gz_OkJ M_X8_isBegun 0 0 0 8 31 17 _ := ok_if_eq q11 dX8_isBegun_14 (by decide)
  have q13 : gz_OkE M_X8_isBegun 0 0 0 17 18 _ := ok_aload_n (i := 0) dX8_isBegun_17 rfl
  have q14 : gz_OkE M_X8_isBegun 0 0 0 17 21 _ := ok_get q13 cl_8 (k := 11) (by decide) in_8 wd_137 dX8_isBegun_18
  have q15 : gz_OkE M_X8_isBegun 1 0 0 21 22 _ := ok_iload_n (i := 1) dX8_isBegun_21 rfl
  have q16 : gz_OkE M_X8_isBegun 0 0 0 17 23 _ := ok_iald q14 q15 dX8_isBegun_22
  have q17 : gz_OkE M_X8_isBegun 1 0 0 23 24 _ := ok_iconst (v := 1) dX8_isBegun_23 kc_i1
  have q18 : gz_OkJ M_X8_isBegun 0 0 0 17 31 27 _ := ok_ic_le q16 q17 dX8_isBegun_24 (by decide)
  have q19 : gz_OkJ M_X8_isBegun 0 0 0 8 31 27 _ := ok_jo q12 q18
  have q20 : gz_OkJ M_X8_isBegun 0 0 0 0 31 27 _ := ok_jo q7 q19
  have q21 : gz_OkE M_X8_isBegun 0 0 0 27 28 _ := ok_iconst (v := 1) dX8_isBegun_27 kc_i1
  have q22 : gz_OkE M_X8_isBegun 0 0 0 27 32 _ := ok_eg q21 dX8_isBegun_28 (by decide)
  have q23 : gz_OkE M_X8_isBegun 0 0 0 31 32 _ := ok_iconst (v := 0) dX8_isBegun_31 kc_i0
  have q24 : gz_OkE M_X8_isBegun 0 0 0 0 32 _ := ok_te2 q20 q22 q23
  have q25 : gz_OkS M_X8_isBegun 0 0 0 _ := ok_ri q24 dX8_isBegun_32
  have z : gz_OkS M_X8_isBegun 0 0 0 sm_X8_isBegun := q25
  exact gz_met (plainFor_of_name (by decide)) z (by decide) (by decide)
noncomputable def lb_X8_stagesOf_5 : gz_Sx := gz_if (gz_j2 (fun x y => decide (y ≤ x)) (gz_li 4) (gz_ald 100 (gz_get 8 48 11 (gz_la 0)) (gz_li 1))) (gz_sat 43) (gz_seti 3 (gz_ib (fun x y => x ||| y) (gz_li 3) (gz_ib (fun x y => x <<< (y &&& 31)) (gz_ib (fun x y => x &&& y) (gz_ib (fun x y => x >>> (y &&& 31)) (gz_ald 100 (gz_get 8 48 12 (gz_la 0)) (gz_ib (fun x y => x + y) (gz_ib (fun x y => x * y) (gz_i (4)) (gz_li 1)) (gz_li 4))) (gz_li 2)) (gz_i (1))) (gz_li 4))) (gz_inc 4 (1) (gz_sat 5)))
noncomputable def sm_X8_stagesOf : gz_Sx := gz_seti 3 (gz_i (0)) (gz_seti 4 (gz_i (0)) (gz_seq 43 4 (gz_loop 5 5 lb_X8_stagesOf_5) (gz_ri (gz_li 3))))
noncomputable def se_X8_stagesOf : gz_Me := gz_sem (some .int) 5 sm_X8_stagesOf
abbrev rm_X8_stagesOf : Room := { frames := 0, cells := 0, slots := 0, locals := 0 }
abbrev M_X8_stagesOf : gz_Mi := (cX8_stagesOf, 5, RX8, 0, 0, "stagesOf", none)
theorem de_X8_stagesOf : yX8_stagesOf.cls ≠ "java/lang/invoke/MethodHandle" ∧ yX8_stagesOf.cls ≠ "java/lang/invoke/VarHandle" ∧ (parseMethodDescriptor yX8_stagesOf.desc).map (fun d => d.parameters.length) = some 2 := by decide +kernel
set_option maxRecDepth 100000 in
theorem mt_X8_stagesOf : gz_Mt yX8_stagesOf cX8_stagesOf 5 (some .int) rm_X8_stagesOf se_X8_stagesOf := by
  have q1 : gz_OkE M_X8_stagesOf 0 0 0 0 1 _ := ok_iconst (v := 0) dX8_stagesOf_0 kc_i0
  have q2 : gz_OkE M_X8_stagesOf 0 0 0 2 3 _ := ok_iconst (v := 0) dX8_stagesOf_2 kc_i0
  have q3 : gz_OkE M_X8_stagesOf 0 0 0 5 7 _ := ok_iload (i := 4) dX8_stagesOf_5
  have q4 : gz_OkE M_X8_stagesOf 1 0 0 7 8 _ := ok_aload_n (i := 0) dX8_stagesOf_7 rfl
  have q5 : gz_OkE M_X8_stagesOf 1 0 0 7 11 _ := ok_get q4 cl_8 (k := 11) (by decide) in_8 wd_137 dX8_stagesOf_8
  have q6 : gz_OkE M_X8_stagesOf 2 0 0 11 12 _ := ok_iload_n (i := 1) dX8_stagesOf_11 rfl
  have q7 : gz_OkE M_X8_stagesOf 1 0 0 7 13 _ := ok_iald q5 q6 dX8_stagesOf_12
  have q8 : gz_OkJ M_X8_stagesOf 0 0 0 5 43 16 _ := ok_ic_ge q3 q7 dX8_stagesOf_13 (by decide)
  have q9 : gz_OkS M_X8_stagesOf 0 0 43 _ := ok_at
  have q10 : gz_OkE M_X8_stagesOf 0 0 0 16 17 _ := ok_iload_n (i := 3) dX8_stagesOf_16 rfl
  have q11 : gz_OkE M_X8_stagesOf 1 0 0 17 18 _ := ok_aload_n (i := 0) dX8_stagesOf_17 rfl
  have q12 : gz_OkE M_X8_stagesOf 1 0 0 17 21 _ := ok_get q11 cl_8 (k := 12) (by decide) in_8 wd_138 dX8_stagesOf_18
  have q13 : gz_OkE M_X8_stagesOf 2 0 0 21 22 _ := ok_iconst (v := 4) dX8_stagesOf_21 kc_i4
  have q14 : gz_OkE M_X8_stagesOf 3 0 0 22 23 _ := ok_iload_n (i := 1) dX8_stagesOf_22 rfl
  have q15 : gz_OkE M_X8_stagesOf 2 0 0 21 24 _ := ok_imul q13 q14 dX8_stagesOf_23
  have q16 : gz_OkE M_X8_stagesOf 3 0 0 24 26 _ := ok_iload (i := 4) dX8_stagesOf_24
  have q17 : gz_OkE M_X8_stagesOf 2 0 0 21 27 _ := ok_iadd q15 q16 dX8_stagesOf_26
  have q18 : gz_OkE M_X8_stagesOf 1 0 0 17 28 _ := ok_iald q12 q17 dX8_stagesOf_27
  have q19 : gz_OkE M_X8_stagesOf 2 0 0 28 29 _ := ok_iload_n (i := 2) dX8_stagesOf_28 rfl
  have q20 : gz_OkE M_X8_stagesOf 1 0 0 17 30 _ := ok_ishr q18 q19 dX8_stagesOf_29
  have q21 : gz_OkE M_X8_stagesOf 2 0 0 30 31 _ := ok_iconst (v := 1) dX8_stagesOf_30 kc_i1
  have q22 : gz_OkE M_X8_stagesOf 1 0 0 17 32 _ := ok_iand q20 q21 dX8_stagesOf_31
  have q23 : gz_OkE M_X8_stagesOf 2 0 0 32 34 _ := ok_iload (i := 4) dX8_stagesOf_32
  have q24 : gz_OkE M_X8_stagesOf 1 0 0 17 35 _ := ok_ishl q22 q23 dX8_stagesOf_34
  have q25 : gz_OkE M_X8_stagesOf 0 0 0 16 36 _ := ok_ior q10 q24 dX8_stagesOf_35
  have q26 : gz_OkS M_X8_stagesOf 0 0 40 (gz_sat 5) := ok_goto dX8_stagesOf_40 (by decide)
  have q27 : gz_OkS M_X8_stagesOf 0 0 37 _ := ok_inc (v := 1) dX8_stagesOf_37 kc_i1 (by decide) q26
  have q28 : gz_OkS M_X8_stagesOf 0 0 16 _ := ok_seti_n (k := 3) q25 dX8_stagesOf_36 rfl (by decide) q27
  have q29 : gz_OkS M_X8_stagesOf 0 0 5 _ := ok_if q8 q9 q28
  have q30 : gz_OkS M_X8_stagesOf 0 0 5 lb_X8_stagesOf_5 := q29
  have q31 : gz_OkS M_X8_stagesOf 0 0 5 _ := ok_loop (k := 5) q30 rfl rfl
  have q32 : gz_OkE M_X8_stagesOf 0 0 0 43 44 _ := ok_iload_n (i := 3) dX8_stagesOf_43 rfl
  have q33 : gz_OkS M_X8_stagesOf 0 0 43 _ := ok_ri q32 dX8_stagesOf_44
  have q34 : gz_OkS M_X8_stagesOf 0 0 5 _ := ok_seq (L := 43) (k := 4) q31 q33
  have q35 : gz_OkS M_X8_stagesOf 0 0 2 _ := ok_seti (k := 4) q2 dX8_stagesOf_3 (by decide) q34
  have q36 : gz_OkS M_X8_stagesOf 0 0 0 _ := ok_seti_n (k := 3) q1 dX8_stagesOf_1 rfl (by decide) q35
  have z : gz_OkS M_X8_stagesOf 0 0 0 sm_X8_stagesOf := q36
  exact gz_met (plainFor_of_name (by decide)) z (by decide) (by decide)
noncomputable def lb_X8_others_38 : gz_Sx := gz_if (gz_j2 (fun x y => decide (y ≤ x)) (gz_li 7) (gz_i (16))) (gz_sat 137) (gz_seti 8 (gz_ib (fun x y => x - y) (gz_ib (fun x y => x - y) (gz_ald 100 (gz_get 8 48 24 (gz_la 0)) (gz_li 7)) (gz_te (gz_j2 (fun x y => decide (¬ x = y)) (gz_ib (fun x y => x &&& y) (gz_li 7) (gz_i (1))) (gz_i (1))) (gz_i (0)) (gz_li 2))) (gz_te (gz_j2 (fun x y => decide (¬ x = y)) (gz_ib (fun x y => x &&& y) (gz_li 7) (gz_i (2))) (gz_i (2))) (gz_i (0)) (gz_li 3))) (gz_seq 131 8 (gz_if (gz_j2 (fun x y => decide (¬ x = y)) (gz_ib (fun x y => x >>> (y &&& 31)) (gz_li 7) (gz_i (2))) (gz_i (1))) (gz_if (gz_j2 (fun x y => decide (¬ x = y)) (gz_ib (fun x y => x >>> (y &&& 31)) (gz_li 7) (gz_i (2))) (gz_i (2))) (gz_seti 6 (gz_cs se_J9_max_7cf53 (gz_a1 (gz_a1 (gz_a0) (gz_li 6)) (gz_li 8))) (gz_sat 131)) (gz_seti 5 (gz_cs se_J9_max_7cf53 (gz_a1 (gz_a1 (gz_a0) (gz_li 5)) (gz_li 8))) (gz_sat 131))) (gz_seti 4 (gz_cs se_J9_max_7cf53 (gz_a1 (gz_a1 (gz_a0) (gz_li 4)) (gz_li 8))) (gz_sat 131))) (gz_inc 7 (1) (gz_sat 38))))
noncomputable def sm_X8_others : gz_Sx := gz_if (gz_j2 (fun x y => decide (¬ x = y)) (gz_ald 100 (gz_get 8 48 11 (gz_la 0)) (gz_li 1)) (gz_i (2))) (gz_seti 4 (gz_i (1)) (gz_seti 5 (gz_te (gz_j2 (fun x y => decide (x ≤ y)) (gz_ald 100 (gz_get 8 48 11 (gz_la 0)) (gz_li 1)) (gz_i (3))) (gz_i (0)) (gz_i (1))) (gz_seti 6 (gz_i (0)) (gz_seti 7 (gz_i (4)) (gz_seq 137 7 (gz_loop 38 8 lb_X8_others_38) (gz_ri (gz_cs se_J9_max_7cf53 (gz_a1 (gz_a1 (gz_a0) (gz_ib (fun x y => x + y) (gz_li 4) (gz_li 5))) (gz_li 6))))))))) (gz_ri (gz_i (0)))
noncomputable def se_X8_others : gz_Me := gz_sem (some .int) 9 sm_X8_others
abbrev rm_X8_others : Room := { frames := 1, cells := 0, slots := 0, locals := 21 }
abbrev M_X8_others : gz_Mi := (cX8_others, 9, RX8, 1, 21, "others", none)
theorem de_X8_others : yX8_others.cls ≠ "java/lang/invoke/MethodHandle" ∧ yX8_others.cls ≠ "java/lang/invoke/VarHandle" ∧ (parseMethodDescriptor yX8_others.desc).map (fun d => d.parameters.length) = some 3 := by decide +kernel
set_option maxRecDepth 100000 in
theorem mt_X8_others : gz_Mt yX8_others cX8_others 9 (some .int) rm_X8_others se_X8_others := by
  have q1 : gz_OkE M_X8_others 0 0 0 0 1 _ := ok_aload_n (i := 0) dX8_others_0 rfl
  have q2 : gz_OkE M_X8_others 0 0 0 0 4 _ := ok_get q1 cl_8 (k := 11) (by decide) in_8 wd_137 dX8_others_1
  have q3 : gz_OkE M_X8_others 1 0 0 4 5 _ := ok_iload_n (i := 1) dX8_others_4 rfl
  have q4 : gz_OkE M_X8_others 0 0 0 0 6 _ := ok_iald q2 q3 dX8_others_5
  have q5 : gz_OkE M_X8_others 1 0 0 6 7 _ := ok_iconst (v := 2) dX8_others_6 kc_i2
  have q6 : gz_OkJ M_X8_others 0 0 0 0 12 10 _ := ok_ic_ne q4 q5 dX8_others_7 (by decide)
  have q7 : gz_OkE M_X8_others 0 0 0 12 13 _ := ok_iconst (v := 1) dX8_others_12 kc_i1
  have q8 : gz_OkE M_X8_others 0 0 0 15 16 _ := ok_aload_n (i := 0) dX8_others_15 rfl
  have q9 : gz_OkE M_X8_others 0 0 0 15 19 _ := ok_get q8 cl_8 (k := 11) (by decide) in_8 wd_137 dX8_others_16
  have q10 : gz_OkE M_X8_others 1 0 0 19 20 _ := ok_iload_n (i := 1) dX8_others_19 rfl
  have q11 : gz_OkE M_X8_others 0 0 0 15 21 _ := ok_iald q9 q10 dX8_others_20
  have q12 : gz_OkE M_X8_others 1 0 0 21 22 _ := ok_iconst (v := 3) dX8_others_21 kc_i3
  have q13 : gz_OkJ M_X8_others 0 0 0 15 29 25 _ := ok_ic_le q11 q12 dX8_others_22 (by decide)
  have q14 : gz_OkE M_X8_others 0 0 0 25 26 _ := ok_iconst (v := 1) dX8_others_25 kc_i1
  have q15 : gz_OkE M_X8_others 0 0 0 25 30 _ := ok_eg q14 dX8_others_26 (by decide)
  have q16 : gz_OkE M_X8_others 0 0 0 29 30 _ := ok_iconst (v := 0) dX8_others_29 kc_i0
  have q17 : gz_OkE M_X8_others 0 0 0 15 30 _ := ok_te2 q13 q15 q16
  have q18 : gz_OkE M_X8_others 0 0 0 32 33 _ := ok_iconst (v := 0) dX8_others_32 kc_i0
  have q19 : gz_OkE M_X8_others 0 0 0 35 36 _ := ok_iconst (v := 4) dX8_others_35 kc_i4
  have q20 : gz_OkE M_X8_others 0 0 0 38 40 _ := ok_iload (i := 7) dX8_others_38
  have q21 : gz_OkE M_X8_others 1 0 0 40 42 _ := ok_bipush (v := 16) dX8_others_40 kc_b16
  have q22 : gz_OkJ M_X8_others 0 0 0 38 137 45 _ := ok_ic_ge q20 q21 dX8_others_42 (by decide)
  have q23 : gz_OkS M_X8_others 0 0 137 _ := ok_at
  have q24 : gz_OkE M_X8_others 0 0 0 45 46 _ := ok_aload_n (i := 0) dX8_others_45 rfl
  have q25 : gz_OkE M_X8_others 0 0 0 45 49 _ := ok_get q24 cl_8 (k := 24) (by decide) in_8 wd_149 dX8_others_46
  have q26 : gz_OkE M_X8_others 1 0 0 49 51 _ := ok_iload (i := 7) dX8_others_49
  have q27 : gz_OkE M_X8_others 0 0 0 45 52 _ := ok_iald q25 q26 dX8_others_51
  have q28 : gz_OkE M_X8_others 1 0 0 52 54 _ := ok_iload (i := 7) dX8_others_52
  have q29 : gz_OkE M_X8_others 2 0 0 54 55 _ := ok_iconst (v := 1) dX8_others_54 kc_i1
  have q30 : gz_OkE M_X8_others 1 0 0 52 56 _ := ok_iand q28 q29 dX8_others_55
  have q31 : gz_OkE M_X8_others 2 0 0 56 57 _ := ok_iconst (v := 1) dX8_others_56 kc_i1
  have q32 : gz_OkJ M_X8_others 1 0 0 52 64 60 _ := ok_ic_ne q30 q31 dX8_others_57 (by decide)
  have q33 : gz_OkE M_X8_others 1 0 0 60 61 _ := ok_iload_n (i := 2) dX8_others_60 rfl
  have q34 : gz_OkE M_X8_others 1 0 0 60 65 _ := ok_eg q33 dX8_others_61 (by decide)
  have q35 : gz_OkE M_X8_others 1 0 0 64 65 _ := ok_iconst (v := 0) dX8_others_64 kc_i0
  have q36 : gz_OkE M_X8_others 1 0 0 52 65 _ := ok_te2 q32 q34 q35
  have q37 : gz_OkE M_X8_others 0 0 0 45 66 _ := ok_isub q27 q36 dX8_others_65
  have q38 : gz_OkE M_X8_others 1 0 0 66 68 _ := ok_iload (i := 7) dX8_others_66
  have q39 : gz_OkE M_X8_others 2 0 0 68 69 _ := ok_iconst (v := 2) dX8_others_68 kc_i2
  have q40 : gz_OkE M_X8_others 1 0 0 66 70 _ := ok_iand q38 q39 dX8_others_69
  have q41 : gz_OkE M_X8_others 2 0 0 70 71 _ := ok_iconst (v := 2) dX8_others_70 kc_i2
  have q42 : gz_OkJ M_X8_others 1 0 0 66 78 74 _ := ok_ic_ne q40 q41 dX8_others_71 (by decide)
  have q43 : gz_OkE M_X8_others 1 0 0 74 75 _ := ok_iload_n (i := 3) dX8_others_74 rfl
  have q44 : gz_OkE M_X8_others 1 0 0 74 79 _ := ok_eg q43 dX8_others_75 (by decide)
  have q45 : gz_OkE M_X8_others 1 0 0 78 79 _ := ok_iconst (v := 0) dX8_others_78 kc_i0
  have q46 : gz_OkE M_X8_others 1 0 0 66 79 _ := ok_te2 q42 q44 q45
  have q47 : gz_OkE M_X8_others 0 0 0 45 80 _ := ok_isub q37 q46 dX8_others_79
  have q48 : gz_OkE M_X8_others 0 0 0 82 84 _ := ok_iload (i := 7) dX8_others_82
  have q49 : gz_OkE M_X8_others 1 0 0 84 85 _ := ok_iconst (v := 2) dX8_others_84 kc_i2
  have q50 : gz_OkE M_X8_others 0 0 0 82 86 _ := ok_ishr q48 q49 dX8_others_85
  have q51 : gz_OkE M_X8_others 1 0 0 86 87 _ := ok_iconst (v := 1) dX8_others_86 kc_i1
  have q52 : gz_OkJ M_X8_others 0 0 0 82 102 90 _ := ok_ic_ne q50 q51 dX8_others_87 (by decide)
  have q53 : gz_OkE M_X8_others 0 0 0 102 104 _ := ok_iload (i := 7) dX8_others_102
  have q54 : gz_OkE M_X8_others 1 0 0 104 105 _ := ok_iconst (v := 2) dX8_others_104 kc_i2
  have q55 : gz_OkE M_X8_others 0 0 0 102 106 _ := ok_ishr q53 q54 dX8_others_105
  have q56 : gz_OkE M_X8_others 1 0 0 106 107 _ := ok_iconst (v := 2) dX8_others_106 kc_i2
  have q57 : gz_OkJ M_X8_others 0 0 0 102 122 110 _ := ok_ic_ne q55 q56 dX8_others_107 (by decide)
  have q58 : gz_OkA M_X8_others 0 0 0 122 122 0 _ := ok_a0
  have q59 : gz_OkE M_X8_others 0 0 0 122 124 _ := ok_iload (i := 6) dX8_others_122
  have q60 : gz_OkA M_X8_others 0 0 0 122 124 1 _ := ok_a1 q58 q59
  have q61 : gz_OkE M_X8_others 2 0 0 124 126 _ := ok_iload (i := 8) dX8_others_124
  have q62 : gz_OkA M_X8_others 0 0 0 122 126 2 _ := ok_a1 q60 q61
  have q63 : gz_OkE M_X8_others 0 0 0 122 129 _ := ok_cs q62 mt_J9_max_7cf53 wd_418 wd_411 de_J9_max_7cf53 (by decide) (by decide) wd_772 wd_420 dX8_others_126 (by decide)
  have q64 : gz_OkS M_X8_others 0 0 131 _ := ok_at
  have q65 : gz_OkS M_X8_others 0 0 122 _ := ok_seti (k := 6) q63 dX8_others_129 (by decide) q64
  have q66 : gz_OkA M_X8_others 0 0 0 110 110 0 _ := ok_a0
  have q67 : gz_OkE M_X8_others 0 0 0 110 112 _ := ok_iload (i := 5) dX8_others_110
  have q68 : gz_OkA M_X8_others 0 0 0 110 112 1 _ := ok_a1 q66 q67
  have q69 : gz_OkE M_X8_others 2 0 0 112 114 _ := ok_iload (i := 8) dX8_others_112
  have q70 : gz_OkA M_X8_others 0 0 0 110 114 2 _ := ok_a1 q68 q69
  have q71 : gz_OkE M_X8_others 0 0 0 110 117 _ := ok_cs q70 mt_J9_max_7cf53 wd_418 wd_411 de_J9_max_7cf53 (by decide) (by decide) wd_772 wd_420 dX8_others_114 (by decide)
  have q72 : gz_OkS M_X8_others 0 0 119 (gz_sat 131) := ok_goto dX8_others_119 (by decide)
  have q73 : gz_OkS M_X8_others 0 0 110 _ := ok_seti (k := 5) q71 dX8_others_117 (by decide) q72
  have q74 : gz_OkS M_X8_others 0 0 102 _ := ok_if q57 q65 q73
  have q75 : gz_OkA M_X8_others 0 0 0 90 90 0 _ := ok_a0
  have q76 : gz_OkE M_X8_others 0 0 0 90 92 _ := ok_iload (i := 4) dX8_others_90
  have q77 : gz_OkA M_X8_others 0 0 0 90 92 1 _ := ok_a1 q75 q76
  have q78 : gz_OkE M_X8_others 2 0 0 92 94 _ := ok_iload (i := 8) dX8_others_92
  have q79 : gz_OkA M_X8_others 0 0 0 90 94 2 _ := ok_a1 q77 q78
  have q80 : gz_OkE M_X8_others 0 0 0 90 97 _ := ok_cs q79 mt_J9_max_7cf53 wd_418 wd_411 de_J9_max_7cf53 (by decide) (by decide) wd_772 wd_420 dX8_others_94 (by decide)
  have q81 : gz_OkS M_X8_others 0 0 99 (gz_sat 131) := ok_goto dX8_others_99 (by decide)
  have q82 : gz_OkS M_X8_others 0 0 90 _ := ok_seti (k := 4) q80 dX8_others_97 (by decide) q81
  have q83 : gz_OkS M_X8_others 0 0 82 _ := ok_if q52 q74 q82
  have q84 : gz_OkS M_X8_others 0 0 134 (gz_sat 38) := ok_goto dX8_others_134 (by decide)
  have q85 : gz_OkS M_X8_others 0 0 131 _ := ok_inc (v := 1) dX8_others_131 kc_i1 (by decide) q84
  have q86 : gz_OkS M_X8_others 0 0 82 _ := ok_seq (L := 131) (k := 8) q83 q85
  have q87 : gz_OkS M_X8_others 0 0 45 _ := ok_seti (k := 8) q47 dX8_others_80 (by decide) q86
  have q88 : gz_OkS M_X8_others 0 0 38 _ := ok_if q22 q23 q87
  have q89 : gz_OkS M_X8_others 0 0 38 lb_X8_others_38 := q88
  have q90 : gz_OkS M_X8_others 0 0 38 _ := ok_loop (k := 8) q89 rfl rfl
  have q91 : gz_OkA M_X8_others 0 0 0 137 137 0 _ := ok_a0
  have q92 : gz_OkE M_X8_others 0 0 0 137 139 _ := ok_iload (i := 4) dX8_others_137
  have q93 : gz_OkE M_X8_others 1 0 0 139 141 _ := ok_iload (i := 5) dX8_others_139
  have q94 : gz_OkE M_X8_others 0 0 0 137 142 _ := ok_iadd q92 q93 dX8_others_141
  have q95 : gz_OkA M_X8_others 0 0 0 137 142 1 _ := ok_a1 q91 q94
  have q96 : gz_OkE M_X8_others 2 0 0 142 144 _ := ok_iload (i := 6) dX8_others_142
  have q97 : gz_OkA M_X8_others 0 0 0 137 144 2 _ := ok_a1 q95 q96
  have q98 : gz_OkE M_X8_others 0 0 0 137 147 _ := ok_cs q97 mt_J9_max_7cf53 wd_418 wd_411 de_J9_max_7cf53 (by decide) (by decide) wd_772 wd_420 dX8_others_144 (by decide)
  have q99 : gz_OkS M_X8_others 0 0 137 _ := ok_ri q98 dX8_others_147
  have q100 : gz_OkS M_X8_others 0 0 38 _ := ok_seq (L := 137) (k := 7) q90 q99
  have q101 : gz_OkS M_X8_others 0 0 35 _ := ok_seti (k := 7) q19 dX8_others_36 (by decide) q100
  have q102 : gz_OkS M_X8_others 0 0 32 _ := ok_seti (k := 6) q18 dX8_others_33 (by decide) q101
  have q103 : gz_OkS M_X8_others 0 0 15 _ := ok_seti (k := 5) q17 dX8_others_30 (by decide) q102
  have q104 : gz_OkS M_X8_others 0 0 12 _ := ok_seti (k := 4) q7 dX8_others_13 (by decide) q103
  have q105 : gz_OkE M_X8_others 0 0 0 10 11 _ := ok_iconst (v := 0) dX8_others_10 kc_i0
  have q106 : gz_OkS M_X8_others 0 0 10 _ := ok_ri q105 dX8_others_11
  have q107 : gz_OkS M_X8_others 0 0 0 _ := ok_if q6 q104 q106
  have z : gz_OkS M_X8_others 0 0 0 sm_X8_others := q107
  exact gz_met (plainFor_of_name (by decide)) z (by decide) (by decide)
noncomputable def lb_X8_leastSum_2 : gz_Sx := gz_if (gz_j2 (fun x y => decide (y ≤ x)) (gz_li 3) (gz_i (16))) (gz_sat 21) (gz_ast 100 (gz_get 8 48 24 (gz_la 0)) (gz_li 3) (gz_i (0)) (gz_inc 3 (1) (gz_sat 2)))
noncomputable def lb_X8_leastSum_23 : gz_Sx := gz_if (gz_j2 (fun x y => decide (y ≤ x)) (gz_li 3) (gz_ald 100 (gz_get 8 48 2 (gz_la 0)) (gz_li 1))) (gz_sat 103) (gz_seti 4 (gz_cv 8 48 se_X8_stagesOf (gz_a1 (gz_a1 (gz_a1 (gz_a0) (gz_la 0)) (gz_li 1)) (gz_li 3))) (gz_ast 100 (gz_get 8 48 24 (gz_la 0)) (gz_li 4) (gz_cs se_J9_max_7cf53 (gz_a1 (gz_a1 (gz_a0) (gz_ald 100 (gz_get 8 48 24 (gz_la 0)) (gz_li 4))) (gz_iz (fun x y => x / y) (gz_ib (fun x y => x - y) (gz_ib (fun x y => x + y) (gz_ib (fun x y => x * y) (gz_ald 100 (gz_get 8 48 4 (gz_la 0)) (gz_ib (fun x y => x + y) (gz_ib (fun x y => x * y) (gz_i (8)) (gz_li 1)) (gz_li 3))) (gz_li 2)) (gz_ald 100 (gz_get 8 48 5 (gz_la 0)) (gz_ib (fun x y => x + y) (gz_ib (fun x y => x * y) (gz_i (8)) (gz_li 1)) (gz_li 3)))) (gz_i (1))) (gz_ald 100 (gz_get 8 48 5 (gz_la 0)) (gz_ib (fun x y => x + y) (gz_ib (fun x y => x * y) (gz_i (8)) (gz_li 1)) (gz_li 3)))))) (gz_inc 3 (1) (gz_sat 23))))
noncomputable def lb_X8_leastSum_118 : gz_Sx := gz_if (gz_j2 (fun x y => decide (y ≤ x)) (gz_li 3) (gz_ald 100 (gz_get 8 48 11 (gz_la 0)) (gz_li 1))) (gz_sat 154) (gz_ast 100 (gz_get 8 48 24 (gz_la 0)) (gz_ib (fun x y => x <<< (y &&& 31)) (gz_i (1)) (gz_li 3)) (gz_cs se_J9_max_7cf53 (gz_a1 (gz_a1 (gz_a0) (gz_i (1))) (gz_ald 100 (gz_get 8 48 24 (gz_la 0)) (gz_ib (fun x y => x <<< (y &&& 31)) (gz_i (1)) (gz_li 3))))) (gz_inc 3 (1) (gz_sat 118)))
noncomputable def lb_X8_leastSum_181 : gz_Sx := gz_if (gz_j2 (fun x y => decide (y < x)) (gz_li 5) (gz_i (90))) (gz_sat 231) (gz_seq 225 6 (gz_if (gz_j2 (fun x y => decide (y ≤ x)) (gz_ib (fun x y => x + y) (gz_li 4) (gz_li 5)) (gz_ald 100 (gz_get 8 48 24 (gz_la 0)) (gz_i (3)))) (gz_seti 3 (gz_cs se_J9_min_7cf53 (gz_a1 (gz_a1 (gz_a0) (gz_li 3)) (gz_ib (fun x y => x + y) (gz_ib (fun x y => x + y) (gz_li 4) (gz_li 5)) (gz_cv 8 48 se_X8_others (gz_a1 (gz_a1 (gz_a1 (gz_a1 (gz_a0) (gz_la 0)) (gz_li 1)) (gz_li 4)) (gz_li 5)))))) (gz_sat 225)) (gz_sat 225)) (gz_inc 5 (1) (gz_sat 181)))
noncomputable def lb_X8_leastSum_166 : gz_Sx := gz_if (gz_j2 (fun x y => decide (y < x)) (gz_li 4) (gz_i (90))) (gz_sat 237) (gz_seti 5 (gz_ald 100 (gz_get 8 48 24 (gz_la 0)) (gz_i (2))) (gz_seq 231 5 (gz_loop 181 6 lb_X8_leastSum_181) (gz_inc 4 (1) (gz_sat 166))))
noncomputable def sm_X8_leastSum : gz_Sx := gz_seti 3 (gz_i (0)) (gz_seq 21 3 (gz_loop 2 4 lb_X8_leastSum_2) (gz_seti 3 (gz_i (0)) (gz_seq 103 2 (gz_loop 23 4 lb_X8_leastSum_23) (gz_if (gz_j1 (fun x => decide (x ≤ 0)) (gz_ald 100 (gz_get 8 48 24 (gz_la 0)) (gz_i (0)))) (gz_seti 3 (gz_i (0)) (gz_seq 154 2 (gz_loop 118 4 lb_X8_leastSum_118) (gz_seti 3 (gz_i (1000)) (gz_seti 4 (gz_ald 100 (gz_get 8 48 24 (gz_la 0)) (gz_i (1))) (gz_seq 237 4 (gz_loop 166 5 lb_X8_leastSum_166) (gz_ri (gz_li 3))))))) (gz_ri (gz_i (1000)))))))
noncomputable def se_X8_leastSum : gz_Me := gz_sem (some .int) 6 sm_X8_leastSum
abbrev rm_X8_leastSum : Room := { frames := 2, cells := 0, slots := 0, locals := 49 }
abbrev M_X8_leastSum : gz_Mi := (cX8_leastSum, 6, RX8, 2, 49, "leastSum", none)
theorem de_X8_leastSum : yX8_leastSum.cls ≠ "java/lang/invoke/MethodHandle" ∧ yX8_leastSum.cls ≠ "java/lang/invoke/VarHandle" ∧ (parseMethodDescriptor yX8_leastSum.desc).map (fun d => d.parameters.length) = some 2 := by decide +kernel
set_option maxRecDepth 100000 in
theorem mt_X8_leastSum : gz_Mt yX8_leastSum cX8_leastSum 6 (some .int) rm_X8_leastSum se_X8_leastSum := by
  have q1 : gz_OkE M_X8_leastSum 0 0 0 0 1 _ := ok_iconst (v := 0) dX8_leastSum_0 kc_i0
  have q2 : gz_OkE M_X8_leastSum 0 0 0 2 3 _ := ok_iload_n (i := 3) dX8_leastSum_2 rfl
  have q3 : gz_OkE M_X8_leastSum 1 0 0 3 5 _ := ok_bipush (v := 16) dX8_leastSum_3 kc_b16
  have q4 : gz_OkJ M_X8_leastSum 0 0 0 2 21 8 _ := ok_ic_ge q2 q3 dX8_leastSum_5 (by decide)
  have q5 : gz_OkS M_X8_leastSum 0 0 21 _ := ok_at
  have q6 : gz_OkE M_X8_leastSum 0 0 0 8 9 _ := ok_aload_n (i := 0) dX8_leastSum_8 rfl
  have q7 : gz_OkE M_X8_leastSum 0 0 0 8 12 _ := ok_get q6 cl_8 (k := 24) (by decide) in_8 wd_149 dX8_leastSum_9
  have q8 : gz_OkE M_X8_leastSum 1 0 0 12 13 _ := ok_iload_n (i := 3) dX8_leastSum_12 rfl
  have q9 : gz_OkE M_X8_leastSum 2 0 0 13 14 _ := ok_iconst (v := 0) dX8_leastSum_13 kc_i0
  have q10 : gz_OkS M_X8_leastSum 0 0 18 (gz_sat 2) := ok_goto dX8_leastSum_18 (by decide)
  have q11 : gz_OkS M_X8_leastSum 0 0 15 _ := ok_inc (v := 1) dX8_leastSum_15 kc_i1 (by decide) q10
  have q12 : gz_OkS M_X8_leastSum 0 0 8 _ := ok_iast q7 q8 q9 dX8_leastSum_14 q11
  have q13 : gz_OkS M_X8_leastSum 0 0 2 _ := ok_if q4 q5 q12
  have q14 : gz_OkS M_X8_leastSum 0 0 2 lb_X8_leastSum_2 := q13
  have q15 : gz_OkS M_X8_leastSum 0 0 2 _ := ok_loop (k := 4) q14 rfl rfl
  have q16 : gz_OkE M_X8_leastSum 0 0 0 21 22 _ := ok_iconst (v := 0) dX8_leastSum_21 kc_i0
  have q17 : gz_OkE M_X8_leastSum 0 0 0 23 24 _ := ok_iload_n (i := 3) dX8_leastSum_23 rfl
  have q18 : gz_OkE M_X8_leastSum 1 0 0 24 25 _ := ok_aload_n (i := 0) dX8_leastSum_24 rfl
  have q19 : gz_OkE M_X8_leastSum 1 0 0 24 28 _ := ok_get q18 cl_8 (k := 2) (by decide) in_8 wd_128 dX8_leastSum_25
  have q20 : gz_OkE M_X8_leastSum 2 0 0 28 29 _ := ok_iload_n (i := 1) dX8_leastSum_28 rfl
  have q21 : gz_OkE M_X8_leastSum 1 0 0 24 30 _ := ok_iald q19 q20 dX8_leastSum_29
  have q22 : gz_OkJ M_X8_leastSum 0 0 0 23 103 33 _ := ok_ic_ge q17 q21 dX8_leastSum_30 (by decide)
  have q23 : gz_OkS M_X8_leastSum 0 0 103 _ := ok_at
  have q24 : gz_OkA M_X8_leastSum 0 0 0 33 33 0 _ := ok_a0
  have q25 : gz_OkE M_X8_leastSum 0 0 0 33 34 _ := ok_aload_n (i := 0) dX8_leastSum_33 rfl
  have q26 : gz_OkA M_X8_leastSum 0 0 0 33 34 1 _ := ok_a1 q24 q25
  have q27 : gz_OkE M_X8_leastSum 2 0 0 34 35 _ := ok_iload_n (i := 1) dX8_leastSum_34 rfl
  have q28 : gz_OkA M_X8_leastSum 0 0 0 33 35 2 _ := ok_a1 q26 q27
  have q29 : gz_OkE M_X8_leastSum 4 0 0 35 36 _ := ok_iload_n (i := 3) dX8_leastSum_35 rfl
  have q30 : gz_OkA M_X8_leastSum 0 0 0 33 36 3 _ := ok_a1 q28 q29
  have q31 : gz_OkE M_X8_leastSum 0 0 0 33 39 _ := ok_cv q30 mt_X8_stagesOf cl_8 wd_827 wd_188 de_X8_stagesOf (by decide) (by decide) wd_828 wd_829 wd_830 dX8_leastSum_36 (by decide)
  have q32 : gz_OkE M_X8_leastSum 0 0 0 41 42 _ := ok_aload_n (i := 0) dX8_leastSum_41 rfl
  have q33 : gz_OkE M_X8_leastSum 0 0 0 41 45 _ := ok_get q32 cl_8 (k := 24) (by decide) in_8 wd_149 dX8_leastSum_42
  have q34 : gz_OkE M_X8_leastSum 1 0 0 45 47 _ := ok_iload (i := 4) dX8_leastSum_45
  have q35 : gz_OkA M_X8_leastSum 2 0 0 47 47 0 _ := ok_a0
  have q36 : gz_OkE M_X8_leastSum 2 0 0 47 48 _ := ok_aload_n (i := 0) dX8_leastSum_47 rfl
  have q37 : gz_OkE M_X8_leastSum 2 0 0 47 51 _ := ok_get q36 cl_8 (k := 24) (by decide) in_8 wd_149 dX8_leastSum_48
  have q38 : gz_OkE M_X8_leastSum 3 0 0 51 53 _ := ok_iload (i := 4) dX8_leastSum_51
  have q39 : gz_OkE M_X8_leastSum 2 0 0 47 54 _ := ok_iald q37 q38 dX8_leastSum_53
  have q40 : gz_OkA M_X8_leastSum 2 0 0 47 54 1 _ := ok_a1 q35 q39
  have q41 : gz_OkE M_X8_leastSum 4 0 0 54 55 _ := ok_aload_n (i := 0) dX8_leastSum_54 rfl
  have q42 : gz_OkE M_X8_leastSum 4 0 0 54 58 _ := ok_get q41 cl_8 (k := 4) (by decide) in_8 wd_130 dX8_leastSum_55
  have q43 : gz_OkE M_X8_leastSum 5 0 0 58 60 _ := ok_bipush (v := 8) dX8_leastSum_58 kc_b8
  have q44 : gz_OkE M_X8_leastSum 6 0 0 60 61 _ := ok_iload_n (i := 1) dX8_leastSum_60 rfl
  have q45 : gz_OkE M_X8_leastSum 5 0 0 58 62 _ := ok_imul q43 q44 dX8_leastSum_61
  have q46 : gz_OkE M_X8_leastSum 6 0 0 62 63 _ := ok_iload_n (i := 3) dX8_leastSum_62 rfl
  have q47 : gz_OkE M_X8_leastSum 5 0 0 58 64 _ := ok_iadd q45 q46 dX8_leastSum_63
  have q48 : gz_OkE M_X8_leastSum 4 0 0 54 65 _ := ok_iald q42 q47 dX8_leastSum_64
  have q49 : gz_OkE M_X8_leastSum 5 0 0 65 66 _ := ok_iload_n (i := 2) dX8_leastSum_65 rfl
  have q50 : gz_OkE M_X8_leastSum 4 0 0 54 67 _ := ok_imul q48 q49 dX8_leastSum_66
  have q51 : gz_OkE M_X8_leastSum 5 0 0 67 68 _ := ok_aload_n (i := 0) dX8_leastSum_67 rfl
  have q52 : gz_OkE M_X8_leastSum 5 0 0 67 71 _ := ok_get q51 cl_8 (k := 5) (by decide) in_8 wd_131 dX8_leastSum_68
  have q53 : gz_OkE M_X8_leastSum 6 0 0 71 73 _ := ok_bipush (v := 8) dX8_leastSum_71 kc_b8
  have q54 : gz_OkE M_X8_leastSum 7 0 0 73 74 _ := ok_iload_n (i := 1) dX8_leastSum_73 rfl
  have q55 : gz_OkE M_X8_leastSum 6 0 0 71 75 _ := ok_imul q53 q54 dX8_leastSum_74
  have q56 : gz_OkE M_X8_leastSum 7 0 0 75 76 _ := ok_iload_n (i := 3) dX8_leastSum_75 rfl
  have q57 : gz_OkE M_X8_leastSum 6 0 0 71 77 _ := ok_iadd q55 q56 dX8_leastSum_76
  have q58 : gz_OkE M_X8_leastSum 5 0 0 67 78 _ := ok_iald q52 q57 dX8_leastSum_77
  have q59 : gz_OkE M_X8_leastSum 4 0 0 54 79 _ := ok_iadd q50 q58 dX8_leastSum_78
  have q60 : gz_OkE M_X8_leastSum 5 0 0 79 80 _ := ok_iconst (v := 1) dX8_leastSum_79 kc_i1
  have q61 : gz_OkE M_X8_leastSum 4 0 0 54 81 _ := ok_isub q59 q60 dX8_leastSum_80
  have q62 : gz_OkE M_X8_leastSum 5 0 0 81 82 _ := ok_aload_n (i := 0) dX8_leastSum_81 rfl
  have q63 : gz_OkE M_X8_leastSum 5 0 0 81 85 _ := ok_get q62 cl_8 (k := 5) (by decide) in_8 wd_131 dX8_leastSum_82
  have q64 : gz_OkE M_X8_leastSum 6 0 0 85 87 _ := ok_bipush (v := 8) dX8_leastSum_85 kc_b8
  have q65 : gz_OkE M_X8_leastSum 7 0 0 87 88 _ := ok_iload_n (i := 1) dX8_leastSum_87 rfl
  have q66 : gz_OkE M_X8_leastSum 6 0 0 85 89 _ := ok_imul q64 q65 dX8_leastSum_88
  have q67 : gz_OkE M_X8_leastSum 7 0 0 89 90 _ := ok_iload_n (i := 3) dX8_leastSum_89 rfl
  have q68 : gz_OkE M_X8_leastSum 6 0 0 85 91 _ := ok_iadd q66 q67 dX8_leastSum_90
  have q69 : gz_OkE M_X8_leastSum 5 0 0 81 92 _ := ok_iald q63 q68 dX8_leastSum_91
  have q70 : gz_OkE M_X8_leastSum 4 0 0 54 93 _ := ok_idiv q61 q69 dX8_leastSum_92
  have q71 : gz_OkA M_X8_leastSum 2 0 0 47 93 2 _ := ok_a1 q40 q70
  have q72 : gz_OkE M_X8_leastSum 2 0 0 47 96 _ := ok_cs q71 mt_J9_max_7cf53 wd_418 wd_411 de_J9_max_7cf53 (by decide) (by decide) wd_772 wd_420 dX8_leastSum_93 (by decide)
  have q73 : gz_OkS M_X8_leastSum 0 0 100 (gz_sat 23) := ok_goto dX8_leastSum_100 (by decide)
  have q74 : gz_OkS M_X8_leastSum 0 0 97 _ := ok_inc (v := 1) dX8_leastSum_97 kc_i1 (by decide) q73
  have q75 : gz_OkS M_X8_leastSum 0 0 41 _ := ok_iast q33 q34 q72 dX8_leastSum_96 q74
  have q76 : gz_OkS M_X8_leastSum 0 0 33 _ := ok_seti (k := 4) q31 dX8_leastSum_39 (by decide) q75
  have q77 : gz_OkS M_X8_leastSum 0 0 23 _ := ok_if q22 q23 q76
  have q78 : gz_OkS M_X8_leastSum 0 0 23 lb_X8_leastSum_23 := q77
  have q79 : gz_OkS M_X8_leastSum 0 0 23 _ := ok_loop (k := 4) q78 rfl rfl
  have q80 : gz_OkE M_X8_leastSum 0 0 0 103 104 _ := ok_aload_n (i := 0) dX8_leastSum_103 rfl
  have q81 : gz_OkE M_X8_leastSum 0 0 0 103 107 _ := ok_get q80 cl_8 (k := 24) (by decide) in_8 wd_149 dX8_leastSum_104
  have q82 : gz_OkE M_X8_leastSum 1 0 0 107 108 _ := ok_iconst (v := 0) dX8_leastSum_107 kc_i0
  have q83 : gz_OkE M_X8_leastSum 0 0 0 103 109 _ := ok_iald q81 q82 dX8_leastSum_108
  have q84 : gz_OkJ M_X8_leastSum 0 0 0 103 116 112 _ := ok_if_le q83 dX8_leastSum_109 (by decide)
  have q85 : gz_OkE M_X8_leastSum 0 0 0 116 117 _ := ok_iconst (v := 0) dX8_leastSum_116 kc_i0
  have q86 : gz_OkE M_X8_leastSum 0 0 0 118 119 _ := ok_iload_n (i := 3) dX8_leastSum_118 rfl
  have q87 : gz_OkE M_X8_leastSum 1 0 0 119 120 _ := ok_aload_n (i := 0) dX8_leastSum_119 rfl
  have q88 : gz_OkE M_X8_leastSum 1 0 0 119 123 _ := ok_get q87 cl_8 (k := 11) (by decide) in_8 wd_137 dX8_leastSum_120
  have q89 : gz_OkE M_X8_leastSum 2 0 0 123 124 _ := ok_iload_n (i := 1) dX8_leastSum_123 rfl
  have q90 : gz_OkE M_X8_leastSum 1 0 0 119 125 _ := ok_iald q88 q89 dX8_leastSum_124
  have q91 : gz_OkJ M_X8_leastSum 0 0 0 118 154 128 _ := ok_ic_ge q86 q90 dX8_leastSum_125 (by decide)
  have q92 : gz_OkS M_X8_leastSum 0 0 154 _ := ok_at
  have q93 : gz_OkE M_X8_leastSum 0 0 0 128 129 _ := ok_aload_n (i := 0) dX8_leastSum_128 rfl
  have q94 : gz_OkE M_X8_leastSum 0 0 0 128 132 _ := ok_get q93 cl_8 (k := 24) (by decide) in_8 wd_149 dX8_leastSum_129
  have q95 : gz_OkE M_X8_leastSum 1 0 0 132 133 _ := ok_iconst (v := 1) dX8_leastSum_132 kc_i1
  have q96 : gz_OkE M_X8_leastSum 2 0 0 133 134 _ := ok_iload_n (i := 3) dX8_leastSum_133 rfl
  have q97 : gz_OkE M_X8_leastSum 1 0 0 132 135 _ := ok_ishl q95 q96 dX8_leastSum_134
  have q98 : gz_OkA M_X8_leastSum 2 0 0 135 135 0 _ := ok_a0
  have q99 : gz_OkE M_X8_leastSum 2 0 0 135 136 _ := ok_iconst (v := 1) dX8_leastSum_135 kc_i1
  have q100 : gz_OkA M_X8_leastSum 2 0 0 135 136 1 _ := ok_a1 q98 q99
  have q101 : gz_OkE M_X8_leastSum 4 0 0 136 137 _ := ok_aload_n (i := 0) dX8_leastSum_136 rfl
  have q102 : gz_OkE M_X8_leastSum 4 0 0 136 140 _ := ok_get q101 cl_8 (k := 24) (by decide) in_8 wd_149 dX8_leastSum_137
  have q103 : gz_OkE M_X8_leastSum 5 0 0 140 141 _ := ok_iconst (v := 1) dX8_leastSum_140 kc_i1
  have q104 : gz_OkE M_X8_leastSum 6 0 0 141 142 _ := ok_iload_n (i := 3) dX8_leastSum_141 rfl
  have q105 : gz_OkE M_X8_leastSum 5 0 0 140 143 _ := ok_ishl q103 q104 dX8_leastSum_142
  have q106 : gz_OkE M_X8_leastSum 4 0 0 136 144 _ := ok_iald q102 q105 dX8_leastSum_143
  have q107 : gz_OkA M_X8_leastSum 2 0 0 135 144 2 _ := ok_a1 q100 q106
  have q108 : gz_OkE M_X8_leastSum 2 0 0 135 147 _ := ok_cs q107 mt_J9_max_7cf53 wd_418 wd_411 de_J9_max_7cf53 (by decide) (by decide) wd_772 wd_420 dX8_leastSum_144 (by decide)
  have q109 : gz_OkS M_X8_leastSum 0 0 151 (gz_sat 118) := ok_goto dX8_leastSum_151 (by decide)
  have q110 : gz_OkS M_X8_leastSum 0 0 148 _ := ok_inc (v := 1) dX8_leastSum_148 kc_i1 (by decide) q109
  have q111 : gz_OkS M_X8_leastSum 0 0 128 _ := ok_iast q94 q97 q108 dX8_leastSum_147 q110
  have q112 : gz_OkS M_X8_leastSum 0 0 118 _ := ok_if q91 q92 q111
  have q113 : gz_OkS M_X8_leastSum 0 0 118 lb_X8_leastSum_118 := q112
  have q114 : gz_OkS M_X8_leastSum 0 0 118 _ := ok_loop (k := 4) q113 rfl rfl
  have q115 : gz_OkE M_X8_leastSum 0 0 0 154 157 _ := ok_sipush (v := 1000) dX8_leastSum_154 kc_s1000
  have q116 : gz_OkE M_X8_leastSum 0 0 0 158 159 _ := ok_aload_n (i := 0) dX8_leastSum_158 rfl
  have q117 : gz_OkE M_X8_leastSum 0 0 0 158 162 _ := ok_get q116 cl_8 (k := 24) (by decide) in_8 wd_149 dX8_leastSum_159
  have q118 : gz_OkE M_X8_leastSum 1 0 0 162 163 _ := ok_iconst (v := 1) dX8_leastSum_162 kc_i1
  have q119 : gz_OkE M_X8_leastSum 0 0 0 158 164 _ := ok_iald q117 q118 dX8_leastSum_163
  have q120 : gz_OkE M_X8_leastSum 0 0 0 166 168 _ := ok_iload (i := 4) dX8_leastSum_166
  have q121 : gz_OkE M_X8_leastSum 1 0 0 168 170 _ := ok_bipush (v := 90) dX8_leastSum_168 kc_b90
  have q122 : gz_OkJ M_X8_leastSum 0 0 0 166 237 173 _ := ok_ic_gt q120 q121 dX8_leastSum_170 (by decide)
  have q123 : gz_OkS M_X8_leastSum 0 0 237 _ := ok_at
  have q124 : gz_OkE M_X8_leastSum 0 0 0 173 174 _ := ok_aload_n (i := 0) dX8_leastSum_173 rfl
  have q125 : gz_OkE M_X8_leastSum 0 0 0 173 177 _ := ok_get q124 cl_8 (k := 24) (by decide) in_8 wd_149 dX8_leastSum_174
  have q126 : gz_OkE M_X8_leastSum 1 0 0 177 178 _ := ok_iconst (v := 2) dX8_leastSum_177 kc_i2
  have q127 : gz_OkE M_X8_leastSum 0 0 0 173 179 _ := ok_iald q125 q126 dX8_leastSum_178
  have q128 : gz_OkE M_X8_leastSum 0 0 0 181 183 _ := ok_iload (i := 5) dX8_leastSum_181
  have q129 : gz_OkE M_X8_leastSum 1 0 0 183 185 _ := ok_bipush (v := 90) dX8_leastSum_183 kc_b90
  have q130 : gz_OkJ M_X8_leastSum 0 0 0 181 231 188 _ := ok_ic_gt q128 q129 dX8_leastSum_185 (by decide)
  have q131 : gz_OkS M_X8_leastSum 0 0 231 _ := ok_at
  have q132 : gz_OkE M_X8_leastSum 0 0 0 188 190 _ := ok_iload (i := 4) dX8_leastSum_188
  have q133 : gz_OkE M_X8_leastSum 1 0 0 190 192 _ := ok_iload (i := 5) dX8_leastSum_190
  have q134 : gz_OkE M_X8_leastSum 0 0 0 188 193 _ := ok_iadd q132 q133 dX8_leastSum_192
  have q135 : gz_OkE M_X8_leastSum 1 0 0 193 194 _ := ok_aload_n (i := 0) dX8_leastSum_193 rfl
  have q136 : gz_OkE M_X8_leastSum 1 0 0 193 197 _ := ok_get q135 cl_8 (k := 24) (by decide) in_8 wd_149 dX8_leastSum_194
  have q137 : gz_OkE M_X8_leastSum 2 0 0 197 198 _ := ok_iconst (v := 3) dX8_leastSum_197 kc_i3
  have q138 : gz_OkE M_X8_leastSum 1 0 0 193 199 _ := ok_iald q136 q137 dX8_leastSum_198
  have q139 : gz_OkJ M_X8_leastSum 0 0 0 188 205 202 _ := ok_ic_ge q134 q138 dX8_leastSum_199 (by decide)
  have q140 : gz_OkA M_X8_leastSum 0 0 0 205 205 0 _ := ok_a0
  have q141 : gz_OkE M_X8_leastSum 0 0 0 205 206 _ := ok_iload_n (i := 3) dX8_leastSum_205 rfl
  have q142 : gz_OkA M_X8_leastSum 0 0 0 205 206 1 _ := ok_a1 q140 q141
  have q143 : gz_OkE M_X8_leastSum 2 0 0 206 208 _ := ok_iload (i := 4) dX8_leastSum_206
  have q144 : gz_OkE M_X8_leastSum 3 0 0 208 210 _ := ok_iload (i := 5) dX8_leastSum_208
  have q145 : gz_OkE M_X8_leastSum 2 0 0 206 211 _ := ok_iadd q143 q144 dX8_leastSum_210
  have q146 : gz_OkA M_X8_leastSum 3 0 0 211 211 0 _ := ok_a0
  have q147 : gz_OkE M_X8_leastSum 3 0 0 211 212 _ := ok_aload_n (i := 0) dX8_leastSum_211 rfl
  have q148 : gz_OkA M_X8_leastSum 3 0 0 211 212 1 _ := ok_a1 q146 q147
  have q149 : gz_OkE M_X8_leastSum 5 0 0 212 213 _ := ok_iload_n (i := 1) dX8_leastSum_212 rfl
  have q150 : gz_OkA M_X8_leastSum 3 0 0 211 213 2 _ := ok_a1 q148 q149
  have q151 : gz_OkE M_X8_leastSum 7 0 0 213 215 _ := ok_iload (i := 4) dX8_leastSum_213
  have q152 : gz_OkA M_X8_leastSum 3 0 0 211 215 3 _ := ok_a1 q150 q151
  have q153 : gz_OkE M_X8_leastSum 9 0 0 215 217 _ := ok_iload (i := 5) dX8_leastSum_215
  have q154 : gz_OkA M_X8_leastSum 3 0 0 211 217 4 _ := ok_a1 q152 q153
  have q155 : gz_OkE M_X8_leastSum 3 0 0 211 220 _ := ok_cv q154 mt_X8_others cl_8 wd_831 wd_188 de_X8_others (by decide) (by decide) wd_832 wd_833 wd_834 dX8_leastSum_217 (by decide)
  have q156 : gz_OkE M_X8_leastSum 2 0 0 206 221 _ := ok_iadd q145 q155 dX8_leastSum_220
  have q157 : gz_OkA M_X8_leastSum 0 0 0 205 221 2 _ := ok_a1 q142 q156
  have q158 : gz_OkE M_X8_leastSum 0 0 0 205 224 _ := ok_cs q157 mt_J9_min_7cf53 wd_425 wd_411 de_J9_min_7cf53 (by decide) (by decide) wd_826 wd_427 dX8_leastSum_221 (by decide)
  have q159 : gz_OkS M_X8_leastSum 0 0 225 _ := ok_at
  have q160 : gz_OkS M_X8_leastSum 0 0 205 _ := ok_seti_n (k := 3) q158 dX8_leastSum_224 rfl (by decide) q159
  have q161 : gz_OkS M_X8_leastSum 0 0 202 (gz_sat 225) := ok_goto dX8_leastSum_202 (by decide)
  have q162 : gz_OkS M_X8_leastSum 0 0 188 _ := ok_if q139 q160 q161
  have q163 : gz_OkS M_X8_leastSum 0 0 228 (gz_sat 181) := ok_goto dX8_leastSum_228 (by decide)
  have q164 : gz_OkS M_X8_leastSum 0 0 225 _ := ok_inc (v := 1) dX8_leastSum_225 kc_i1 (by decide) q163
  have q165 : gz_OkS M_X8_leastSum 0 0 188 _ := ok_seq (L := 225) (k := 6) q162 q164
  have q166 : gz_OkS M_X8_leastSum 0 0 181 _ := ok_if q130 q131 q165
  have q167 : gz_OkS M_X8_leastSum 0 0 181 lb_X8_leastSum_181 := q166
  have q168 : gz_OkS M_X8_leastSum 0 0 181 _ := ok_loop (k := 6) q167 rfl rfl
  have q169 : gz_OkS M_X8_leastSum 0 0 234 (gz_sat 166) := ok_goto dX8_leastSum_234 (by decide)
  have q170 : gz_OkS M_X8_leastSum 0 0 231 _ := ok_inc (v := 1) dX8_leastSum_231 kc_i1 (by decide) q169
  have q171 : gz_OkS M_X8_leastSum 0 0 181 _ := ok_seq (L := 231) (k := 5) q168 q170
  have q172 : gz_OkS M_X8_leastSum 0 0 173 _ := ok_seti (k := 5) q127 dX8_leastSum_179 (by decide) q171
  have q173 : gz_OkS M_X8_leastSum 0 0 166 _ := ok_if q122 q123 q172
  have q174 : gz_OkS M_X8_leastSum 0 0 166 lb_X8_leastSum_166 := q173
  have q175 : gz_OkS M_X8_leastSum 0 0 166 _ := ok_loop (k := 5) q174 rfl rfl
  have q176 : gz_OkE M_X8_leastSum 0 0 0 237 238 _ := ok_iload_n (i := 3) dX8_leastSum_237 rfl
  have q177 : gz_OkS M_X8_leastSum 0 0 237 _ := ok_ri q176 dX8_leastSum_238
  have q178 : gz_OkS M_X8_leastSum 0 0 166 _ := ok_seq (L := 237) (k := 4) q175 q177
  have q179 : gz_OkS M_X8_leastSum 0 0 158 _ := ok_seti (k := 4) q119 dX8_leastSum_164 (by decide) q178
  have q180 : gz_OkS M_X8_leastSum 0 0 154 _ := ok_seti_n (k := 3) q115 dX8_leastSum_157 rfl (by decide) q179
  have q181 : gz_OkS M_X8_leastSum 0 0 118 _ := ok_seq (L := 154) (k := 2) q114 q180
  have q182 : gz_OkS M_X8_leastSum 0 0 116 _ := ok_seti_n (k := 3) q85 dX8_leastSum_117 rfl (by decide) q181
  have q183 : gz_OkE M_X8_leastSum 0 0 0 112 115 _ := ok_sipush (v := 1000) dX8_leastSum_112 kc_s1000
  have q184 : gz_OkS M_X8_leastSum 0 0 112 _ := ok_ri q183 dX8_leastSum_115
  have q185 : gz_OkS M_X8_leastSum 0 0 103 _ := ok_if q84 q182 q184
  have q186 : gz_OkS M_X8_leastSum 0 0 23 _ := ok_seq (L := 103) (k := 2) q79 q185
  have q187 : gz_OkS M_X8_leastSum 0 0 21 _ := ok_seti_n (k := 3) q16 dX8_leastSum_22 rfl (by decide) q186
  have q188 : gz_OkS M_X8_leastSum 0 0 2 _ := ok_seq (L := 21) (k := 3) q15 q187
  have q189 : gz_OkS M_X8_leastSum 0 0 0 _ := ok_seti_n (k := 3) q1 dX8_leastSum_1 rfl (by decide) q188
  have z : gz_OkS M_X8_leastSum 0 0 0 sm_X8_leastSum := q189
  exact gz_met (plainFor_of_name (by decide)) z (by decide) (by decide)
