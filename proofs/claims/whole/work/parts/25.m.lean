noncomputable def sm_X8_width : gz_Sx := gz_ri (gz_te (gz_ja (gz_j1 (fun x => decide (x = 0)) (gz_cs se_X8_isIn (gz_a1 (gz_a1 (gz_a1 (gz_a0) (gz_li 8)) (gz_i (0))) (gz_i (1))))) (gz_j1 (fun x => decide (¬ x = 0)) (gz_cv 8 48 se_X8_isWay (gz_a1 (gz_a1 (gz_a1 (gz_a1 (gz_a1 (gz_a1 (gz_a1 (gz_a1 (gz_a0) (gz_la 0)) (gz_li 1)) (gz_li 2)) (gz_li 3)) (gz_li 4)) (gz_li 5)) (gz_li 6)) (gz_li 7))))) (gz_cv 8 48 se_X8_passing (gz_a1 (gz_a1 (gz_a1 (gz_a1 (gz_a1 (gz_a0) (gz_la 0)) (gz_te (gz_j1 (fun x => decide (¬ x = 0)) (gz_li 8)) (gz_li 5) (gz_li 4))) (gz_li 6)) (gz_li 7)) (gz_te (gz_j2 (fun x y => decide (¬ x = y)) (gz_li 8) (gz_i (1))) (gz_i (0)) (gz_i (1))))) (gz_i (-1)))
noncomputable def se_X8_width : gz_Me := gz_sem (some .int) 9 sm_X8_width
abbrev rm_X8_width : Room := { frames := 3, cells := 0, slots := 0, locals := 74 }
abbrev M_X8_width : gz_Mi := (cX8_width, 9, RX8, 3, 74, "width", none)
theorem de_X8_width : yX8_width.cls ≠ "java/lang/invoke/MethodHandle" ∧ yX8_width.cls ≠ "java/lang/invoke/VarHandle" ∧ (parseMethodDescriptor yX8_width.desc).map (fun d => d.parameters.length) = some 8 := by decide +kernel
set_option maxRecDepth 100000 in
theorem mt_X8_width : gz_Mt yX8_width cX8_width 9 (some .int) rm_X8_width se_X8_width := by
  have q1 : gz_OkA M_X8_width 0 0 0 0 0 0 _ := ok_a0
  have q2 : gz_OkE M_X8_width 0 0 0 0 2 _ := ok_iload (i := 8) dX8_width_0
  have q3 : gz_OkA M_X8_width 0 0 0 0 2 1 _ := ok_a1 q1 q2
  have q4 : gz_OkE M_X8_width 2 0 0 2 3 _ := ok_iconst (v := 0) dX8_width_2 kc_i0
  have q5 : gz_OkA M_X8_width 0 0 0 0 3 2 _ := ok_a1 q3 q4
  have q6 : gz_OkE M_X8_width 4 0 0 3 4 _ := ok_iconst (v := 1) dX8_width_3 kc_i1
  have q7 : gz_OkA M_X8_width 0 0 0 0 4 3 _ := ok_a1 q5 q6
  have q8 : gz_OkE M_X8_width 0 0 0 0 7 _ := ok_cs q7 mt_X8_isIn wd_765 wd_188 de_X8_isIn (by decide) (by decide) wd_766 wd_767 dX8_width_4 (by decide)
  have q9 : gz_OkJ M_X8_width 0 0 0 0 28 10 _ := ok_if_eq q8 dX8_width_7 (by decide)
  have q10 : gz_OkA M_X8_width 0 0 0 10 10 0 _ := ok_a0
  have q11 : gz_OkE M_X8_width 0 0 0 10 11 _ := ok_aload_n (i := 0) dX8_width_10 rfl
  have q12 : gz_OkA M_X8_width 0 0 0 10 11 1 _ := ok_a1 q10 q11
  have q13 : gz_OkE M_X8_width 2 0 0 11 12 _ := ok_iload_n (i := 1) dX8_width_11 rfl
  have q14 : gz_OkA M_X8_width 0 0 0 10 12 2 _ := ok_a1 q12 q13
  have q15 : gz_OkE M_X8_width 4 0 0 12 13 _ := ok_iload_n (i := 2) dX8_width_12 rfl
  have q16 : gz_OkA M_X8_width 0 0 0 10 13 3 _ := ok_a1 q14 q15
  have q17 : gz_OkE M_X8_width 6 0 0 13 14 _ := ok_iload_n (i := 3) dX8_width_13 rfl
  have q18 : gz_OkA M_X8_width 0 0 0 10 14 4 _ := ok_a1 q16 q17
  have q19 : gz_OkE M_X8_width 8 0 0 14 16 _ := ok_iload (i := 4) dX8_width_14
  have q20 : gz_OkA M_X8_width 0 0 0 10 16 5 _ := ok_a1 q18 q19
  have q21 : gz_OkE M_X8_width 10 0 0 16 18 _ := ok_iload (i := 5) dX8_width_16
  have q22 : gz_OkA M_X8_width 0 0 0 10 18 6 _ := ok_a1 q20 q21
  have q23 : gz_OkE M_X8_width 12 0 0 18 20 _ := ok_iload (i := 6) dX8_width_18
  have q24 : gz_OkA M_X8_width 0 0 0 10 20 7 _ := ok_a1 q22 q23
  have q25 : gz_OkE M_X8_width 14 0 0 20 22 _ := ok_iload (i := 7) dX8_width_20
  have q26 : gz_OkA M_X8_width 0 0 0 10 22 8 _ := ok_a1 q24 q25
  have q27 : gz_OkE M_X8_width 0 0 0 10 25 _ := ok_cv q26 mt_X8_isWay cl_8 wd_869 wd_188 de_X8_isWay (by decide) (by decide) wd_870 wd_871 wd_872 dX8_width_22 (by decide)
  have q28 : gz_OkJ M_X8_width 0 0 0 10 32 28 _ := ok_if_ne q27 dX8_width_25 (by decide)
  have q29 : gz_OkJ M_X8_width 0 0 0 0 32 28 _ := ok_ja q9 q28
  have q30 : gz_OkE M_X8_width 0 0 0 28 29 _ := ok_iconst (v := -1) dX8_width_28 kc_im1
  have q31 : gz_OkE M_X8_width 0 0 0 28 63 _ := ok_eg q30 dX8_width_29 (by decide)
  have q32 : gz_OkA M_X8_width 0 0 0 32 32 0 _ := ok_a0
  have q33 : gz_OkE M_X8_width 0 0 0 32 33 _ := ok_aload_n (i := 0) dX8_width_32 rfl
  have q34 : gz_OkA M_X8_width 0 0 0 32 33 1 _ := ok_a1 q32 q33
  have q35 : gz_OkE M_X8_width 2 0 0 33 35 _ := ok_iload (i := 8) dX8_width_33
  have q36 : gz_OkJ M_X8_width 2 0 0 33 43 38 _ := ok_if_ne q35 dX8_width_35 (by decide)
  have q37 : gz_OkE M_X8_width 2 0 0 38 40 _ := ok_iload (i := 4) dX8_width_38
  have q38 : gz_OkE M_X8_width 2 0 0 38 45 _ := ok_eg q37 dX8_width_40 (by decide)
  have q39 : gz_OkE M_X8_width 2 0 0 43 45 _ := ok_iload (i := 5) dX8_width_43
  have q40 : gz_OkE M_X8_width 2 0 0 33 45 _ := ok_te2 q36 q38 q39
  have q41 : gz_OkA M_X8_width 0 0 0 32 45 2 _ := ok_a1 q34 q40
  have q42 : gz_OkE M_X8_width 4 0 0 45 47 _ := ok_iload (i := 6) dX8_width_45
  have q43 : gz_OkA M_X8_width 0 0 0 32 47 3 _ := ok_a1 q41 q42
  have q44 : gz_OkE M_X8_width 6 0 0 47 49 _ := ok_iload (i := 7) dX8_width_47
  have q45 : gz_OkA M_X8_width 0 0 0 32 49 4 _ := ok_a1 q43 q44
  have q46 : gz_OkE M_X8_width 8 0 0 49 51 _ := ok_iload (i := 8) dX8_width_49
  have q47 : gz_OkE M_X8_width 9 0 0 51 52 _ := ok_iconst (v := 1) dX8_width_51 kc_i1
  have q48 : gz_OkJ M_X8_width 8 0 0 49 59 55 _ := ok_ic_ne q46 q47 dX8_width_52 (by decide)
  have q49 : gz_OkE M_X8_width 8 0 0 55 56 _ := ok_iconst (v := 1) dX8_width_55 kc_i1
  have q50 : gz_OkE M_X8_width 8 0 0 55 60 _ := ok_eg q49 dX8_width_56 (by decide)
  have q51 : gz_OkE M_X8_width 8 0 0 59 60 _ := ok_iconst (v := 0) dX8_width_59 kc_i0
  have q52 : gz_OkE M_X8_width 8 0 0 49 60 _ := ok_te2 q48 q50 q51
  have q53 : gz_OkA M_X8_width 0 0 0 32 60 5 _ := ok_a1 q45 q52
  have q54 : gz_OkE M_X8_width 0 0 0 32 63 _ := ok_cv q53 mt_X8_passing cl_8 wd_873 wd_188 de_X8_passing (by decide) (by decide) wd_874 wd_875 wd_876 dX8_width_60 (by decide)
  have q55 : gz_OkE M_X8_width 0 0 0 0 63 _ := ok_te2 q29 q31 q54
  have q56 : gz_OkS M_X8_width 0 0 0 _ := ok_ri q55 dX8_width_63
  have z : gz_OkS M_X8_width 0 0 0 sm_X8_width := q56
  exact gz_met (plainFor_of_name (by decide)) z (by decide) (by decide)
noncomputable def lb_X8_wave_66 : gz_Sx := gz_if (gz_j2 (fun x y => decide (y ≤ x)) (gz_li 15) (gz_te (gz_j2 (fun x y => decide (¬ x = y)) (gz_get 8 48 47 (gz_la 0)) (gz_i (3))) (gz_i (1)) (gz_li 9))) (gz_sat 200) (gz_ast 100 (gz_get 8 48 46 (gz_la 0)) (gz_i (1)) (gz_li 14) (gz_ast 100 (gz_get 8 48 46 (gz_la 0)) (gz_i (2)) (gz_li 15) (gz_seti 16 (gz_cv 8 48 se_X8_passing (gz_a1 (gz_a1 (gz_a1 (gz_a1 (gz_a1 (gz_a0) (gz_la 0)) (gz_li 4)) (gz_li 6)) (gz_li 7)) (gz_i (0)))) (gz_seti 17 (gz_cv 8 48 se_X8_passing (gz_a1 (gz_a1 (gz_a1 (gz_a1 (gz_a1 (gz_a0) (gz_la 0)) (gz_li 5)) (gz_li 6)) (gz_li 7)) (gz_i (1)))) (gz_seti 18 (gz_cs se_J9_min_7cf53 (gz_a1 (gz_a1 (gz_a0) (gz_li 16)) (gz_li 17))) (gz_seq 194 16 (gz_if (gz_j2 (fun x y => decide (x < y)) (gz_li 18) (gz_li 10)) (gz_sat 194) (gz_if (gz_jo (gz_j2 (fun x y => decide (¬ x = y)) (gz_li 18) (gz_li 10)) (gz_j2 (fun x y => decide (y < x)) (gz_ib (fun x y => x + y) (gz_li 16) (gz_li 17)) (gz_li 11))) (gz_seti 10 (gz_li 18) (gz_seti 11 (gz_ib (fun x y => x + y) (gz_li 16) (gz_li 17)) (gz_seti 12 (gz_li 14) (gz_seti 13 (gz_te (gz_j2 (fun x y => decide (¬ x = y)) (gz_get 8 48 47 (gz_la 0)) (gz_i (3))) (gz_i (-1)) (gz_li 15)) (gz_sat 194))))) (gz_sat 194))) (gz_inc 15 (1) (gz_sat 66))))))))
noncomputable def lb_X8_wave_56 : gz_Sx := gz_if (gz_j2 (fun x y => decide (y ≤ x)) (gz_li 14) (gz_li 9)) (gz_sat 206) (gz_seti 15 (gz_i (0)) (gz_seq 200 15 (gz_loop 66 16 lb_X8_wave_66) (gz_inc 14 (1) (gz_sat 56))))
noncomputable def sm_X8_wave : gz_Sx := gz_if (gz_ja (gz_j1 (fun x => decide (x = 0)) (gz_cs se_X8_isIn (gz_a1 (gz_a1 (gz_a1 (gz_a0) (gz_li 8)) (gz_i (0))) (gz_i (2))))) (gz_j1 (fun x => decide (¬ x = 0)) (gz_cv 8 48 se_X8_isWay (gz_a1 (gz_a1 (gz_a1 (gz_a1 (gz_a1 (gz_a1 (gz_a1 (gz_a1 (gz_a0) (gz_la 0)) (gz_li 1)) (gz_li 2)) (gz_li 3)) (gz_li 4)) (gz_li 5)) (gz_li 6)) (gz_li 7))))) (gz_seti 9 (gz_ald 100 (gz_get 8 48 10 (gz_la 0)) (gz_ib (fun x y => x + y) (gz_i (8)) (gz_li 1))) (gz_seti 10 (gz_i (-1)) (gz_seti 11 (gz_i (0)) (gz_seti 12 (gz_i (0)) (gz_seti 13 (gz_i (-1)) (gz_seti 14 (gz_i (0)) (gz_seq 206 14 (gz_loop 56 15 lb_X8_wave_56) (gz_ri (gz_te (gz_j1 (fun x => decide (¬ x = 0)) (gz_li 8)) (gz_te (gz_j2 (fun x y => decide (¬ x = y)) (gz_li 8) (gz_i (1))) (gz_li 13) (gz_li 12)) (gz_li 10)))))))))) (gz_ri (gz_i (-1)))
noncomputable def se_X8_wave : gz_Me := gz_sem (some .int) 19 sm_X8_wave
abbrev rm_X8_wave : Room := { frames := 3, cells := 0, slots := 0, locals := 74 }
abbrev M_X8_wave : gz_Mi := (cX8_wave, 19, RX8, 3, 74, "wave", none)
theorem de_X8_wave : yX8_wave.cls ≠ "java/lang/invoke/MethodHandle" ∧ yX8_wave.cls ≠ "java/lang/invoke/VarHandle" ∧ (parseMethodDescriptor yX8_wave.desc).map (fun d => d.parameters.length) = some 8 := by decide +kernel
set_option maxRecDepth 100000 in
theorem mt_X8_wave : gz_Mt yX8_wave cX8_wave 19 (some .int) rm_X8_wave se_X8_wave := by
  have q1 : gz_OkA M_X8_wave 0 0 0 0 0 0 _ := ok_a0
  have q2 : gz_OkE M_X8_wave 0 0 0 0 2 _ := ok_iload (i := 8) dX8_wave_0
  have q3 : gz_OkA M_X8_wave 0 0 0 0 2 1 _ := ok_a1 q1 q2
  have q4 : gz_OkE M_X8_wave 2 0 0 2 3 _ := ok_iconst (v := 0) dX8_wave_2 kc_i0
  have q5 : gz_OkA M_X8_wave 0 0 0 0 3 2 _ := ok_a1 q3 q4
  have q6 : gz_OkE M_X8_wave 4 0 0 3 4 _ := ok_iconst (v := 2) dX8_wave_3 kc_i2
  have q7 : gz_OkA M_X8_wave 0 0 0 0 4 3 _ := ok_a1 q5 q6
  have q8 : gz_OkE M_X8_wave 0 0 0 0 7 _ := ok_cs q7 mt_X8_isIn wd_765 wd_188 de_X8_isIn (by decide) (by decide) wd_766 wd_767 dX8_wave_4 (by decide)
  have q9 : gz_OkJ M_X8_wave 0 0 0 0 28 10 _ := ok_if_eq q8 dX8_wave_7 (by decide)
  have q10 : gz_OkA M_X8_wave 0 0 0 10 10 0 _ := ok_a0
  have q11 : gz_OkE M_X8_wave 0 0 0 10 11 _ := ok_aload_n (i := 0) dX8_wave_10 rfl
  have q12 : gz_OkA M_X8_wave 0 0 0 10 11 1 _ := ok_a1 q10 q11
  have q13 : gz_OkE M_X8_wave 2 0 0 11 12 _ := ok_iload_n (i := 1) dX8_wave_11 rfl
  have q14 : gz_OkA M_X8_wave 0 0 0 10 12 2 _ := ok_a1 q12 q13
  have q15 : gz_OkE M_X8_wave 4 0 0 12 13 _ := ok_iload_n (i := 2) dX8_wave_12 rfl
  have q16 : gz_OkA M_X8_wave 0 0 0 10 13 3 _ := ok_a1 q14 q15
  have q17 : gz_OkE M_X8_wave 6 0 0 13 14 _ := ok_iload_n (i := 3) dX8_wave_13 rfl
  have q18 : gz_OkA M_X8_wave 0 0 0 10 14 4 _ := ok_a1 q16 q17
  have q19 : gz_OkE M_X8_wave 8 0 0 14 16 _ := ok_iload (i := 4) dX8_wave_14
  have q20 : gz_OkA M_X8_wave 0 0 0 10 16 5 _ := ok_a1 q18 q19
  have q21 : gz_OkE M_X8_wave 10 0 0 16 18 _ := ok_iload (i := 5) dX8_wave_16
  have q22 : gz_OkA M_X8_wave 0 0 0 10 18 6 _ := ok_a1 q20 q21
  have q23 : gz_OkE M_X8_wave 12 0 0 18 20 _ := ok_iload (i := 6) dX8_wave_18
  have q24 : gz_OkA M_X8_wave 0 0 0 10 20 7 _ := ok_a1 q22 q23
  have q25 : gz_OkE M_X8_wave 14 0 0 20 22 _ := ok_iload (i := 7) dX8_wave_20
  have q26 : gz_OkA M_X8_wave 0 0 0 10 22 8 _ := ok_a1 q24 q25
  have q27 : gz_OkE M_X8_wave 0 0 0 10 25 _ := ok_cv q26 mt_X8_isWay cl_8 wd_869 wd_188 de_X8_isWay (by decide) (by decide) wd_870 wd_871 wd_872 dX8_wave_22 (by decide)
  have q28 : gz_OkJ M_X8_wave 0 0 0 10 30 28 _ := ok_if_ne q27 dX8_wave_25 (by decide)
  have q29 : gz_OkJ M_X8_wave 0 0 0 0 30 28 _ := ok_ja q9 q28
  have q30 : gz_OkE M_X8_wave 0 0 0 30 31 _ := ok_aload_n (i := 0) dX8_wave_30 rfl
  have q31 : gz_OkE M_X8_wave 0 0 0 30 34 _ := ok_get q30 cl_8 (k := 10) (by decide) in_8 wd_136 dX8_wave_31
  have q32 : gz_OkE M_X8_wave 1 0 0 34 36 _ := ok_bipush (v := 8) dX8_wave_34 kc_b8
  have q33 : gz_OkE M_X8_wave 2 0 0 36 37 _ := ok_iload_n (i := 1) dX8_wave_36 rfl
  have q34 : gz_OkE M_X8_wave 1 0 0 34 38 _ := ok_iadd q32 q33 dX8_wave_37
  have q35 : gz_OkE M_X8_wave 0 0 0 30 39 _ := ok_iald q31 q34 dX8_wave_38
  have q36 : gz_OkE M_X8_wave 0 0 0 41 42 _ := ok_iconst (v := -1) dX8_wave_41 kc_im1
  have q37 : gz_OkE M_X8_wave 0 0 0 44 45 _ := ok_iconst (v := 0) dX8_wave_44 kc_i0
  have q38 : gz_OkE M_X8_wave 0 0 0 47 48 _ := ok_iconst (v := 0) dX8_wave_47 kc_i0
  have q39 : gz_OkE M_X8_wave 0 0 0 50 51 _ := ok_iconst (v := -1) dX8_wave_50 kc_im1
  have q40 : gz_OkE M_X8_wave 0 0 0 53 54 _ := ok_iconst (v := 0) dX8_wave_53 kc_i0
  have q41 : gz_OkE M_X8_wave 0 0 0 56 58 _ := ok_iload (i := 14) dX8_wave_56
  have q42 : gz_OkE M_X8_wave 1 0 0 58 60 _ := ok_iload (i := 9) dX8_wave_58
  have q43 : gz_OkJ M_X8_wave 0 0 0 56 206 63 _ := ok_ic_ge q41 q42 dX8_wave_60 (by decide)
  have q44 : gz_OkS M_X8_wave 0 0 206 _ := ok_at
  have q45 : gz_OkE M_X8_wave 0 0 0 63 64 _ := ok_iconst (v := 0) dX8_wave_63 kc_i0
  have q46 : gz_OkE M_X8_wave 0 0 0 66 68 _ := ok_iload (i := 15) dX8_wave_66
  have q47 : gz_OkE M_X8_wave 1 0 0 68 69 _ := ok_aload_n (i := 0) dX8_wave_68 rfl
  have q48 : gz_OkE M_X8_wave 1 0 0 68 72 _ := ok_get q47 cl_8 (k := 47) (by decide) in_8 wd_178 dX8_wave_69
  have q49 : gz_OkE M_X8_wave 2 0 0 72 73 _ := ok_iconst (v := 3) dX8_wave_72 kc_i3
  have q50 : gz_OkJ M_X8_wave 1 0 0 68 81 76 _ := ok_ic_ne q48 q49 dX8_wave_73 (by decide)
  have q51 : gz_OkE M_X8_wave 1 0 0 76 78 _ := ok_iload (i := 9) dX8_wave_76
  have q52 : gz_OkE M_X8_wave 1 0 0 76 82 _ := ok_eg q51 dX8_wave_78 (by decide)
  have q53 : gz_OkE M_X8_wave 1 0 0 81 82 _ := ok_iconst (v := 1) dX8_wave_81 kc_i1
  have q54 : gz_OkE M_X8_wave 1 0 0 68 82 _ := ok_te2 q50 q52 q53
  have q55 : gz_OkJ M_X8_wave 0 0 0 66 200 85 _ := ok_ic_ge q46 q54 dX8_wave_82 (by decide)
  have q56 : gz_OkS M_X8_wave 0 0 200 _ := ok_at
  have q57 : gz_OkE M_X8_wave 0 0 0 85 86 _ := ok_aload_n (i := 0) dX8_wave_85 rfl
  have q58 : gz_OkE M_X8_wave 0 0 0 85 89 _ := ok_get q57 cl_8 (k := 46) (by decide) in_8 wd_169 dX8_wave_86
  have q59 : gz_OkE M_X8_wave 1 0 0 89 90 _ := ok_iconst (v := 1) dX8_wave_89 kc_i1
  have q60 : gz_OkE M_X8_wave 2 0 0 90 92 _ := ok_iload (i := 14) dX8_wave_90
  have q61 : gz_OkE M_X8_wave 0 0 0 93 94 _ := ok_aload_n (i := 0) dX8_wave_93 rfl
  have q62 : gz_OkE M_X8_wave 0 0 0 93 97 _ := ok_get q61 cl_8 (k := 46) (by decide) in_8 wd_169 dX8_wave_94
  have q63 : gz_OkE M_X8_wave 1 0 0 97 98 _ := ok_iconst (v := 2) dX8_wave_97 kc_i2
  have q64 : gz_OkE M_X8_wave 2 0 0 98 100 _ := ok_iload (i := 15) dX8_wave_98
  have q65 : gz_OkA M_X8_wave 0 0 0 101 101 0 _ := ok_a0
  have q66 : gz_OkE M_X8_wave 0 0 0 101 102 _ := ok_aload_n (i := 0) dX8_wave_101 rfl
  have q67 : gz_OkA M_X8_wave 0 0 0 101 102 1 _ := ok_a1 q65 q66
  have q68 : gz_OkE M_X8_wave 2 0 0 102 104 _ := ok_iload (i := 4) dX8_wave_102
  have q69 : gz_OkA M_X8_wave 0 0 0 101 104 2 _ := ok_a1 q67 q68
  have q70 : gz_OkE M_X8_wave 4 0 0 104 106 _ := ok_iload (i := 6) dX8_wave_104
  have q71 : gz_OkA M_X8_wave 0 0 0 101 106 3 _ := ok_a1 q69 q70
  have q72 : gz_OkE M_X8_wave 6 0 0 106 108 _ := ok_iload (i := 7) dX8_wave_106
  have q73 : gz_OkA M_X8_wave 0 0 0 101 108 4 _ := ok_a1 q71 q72
  have q74 : gz_OkE M_X8_wave 8 0 0 108 109 _ := ok_iconst (v := 0) dX8_wave_108 kc_i0
  have q75 : gz_OkA M_X8_wave 0 0 0 101 109 5 _ := ok_a1 q73 q74
  have q76 : gz_OkE M_X8_wave 0 0 0 101 112 _ := ok_cv q75 mt_X8_passing cl_8 wd_873 wd_188 de_X8_passing (by decide) (by decide) wd_874 wd_875 wd_876 dX8_wave_109 (by decide)
  have q77 : gz_OkA M_X8_wave 0 0 0 114 114 0 _ := ok_a0
  have q78 : gz_OkE M_X8_wave 0 0 0 114 115 _ := ok_aload_n (i := 0) dX8_wave_114 rfl
  have q79 : gz_OkA M_X8_wave 0 0 0 114 115 1 _ := ok_a1 q77 q78
  have q80 : gz_OkE M_X8_wave 2 0 0 115 117 _ := ok_iload (i := 5) dX8_wave_115
  have q81 : gz_OkA M_X8_wave 0 0 0 114 117 2 _ := ok_a1 q79 q80
  have q82 : gz_OkE M_X8_wave 4 0 0 117 119 _ := ok_iload (i := 6) dX8_wave_117
  have q83 : gz_OkA M_X8_wave 0 0 0 114 119 3 _ := ok_a1 q81 q82
  have q84 : gz_OkE M_X8_wave 6 0 0 119 121 _ := ok_iload (i := 7) dX8_wave_119
  have q85 : gz_OkA M_X8_wave 0 0 0 114 121 4 _ := ok_a1 q83 q84
  have q86 : gz_OkE M_X8_wave 8 0 0 121 122 _ := ok_iconst (v := 1) dX8_wave_121 kc_i1
  have q87 : gz_OkA M_X8_wave 0 0 0 114 122 5 _ := ok_a1 q85 q86
  have q88 : gz_OkE M_X8_wave 0 0 0 114 125 _ := ok_cv q87 mt_X8_passing cl_8 wd_873 wd_188 de_X8_passing (by decide) (by decide) wd_874 wd_875 wd_876 dX8_wave_122 (by decide)
  have q89 : gz_OkA M_X8_wave 0 0 0 127 127 0 _ := ok_a0
  have q90 : gz_OkE M_X8_wave 0 0 0 127 129 _ := ok_iload (i := 16) dX8_wave_127
  have q91 : gz_OkA M_X8_wave 0 0 0 127 129 1 _ := ok_a1 q89 q90
  have q92 : gz_OkE M_X8_wave 2 0 0 129 131 _ := ok_iload (i := 17) dX8_wave_129
  have q93 : gz_OkA M_X8_wave 0 0 0 127 131 2 _ := ok_a1 q91 q92
  have q94 : gz_OkE M_X8_wave 0 0 0 127 134 _ := ok_cs q93 mt_J9_min_7cf53 wd_425 wd_411 de_J9_min_7cf53 (by decide) (by decide) wd_826 wd_427 dX8_wave_131 (by decide)
  have q95 : gz_OkE M_X8_wave 0 0 0 136 138 _ := ok_iload (i := 18) dX8_wave_136
  have q96 : gz_OkE M_X8_wave 1 0 0 138 140 _ := ok_iload (i := 10) dX8_wave_138
  have q97 : gz_OkJ M_X8_wave 0 0 0 136 194 143 _ := ok_ic_lt q95 q96 dX8_wave_140 (by decide)
  have q98 : gz_OkS M_X8_wave 0 0 194 _ := ok_at
  have q99 : gz_OkE M_X8_wave 0 0 0 143 145 _ := ok_iload (i := 18) dX8_wave_143
  have q100 : gz_OkE M_X8_wave 1 0 0 145 147 _ := ok_iload (i := 10) dX8_wave_145
  have q101 : gz_OkJ M_X8_wave 0 0 0 143 163 150 _ := ok_ic_ne q99 q100 dX8_wave_147 (by decide)
  have q102 : gz_OkE M_X8_wave 0 0 0 150 152 _ := ok_iload (i := 16) dX8_wave_150
  have q103 : gz_OkE M_X8_wave 1 0 0 152 154 _ := ok_iload (i := 17) dX8_wave_152
  have q104 : gz_OkE M_X8_wave 0 0 0 150 155 _ := ok_iadd q102 q103 dX8_wave_154
  have q105 : gz_OkE M_X8_wave 1 0 0 155 157 _ := ok_iload (i := 11) dX8_wave_155
  have q106 : gz_OkJ M_X8_wave 0 0 0 150 163 160 _ := ok_ic_gt q104 q105 dX8_wave_157 (by decide)
  have q107 : gz_OkJ M_X8_wave 0 0 0 143 163 160 _ := ok_jo q101 q106
  have q108 : gz_OkE M_X8_wave 0 0 0 163 165 _ := ok_iload (i := 18) dX8_wave_163
  have q109 : gz_OkE M_X8_wave 0 0 0 167 169 _ := ok_iload (i := 16) dX8_wave_167
  have q110 : gz_OkE M_X8_wave 1 0 0 169 171 _ := ok_iload (i := 17) dX8_wave_169
  have q111 : gz_OkE M_X8_wave 0 0 0 167 172 _ := ok_iadd q109 q110 dX8_wave_171
  have q112 : gz_OkE M_X8_wave 0 0 0 174 176 _ := ok_iload (i := 14) dX8_wave_174
  have q113 : gz_OkE M_X8_wave 0 0 0 178 179 _ := ok_aload_n (i := 0) dX8_wave_178 rfl
  have q114 : gz_OkE M_X8_wave 0 0 0 178 182 _ := ok_get q113 cl_8 (k := 47) (by decide) in_8 wd_178 dX8_wave_179
  have q115 : gz_OkE M_X8_wave 1 0 0 182 183 _ := ok_iconst (v := 3) dX8_wave_182 kc_i3
  have q116 : gz_OkJ M_X8_wave 0 0 0 178 191 186 _ := ok_ic_ne q114 q115 dX8_wave_183 (by decide)
  have q117 : gz_OkE M_X8_wave 0 0 0 186 188 _ := ok_iload (i := 15) dX8_wave_186
  have q118 : gz_OkE M_X8_wave 0 0 0 186 192 _ := ok_eg q117 dX8_wave_188 (by decide)
  have q119 : gz_OkE M_X8_wave 0 0 0 191 192 _ := ok_iconst (v := -1) dX8_wave_191 kc_im1
  have q120 : gz_OkE M_X8_wave 0 0 0 178 192 _ := ok_te2 q116 q118 q119
  have q121 : gz_OkS M_X8_wave 0 0 194 _ := ok_at
  have q122 : gz_OkS M_X8_wave 0 0 178 _ := ok_seti (k := 13) q120 dX8_wave_192 (by decide) q121
  have q123 : gz_OkS M_X8_wave 0 0 174 _ := ok_seti (k := 12) q112 dX8_wave_176 (by decide) q122
  have q124 : gz_OkS M_X8_wave 0 0 167 _ := ok_seti (k := 11) q111 dX8_wave_172 (by decide) q123
  have q125 : gz_OkS M_X8_wave 0 0 163 _ := ok_seti (k := 10) q108 dX8_wave_165 (by decide) q124
  have q126 : gz_OkS M_X8_wave 0 0 160 (gz_sat 194) := ok_goto dX8_wave_160 (by decide)
  have q127 : gz_OkS M_X8_wave 0 0 143 _ := ok_if q107 q125 q126
  have q128 : gz_OkS M_X8_wave 0 0 136 _ := ok_if q97 q98 q127
  have q129 : gz_OkS M_X8_wave 0 0 197 (gz_sat 66) := ok_goto dX8_wave_197 (by decide)
  have q130 : gz_OkS M_X8_wave 0 0 194 _ := ok_inc (v := 1) dX8_wave_194 kc_i1 (by decide) q129
  have q131 : gz_OkS M_X8_wave 0 0 136 _ := ok_seq (L := 194) (k := 16) q128 q130
  have q132 : gz_OkS M_X8_wave 0 0 127 _ := ok_seti (k := 18) q94 dX8_wave_134 (by decide) q131
  have q133 : gz_OkS M_X8_wave 0 0 114 _ := ok_seti (k := 17) q88 dX8_wave_125 (by decide) q132
  have q134 : gz_OkS M_X8_wave 0 0 101 _ := ok_seti (k := 16) q76 dX8_wave_112 (by decide) q133
  have q135 : gz_OkS M_X8_wave 0 0 93 _ := ok_iast q62 q63 q64 dX8_wave_100 q134
  have q136 : gz_OkS M_X8_wave 0 0 85 _ := ok_iast q58 q59 q60 dX8_wave_92 q135
  have q137 : gz_OkS M_X8_wave 0 0 66 _ := ok_if q55 q56 q136
  have q138 : gz_OkS M_X8_wave 0 0 66 lb_X8_wave_66 := q137
  have q139 : gz_OkS M_X8_wave 0 0 66 _ := ok_loop (k := 16) q138 rfl rfl
  have q140 : gz_OkS M_X8_wave 0 0 203 (gz_sat 56) := ok_goto dX8_wave_203 (by decide)
  have q141 : gz_OkS M_X8_wave 0 0 200 _ := ok_inc (v := 1) dX8_wave_200 kc_i1 (by decide) q140
  have q142 : gz_OkS M_X8_wave 0 0 66 _ := ok_seq (L := 200) (k := 15) q139 q141
  have q143 : gz_OkS M_X8_wave 0 0 63 _ := ok_seti (k := 15) q45 dX8_wave_64 (by decide) q142
  have q144 : gz_OkS M_X8_wave 0 0 56 _ := ok_if q43 q44 q143
  have q145 : gz_OkS M_X8_wave 0 0 56 lb_X8_wave_56 := q144
  have q146 : gz_OkS M_X8_wave 0 0 56 _ := ok_loop (k := 15) q145 rfl rfl
  have q147 : gz_OkE M_X8_wave 0 0 0 206 208 _ := ok_iload (i := 8) dX8_wave_206
  have q148 : gz_OkJ M_X8_wave 0 0 0 206 216 211 _ := ok_if_ne q147 dX8_wave_208 (by decide)
  have q149 : gz_OkE M_X8_wave 0 0 0 211 213 _ := ok_iload (i := 10) dX8_wave_211
  have q150 : gz_OkE M_X8_wave 0 0 0 211 229 _ := ok_eg q149 dX8_wave_213 (by decide)
  have q151 : gz_OkE M_X8_wave 0 0 0 216 218 _ := ok_iload (i := 8) dX8_wave_216
  have q152 : gz_OkE M_X8_wave 1 0 0 218 219 _ := ok_iconst (v := 1) dX8_wave_218 kc_i1
  have q153 : gz_OkJ M_X8_wave 0 0 0 216 227 222 _ := ok_ic_ne q151 q152 dX8_wave_219 (by decide)
  have q154 : gz_OkE M_X8_wave 0 0 0 222 224 _ := ok_iload (i := 12) dX8_wave_222
  have q155 : gz_OkE M_X8_wave 0 0 0 222 229 _ := ok_eg q154 dX8_wave_224 (by decide)
  have q156 : gz_OkE M_X8_wave 0 0 0 227 229 _ := ok_iload (i := 13) dX8_wave_227
  have q157 : gz_OkE M_X8_wave 0 0 0 216 229 _ := ok_te2 q153 q155 q156
  have q158 : gz_OkE M_X8_wave 0 0 0 206 229 _ := ok_te2 q148 q150 q157
  have q159 : gz_OkS M_X8_wave 0 0 206 _ := ok_ri q158 dX8_wave_229
  have q160 : gz_OkS M_X8_wave 0 0 56 _ := ok_seq (L := 206) (k := 14) q146 q159
  have q161 : gz_OkS M_X8_wave 0 0 53 _ := ok_seti (k := 14) q40 dX8_wave_54 (by decide) q160
  have q162 : gz_OkS M_X8_wave 0 0 50 _ := ok_seti (k := 13) q39 dX8_wave_51 (by decide) q161
  have q163 : gz_OkS M_X8_wave 0 0 47 _ := ok_seti (k := 12) q38 dX8_wave_48 (by decide) q162
  have q164 : gz_OkS M_X8_wave 0 0 44 _ := ok_seti (k := 11) q37 dX8_wave_45 (by decide) q163
  have q165 : gz_OkS M_X8_wave 0 0 41 _ := ok_seti (k := 10) q36 dX8_wave_42 (by decide) q164
  have q166 : gz_OkS M_X8_wave 0 0 30 _ := ok_seti (k := 9) q35 dX8_wave_39 (by decide) q165
  have q167 : gz_OkE M_X8_wave 0 0 0 28 29 _ := ok_iconst (v := -1) dX8_wave_28 kc_im1
  have q168 : gz_OkS M_X8_wave 0 0 28 _ := ok_ri q167 dX8_wave_29
  have q169 : gz_OkS M_X8_wave 0 0 0 _ := ok_if q29 q166 q168
  have z : gz_OkS M_X8_wave 0 0 0 sm_X8_wave := q169
  exact gz_met (plainFor_of_name (by decide)) z (by decide) (by decide)
noncomputable def sm_X8_wasLit : gz_Sx := gz_ri (gz_te (gz_j2 (fun x y => decide (x = y)) (gz_te (gz_j2 (fun x y => decide (¬ x = y)) (gz_ib (fun x y => x &&& y) (gz_ib (fun x y => x >>> (y &&& 31)) (gz_ald 100 (gz_get 8 48 44 (gz_la 0)) (gz_ib (fun x y => x + y) (gz_ib (fun x y => x * y) (gz_i (200)) (gz_li 1)) (gz_iz (fun x y => x - x / y * y) (gz_li 3) (gz_i (200))))) (gz_li 2)) (gz_i (1))) (gz_i (1))) (gz_i (0)) (gz_i (1))) (gz_te (gz_jo (gz_j2 (fun x y => decide (¬ x = y)) (gz_li 3) (gz_li 5)) (gz_j2 (fun x y => decide (¬ x = y)) (gz_li 2) (gz_li 4))) (gz_i (0)) (gz_i (1)))) (gz_i (0)) (gz_i (1)))
noncomputable def se_X8_wasLit : gz_Me := gz_sem (some .boolean) 6 sm_X8_wasLit
abbrev rm_X8_wasLit : Room := { frames := 0, cells := 0, slots := 0, locals := 0 }
abbrev M_X8_wasLit : gz_Mi := (cX8_wasLit, 6, RX8, 0, 0, "wasLit", none)
theorem de_X8_wasLit : yX8_wasLit.cls ≠ "java/lang/invoke/MethodHandle" ∧ yX8_wasLit.cls ≠ "java/lang/invoke/VarHandle" ∧ (parseMethodDescriptor yX8_wasLit.desc).map (fun d => d.parameters.length) = some 5 := by decide +kernel
set_option maxRecDepth 100000 in
theorem mt_X8_wasLit : gz_Mt yX8_wasLit cX8_wasLit 6 (some .boolean) rm_X8_wasLit se_X8_wasLit := by
  have q1 : gz_OkE M_X8_wasLit 0 0 0 0 1 _ := ok_aload_n (i := 0) dX8_wasLit_0 rfl
  have q2 : gz_OkE M_X8_wasLit 0 0 0 0 4 _ := ok_get q1 cl_8 (k := 44) (by decide) in_8 wd_167 dX8_wasLit_1
  have q3 : gz_OkE M_X8_wasLit 1 0 0 4 7 _ := ok_sipush (v := 200) dX8_wasLit_4 kc_s200
  have q4 : gz_OkE M_X8_wasLit 2 0 0 7 8 _ := ok_iload_n (i := 1) dX8_wasLit_7 rfl
  have q5 : gz_OkE M_X8_wasLit 1 0 0 4 9 _ := ok_imul q3 q4 dX8_wasLit_8
  have q6 : gz_OkE M_X8_wasLit 2 0 0 9 10 _ := ok_iload_n (i := 3) dX8_wasLit_9 rfl
  have q7 : gz_OkE M_X8_wasLit 3 0 0 10 13 _ := ok_sipush (v := 200) dX8_wasLit_10 kc_s200
  have q8 : gz_OkE M_X8_wasLit 2 0 0 9 14 _ := ok_irem q6 q7 dX8_wasLit_13
  have q9 : gz_OkE M_X8_wasLit 1 0 0 4 15 _ := ok_iadd q5 q8 dX8_wasLit_14
  have q10 : gz_OkE M_X8_wasLit 0 0 0 0 16 _ := ok_iald q2 q9 dX8_wasLit_15
  have q11 : gz_OkE M_X8_wasLit 1 0 0 16 17 _ := ok_iload_n (i := 2) dX8_wasLit_16 rfl
  have q12 : gz_OkE M_X8_wasLit 0 0 0 0 18 _ := ok_ishr q10 q11 dX8_wasLit_17
  have q13 : gz_OkE M_X8_wasLit 1 0 0 18 19 _ := ok_iconst (v := 1) dX8_wasLit_18 kc_i1
  have q14 : gz_OkE M_X8_wasLit 0 0 0 0 20 _ := ok_iand q12 q13 dX8_wasLit_19
  have q15 : gz_OkE M_X8_wasLit 1 0 0 20 21 _ := ok_iconst (v := 1) dX8_wasLit_20 kc_i1
  have q16 : gz_OkJ M_X8_wasLit 0 0 0 0 28 24 _ := ok_ic_ne q14 q15 dX8_wasLit_21 (by decide)
  have q17 : gz_OkE M_X8_wasLit 0 0 0 24 25 _ := ok_iconst (v := 1) dX8_wasLit_24 kc_i1
  have q18 : gz_OkE M_X8_wasLit 0 0 0 24 29 _ := ok_eg q17 dX8_wasLit_25 (by decide)
  have q19 : gz_OkE M_X8_wasLit 0 0 0 28 29 _ := ok_iconst (v := 0) dX8_wasLit_28 kc_i0
  have q20 : gz_OkE M_X8_wasLit 0 0 0 0 29 _ := ok_te2 q16 q18 q19
  have q21 : gz_OkE M_X8_wasLit 1 0 0 29 30 _ := ok_iload_n (i := 3) dX8_wasLit_29 rfl
  have q22 : gz_OkE M_X8_wasLit 2 0 0 30 32 _ := ok_iload (i := 5) dX8_wasLit_30
  have q23 : gz_OkJ M_X8_wasLit 1 0 0 29 45 35 _ := ok_ic_ne q21 q22 dX8_wasLit_32 (by decide)
  have q24 : gz_OkE M_X8_wasLit 1 0 0 35 36 _ := ok_iload_n (i := 2) dX8_wasLit_35 rfl
  have q25 : gz_OkE M_X8_wasLit 2 0 0 36 38 _ := ok_iload (i := 4) dX8_wasLit_36
  have q26 : gz_OkJ M_X8_wasLit 1 0 0 35 45 41 _ := ok_ic_ne q24 q25 dX8_wasLit_38 (by decide)
  have q27 : gz_OkJ M_X8_wasLit 1 0 0 29 45 41 _ := ok_jo q23 q26
  have q28 : gz_OkE M_X8_wasLit 1 0 0 41 42 _ := ok_iconst (v := 1) dX8_wasLit_41 kc_i1
  have q29 : gz_OkE M_X8_wasLit 1 0 0 41 46 _ := ok_eg q28 dX8_wasLit_42 (by decide)
  have q30 : gz_OkE M_X8_wasLit 1 0 0 45 46 _ := ok_iconst (v := 0) dX8_wasLit_45 kc_i0
  have q31 : gz_OkE M_X8_wasLit 1 0 0 29 46 _ := ok_te2 q27 q29 q30
  have q32 : gz_OkJ M_X8_wasLit 0 0 0 0 53 49 _ := ok_ic_eq q20 q31 dX8_wasLit_46 (by decide)
  have q33 : gz_OkE M_X8_wasLit 0 0 0 49 50 _ := ok_iconst (v := 1) dX8_wasLit_49 kc_i1
  have q34 : gz_OkE M_X8_wasLit 0 0 0 49 54 _ := ok_eg q33 dX8_wasLit_50 (by decide)
  have q35 : gz_OkE M_X8_wasLit 0 0 0 53 54 _ := ok_iconst (v := 0) dX8_wasLit_53 kc_i0
  have q36 : gz_OkE M_X8_wasLit 0 0 0 0 54 _ := ok_te2 q32 q34 q35
  have q37 : gz_OkS M_X8_wasLit 0 0 0 _ := ok_ri q36 dX8_wasLit_54
  have z : gz_OkS M_X8_wasLit 0 0 0 sm_X8_wasLit := q37
  exact gz_met (plainFor_of_name (by decide)) z (by decide) (by decide)
noncomputable def lb_X8_check_141 : gz_Sx := gz_if (gz_jo (gz_j2 (fun x y => decide (y < x)) (gz_li 10) (gz_li 9)) (gz_jo (gz_j1 (fun x => decide (x ≤ 0)) (gz_li 9)) (gz_j2 (fun x y => decide (x < y)) (gz_ib (fun x y => x - y) (gz_li 6) (gz_li 10)) (gz_li 4)))) (gz_sat 189) (gz_if (gz_j1 (fun x => decide (x = 0)) (gz_cv 8 48 se_X8_wasLit (gz_a1 (gz_a1 (gz_a1 (gz_a1 (gz_a1 (gz_a1 (gz_a0) (gz_la 0)) (gz_li 1)) (gz_li 8)) (gz_ib (fun x y => x - y) (gz_li 6) (gz_li 10))) (gz_li 2)) (gz_li 3)))) (gz_inc 10 (1) (gz_sat 141)) (gz_ri (gz_li 6)))
noncomputable def lb_X8_check_116 : gz_Sx := gz_if (gz_j2 (fun x y => decide (y ≤ x)) (gz_li 8) (gz_ald 100 (gz_get 8 48 2 (gz_la 0)) (gz_li 1))) (gz_sat 195) (gz_seti 9 (gz_cv 8 48 se_X8_apart (gz_a1 (gz_a1 (gz_a1 (gz_a1 (gz_a0) (gz_la 0)) (gz_li 1)) (gz_li 8)) (gz_li 7))) (gz_seti 10 (gz_i (0)) (gz_seq 189 9 (gz_loop 141 11 lb_X8_check_141) (gz_inc 8 (1) (gz_sat 116)))))
noncomputable def lb_X8_check_85 : gz_Sx := gz_if (gz_j2 (fun x y => decide (y ≤ x)) (gz_li 7) (gz_ald 100 (gz_get 8 48 2 (gz_la 0)) (gz_li 1))) (gz_sat 201) (gz_seq 195 8 (gz_if (gz_j1 (fun x => decide (¬ x = 0)) (gz_cv 8 48 se_X8_wasLit (gz_a1 (gz_a1 (gz_a1 (gz_a1 (gz_a1 (gz_a1 (gz_a0) (gz_la 0)) (gz_li 1)) (gz_li 7)) (gz_li 6)) (gz_li 2)) (gz_li 3)))) (gz_seti 8 (gz_i (0)) (gz_loop 116 9 lb_X8_check_116)) (gz_sat 195)) (gz_inc 7 (1) (gz_sat 85)))
noncomputable def lb_X8_check_73 : gz_Sx := gz_if (gz_j2 (fun x y => decide (y ≤ x)) (gz_li 6) (gz_get 8 48 1 (gz_la 0))) (gz_sat 207) (gz_seti 7 (gz_i (0)) (gz_seq 201 7 (gz_loop 85 8 lb_X8_check_85) (gz_inc 6 (1) (gz_sat 73))))
noncomputable def sm_X8_check : gz_Sx := gz_if (gz_j1 (fun x => decide (¬ x = 0)) (gz_cv 8 48 se_X8_isJunction (gz_a1 (gz_a1 (gz_a0) (gz_la 0)) (gz_li 1)))) (gz_seti 4 (gz_cs se_J9_max_7cf53 (gz_a1 (gz_a1 (gz_a0) (gz_i (0))) (gz_ib (fun x y => x - y) (gz_get 8 48 1 (gz_la 0)) (gz_i (200))))) (gz_seti 5 (gz_te (gz_j2 (fun x y => decide (x = y)) (gz_li 3) (gz_i (-1))) (gz_i (0)) (gz_i (1))) (gz_if (gz_jo (gz_j1 (fun x => decide (x = 0)) (gz_li 5)) (gz_ja (gz_j1 (fun x => decide (x = 0)) (gz_cv 8 48 se_X8_isStream (gz_a1 (gz_a1 (gz_a1 (gz_a0) (gz_la 0)) (gz_li 1)) (gz_li 2)))) (gz_j1 (fun x => decide (¬ x = 0)) (gz_cs se_X8_isIn (gz_a1 (gz_a1 (gz_a1 (gz_a0) (gz_li 3)) (gz_li 4)) (gz_ib (fun x y => x - y) (gz_get 8 48 1 (gz_la 0)) (gz_i (1)))))))) (gz_seti 6 (gz_li 4) (gz_seq 207 0 (gz_loop 73 7 lb_X8_check_73) (gz_ri (gz_i (-1))))) (gz_ri (gz_i (-2)))))) (gz_ri (gz_i (-2)))
noncomputable def se_X8_check : gz_Me := gz_sem (some .int) 11 sm_X8_check
abbrev rm_X8_check : Room := { frames := 2, cells := 0, slots := 0, locals := 46 }
abbrev M_X8_check : gz_Mi := (cX8_check, 11, RX8, 2, 46, "check", none)
theorem de_X8_check : yX8_check.cls ≠ "java/lang/invoke/MethodHandle" ∧ yX8_check.cls ≠ "java/lang/invoke/VarHandle" ∧ (parseMethodDescriptor yX8_check.desc).map (fun d => d.parameters.length) = some 3 := by decide +kernel
set_option maxRecDepth 100000 in
theorem mt_X8_check : gz_Mt yX8_check cX8_check 11 (some .int) rm_X8_check se_X8_check := by
  have q1 : gz_OkA M_X8_check 0 0 0 0 0 0 _ := ok_a0
  have q2 : gz_OkE M_X8_check 0 0 0 0 1 _ := ok_aload_n (i := 0) dX8_check_0 rfl
  have q3 : gz_OkA M_X8_check 0 0 0 0 1 1 _ := ok_a1 q1 q2
  have q4 : gz_OkE M_X8_check 2 0 0 1 2 _ := ok_iload_n (i := 1) dX8_check_1 rfl
  have q5 : gz_OkA M_X8_check 0 0 0 0 2 2 _ := ok_a1 q3 q4
  have q6 : gz_OkE M_X8_check 0 0 0 0 5 _ := ok_cv q5 mt_X8_isJunction cl_8 wd_761 wd_188 de_X8_isJunction (by decide) (by decide) wd_762 wd_763 wd_764 dX8_check_2 (by decide)
  have q7 : gz_OkJ M_X8_check 0 0 0 0 11 8 _ := ok_if_ne q6 dX8_check_5 (by decide)
  have q8 : gz_OkA M_X8_check 0 0 0 11 11 0 _ := ok_a0
  have q9 : gz_OkE M_X8_check 0 0 0 11 12 _ := ok_iconst (v := 0) dX8_check_11 kc_i0
  have q10 : gz_OkA M_X8_check 0 0 0 11 12 1 _ := ok_a1 q8 q9
  have q11 : gz_OkE M_X8_check 2 0 0 12 13 _ := ok_aload_n (i := 0) dX8_check_12 rfl
  have q12 : gz_OkE M_X8_check 2 0 0 12 16 _ := ok_get q11 cl_8 (k := 1) (by decide) in_8 wd_171 dX8_check_13
  have q13 : gz_OkE M_X8_check 3 0 0 16 19 _ := ok_sipush (v := 200) dX8_check_16 kc_s200
  have q14 : gz_OkE M_X8_check 2 0 0 12 20 _ := ok_isub q12 q13 dX8_check_19
  have q15 : gz_OkA M_X8_check 0 0 0 11 20 2 _ := ok_a1 q10 q14
  have q16 : gz_OkE M_X8_check 0 0 0 11 23 _ := ok_cs q15 mt_J9_max_7cf53 wd_418 wd_411 de_J9_max_7cf53 (by decide) (by decide) wd_772 wd_420 dX8_check_20 (by decide)
  have q17 : gz_OkE M_X8_check 0 0 0 25 26 _ := ok_iload_n (i := 3) dX8_check_25 rfl
  have q18 : gz_OkE M_X8_check 1 0 0 26 27 _ := ok_iconst (v := -1) dX8_check_26 kc_im1
  have q19 : gz_OkJ M_X8_check 0 0 0 25 34 30 _ := ok_ic_eq q17 q18 dX8_check_27 (by decide)
  have q20 : gz_OkE M_X8_check 0 0 0 30 31 _ := ok_iconst (v := 1) dX8_check_30 kc_i1
  have q21 : gz_OkE M_X8_check 0 0 0 30 35 _ := ok_eg q20 dX8_check_31 (by decide)
  have q22 : gz_OkE M_X8_check 0 0 0 34 35 _ := ok_iconst (v := 0) dX8_check_34 kc_i0
  have q23 : gz_OkE M_X8_check 0 0 0 25 35 _ := ok_te2 q19 q21 q22
  have q24 : gz_OkE M_X8_check 0 0 0 37 39 _ := ok_iload (i := 5) dX8_check_37
  have q25 : gz_OkJ M_X8_check 0 0 0 37 69 42 _ := ok_if_eq q24 dX8_check_39 (by decide)
  have q26 : gz_OkA M_X8_check 0 0 0 42 42 0 _ := ok_a0
  have q27 : gz_OkE M_X8_check 0 0 0 42 43 _ := ok_aload_n (i := 0) dX8_check_42 rfl
  have q28 : gz_OkA M_X8_check 0 0 0 42 43 1 _ := ok_a1 q26 q27
  have q29 : gz_OkE M_X8_check 2 0 0 43 44 _ := ok_iload_n (i := 1) dX8_check_43 rfl
  have q30 : gz_OkA M_X8_check 0 0 0 42 44 2 _ := ok_a1 q28 q29
  have q31 : gz_OkE M_X8_check 4 0 0 44 45 _ := ok_iload_n (i := 2) dX8_check_44 rfl
  have q32 : gz_OkA M_X8_check 0 0 0 42 45 3 _ := ok_a1 q30 q31
  have q33 : gz_OkE M_X8_check 0 0 0 42 48 _ := ok_cv q32 mt_X8_isStream cl_8 wd_781 wd_188 de_X8_isStream (by decide) (by decide) wd_782 wd_783 wd_784 dX8_check_45 (by decide)
  have q34 : gz_OkJ M_X8_check 0 0 0 42 66 51 _ := ok_if_eq q33 dX8_check_48 (by decide)
  have q35 : gz_OkA M_X8_check 0 0 0 51 51 0 _ := ok_a0
  have q36 : gz_OkE M_X8_check 0 0 0 51 52 _ := ok_iload_n (i := 3) dX8_check_51 rfl
  have q37 : gz_OkA M_X8_check 0 0 0 51 52 1 _ := ok_a1 q35 q36
  have q38 : gz_OkE M_X8_check 2 0 0 52 54 _ := ok_iload (i := 4) dX8_check_52
  have q39 : gz_OkA M_X8_check 0 0 0 51 54 2 _ := ok_a1 q37 q38
  have q40 : gz_OkE M_X8_check 4 0 0 54 55 _ := ok_aload_n (i := 0) dX8_check_54 rfl
  have q41 : gz_OkE M_X8_check 4 0 0 54 58 _ := ok_get q40 cl_8 (k := 1) (by decide) in_8 wd_171 dX8_check_55
  have q42 : gz_OkE M_X8_check 5 0 0 58 59 _ := ok_iconst (v := 1) dX8_check_58 kc_i1
  have q43 : gz_OkE M_X8_check 4 0 0 54 60 _ := ok_isub q41 q42 dX8_check_59
  have q44 : gz_OkA M_X8_check 0 0 0 51 60 3 _ := ok_a1 q39 q43
  have q45 : gz_OkE M_X8_check 0 0 0 51 63 _ := ok_cs q44 mt_X8_isIn wd_765 wd_188 de_X8_isIn (by decide) (by decide) wd_766 wd_767 dX8_check_60 (by decide)
  have q46 : gz_OkJ M_X8_check 0 0 0 51 69 66 _ := ok_if_ne q45 dX8_check_63 (by decide)
  have q47 : gz_OkJ M_X8_check 0 0 0 42 69 66 _ := ok_ja q34 q46
  have q48 : gz_OkJ M_X8_check 0 0 0 37 69 66 _ := ok_jo q25 q47
  have q49 : gz_OkE M_X8_check 0 0 0 69 71 _ := ok_iload (i := 4) dX8_check_69
  have q50 : gz_OkE M_X8_check 0 0 0 73 75 _ := ok_iload (i := 6) dX8_check_73
  have q51 : gz_OkE M_X8_check 1 0 0 75 76 _ := ok_aload_n (i := 0) dX8_check_75 rfl
  have q52 : gz_OkE M_X8_check 1 0 0 75 79 _ := ok_get q51 cl_8 (k := 1) (by decide) in_8 wd_171 dX8_check_76
  have q53 : gz_OkJ M_X8_check 0 0 0 73 207 82 _ := ok_ic_ge q50 q52 dX8_check_79 (by decide)
  have q54 : gz_OkS M_X8_check 0 0 207 _ := ok_at
  have q55 : gz_OkE M_X8_check 0 0 0 82 83 _ := ok_iconst (v := 0) dX8_check_82 kc_i0
  have q56 : gz_OkE M_X8_check 0 0 0 85 87 _ := ok_iload (i := 7) dX8_check_85
  have q57 : gz_OkE M_X8_check 1 0 0 87 88 _ := ok_aload_n (i := 0) dX8_check_87 rfl
  have q58 : gz_OkE M_X8_check 1 0 0 87 91 _ := ok_get q57 cl_8 (k := 2) (by decide) in_8 wd_128 dX8_check_88
  have q59 : gz_OkE M_X8_check 2 0 0 91 92 _ := ok_iload_n (i := 1) dX8_check_91 rfl
  have q60 : gz_OkE M_X8_check 1 0 0 87 93 _ := ok_iald q58 q59 dX8_check_92
  have q61 : gz_OkJ M_X8_check 0 0 0 85 201 96 _ := ok_ic_ge q56 q60 dX8_check_93 (by decide)
  have q62 : gz_OkS M_X8_check 0 0 201 _ := ok_at
  have q63 : gz_OkA M_X8_check 0 0 0 96 96 0 _ := ok_a0
  have q64 : gz_OkE M_X8_check 0 0 0 96 97 _ := ok_aload_n (i := 0) dX8_check_96 rfl
  have q65 : gz_OkA M_X8_check 0 0 0 96 97 1 _ := ok_a1 q63 q64
  have q66 : gz_OkE M_X8_check 2 0 0 97 98 _ := ok_iload_n (i := 1) dX8_check_97 rfl
  have q67 : gz_OkA M_X8_check 0 0 0 96 98 2 _ := ok_a1 q65 q66
  have q68 : gz_OkE M_X8_check 4 0 0 98 100 _ := ok_iload (i := 7) dX8_check_98
  have q69 : gz_OkA M_X8_check 0 0 0 96 100 3 _ := ok_a1 q67 q68
  have q70 : gz_OkE M_X8_check 6 0 0 100 102 _ := ok_iload (i := 6) dX8_check_100
  have q71 : gz_OkA M_X8_check 0 0 0 96 102 4 _ := ok_a1 q69 q70
  have q72 : gz_OkE M_X8_check 8 0 0 102 103 _ := ok_iload_n (i := 2) dX8_check_102 rfl
  have q73 : gz_OkA M_X8_check 0 0 0 96 103 5 _ := ok_a1 q71 q72
  have q74 : gz_OkE M_X8_check 10 0 0 103 104 _ := ok_iload_n (i := 3) dX8_check_103 rfl
  have q75 : gz_OkA M_X8_check 0 0 0 96 104 6 _ := ok_a1 q73 q74
  have q76 : gz_OkE M_X8_check 0 0 0 96 107 _ := ok_cv q75 mt_X8_wasLit cl_8 wd_877 wd_188 de_X8_wasLit (by decide) (by decide) wd_878 wd_879 wd_880 dX8_check_104 (by decide)
  have q77 : gz_OkJ M_X8_check 0 0 0 96 113 110 _ := ok_if_ne q76 dX8_check_107 (by decide)
  have q78 : gz_OkE M_X8_check 0 0 0 113 114 _ := ok_iconst (v := 0) dX8_check_113 kc_i0
  have q79 : gz_OkE M_X8_check 0 0 0 116 118 _ := ok_iload (i := 8) dX8_check_116
  have q80 : gz_OkE M_X8_check 1 0 0 118 119 _ := ok_aload_n (i := 0) dX8_check_118 rfl
  have q81 : gz_OkE M_X8_check 1 0 0 118 122 _ := ok_get q80 cl_8 (k := 2) (by decide) in_8 wd_128 dX8_check_119
  have q82 : gz_OkE M_X8_check 2 0 0 122 123 _ := ok_iload_n (i := 1) dX8_check_122 rfl
  have q83 : gz_OkE M_X8_check 1 0 0 118 124 _ := ok_iald q81 q82 dX8_check_123
  have q84 : gz_OkJ M_X8_check 0 0 0 116 195 127 _ := ok_ic_ge q79 q83 dX8_check_124 (by decide)
  have q85 : gz_OkS M_X8_check 0 0 195 _ := ok_at
  have q86 : gz_OkA M_X8_check 0 0 0 127 127 0 _ := ok_a0
  have q87 : gz_OkE M_X8_check 0 0 0 127 128 _ := ok_aload_n (i := 0) dX8_check_127 rfl
  have q88 : gz_OkA M_X8_check 0 0 0 127 128 1 _ := ok_a1 q86 q87
  have q89 : gz_OkE M_X8_check 2 0 0 128 129 _ := ok_iload_n (i := 1) dX8_check_128 rfl
  have q90 : gz_OkA M_X8_check 0 0 0 127 129 2 _ := ok_a1 q88 q89
  have q91 : gz_OkE M_X8_check 4 0 0 129 131 _ := ok_iload (i := 8) dX8_check_129
  have q92 : gz_OkA M_X8_check 0 0 0 127 131 3 _ := ok_a1 q90 q91
  have q93 : gz_OkE M_X8_check 6 0 0 131 133 _ := ok_iload (i := 7) dX8_check_131
  have q94 : gz_OkA M_X8_check 0 0 0 127 133 4 _ := ok_a1 q92 q93
  have q95 : gz_OkE M_X8_check 0 0 0 127 136 _ := ok_cv q94 mt_X8_apart cl_8 wd_785 wd_188 de_X8_apart (by decide) (by decide) wd_786 wd_787 wd_788 dX8_check_133 (by decide)
  have q96 : gz_OkE M_X8_check 0 0 0 138 139 _ := ok_iconst (v := 0) dX8_check_138 kc_i0
  have q97 : gz_OkE M_X8_check 0 0 0 141 143 _ := ok_iload (i := 10) dX8_check_141
  have q98 : gz_OkE M_X8_check 1 0 0 143 145 _ := ok_iload (i := 9) dX8_check_143
  have q99 : gz_OkJ M_X8_check 0 0 0 141 189 148 _ := ok_ic_gt q97 q98 dX8_check_145 (by decide)
  have q100 : gz_OkE M_X8_check 0 0 0 148 150 _ := ok_iload (i := 9) dX8_check_148
  have q101 : gz_OkJ M_X8_check 0 0 0 148 189 153 _ := ok_if_le q100 dX8_check_150 (by decide)
  have q102 : gz_OkE M_X8_check 0 0 0 153 155 _ := ok_iload (i := 6) dX8_check_153
  have q103 : gz_OkE M_X8_check 1 0 0 155 157 _ := ok_iload (i := 10) dX8_check_155
  have q104 : gz_OkE M_X8_check 0 0 0 153 158 _ := ok_isub q102 q103 dX8_check_157
  have q105 : gz_OkE M_X8_check 1 0 0 158 160 _ := ok_iload (i := 4) dX8_check_158
  have q106 : gz_OkJ M_X8_check 0 0 0 153 189 163 _ := ok_ic_lt q104 q105 dX8_check_160 (by decide)
  have q107 : gz_OkJ M_X8_check 0 0 0 148 189 163 _ := ok_jo q101 q106
  have q108 : gz_OkJ M_X8_check 0 0 0 141 189 163 _ := ok_jo q99 q107
  have q109 : gz_OkS M_X8_check 0 0 189 _ := ok_at
  have q110 : gz_OkA M_X8_check 0 0 0 163 163 0 _ := ok_a0
  have q111 : gz_OkE M_X8_check 0 0 0 163 164 _ := ok_aload_n (i := 0) dX8_check_163 rfl
  have q112 : gz_OkA M_X8_check 0 0 0 163 164 1 _ := ok_a1 q110 q111
  have q113 : gz_OkE M_X8_check 2 0 0 164 165 _ := ok_iload_n (i := 1) dX8_check_164 rfl
  have q114 : gz_OkA M_X8_check 0 0 0 163 165 2 _ := ok_a1 q112 q113
  have q115 : gz_OkE M_X8_check 4 0 0 165 167 _ := ok_iload (i := 8) dX8_check_165
  have q116 : gz_OkA M_X8_check 0 0 0 163 167 3 _ := ok_a1 q114 q115
  have q117 : gz_OkE M_X8_check 6 0 0 167 169 _ := ok_iload (i := 6) dX8_check_167
  have q118 : gz_OkE M_X8_check 7 0 0 169 171 _ := ok_iload (i := 10) dX8_check_169
  have q119 : gz_OkE M_X8_check 6 0 0 167 172 _ := ok_isub q117 q118 dX8_check_171
  have q120 : gz_OkA M_X8_check 0 0 0 163 172 4 _ := ok_a1 q116 q119
  have q121 : gz_OkE M_X8_check 8 0 0 172 173 _ := ok_iload_n (i := 2) dX8_check_172 rfl
  have q122 : gz_OkA M_X8_check 0 0 0 163 173 5 _ := ok_a1 q120 q121
  have q123 : gz_OkE M_X8_check 10 0 0 173 174 _ := ok_iload_n (i := 3) dX8_check_173 rfl
  have q124 : gz_OkA M_X8_check 0 0 0 163 174 6 _ := ok_a1 q122 q123
  have q125 : gz_OkE M_X8_check 0 0 0 163 177 _ := ok_cv q124 mt_X8_wasLit cl_8 wd_877 wd_188 de_X8_wasLit (by decide) (by decide) wd_878 wd_879 wd_880 dX8_check_174 (by decide)
  have q126 : gz_OkJ M_X8_check 0 0 0 163 183 180 _ := ok_if_eq q125 dX8_check_177 (by decide)
  have q127 : gz_OkS M_X8_check 0 0 186 (gz_sat 141) := ok_goto dX8_check_186 (by decide)
  have q128 : gz_OkS M_X8_check 0 0 183 _ := ok_inc (v := 1) dX8_check_183 kc_i1 (by decide) q127
  have q129 : gz_OkE M_X8_check 0 0 0 180 182 _ := ok_iload (i := 6) dX8_check_180
  have q130 : gz_OkS M_X8_check 0 0 180 _ := ok_ri q129 dX8_check_182
  have q131 : gz_OkS M_X8_check 0 0 163 _ := ok_if q126 q128 q130
  have q132 : gz_OkS M_X8_check 0 0 141 _ := ok_if q108 q109 q131
  have q133 : gz_OkS M_X8_check 0 0 141 lb_X8_check_141 := q132
  have q134 : gz_OkS M_X8_check 0 0 141 _ := ok_loop (k := 11) q133 rfl rfl
  have q135 : gz_OkS M_X8_check 0 0 192 (gz_sat 116) := ok_goto dX8_check_192 (by decide)
  have q136 : gz_OkS M_X8_check 0 0 189 _ := ok_inc (v := 1) dX8_check_189 kc_i1 (by decide) q135
  have q137 : gz_OkS M_X8_check 0 0 141 _ := ok_seq (L := 189) (k := 9) q134 q136
  have q138 : gz_OkS M_X8_check 0 0 138 _ := ok_seti (k := 10) q96 dX8_check_139 (by decide) q137
  have q139 : gz_OkS M_X8_check 0 0 127 _ := ok_seti (k := 9) q95 dX8_check_136 (by decide) q138
  have q140 : gz_OkS M_X8_check 0 0 116 _ := ok_if q84 q85 q139
  have q141 : gz_OkS M_X8_check 0 0 116 lb_X8_check_116 := q140
  have q142 : gz_OkS M_X8_check 0 0 116 _ := ok_loop (k := 9) q141 rfl rfl
  have q143 : gz_OkS M_X8_check 0 0 113 _ := ok_seti (k := 8) q78 dX8_check_114 (by decide) q142
  have q144 : gz_OkS M_X8_check 0 0 110 (gz_sat 195) := ok_goto dX8_check_110 (by decide)
  have q145 : gz_OkS M_X8_check 0 0 96 _ := ok_if q77 q143 q144
  have q146 : gz_OkS M_X8_check 0 0 198 (gz_sat 85) := ok_goto dX8_check_198 (by decide)
  have q147 : gz_OkS M_X8_check 0 0 195 _ := ok_inc (v := 1) dX8_check_195 kc_i1 (by decide) q146
  have q148 : gz_OkS M_X8_check 0 0 96 _ := ok_seq (L := 195) (k := 8) q145 q147
  have q149 : gz_OkS M_X8_check 0 0 85 _ := ok_if q61 q62 q148
  have q150 : gz_OkS M_X8_check 0 0 85 lb_X8_check_85 := q149
  have q151 : gz_OkS M_X8_check 0 0 85 _ := ok_loop (k := 8) q150 rfl rfl
  have q152 : gz_OkS M_X8_check 0 0 204 (gz_sat 73) := ok_goto dX8_check_204 (by decide)
  have q153 : gz_OkS M_X8_check 0 0 201 _ := ok_inc (v := 1) dX8_check_201 kc_i1 (by decide) q152
  have q154 : gz_OkS M_X8_check 0 0 85 _ := ok_seq (L := 201) (k := 7) q151 q153
  have q155 : gz_OkS M_X8_check 0 0 82 _ := ok_seti (k := 7) q55 dX8_check_83 (by decide) q154
  have q156 : gz_OkS M_X8_check 0 0 73 _ := ok_if q53 q54 q155
  have q157 : gz_OkS M_X8_check 0 0 73 lb_X8_check_73 := q156
  have q158 : gz_OkS M_X8_check 0 0 73 _ := ok_loop (k := 7) q157 rfl rfl
  have q159 : gz_OkE M_X8_check 0 0 0 207 208 _ := ok_iconst (v := -1) dX8_check_207 kc_im1
  have q160 : gz_OkS M_X8_check 0 0 207 _ := ok_ri q159 dX8_check_208
  have q161 : gz_OkS M_X8_check 0 0 73 _ := ok_seq (L := 207) (k := 0) q158 q160
  have q162 : gz_OkS M_X8_check 0 0 69 _ := ok_seti (k := 6) q49 dX8_check_71 (by decide) q161
  have q163 : gz_OkE M_X8_check 0 0 0 66 68 _ := ok_bipush (v := -2) dX8_check_66 kc_bm2
  have q164 : gz_OkS M_X8_check 0 0 66 _ := ok_ri q163 dX8_check_68
  have q165 : gz_OkS M_X8_check 0 0 37 _ := ok_if q48 q162 q164
  have q166 : gz_OkS M_X8_check 0 0 25 _ := ok_seti (k := 5) q23 dX8_check_35 (by decide) q165
  have q167 : gz_OkS M_X8_check 0 0 11 _ := ok_seti (k := 4) q16 dX8_check_23 (by decide) q166
  have q168 : gz_OkE M_X8_check 0 0 0 8 10 _ := ok_bipush (v := -2) dX8_check_8 kc_bm2
  have q169 : gz_OkS M_X8_check 0 0 8 _ := ok_ri q168 dX8_check_10
  have q170 : gz_OkS M_X8_check 0 0 0 _ := ok_if q7 q167 q169
  have z : gz_OkS M_X8_check 0 0 0 sm_X8_check := q170
  exact gz_met (plainFor_of_name (by decide)) z (by decide) (by decide)
