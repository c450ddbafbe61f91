noncomputable def sm_X7_sets : gz_Sx := gz_seta 2 (gz_cv 7 9 se_X7_junctionAt (gz_a1 (gz_a1 (gz_a0) (gz_la 0)) (gz_li 1))) (gz_ri (gz_te (gz_jk (gz_la 2)) (gz_cv 1 11 se_X1_greatestSets (gz_a1 (gz_a0) (gz_la 2))) (gz_i (-1))))
noncomputable def se_X7_sets : gz_Me := gz_sem (some .int) 3 sm_X7_sets
abbrev rm_X7_sets : Room := { frames := 2, cells := 0, slots := 0, locals := 45 }
abbrev M_X7_sets : gz_Mi := (cX7_sets, 3, RX7, 2, 45, "sets", none)
theorem de_X7_sets : yX7_sets.cls ≠ "java/lang/invoke/MethodHandle" ∧ yX7_sets.cls ≠ "java/lang/invoke/VarHandle" ∧ (parseMethodDescriptor yX7_sets.desc).map (fun d => d.parameters.length) = some 1 := by decide +kernel
set_option maxRecDepth 100000 in
theorem mt_X7_sets : gz_Mt yX7_sets cX7_sets 3 (some .int) rm_X7_sets se_X7_sets := by
  have q1 : gz_OkA M_X7_sets 0 0 0 0 0 0 _ := ok_a0
  have q2 : gz_OkE M_X7_sets 0 0 0 0 1 _ := ok_aload_n (i := 0) dX7_sets_0 rfl
  have q3 : gz_OkA M_X7_sets 0 0 0 0 1 1 _ := ok_a1 q1 q2
  have q4 : gz_OkE M_X7_sets 2 0 0 1 2 _ := ok_iload_n (i := 1) dX7_sets_1 rfl
  have q5 : gz_OkA M_X7_sets 0 0 0 0 2 2 _ := ok_a1 q3 q4
  have q6 : gz_OkE M_X7_sets 0 0 0 0 5 _ := ok_cv q5 mt_X7_junctionAt cl_7 wd_604 wd_183 de_X7_junctionAt (by decide) (by decide) wd_605 wd_606 wd_607 dX7_sets_2 (by decide)
  have q7 : gz_OkE M_X7_sets 0 0 0 6 7 _ := ok_aload_n (i := 2) dX7_sets_6 rfl
  have q8 : gz_OkJ M_X7_sets 0 0 0 6 14 10 _ := ok_jk q7 dX7_sets_7 (by decide)
  have q9 : gz_OkE M_X7_sets 0 0 0 10 11 _ := ok_iconst (v := -1) dX7_sets_10 kc_im1
  have q10 : gz_OkE M_X7_sets 0 0 0 10 18 _ := ok_eg q9 dX7_sets_11 (by decide)
  have q11 : gz_OkA M_X7_sets 0 0 0 14 14 0 _ := ok_a0
  have q12 : gz_OkE M_X7_sets 0 0 0 14 15 _ := ok_aload_n (i := 2) dX7_sets_14 rfl
  have q13 : gz_OkA M_X7_sets 0 0 0 14 15 1 _ := ok_a1 q11 q12
  have q14 : gz_OkE M_X7_sets 0 0 0 14 18 _ := ok_cv q13 mt_X1_greatestSets cl_1 wd_643 wd_458 de_X1_greatestSets (by decide) (by decide) wd_644 wd_645 wd_646 dX7_sets_15 (by decide)
  have q15 : gz_OkE M_X7_sets 0 0 0 6 18 _ := ok_te2 q8 q10 q14
  have q16 : gz_OkS M_X7_sets 0 0 6 _ := ok_ri q15 dX7_sets_18
  have q17 : gz_OkS M_X7_sets 0 0 0 _ := ok_seta_n (k := 2) q6 dX7_sets_5 rfl (by decide) q16
  have z : gz_OkS M_X7_sets 0 0 0 sm_X7_sets := q17
  exact gz_met (plainFor_of_name (by decide)) z (by decide) (by decide)
noncomputable def sm_X7_set : gz_Sx := gz_seta 3 (gz_cv 7 9 se_X7_junctionAt (gz_a1 (gz_a1 (gz_a0) (gz_la 0)) (gz_li 1))) (gz_ri (gz_te (gz_jk (gz_la 3)) (gz_cv 1 11 se_X1_greatestSet (gz_a1 (gz_a1 (gz_a0) (gz_la 3)) (gz_li 2))) (gz_i (-1))))
noncomputable def se_X7_set : gz_Me := gz_sem (some .int) 4 sm_X7_set
abbrev rm_X7_set : Room := { frames := 2, cells := 0, slots := 0, locals := 46 }
abbrev M_X7_set : gz_Mi := (cX7_set, 4, RX7, 2, 46, "set", none)
theorem de_X7_set : yX7_set.cls ≠ "java/lang/invoke/MethodHandle" ∧ yX7_set.cls ≠ "java/lang/invoke/VarHandle" ∧ (parseMethodDescriptor yX7_set.desc).map (fun d => d.parameters.length) = some 2 := by decide +kernel
set_option maxRecDepth 100000 in
theorem mt_X7_set : gz_Mt yX7_set cX7_set 4 (some .int) rm_X7_set se_X7_set := by
  have q1 : gz_OkA M_X7_set 0 0 0 0 0 0 _ := ok_a0
  have q2 : gz_OkE M_X7_set 0 0 0 0 1 _ := ok_aload_n (i := 0) dX7_set_0 rfl
  have q3 : gz_OkA M_X7_set 0 0 0 0 1 1 _ := ok_a1 q1 q2
  have q4 : gz_OkE M_X7_set 2 0 0 1 2 _ := ok_iload_n (i := 1) dX7_set_1 rfl
  have q5 : gz_OkA M_X7_set 0 0 0 0 2 2 _ := ok_a1 q3 q4
  have q6 : gz_OkE M_X7_set 0 0 0 0 5 _ := ok_cv q5 mt_X7_junctionAt cl_7 wd_604 wd_183 de_X7_junctionAt (by decide) (by decide) wd_605 wd_606 wd_607 dX7_set_2 (by decide)
  have q7 : gz_OkE M_X7_set 0 0 0 6 7 _ := ok_aload_n (i := 3) dX7_set_6 rfl
  have q8 : gz_OkJ M_X7_set 0 0 0 6 14 10 _ := ok_jk q7 dX7_set_7 (by decide)
  have q9 : gz_OkE M_X7_set 0 0 0 10 11 _ := ok_iconst (v := -1) dX7_set_10 kc_im1
  have q10 : gz_OkE M_X7_set 0 0 0 10 19 _ := ok_eg q9 dX7_set_11 (by decide)
  have q11 : gz_OkA M_X7_set 0 0 0 14 14 0 _ := ok_a0
  have q12 : gz_OkE M_X7_set 0 0 0 14 15 _ := ok_aload_n (i := 3) dX7_set_14 rfl
  have q13 : gz_OkA M_X7_set 0 0 0 14 15 1 _ := ok_a1 q11 q12
  have q14 : gz_OkE M_X7_set 2 0 0 15 16 _ := ok_iload_n (i := 2) dX7_set_15 rfl
  have q15 : gz_OkA M_X7_set 0 0 0 14 16 2 _ := ok_a1 q13 q14
  have q16 : gz_OkE M_X7_set 0 0 0 14 19 _ := ok_cv q15 mt_X1_greatestSet cl_1 wd_647 wd_458 de_X1_greatestSet (by decide) (by decide) wd_648 wd_649 wd_650 dX7_set_16 (by decide)
  have q17 : gz_OkE M_X7_set 0 0 0 6 19 _ := ok_te2 q8 q10 q16
  have q18 : gz_OkS M_X7_set 0 0 6 _ := ok_ri q17 dX7_set_19
  have q19 : gz_OkS M_X7_set 0 0 0 _ := ok_seta_n (k := 3) q6 dX7_set_5 rfl (by decide) q18
  have z : gz_OkS M_X7_set 0 0 0 sm_X7_set := q19
  exact gz_met (plainFor_of_name (by decide)) z (by decide) (by decide)
noncomputable def sm_X7_goes : gz_Sx := gz_seta 3 (gz_cv 7 9 se_X7_junctionAt (gz_a1 (gz_a1 (gz_a0) (gz_la 0)) (gz_li 1))) (gz_ri (gz_te (gz_jo (gz_jn (gz_la 3)) (gz_j1 (fun x => decide (x = 0)) (gz_cv 1 11 se_X1_isSet (gz_a1 (gz_a1 (gz_a0) (gz_la 3)) (gz_li 2))))) (gz_i (0)) (gz_i (1))))
noncomputable def se_X7_goes : gz_Me := gz_sem (some .boolean) 4 sm_X7_goes
abbrev rm_X7_goes : Room := { frames := 2, cells := 0, slots := 0, locals := 43 }
abbrev M_X7_goes : gz_Mi := (cX7_goes, 4, RX7, 2, 43, "goes", none)
theorem de_X7_goes : yX7_goes.cls ≠ "java/lang/invoke/MethodHandle" ∧ yX7_goes.cls ≠ "java/lang/invoke/VarHandle" ∧ (parseMethodDescriptor yX7_goes.desc).map (fun d => d.parameters.length) = some 2 := by decide +kernel
set_option maxRecDepth 100000 in
theorem mt_X7_goes : gz_Mt yX7_goes cX7_goes 4 (some .boolean) rm_X7_goes se_X7_goes := by
  have q1 : gz_OkA M_X7_goes 0 0 0 0 0 0 _ := ok_a0
  have q2 : gz_OkE M_X7_goes 0 0 0 0 1 _ := ok_aload_n (i := 0) dX7_goes_0 rfl
  have q3 : gz_OkA M_X7_goes 0 0 0 0 1 1 _ := ok_a1 q1 q2
  have q4 : gz_OkE M_X7_goes 2 0 0 1 2 _ := ok_iload_n (i := 1) dX7_goes_1 rfl
  have q5 : gz_OkA M_X7_goes 0 0 0 0 2 2 _ := ok_a1 q3 q4
  have q6 : gz_OkE M_X7_goes 0 0 0 0 5 _ := ok_cv q5 mt_X7_junctionAt cl_7 wd_604 wd_183 de_X7_junctionAt (by decide) (by decide) wd_605 wd_606 wd_607 dX7_goes_2 (by decide)
  have q7 : gz_OkE M_X7_goes 0 0 0 6 7 _ := ok_aload_n (i := 3) dX7_goes_6 rfl
  have q8 : gz_OkJ M_X7_goes 0 0 0 6 22 10 _ := ok_jn q7 dX7_goes_7 (by decide)
  have q9 : gz_OkA M_X7_goes 0 0 0 10 10 0 _ := ok_a0
  have q10 : gz_OkE M_X7_goes 0 0 0 10 11 _ := ok_aload_n (i := 3) dX7_goes_10 rfl
  have q11 : gz_OkA M_X7_goes 0 0 0 10 11 1 _ := ok_a1 q9 q10
  have q12 : gz_OkE M_X7_goes 2 0 0 11 12 _ := ok_iload_n (i := 2) dX7_goes_11 rfl
  have q13 : gz_OkA M_X7_goes 0 0 0 10 12 2 _ := ok_a1 q11 q12
  have q14 : gz_OkE M_X7_goes 0 0 0 10 15 _ := ok_cv q13 mt_X1_isSet cl_1 wd_651 wd_458 de_X1_isSet (by decide) (by decide) wd_652 wd_653 wd_654 dX7_goes_12 (by decide)
  have q15 : gz_OkJ M_X7_goes 0 0 0 10 22 18 _ := ok_if_eq q14 dX7_goes_15 (by decide)
  have q16 : gz_OkJ M_X7_goes 0 0 0 6 22 18 _ := ok_jo q8 q15
  have q17 : gz_OkE M_X7_goes 0 0 0 18 19 _ := ok_iconst (v := 1) dX7_goes_18 kc_i1
  have q18 : gz_OkE M_X7_goes 0 0 0 18 23 _ := ok_eg q17 dX7_goes_19 (by decide)
  have q19 : gz_OkE M_X7_goes 0 0 0 22 23 _ := ok_iconst (v := 0) dX7_goes_22 kc_i0
  have q20 : gz_OkE M_X7_goes 0 0 0 6 23 _ := ok_te2 q16 q18 q19
  have q21 : gz_OkS M_X7_goes 0 0 6 _ := ok_ri q20 dX7_goes_23
  have q22 : gz_OkS M_X7_goes 0 0 0 _ := ok_seta_n (k := 3) q6 dX7_goes_5 rfl (by decide) q21
  have z : gz_OkS M_X7_goes 0 0 0 sm_X7_goes := q22
  exact gz_met (plainFor_of_name (by decide)) z (by decide) (by decide)
noncomputable def sm_X7_plan : gz_Sx := gz_seta 3 (gz_cv 7 9 se_X7_junctionAt (gz_a1 (gz_a1 (gz_a0) (gz_la 0)) (gz_li 1))) (gz_if (gz_ja (gz_jn (gz_la 3)) (gz_j1 (fun x => decide (x = 0)) (gz_cs se_X7_outside (gz_a1 (gz_a1 (gz_a1 (gz_a0) (gz_li 2)) (gz_i (20))) (gz_i (90)))))) (gz_seq 41 4 (gz_if (gz_jk (gz_get 1 11 6 (gz_la 3))) (gz_sat 41) (gz_put 1 11 6 (.object "GreenDesk$Plan") (gz_la 3) (gz_mk 2 9 (fun j => defaultValue (tyX2 j)) se_X2_init (gz_a0)) (gz_sat 41))) (gz_put 2 9 0 .int (gz_get 1 11 6 (gz_la 3)) (gz_li 2) (gz_put 2 9 2 .int (gz_get 1 11 6 (gz_la 3)) (gz_i (0)) (gz_ri (gz_i (1)))))) (gz_ri (gz_i (0))))
noncomputable def se_X7_plan : gz_Me := gz_sem (some .boolean) 4 sm_X7_plan
abbrev rm_X7_plan : Room := { frames := 2, cells := 6, slots := 115, locals := 43 }
abbrev M_X7_plan : gz_Mi := (cX7_plan, 4, RX7, 2, 43, "plan", none)
theorem de_X7_plan : yX7_plan.cls ≠ "java/lang/invoke/MethodHandle" ∧ yX7_plan.cls ≠ "java/lang/invoke/VarHandle" ∧ (parseMethodDescriptor yX7_plan.desc).map (fun d => d.parameters.length) = some 2 := by decide +kernel
set_option maxRecDepth 100000 in
theorem mt_X7_plan : gz_Mt yX7_plan cX7_plan 4 (some .boolean) rm_X7_plan se_X7_plan := by
  have q1 : gz_OkA M_X7_plan 0 0 0 0 0 0 _ := ok_a0
  have q2 : gz_OkE M_X7_plan 0 0 0 0 1 _ := ok_aload_n (i := 0) dX7_plan_0 rfl
  have q3 : gz_OkA M_X7_plan 0 0 0 0 1 1 _ := ok_a1 q1 q2
  have q4 : gz_OkE M_X7_plan 2 0 0 1 2 _ := ok_iload_n (i := 1) dX7_plan_1 rfl
  have q5 : gz_OkA M_X7_plan 0 0 0 0 2 2 _ := ok_a1 q3 q4
  have q6 : gz_OkE M_X7_plan 0 0 0 0 5 _ := ok_cv q5 mt_X7_junctionAt cl_7 wd_604 wd_183 de_X7_junctionAt (by decide) (by decide) wd_605 wd_606 wd_607 dX7_plan_2 (by decide)
  have q7 : gz_OkE M_X7_plan 0 0 0 6 7 _ := ok_aload_n (i := 3) dX7_plan_6 rfl
  have q8 : gz_OkJ M_X7_plan 0 0 0 6 21 10 _ := ok_jn q7 dX7_plan_7 (by decide)
  have q9 : gz_OkA M_X7_plan 0 0 0 10 10 0 _ := ok_a0
  have q10 : gz_OkE M_X7_plan 0 0 0 10 11 _ := ok_iload_n (i := 2) dX7_plan_10 rfl
  have q11 : gz_OkA M_X7_plan 0 0 0 10 11 1 _ := ok_a1 q9 q10
  have q12 : gz_OkE M_X7_plan 2 0 0 11 13 _ := ok_bipush (v := 20) dX7_plan_11 kc_b20
  have q13 : gz_OkA M_X7_plan 0 0 0 10 13 2 _ := ok_a1 q11 q12
  have q14 : gz_OkE M_X7_plan 4 0 0 13 15 _ := ok_bipush (v := 90) dX7_plan_13 kc_b90
  have q15 : gz_OkA M_X7_plan 0 0 0 10 15 3 _ := ok_a1 q13 q14
  have q16 : gz_OkE M_X7_plan 0 0 0 10 18 _ := ok_cs q15 mt_X7_outside wd_601 wd_183 de_X7_outside (by decide) (by decide) wd_602 wd_603 dX7_plan_15 (by decide)
  have q17 : gz_OkJ M_X7_plan 0 0 0 10 23 21 _ := ok_if_eq q16 dX7_plan_18 (by decide)
  have q18 : gz_OkJ M_X7_plan 0 0 0 6 23 21 _ := ok_ja q8 q17
  have q19 : gz_OkE M_X7_plan 0 0 0 23 24 _ := ok_aload_n (i := 3) dX7_plan_23 rfl
  have q20 : gz_OkE M_X7_plan 0 0 0 23 27 _ := ok_get q19 cl_1 (k := 6) (by decide) in_1 wd_108 dX7_plan_24
  have q21 : gz_OkJ M_X7_plan 0 0 0 23 41 30 _ := ok_jk q20 dX7_plan_27 (by decide)
  have q22 : gz_OkS M_X7_plan 0 0 41 _ := ok_at
  have q23 : gz_OkE M_X7_plan 0 0 0 30 31 _ := ok_aload_n (i := 3) dX7_plan_30 rfl
  have q24 : gz_OkA M_X7_plan 3 0 0 35 35 0 _ := ok_a0
  have q25 : gz_OkE M_X7_plan 1 6 115 31 38 _ := ok_mkN cl_2 in_2 tyX2 tyX2_ok nf_2 wd_655 wd_656 wd_406 dX7_plan_31 dX7_plan_34 q24 mt_X2_init wd_657 wd_406 de_X2_init (by decide) (by decide) (host := RX7) (fun _ q => q.2.2.2.2.1) wd_658 rfl dX7_plan_35 (by decide)
  have q26 : gz_OkS M_X7_plan 0 0 41 _ := ok_at
  have q27 : gz_OkS M_X7_plan 6 115 30 _ := ok_put (ty := (.object "GreenDesk$Plan")) q23 q25 cl_1 (k := 6) (by decide) in_1 wd_108 tyX1 tyX1_ok nmX1 rfl rfl dX7_plan_38 q26
  have q28 : gz_OkS M_X7_plan 6 115 23 _ := ok_if q21 q22 q27
  have q29 : gz_OkE M_X7_plan 0 0 0 41 42 _ := ok_aload_n (i := 3) dX7_plan_41 rfl
  have q30 : gz_OkE M_X7_plan 0 0 0 41 45 _ := ok_get q29 cl_1 (k := 6) (by decide) in_1 wd_108 dX7_plan_42
  have q31 : gz_OkE M_X7_plan 1 0 0 45 46 _ := ok_iload_n (i := 2) dX7_plan_45 rfl
  have q32 : gz_OkE M_X7_plan 0 0 0 49 50 _ := ok_aload_n (i := 3) dX7_plan_49 rfl
  have q33 : gz_OkE M_X7_plan 0 0 0 49 53 _ := ok_get q32 cl_1 (k := 6) (by decide) in_1 wd_108 dX7_plan_50
  have q34 : gz_OkE M_X7_plan 1 0 0 53 54 _ := ok_iconst (v := 0) dX7_plan_53 kc_i0
  have q35 : gz_OkE M_X7_plan 0 0 0 57 58 _ := ok_iconst (v := 1) dX7_plan_57 kc_i1
  have q36 : gz_OkS M_X7_plan 0 0 57 _ := ok_ri q35 dX7_plan_58
  have q37 : gz_OkS M_X7_plan 0 0 49 _ := ok_put (ty := .int) q33 q34 cl_2 (k := 2) (by decide) in_2 wd_110 tyX2 tyX2_ok nmX2 rfl rfl dX7_plan_54 q36
  have q38 : gz_OkS M_X7_plan 0 0 41 _ := ok_put (ty := .int) q30 q31 cl_2 (k := 0) (by decide) in_2 wd_109 tyX2 tyX2_ok nmX2 rfl rfl dX7_plan_46 q37
  have q39 : gz_OkS M_X7_plan 6 115 23 _ := ok_seq (L := 41) (k := 4) q28 q38
  have q40 : gz_OkE M_X7_plan 0 0 0 21 22 _ := ok_iconst (v := 0) dX7_plan_21 kc_i0
  have q41 : gz_OkS M_X7_plan 0 0 21 _ := ok_ri q40 dX7_plan_22
  have q42 : gz_OkS M_X7_plan 6 115 6 _ := ok_if q18 q39 q41
  have q43 : gz_OkS M_X7_plan 6 115 0 _ := ok_seta_n (k := 3) q6 dX7_plan_5 rfl (by decide) q42
  have z : gz_OkS M_X7_plan 6 115 0 sm_X7_plan := q43
  exact gz_met (plainFor_of_name (by decide)) z (by decide) (by decide)
noncomputable def sm_X7_begunAt : gz_Sx := gz_seta 2 (gz_cv 7 9 se_X7_junctionAt (gz_a1 (gz_a1 (gz_a0) (gz_la 0)) (gz_li 1))) (gz_ra (gz_te (gz_jk (gz_la 2)) (gz_get 1 11 6 (gz_la 2)) (gz_nu)))
noncomputable def se_X7_begunAt : gz_Me := gz_sem (some (.object "GreenDesk$Plan")) 3 sm_X7_begunAt
abbrev rm_X7_begunAt : Room := { frames := 2, cells := 0, slots := 0, locals := 43 }
abbrev M_X7_begunAt : gz_Mi := (cX7_begunAt, 3, RX7, 2, 43, "begunAt", none)
theorem de_X7_begunAt : yX7_begunAt.cls ≠ "java/lang/invoke/MethodHandle" ∧ yX7_begunAt.cls ≠ "java/lang/invoke/VarHandle" ∧ (parseMethodDescriptor yX7_begunAt.desc).map (fun d => d.parameters.length) = some 1 := by decide +kernel
set_option maxRecDepth 100000 in
theorem mt_X7_begunAt : gz_Mt yX7_begunAt cX7_begunAt 3 (some (.object "GreenDesk$Plan")) rm_X7_begunAt se_X7_begunAt := by
  have q1 : gz_OkA M_X7_begunAt 0 0 0 0 0 0 _ := ok_a0
  have q2 : gz_OkE M_X7_begunAt 0 0 0 0 1 _ := ok_aload_n (i := 0) dX7_begunAt_0 rfl
  have q3 : gz_OkA M_X7_begunAt 0 0 0 0 1 1 _ := ok_a1 q1 q2
  have q4 : gz_OkE M_X7_begunAt 2 0 0 1 2 _ := ok_iload_n (i := 1) dX7_begunAt_1 rfl
  have q5 : gz_OkA M_X7_begunAt 0 0 0 0 2 2 _ := ok_a1 q3 q4
  have q6 : gz_OkE M_X7_begunAt 0 0 0 0 5 _ := ok_cv q5 mt_X7_junctionAt cl_7 wd_604 wd_183 de_X7_junctionAt (by decide) (by decide) wd_605 wd_606 wd_607 dX7_begunAt_2 (by decide)
  have q7 : gz_OkE M_X7_begunAt 0 0 0 6 7 _ := ok_aload_n (i := 2) dX7_begunAt_6 rfl
  have q8 : gz_OkJ M_X7_begunAt 0 0 0 6 14 10 _ := ok_jk q7 dX7_begunAt_7 (by decide)
  have q9 : gz_OkE M_X7_begunAt 0 0 0 10 11 _ := ok_null dX7_begunAt_10
  have q10 : gz_OkE M_X7_begunAt 0 0 0 10 18 _ := ok_eg q9 dX7_begunAt_11 (by decide)
  have q11 : gz_OkE M_X7_begunAt 0 0 0 14 15 _ := ok_aload_n (i := 2) dX7_begunAt_14 rfl
  have q12 : gz_OkE M_X7_begunAt 0 0 0 14 18 _ := ok_get q11 cl_1 (k := 6) (by decide) in_1 wd_108 dX7_begunAt_15
  have q13 : gz_OkE M_X7_begunAt 0 0 0 6 18 _ := ok_te2 q8 q10 q12
  have q14 : gz_OkS M_X7_begunAt 0 0 6 _ := ok_ra q13 dX7_begunAt_18
  have q15 : gz_OkS M_X7_begunAt 0 0 0 _ := ok_seta_n (k := 2) q6 dX7_begunAt_5 rfl (by decide) q14
  have z : gz_OkS M_X7_begunAt 0 0 0 sm_X7_begunAt := q15
  exact gz_met (plainFor_of_name (by decide)) z (by decide) (by decide)
noncomputable def sm_X7_stage : gz_Sx := gz_seta 4 (gz_cv 7 9 se_X7_junctionAt (gz_a1 (gz_a1 (gz_a0) (gz_la 0)) (gz_li 1))) (gz_seta 5 (gz_cv 7 9 se_X7_begunAt (gz_a1 (gz_a1 (gz_a0) (gz_la 0)) (gz_li 1))) (gz_if (gz_ja (gz_jn (gz_la 4)) (gz_ja (gz_jn (gz_la 5)) (gz_ja (gz_j2 (fun x y => decide (y ≤ x)) (gz_get 2 9 2 (gz_la 5)) (gz_i (4))) (gz_ja (gz_j1 (fun x => decide (x = 0)) (gz_li 2)) (gz_ja (gz_j1 (fun x => decide (x = 0)) (gz_cv 1 11 se_X1_isSet (gz_a1 (gz_a1 (gz_a0) (gz_la 4)) (gz_li 2)))) (gz_j1 (fun x => decide (x = 0)) (gz_cs se_X7_outside (gz_a1 (gz_a1 (gz_a1 (gz_a0) (gz_li 3)) (gz_i (0))) (gz_i (90)))))))))) (gz_vv 2 9 se_X2_add (gz_a1 (gz_a1 (gz_a1 (gz_a0) (gz_la 5)) (gz_li 2)) (gz_li 3)) (gz_vv 1 11 se_X1_measureBetweens (gz_a1 (gz_a1 (gz_a0) (gz_la 4)) (gz_la 5)) (gz_ri (gz_ib (fun x y => x - y) (gz_get 2 9 2 (gz_la 5)) (gz_i (1)))))) (gz_ri (gz_i (-1)))))
noncomputable def se_X7_stage : gz_Me := gz_sem (some .int) 6 sm_X7_stage
abbrev rm_X7_stage : Room := { frames := 3, cells := 0, slots := 0, locals := 71 }
abbrev M_X7_stage : gz_Mi := (cX7_stage, 6, RX7, 3, 71, "stage", none)
theorem de_X7_stage : yX7_stage.cls ≠ "java/lang/invoke/MethodHandle" ∧ yX7_stage.cls ≠ "java/lang/invoke/VarHandle" ∧ (parseMethodDescriptor yX7_stage.desc).map (fun d => d.parameters.length) = some 3 := by decide +kernel
set_option maxRecDepth 100000 in
theorem mt_X7_stage : gz_Mt yX7_stage cX7_stage 6 (some .int) rm_X7_stage se_X7_stage := by
  have q1 : gz_OkA M_X7_stage 0 0 0 0 0 0 _ := ok_a0
  have q2 : gz_OkE M_X7_stage 0 0 0 0 1 _ := ok_aload_n (i := 0) dX7_stage_0 rfl
  have q3 : gz_OkA M_X7_stage 0 0 0 0 1 1 _ := ok_a1 q1 q2
  have q4 : gz_OkE M_X7_stage 2 0 0 1 2 _ := ok_iload_n (i := 1) dX7_stage_1 rfl
  have q5 : gz_OkA M_X7_stage 0 0 0 0 2 2 _ := ok_a1 q3 q4
  have q6 : gz_OkE M_X7_stage 0 0 0 0 5 _ := ok_cv q5 mt_X7_junctionAt cl_7 wd_604 wd_183 de_X7_junctionAt (by decide) (by decide) wd_605 wd_606 wd_607 dX7_stage_2 (by decide)
  have q7 : gz_OkA M_X7_stage 0 0 0 7 7 0 _ := ok_a0
  have q8 : gz_OkE M_X7_stage 0 0 0 7 8 _ := ok_aload_n (i := 0) dX7_stage_7 rfl
  have q9 : gz_OkA M_X7_stage 0 0 0 7 8 1 _ := ok_a1 q7 q8
  have q10 : gz_OkE M_X7_stage 2 0 0 8 9 _ := ok_iload_n (i := 1) dX7_stage_8 rfl
  have q11 : gz_OkA M_X7_stage 0 0 0 7 9 2 _ := ok_a1 q9 q10
  have q12 : gz_OkE M_X7_stage 0 0 0 7 12 _ := ok_cv q11 mt_X7_begunAt cl_7 wd_659 wd_183 de_X7_begunAt (by decide) (by decide) wd_660 wd_661 wd_662 dX7_stage_9 (by decide)
  have q13 : gz_OkE M_X7_stage 0 0 0 14 16 _ := ok_aload (i := 4) dX7_stage_14
  have q14 : gz_OkJ M_X7_stage 0 0 0 14 56 19 _ := ok_jn q13 dX7_stage_16 (by decide)
  have q15 : gz_OkE M_X7_stage 0 0 0 19 21 _ := ok_aload (i := 5) dX7_stage_19
  have q16 : gz_OkJ M_X7_stage 0 0 0 19 56 24 _ := ok_jn q15 dX7_stage_21 (by decide)
  have q17 : gz_OkE M_X7_stage 0 0 0 24 26 _ := ok_aload (i := 5) dX7_stage_24
  have q18 : gz_OkE M_X7_stage 0 0 0 24 29 _ := ok_get q17 cl_2 (k := 2) (by decide) in_2 wd_110 dX7_stage_26
  have q19 : gz_OkE M_X7_stage 1 0 0 29 30 _ := ok_iconst (v := 4) dX7_stage_29 kc_i4
  have q20 : gz_OkJ M_X7_stage 0 0 0 24 56 33 _ := ok_ic_ge q18 q19 dX7_stage_30 (by decide)
  have q21 : gz_OkE M_X7_stage 0 0 0 33 34 _ := ok_iload_n (i := 2) dX7_stage_33 rfl
  have q22 : gz_OkJ M_X7_stage 0 0 0 33 56 37 _ := ok_if_eq q21 dX7_stage_34 (by decide)
  have q23 : gz_OkA M_X7_stage 0 0 0 37 37 0 _ := ok_a0
  have q24 : gz_OkE M_X7_stage 0 0 0 37 39 _ := ok_aload (i := 4) dX7_stage_37
  have q25 : gz_OkA M_X7_stage 0 0 0 37 39 1 _ := ok_a1 q23 q24
  have q26 : gz_OkE M_X7_stage 2 0 0 39 40 _ := ok_iload_n (i := 2) dX7_stage_39 rfl
  have q27 : gz_OkA M_X7_stage 0 0 0 37 40 2 _ := ok_a1 q25 q26
  have q28 : gz_OkE M_X7_stage 0 0 0 37 43 _ := ok_cv q27 mt_X1_isSet cl_1 wd_651 wd_458 de_X1_isSet (by decide) (by decide) wd_652 wd_653 wd_654 dX7_stage_40 (by decide)
  have q29 : gz_OkJ M_X7_stage 0 0 0 37 56 46 _ := ok_if_eq q28 dX7_stage_43 (by decide)
  have q30 : gz_OkA M_X7_stage 0 0 0 46 46 0 _ := ok_a0
  have q31 : gz_OkE M_X7_stage 0 0 0 46 47 _ := ok_iload_n (i := 3) dX7_stage_46 rfl
  have q32 : gz_OkA M_X7_stage 0 0 0 46 47 1 _ := ok_a1 q30 q31
  have q33 : gz_OkE M_X7_stage 2 0 0 47 48 _ := ok_iconst (v := 0) dX7_stage_47 kc_i0
  have q34 : gz_OkA M_X7_stage 0 0 0 46 48 2 _ := ok_a1 q32 q33
  have q35 : gz_OkE M_X7_stage 4 0 0 48 50 _ := ok_bipush (v := 90) dX7_stage_48 kc_b90
  have q36 : gz_OkA M_X7_stage 0 0 0 46 50 3 _ := ok_a1 q34 q35
  have q37 : gz_OkE M_X7_stage 0 0 0 46 53 _ := ok_cs q36 mt_X7_outside wd_601 wd_183 de_X7_outside (by decide) (by decide) wd_602 wd_603 dX7_stage_50 (by decide)
  have q38 : gz_OkJ M_X7_stage 0 0 0 46 58 56 _ := ok_if_eq q37 dX7_stage_53 (by decide)
  have q39 : gz_OkJ M_X7_stage 0 0 0 37 58 56 _ := ok_ja q29 q38
  have q40 : gz_OkJ M_X7_stage 0 0 0 33 58 56 _ := ok_ja q22 q39
  have q41 : gz_OkJ M_X7_stage 0 0 0 24 58 56 _ := ok_ja q20 q40
  have q42 : gz_OkJ M_X7_stage 0 0 0 19 58 56 _ := ok_ja q16 q41
  have q43 : gz_OkJ M_X7_stage 0 0 0 14 58 56 _ := ok_ja q14 q42
  have q44 : gz_OkA M_X7_stage 0 0 0 58 58 0 _ := ok_a0
  have q45 : gz_OkE M_X7_stage 0 0 0 58 60 _ := ok_aload (i := 5) dX7_stage_58
  have q46 : gz_OkA M_X7_stage 0 0 0 58 60 1 _ := ok_a1 q44 q45
  have q47 : gz_OkE M_X7_stage 2 0 0 60 61 _ := ok_iload_n (i := 2) dX7_stage_60 rfl
  have q48 : gz_OkA M_X7_stage 0 0 0 58 61 2 _ := ok_a1 q46 q47
  have q49 : gz_OkE M_X7_stage 4 0 0 61 62 _ := ok_iload_n (i := 3) dX7_stage_61 rfl
  have q50 : gz_OkA M_X7_stage 0 0 0 58 62 3 _ := ok_a1 q48 q49
  have q51 : gz_OkA M_X7_stage 0 0 0 65 65 0 _ := ok_a0
  have q52 : gz_OkE M_X7_stage 0 0 0 65 67 _ := ok_aload (i := 4) dX7_stage_65
  have q53 : gz_OkA M_X7_stage 0 0 0 65 67 1 _ := ok_a1 q51 q52
  have q54 : gz_OkE M_X7_stage 2 0 0 67 69 _ := ok_aload (i := 5) dX7_stage_67
  have q55 : gz_OkA M_X7_stage 0 0 0 65 69 2 _ := ok_a1 q53 q54
  have q56 : gz_OkE M_X7_stage 0 0 0 72 74 _ := ok_aload (i := 5) dX7_stage_72
  have q57 : gz_OkE M_X7_stage 0 0 0 72 77 _ := ok_get q56 cl_2 (k := 2) (by decide) in_2 wd_110 dX7_stage_74
  have q58 : gz_OkE M_X7_stage 1 0 0 77 78 _ := ok_iconst (v := 1) dX7_stage_77 kc_i1
  have q59 : gz_OkE M_X7_stage 0 0 0 72 79 _ := ok_isub q57 q58 dX7_stage_78
  have q60 : gz_OkS M_X7_stage 0 0 72 _ := ok_ri q59 dX7_stage_79
  have q61 : gz_OkS M_X7_stage 0 0 65 _ := ok_vv q55 mt_X1_measureBetweens cl_1 wd_663 wd_458 de_X1_measureBetweens (by decide) (by decide) wd_664 wd_665 wd_666 dX7_stage_69 q60
  have q62 : gz_OkS M_X7_stage 0 0 58 _ := ok_vv q50 mt_X2_add cl_2 wd_667 wd_406 de_X2_add (by decide) (by decide) wd_668 wd_669 wd_670 dX7_stage_62 q61
  have q63 : gz_OkE M_X7_stage 0 0 0 56 57 _ := ok_iconst (v := -1) dX7_stage_56 kc_im1
  have q64 : gz_OkS M_X7_stage 0 0 56 _ := ok_ri q63 dX7_stage_57
  have q65 : gz_OkS M_X7_stage 0 0 14 _ := ok_if q43 q62 q64
  have q66 : gz_OkS M_X7_stage 0 0 7 _ := ok_seta (k := 5) q12 dX7_stage_12 (by decide) q65
  have q67 : gz_OkS M_X7_stage 0 0 0 _ := ok_seta (k := 4) q6 dX7_stage_5 (by decide) q66
  have z : gz_OkS M_X7_stage 0 0 0 sm_X7_stage := q67
  exact gz_met (plainFor_of_name (by decide)) z (by decide) (by decide)
noncomputable def lb_X7_tellsShortGreen_2 : gz_Sx := gz_if (gz_j2 (fun x y => decide (y ≤ x)) (gz_li 3) (gz_get 2 9 0 (gz_la 2))) (gz_sat 48) (gz_seti 4 (gz_cv 1 11 se_X1_firstShortGreen (gz_a1 (gz_a1 (gz_a1 (gz_a0) (gz_la 1)) (gz_la 2)) (gz_li 3))) (gz_if (gz_j2 (fun x y => decide (x = y)) (gz_li 4) (gz_i (-1))) (gz_inc 3 (1) (gz_sat 2)) (gz_put 7 9 6 .int (gz_la 0) (gz_li 3) (gz_put 7 9 7 .int (gz_la 0) (gz_li 4) (gz_put 7 9 8 .int (gz_la 0) (gz_i (-1)) (gz_ri (gz_i (1))))))))
noncomputable def sm_X7_tellsShortGreen : gz_Sx := gz_seti 3 (gz_i (0)) (gz_seq 48 0 (gz_loop 2 4 lb_X7_tellsShortGreen_2) (gz_ri (gz_i (0))))
noncomputable def se_X7_tellsShortGreen : gz_Me := gz_sem (some .boolean) 5 sm_X7_tellsShortGreen
abbrev rm_X7_tellsShortGreen : Room := { frames := 2, cells := 0, slots := 0, locals := 50 }
abbrev M_X7_tellsShortGreen : gz_Mi := (cX7_tellsShortGreen, 5, RX7, 2, 50, "tellsShortGreen", none)
theorem de_X7_tellsShortGreen : yX7_tellsShortGreen.cls ≠ "java/lang/invoke/MethodHandle" ∧ yX7_tellsShortGreen.cls ≠ "java/lang/invoke/VarHandle" ∧ (parseMethodDescriptor yX7_tellsShortGreen.desc).map (fun d => d.parameters.length) = some 2 := by decide +kernel
set_option maxRecDepth 100000 in
theorem mt_X7_tellsShortGreen : gz_Mt yX7_tellsShortGreen cX7_tellsShortGreen 5 (some .boolean) rm_X7_tellsShortGreen se_X7_tellsShortGreen := by
  have q1 : gz_OkE M_X7_tellsShortGreen 0 0 0 0 1 _ := ok_iconst (v := 0) dX7_tellsShortGreen_0 kc_i0
  have q2 : gz_OkE M_X7_tellsShortGreen 0 0 0 2 3 _ := ok_iload_n (i := 3) dX7_tellsShortGreen_2 rfl
  have q3 : gz_OkE M_X7_tellsShortGreen 1 0 0 3 4 _ := ok_aload_n (i := 2) dX7_tellsShortGreen_3 rfl
  have q4 : gz_OkE M_X7_tellsShortGreen 1 0 0 3 7 _ := ok_get q3 cl_2 (k := 0) (by decide) in_2 wd_109 dX7_tellsShortGreen_4
  have q5 : gz_OkJ M_X7_tellsShortGreen 0 0 0 2 48 10 _ := ok_ic_ge q2 q4 dX7_tellsShortGreen_7 (by decide)
  have q6 : gz_OkS M_X7_tellsShortGreen 0 0 48 _ := ok_at
  have q7 : gz_OkA M_X7_tellsShortGreen 0 0 0 10 10 0 _ := ok_a0
  have q8 : gz_OkE M_X7_tellsShortGreen 0 0 0 10 11 _ := ok_aload_n (i := 1) dX7_tellsShortGreen_10 rfl
  have q9 : gz_OkA M_X7_tellsShortGreen 0 0 0 10 11 1 _ := ok_a1 q7 q8
  have q10 : gz_OkE M_X7_tellsShortGreen 2 0 0 11 12 _ := ok_aload_n (i := 2) dX7_tellsShortGreen_11 rfl
  have q11 : gz_OkA M_X7_tellsShortGreen 0 0 0 10 12 2 _ := ok_a1 q9 q10
  have q12 : gz_OkE M_X7_tellsShortGreen 4 0 0 12 13 _ := ok_iload_n (i := 3) dX7_tellsShortGreen_12 rfl
  have q13 : gz_OkA M_X7_tellsShortGreen 0 0 0 10 13 3 _ := ok_a1 q11 q12
  have q14 : gz_OkE M_X7_tellsShortGreen 0 0 0 10 16 _ := ok_cv q13 mt_X1_firstShortGreen cl_1 wd_671 wd_458 de_X1_firstShortGreen (by decide) (by decide) wd_672 wd_673 wd_674 dX7_tellsShortGreen_13 (by decide)
  have q15 : gz_OkE M_X7_tellsShortGreen 0 0 0 18 20 _ := ok_iload (i := 4) dX7_tellsShortGreen_18
  have q16 : gz_OkE M_X7_tellsShortGreen 1 0 0 20 21 _ := ok_iconst (v := -1) dX7_tellsShortGreen_20 kc_im1
  have q17 : gz_OkJ M_X7_tellsShortGreen 0 0 0 18 42 24 _ := ok_ic_eq q15 q16 dX7_tellsShortGreen_21 (by decide)
  have q18 : gz_OkS M_X7_tellsShortGreen 0 0 45 (gz_sat 2) := ok_goto dX7_tellsShortGreen_45 (by decide)
  have q19 : gz_OkS M_X7_tellsShortGreen 0 0 42 _ := ok_inc (v := 1) dX7_tellsShortGreen_42 kc_i1 (by decide) q18
  have q20 : gz_OkE M_X7_tellsShortGreen 0 0 0 24 25 _ := ok_aload_n (i := 0) dX7_tellsShortGreen_24 rfl
  have q21 : gz_OkE M_X7_tellsShortGreen 1 0 0 25 26 _ := ok_iload_n (i := 3) dX7_tellsShortGreen_25 rfl
  have q22 : gz_OkE M_X7_tellsShortGreen 0 0 0 29 30 _ := ok_aload_n (i := 0) dX7_tellsShortGreen_29 rfl
  have q23 : gz_OkE M_X7_tellsShortGreen 1 0 0 30 32 _ := ok_iload (i := 4) dX7_tellsShortGreen_30
  have q24 : gz_OkE M_X7_tellsShortGreen 0 0 0 35 36 _ := ok_aload_n (i := 0) dX7_tellsShortGreen_35 rfl
  have q25 : gz_OkE M_X7_tellsShortGreen 1 0 0 36 37 _ := ok_iconst (v := -1) dX7_tellsShortGreen_36 kc_im1
  have q26 : gz_OkE M_X7_tellsShortGreen 0 0 0 40 41 _ := ok_iconst (v := 1) dX7_tellsShortGreen_40 kc_i1
  have q27 : gz_OkS M_X7_tellsShortGreen 0 0 40 _ := ok_ri q26 dX7_tellsShortGreen_41
  have q28 : gz_OkS M_X7_tellsShortGreen 0 0 35 _ := ok_put (ty := .int) q24 q25 cl_7 (k := 8) (by decide) in_7 wd_102 tyX7 tyX7_ok nmX7 rfl rfl dX7_tellsShortGreen_37 q27
  have q29 : gz_OkS M_X7_tellsShortGreen 0 0 29 _ := ok_put (ty := .int) q22 q23 cl_7 (k := 7) (by decide) in_7 wd_101 tyX7 tyX7_ok nmX7 rfl rfl dX7_tellsShortGreen_32 q28
  have q30 : gz_OkS M_X7_tellsShortGreen 0 0 24 _ := ok_put (ty := .int) q20 q21 cl_7 (k := 6) (by decide) in_7 wd_100 tyX7 tyX7_ok nmX7 rfl rfl dX7_tellsShortGreen_26 q29
  have q31 : gz_OkS M_X7_tellsShortGreen 0 0 18 _ := ok_if q17 q19 q30
  have q32 : gz_OkS M_X7_tellsShortGreen 0 0 10 _ := ok_seti (k := 4) q14 dX7_tellsShortGreen_16 (by decide) q31
  have q33 : gz_OkS M_X7_tellsShortGreen 0 0 2 _ := ok_if q5 q6 q32
  have q34 : gz_OkS M_X7_tellsShortGreen 0 0 2 lb_X7_tellsShortGreen_2 := q33
  have q35 : gz_OkS M_X7_tellsShortGreen 0 0 2 _ := ok_loop (k := 4) q34 rfl rfl
  have q36 : gz_OkE M_X7_tellsShortGreen 0 0 0 48 49 _ := ok_iconst (v := 0) dX7_tellsShortGreen_48 kc_i0
  have q37 : gz_OkS M_X7_tellsShortGreen 0 0 48 _ := ok_ri q36 dX7_tellsShortGreen_49
  have q38 : gz_OkS M_X7_tellsShortGreen 0 0 2 _ := ok_seq (L := 48) (k := 0) q35 q37
  have q39 : gz_OkS M_X7_tellsShortGreen 0 0 0 _ := ok_seti_n (k := 3) q1 dX7_tellsShortGreen_1 rfl (by decide) q38
  have z : gz_OkS M_X7_tellsShortGreen 0 0 0 sm_X7_tellsShortGreen := q39
  exact gz_met (plainFor_of_name (by decide)) z (by decide) (by decide)
noncomputable def sm_X7_tellsClash : gz_Sx := gz_seti 3 (gz_cv 5 3 se_X5_firstClashOf (gz_a1 (gz_a1 (gz_a1 (gz_a0) (gz_get 7 9 1 (gz_la 0))) (gz_la 1)) (gz_la 2))) (gz_if (gz_j2 (fun x y => decide (¬ x = y)) (gz_li 3) (gz_i (-1))) (gz_put 7 9 6 .int (gz_la 0) (gz_li 3) (gz_put 7 9 7 .int (gz_la 0) (gz_get 5 3 1 (gz_get 7 9 1 (gz_la 0))) (gz_put 7 9 8 .int (gz_la 0) (gz_get 5 3 2 (gz_get 7 9 1 (gz_la 0))) (gz_ri (gz_i (1)))))) (gz_ri (gz_i (0))))
noncomputable def se_X7_tellsClash : gz_Me := gz_sem (some .boolean) 4 sm_X7_tellsClash
abbrev rm_X7_tellsClash : Room := { frames := 3, cells := 0, slots := 0, locals := 69 }
abbrev M_X7_tellsClash : gz_Mi := (cX7_tellsClash, 4, RX7, 3, 69, "tellsClash", none)
theorem de_X7_tellsClash : yX7_tellsClash.cls ≠ "java/lang/invoke/MethodHandle" ∧ yX7_tellsClash.cls ≠ "java/lang/invoke/VarHandle" ∧ (parseMethodDescriptor yX7_tellsClash.desc).map (fun d => d.parameters.length) = some 2 := by decide +kernel
set_option maxRecDepth 100000 in
theorem mt_X7_tellsClash : gz_Mt yX7_tellsClash cX7_tellsClash 4 (some .boolean) rm_X7_tellsClash se_X7_tellsClash := by
  have q1 : gz_OkA M_X7_tellsClash 0 0 0 0 0 0 _ := ok_a0
  have q2 : gz_OkE M_X7_tellsClash 0 0 0 0 1 _ := ok_aload_n (i := 0) dX7_tellsClash_0 rfl
  have q3 : gz_OkE M_X7_tellsClash 0 0 0 0 4 _ := ok_get q2 cl_7 (k := 1) (by decide) in_7 wd_97 dX7_tellsClash_1
  have q4 : gz_OkA M_X7_tellsClash 0 0 0 0 4 1 _ := ok_a1 q1 q3
  have q5 : gz_OkE M_X7_tellsClash 2 0 0 4 5 _ := ok_aload_n (i := 1) dX7_tellsClash_4 rfl
  have q6 : gz_OkA M_X7_tellsClash 0 0 0 0 5 2 _ := ok_a1 q4 q5
  have q7 : gz_OkE M_X7_tellsClash 4 0 0 5 6 _ := ok_aload_n (i := 2) dX7_tellsClash_5 rfl
  have q8 : gz_OkA M_X7_tellsClash 0 0 0 0 6 3 _ := ok_a1 q6 q7
  have q9 : gz_OkE M_X7_tellsClash 0 0 0 0 9 _ := ok_cv q8 mt_X5_firstClashOf cl_5 wd_675 wd_537 de_X5_firstClashOf (by decide) (by decide) wd_676 wd_677 wd_678 dX7_tellsClash_6 (by decide)
  have q10 : gz_OkE M_X7_tellsClash 0 0 0 10 11 _ := ok_iload_n (i := 3) dX7_tellsClash_10 rfl
  have q11 : gz_OkE M_X7_tellsClash 1 0 0 11 12 _ := ok_iconst (v := -1) dX7_tellsClash_11 kc_im1
  have q12 : gz_OkJ M_X7_tellsClash 0 0 0 10 17 15 _ := ok_ic_ne q10 q11 dX7_tellsClash_12 (by decide)
  have q13 : gz_OkE M_X7_tellsClash 0 0 0 17 18 _ := ok_aload_n (i := 0) dX7_tellsClash_17 rfl
  have q14 : gz_OkE M_X7_tellsClash 1 0 0 18 19 _ := ok_iload_n (i := 3) dX7_tellsClash_18 rfl
  have q15 : gz_OkE M_X7_tellsClash 0 0 0 22 23 _ := ok_aload_n (i := 0) dX7_tellsClash_22 rfl
  have q16 : gz_OkE M_X7_tellsClash 1 0 0 23 24 _ := ok_aload_n (i := 0) dX7_tellsClash_23 rfl
  have q17 : gz_OkE M_X7_tellsClash 1 0 0 23 27 _ := ok_get q16 cl_7 (k := 1) (by decide) in_7 wd_97 dX7_tellsClash_24
  have q18 : gz_OkE M_X7_tellsClash 1 0 0 23 30 _ := ok_get q17 cl_5 (k := 1) (by decide) in_5 wd_125 dX7_tellsClash_27
  have q19 : gz_OkE M_X7_tellsClash 0 0 0 33 34 _ := ok_aload_n (i := 0) dX7_tellsClash_33 rfl
  have q20 : gz_OkE M_X7_tellsClash 1 0 0 34 35 _ := ok_aload_n (i := 0) dX7_tellsClash_34 rfl
  have q21 : gz_OkE M_X7_tellsClash 1 0 0 34 38 _ := ok_get q20 cl_7 (k := 1) (by decide) in_7 wd_97 dX7_tellsClash_35
  have q22 : gz_OkE M_X7_tellsClash 1 0 0 34 41 _ := ok_get q21 cl_5 (k := 2) (by decide) in_5 wd_126 dX7_tellsClash_38
  have q23 : gz_OkE M_X7_tellsClash 0 0 0 44 45 _ := ok_iconst (v := 1) dX7_tellsClash_44 kc_i1
  have q24 : gz_OkS M_X7_tellsClash 0 0 44 _ := ok_ri q23 dX7_tellsClash_45
  have q25 : gz_OkS M_X7_tellsClash 0 0 33 _ := ok_put (ty := .int) q19 q22 cl_7 (k := 8) (by decide) in_7 wd_102 tyX7 tyX7_ok nmX7 rfl rfl dX7_tellsClash_41 q24
  have q26 : gz_OkS M_X7_tellsClash 0 0 22 _ := ok_put (ty := .int) q15 q18 cl_7 (k := 7) (by decide) in_7 wd_101 tyX7 tyX7_ok nmX7 rfl rfl dX7_tellsClash_30 q25
  have q27 : gz_OkS M_X7_tellsClash 0 0 17 _ := ok_put (ty := .int) q13 q14 cl_7 (k := 6) (by decide) in_7 wd_100 tyX7 tyX7_ok nmX7 rfl rfl dX7_tellsClash_19 q26
  have q28 : gz_OkE M_X7_tellsClash 0 0 0 15 16 _ := ok_iconst (v := 0) dX7_tellsClash_15 kc_i0
  have q29 : gz_OkS M_X7_tellsClash 0 0 15 _ := ok_ri q28 dX7_tellsClash_16
  have q30 : gz_OkS M_X7_tellsClash 0 0 10 _ := ok_if q12 q27 q29
  have q31 : gz_OkS M_X7_tellsClash 0 0 0 _ := ok_seti_n (k := 3) q9 dX7_tellsClash_9 rfl (by decide) q30
  have z : gz_OkS M_X7_tellsClash 0 0 0 sm_X7_tellsClash := q31
  exact gz_met (plainFor_of_name (by decide)) z (by decide) (by decide)
noncomputable def sm_X7_take : gz_Sx := gz_seta 3 (gz_cv 7 9 se_X7_junctionAt (gz_a1 (gz_a1 (gz_a0) (gz_la 0)) (gz_li 1))) (gz_seta 4 (gz_cv 7 9 se_X7_begunAt (gz_a1 (gz_a1 (gz_a0) (gz_la 0)) (gz_li 1))) (gz_if (gz_ja (gz_jn (gz_la 3)) (gz_ja (gz_jn (gz_la 4)) (gz_j1 (fun x => decide (x = 0)) (gz_cs se_X7_outside (gz_a1 (gz_a1 (gz_a1 (gz_a0) (gz_li 2)) (gz_i (0))) (gz_ib (fun x y => x - y) (gz_get 2 9 0 (gz_la 4)) (gz_i (1)))))))) (gz_if (gz_j2 (fun x y => decide (y ≤ x)) (gz_get 2 9 2 (gz_la 4)) (gz_i (2))) (gz_if (gz_j1 (fun x => decide (x = 0)) (gz_cv 2 9 se_X2_hasStageWithoutGreen (gz_a1 (gz_a0) (gz_la 4)))) (gz_if (gz_j2 (fun x y => decide (x = y)) (gz_ib (fun x y => x + y) (gz_cv 2 9 se_X2_allGreens (gz_a1 (gz_a0) (gz_la 4))) (gz_cv 2 9 se_X2_allBetweens (gz_a1 (gz_a0) (gz_la 4)))) (gz_get 2 9 0 (gz_la 4))) (gz_vv 2 9 se_X2_layLamps (gz_a1 (gz_a0) (gz_la 4)) (gz_if (gz_j1 (fun x => decide (x = 0)) (gz_cv 7 9 se_X7_tellsShortGreen (gz_a1 (gz_a1 (gz_a1 (gz_a0) (gz_la 0)) (gz_la 3)) (gz_la 4)))) (gz_if (gz_j1 (fun x => decide (x = 0)) (gz_cv 7 9 se_X7_tellsClash (gz_a1 (gz_a1 (gz_a1 (gz_a0) (gz_la 0)) (gz_la 3)) (gz_la 4)))) (gz_vv 1 11 se_X1_adopt (gz_a1 (gz_a1 (gz_a1 (gz_a0) (gz_la 3)) (gz_li 2)) (gz_get 7 9 5 (gz_la 0))) (gz_ri (gz_i (0)))) (gz_ri (gz_i (6)))) (gz_ri (gz_i (5))))) (gz_ri (gz_i (4)))) (gz_ri (gz_i (3)))) (gz_ri (gz_i (2)))) (gz_ri (gz_i (1)))))
noncomputable def se_X7_take : gz_Me := gz_sem (some .int) 5 sm_X7_take
abbrev rm_X7_take : Room := { frames := 4, cells := 0, slots := 0, locals := 92 }
abbrev M_X7_take : gz_Mi := (cX7_take, 5, RX7, 4, 92, "take", none)
theorem de_X7_take : yX7_take.cls ≠ "java/lang/invoke/MethodHandle" ∧ yX7_take.cls ≠ "java/lang/invoke/VarHandle" ∧ (parseMethodDescriptor yX7_take.desc).map (fun d => d.parameters.length) = some 2 := by decide +kernel
set_option maxRecDepth 100000 in
theorem mt_X7_take : gz_Mt yX7_take cX7_take 5 (some .int) rm_X7_take se_X7_take := by
  have q1 : gz_OkA M_X7_take 0 0 0 0 0 0 _ := ok_a0
  have q2 : gz_OkE M_X7_take 0 0 0 0 1 _ := ok_aload_n (i := 0) dX7_take_0 rfl
  have q3 : gz_OkA M_X7_take 0 0 0 0 1 1 _ := ok_a1 q1 q2
  have q4 : gz_OkE M_X7_take 2 0 0 1 2 _ := ok_iload_n (i := 1) dX7_take_1 rfl
  have q5 : gz_OkA M_X7_take 0 0 0 0 2 2 _ := ok_a1 q3 q4
  have q6 : gz_OkE M_X7_take 0 0 0 0 5 _ := ok_cv q5 mt_X7_junctionAt cl_7 wd_604 wd_183 de_X7_junctionAt (by decide) (by decide) wd_605 wd_606 wd_607 dX7_take_2 (by decide)
  have q7 : gz_OkA M_X7_take 0 0 0 6 6 0 _ := ok_a0
  have q8 : gz_OkE M_X7_take 0 0 0 6 7 _ := ok_aload_n (i := 0) dX7_take_6 rfl
  have q9 : gz_OkA M_X7_take 0 0 0 6 7 1 _ := ok_a1 q7 q8
  have q10 : gz_OkE M_X7_take 2 0 0 7 8 _ := ok_iload_n (i := 1) dX7_take_7 rfl
  have q11 : gz_OkA M_X7_take 0 0 0 6 8 2 _ := ok_a1 q9 q10
  have q12 : gz_OkE M_X7_take 0 0 0 6 11 _ := ok_cv q11 mt_X7_begunAt cl_7 wd_659 wd_183 de_X7_begunAt (by decide) (by decide) wd_660 wd_661 wd_662 dX7_take_8 (by decide)
  have q13 : gz_OkE M_X7_take 0 0 0 13 14 _ := ok_aload_n (i := 3) dX7_take_13 rfl
  have q14 : gz_OkJ M_X7_take 0 0 0 13 37 17 _ := ok_jn q13 dX7_take_14 (by decide)
  have q15 : gz_OkE M_X7_take 0 0 0 17 19 _ := ok_aload (i := 4) dX7_take_17
  have q16 : gz_OkJ M_X7_take 0 0 0 17 37 22 _ := ok_jn q15 dX7_take_19 (by decide)
  have q17 : gz_OkA M_X7_take 0 0 0 22 22 0 _ := ok_a0
  have q18 : gz_OkE M_X7_take 0 0 0 22 23 _ := ok_iload_n (i := 2) dX7_take_22 rfl
  have q19 : gz_OkA M_X7_take 0 0 0 22 23 1 _ := ok_a1 q17 q18
  have q20 : gz_OkE M_X7_take 2 0 0 23 24 _ := ok_iconst (v := 0) dX7_take_23 kc_i0
  have q21 : gz_OkA M_X7_take 0 0 0 22 24 2 _ := ok_a1 q19 q20
  have q22 : gz_OkE M_X7_take 4 0 0 24 26 _ := ok_aload (i := 4) dX7_take_24
  have q23 : gz_OkE M_X7_take 4 0 0 24 29 _ := ok_get q22 cl_2 (k := 0) (by decide) in_2 wd_109 dX7_take_26
  have q24 : gz_OkE M_X7_take 5 0 0 29 30 _ := ok_iconst (v := 1) dX7_take_29 kc_i1
  have q25 : gz_OkE M_X7_take 4 0 0 24 31 _ := ok_isub q23 q24 dX7_take_30
  have q26 : gz_OkA M_X7_take 0 0 0 22 31 3 _ := ok_a1 q21 q25
  have q27 : gz_OkE M_X7_take 0 0 0 22 34 _ := ok_cs q26 mt_X7_outside wd_601 wd_183 de_X7_outside (by decide) (by decide) wd_602 wd_603 dX7_take_31 (by decide)
  have q28 : gz_OkJ M_X7_take 0 0 0 22 39 37 _ := ok_if_eq q27 dX7_take_34 (by decide)
  have q29 : gz_OkJ M_X7_take 0 0 0 17 39 37 _ := ok_ja q16 q28
  have q30 : gz_OkJ M_X7_take 0 0 0 13 39 37 _ := ok_ja q14 q29
  have q31 : gz_OkE M_X7_take 0 0 0 39 41 _ := ok_aload (i := 4) dX7_take_39
  have q32 : gz_OkE M_X7_take 0 0 0 39 44 _ := ok_get q31 cl_2 (k := 2) (by decide) in_2 wd_110 dX7_take_41
  have q33 : gz_OkE M_X7_take 1 0 0 44 45 _ := ok_iconst (v := 2) dX7_take_44 kc_i2
  have q34 : gz_OkJ M_X7_take 0 0 0 39 50 48 _ := ok_ic_ge q32 q33 dX7_take_45 (by decide)
  have q35 : gz_OkA M_X7_take 0 0 0 50 50 0 _ := ok_a0
  have q36 : gz_OkE M_X7_take 0 0 0 50 52 _ := ok_aload (i := 4) dX7_take_50
  have q37 : gz_OkA M_X7_take 0 0 0 50 52 1 _ := ok_a1 q35 q36
  have q38 : gz_OkE M_X7_take 0 0 0 50 55 _ := ok_cv q37 mt_X2_hasStageWithoutGreen cl_2 wd_679 wd_406 de_X2_hasStageWithoutGreen (by decide) (by decide) wd_680 wd_681 wd_682 dX7_take_52 (by decide)
  have q39 : gz_OkJ M_X7_take 0 0 0 50 60 58 _ := ok_if_eq q38 dX7_take_55 (by decide)
  have q40 : gz_OkA M_X7_take 0 0 0 60 60 0 _ := ok_a0
  have q41 : gz_OkE M_X7_take 0 0 0 60 62 _ := ok_aload (i := 4) dX7_take_60
  have q42 : gz_OkA M_X7_take 0 0 0 60 62 1 _ := ok_a1 q40 q41
  have q43 : gz_OkE M_X7_take 0 0 0 60 65 _ := ok_cv q42 mt_X2_allGreens cl_2 wd_683 wd_406 de_X2_allGreens (by decide) (by decide) wd_684 wd_685 wd_686 dX7_take_62 (by decide)
  have q44 : gz_OkA M_X7_take 1 0 0 65 65 0 _ := ok_a0
  have q45 : gz_OkE M_X7_take 1 0 0 65 67 _ := ok_aload (i := 4) dX7_take_65
  have q46 : gz_OkA M_X7_take 1 0 0 65 67 1 _ := ok_a1 q44 q45
  have q47 : gz_OkE M_X7_take 1 0 0 65 70 _ := ok_cv q46 mt_X2_allBetweens cl_2 wd_436 wd_406 de_X2_allBetweens (by decide) (by decide) wd_687 wd_438 wd_439 dX7_take_67 (by decide)
  have q48 : gz_OkE M_X7_take 0 0 0 60 71 _ := ok_iadd q43 q47 dX7_take_70
  have q49 : gz_OkE M_X7_take 1 0 0 71 73 _ := ok_aload (i := 4) dX7_take_71
  have q50 : gz_OkE M_X7_take 1 0 0 71 76 _ := ok_get q49 cl_2 (k := 0) (by decide) in_2 wd_109 dX7_take_73
  have q51 : gz_OkJ M_X7_take 0 0 0 60 81 79 _ := ok_ic_eq q48 q50 dX7_take_76 (by decide)
  have q52 : gz_OkA M_X7_take 0 0 0 81 81 0 _ := ok_a0
  have q53 : gz_OkE M_X7_take 0 0 0 81 83 _ := ok_aload (i := 4) dX7_take_81
  have q54 : gz_OkA M_X7_take 0 0 0 81 83 1 _ := ok_a1 q52 q53
  have q55 : gz_OkA M_X7_take 0 0 0 86 86 0 _ := ok_a0
  have q56 : gz_OkE M_X7_take 0 0 0 86 87 _ := ok_aload_n (i := 0) dX7_take_86 rfl
  have q57 : gz_OkA M_X7_take 0 0 0 86 87 1 _ := ok_a1 q55 q56
  have q58 : gz_OkE M_X7_take 2 0 0 87 88 _ := ok_aload_n (i := 3) dX7_take_87 rfl
  have q59 : gz_OkA M_X7_take 0 0 0 86 88 2 _ := ok_a1 q57 q58
  have q60 : gz_OkE M_X7_take 4 0 0 88 90 _ := ok_aload (i := 4) dX7_take_88
  have q61 : gz_OkA M_X7_take 0 0 0 86 90 3 _ := ok_a1 q59 q60
  have q62 : gz_OkE M_X7_take 0 0 0 86 93 _ := ok_cv q61 mt_X7_tellsShortGreen cl_7 wd_688 wd_183 de_X7_tellsShortGreen (by decide) (by decide) wd_689 wd_690 wd_691 dX7_take_90 (by decide)
  have q63 : gz_OkJ M_X7_take 0 0 0 86 98 96 _ := ok_if_eq q62 dX7_take_93 (by decide)
  have q64 : gz_OkA M_X7_take 0 0 0 98 98 0 _ := ok_a0
  have q65 : gz_OkE M_X7_take 0 0 0 98 99 _ := ok_aload_n (i := 0) dX7_take_98 rfl
  have q66 : gz_OkA M_X7_take 0 0 0 98 99 1 _ := ok_a1 q64 q65
  have q67 : gz_OkE M_X7_take 2 0 0 99 100 _ := ok_aload_n (i := 3) dX7_take_99 rfl
  have q68 : gz_OkA M_X7_take 0 0 0 98 100 2 _ := ok_a1 q66 q67
  have q69 : gz_OkE M_X7_take 4 0 0 100 102 _ := ok_aload (i := 4) dX7_take_100
  have q70 : gz_OkA M_X7_take 0 0 0 98 102 3 _ := ok_a1 q68 q69
  have q71 : gz_OkE M_X7_take 0 0 0 98 105 _ := ok_cv q70 mt_X7_tellsClash cl_7 wd_692 wd_183 de_X7_tellsClash (by decide) (by decide) wd_693 wd_694 wd_695 dX7_take_102 (by decide)
  have q72 : gz_OkJ M_X7_take 0 0 0 98 111 108 _ := ok_if_eq q71 dX7_take_105 (by decide)
  have q73 : gz_OkA M_X7_take 0 0 0 111 111 0 _ := ok_a0
  have q74 : gz_OkE M_X7_take 0 0 0 111 112 _ := ok_aload_n (i := 3) dX7_take_111 rfl
  have q75 : gz_OkA M_X7_take 0 0 0 111 112 1 _ := ok_a1 q73 q74
  have q76 : gz_OkE M_X7_take 2 0 0 112 113 _ := ok_iload_n (i := 2) dX7_take_112 rfl
  have q77 : gz_OkA M_X7_take 0 0 0 111 113 2 _ := ok_a1 q75 q76
  have q78 : gz_OkE M_X7_take 4 0 0 113 114 _ := ok_aload_n (i := 0) dX7_take_113 rfl
  have q79 : gz_OkE M_X7_take 4 0 0 113 117 _ := ok_get q78 cl_7 (k := 5) (by decide) in_7 wd_104 dX7_take_114
  have q80 : gz_OkA M_X7_take 0 0 0 111 117 3 _ := ok_a1 q77 q79
  have q81 : gz_OkE M_X7_take 0 0 0 120 121 _ := ok_iconst (v := 0) dX7_take_120 kc_i0
  have q82 : gz_OkS M_X7_take 0 0 120 _ := ok_ri q81 dX7_take_121
  have q83 : gz_OkS M_X7_take 0 0 111 _ := ok_vv q80 mt_X1_adopt cl_1 wd_696 wd_458 de_X1_adopt (by decide) (by decide) wd_697 wd_698 wd_699 dX7_take_117 q82
  have q84 : gz_OkE M_X7_take 0 0 0 108 110 _ := ok_bipush (v := 6) dX7_take_108 kc_b6
  have q85 : gz_OkS M_X7_take 0 0 108 _ := ok_ri q84 dX7_take_110
  have q86 : gz_OkS M_X7_take 0 0 98 _ := ok_if q72 q83 q85
  have q87 : gz_OkE M_X7_take 0 0 0 96 97 _ := ok_iconst (v := 5) dX7_take_96 kc_i5
  have q88 : gz_OkS M_X7_take 0 0 96 _ := ok_ri q87 dX7_take_97
  have q89 : gz_OkS M_X7_take 0 0 86 _ := ok_if q63 q86 q88
  have q90 : gz_OkS M_X7_take 0 0 81 _ := ok_vv q54 mt_X2_layLamps cl_2 wd_700 wd_406 de_X2_layLamps (by decide) (by decide) wd_701 wd_702 wd_703 dX7_take_83 q89
  have q91 : gz_OkE M_X7_take 0 0 0 79 80 _ := ok_iconst (v := 4) dX7_take_79 kc_i4
  have q92 : gz_OkS M_X7_take 0 0 79 _ := ok_ri q91 dX7_take_80
  have q93 : gz_OkS M_X7_take 0 0 60 _ := ok_if q51 q90 q92
  have q94 : gz_OkE M_X7_take 0 0 0 58 59 _ := ok_iconst (v := 3) dX7_take_58 kc_i3
  have q95 : gz_OkS M_X7_take 0 0 58 _ := ok_ri q94 dX7_take_59
  have q96 : gz_OkS M_X7_take 0 0 50 _ := ok_if q39 q93 q95
  have q97 : gz_OkE M_X7_take 0 0 0 48 49 _ := ok_iconst (v := 2) dX7_take_48 kc_i2
  have q98 : gz_OkS M_X7_take 0 0 48 _ := ok_ri q97 dX7_take_49
  have q99 : gz_OkS M_X7_take 0 0 39 _ := ok_if q34 q96 q98
  have q100 : gz_OkE M_X7_take 0 0 0 37 38 _ := ok_iconst (v := 1) dX7_take_37 kc_i1
  have q101 : gz_OkS M_X7_take 0 0 37 _ := ok_ri q100 dX7_take_38
  have q102 : gz_OkS M_X7_take 0 0 13 _ := ok_if q30 q99 q101
  have q103 : gz_OkS M_X7_take 0 0 6 _ := ok_seta (k := 4) q12 dX7_take_11 (by decide) q102
  have q104 : gz_OkS M_X7_take 0 0 0 _ := ok_seta_n (k := 3) q6 dX7_take_5 rfl (by decide) q103
  have z : gz_OkS M_X7_take 0 0 0 sm_X7_take := q104
  exact gz_met (plainFor_of_name (by decide)) z (by decide) (by decide)
noncomputable def sm_X7_why : gz_Sx := gz_sw (gz_li 1) 0 [gz_ri (gz_get 7 9 6 (gz_la 0)), gz_ri (gz_get 7 9 7 (gz_la 0)), gz_ri (gz_get 7 9 8 (gz_la 0))] (gz_ri (gz_i (-1)))
noncomputable def se_X7_why : gz_Me := gz_sem (some .int) 2 sm_X7_why
abbrev rm_X7_why : Room := { frames := 0, cells := 0, slots := 0, locals := 0 }
abbrev M_X7_why : gz_Mi := (cX7_why, 2, RX7, 0, 0, "why", none)
theorem de_X7_why : yX7_why.cls ≠ "java/lang/invoke/MethodHandle" ∧ yX7_why.cls ≠ "java/lang/invoke/VarHandle" ∧ (parseMethodDescriptor yX7_why.desc).map (fun d => d.parameters.length) = some 1 := by decide +kernel
set_option maxRecDepth 100000 in
theorem mt_X7_why : gz_Mt yX7_why cX7_why 2 (some .int) rm_X7_why se_X7_why := by
  have q1 : gz_OkE M_X7_why 0 0 0 0 1 _ := ok_iload_n (i := 1) dX7_why_0 rfl
  have q2 : gz_OkE M_X7_why 0 0 0 43 44 _ := ok_iconst (v := -1) dX7_why_43 kc_im1
  have q3 : gz_OkS M_X7_why 0 0 43 _ := ok_ri q2 dX7_why_44
  have q4 : gz_OkE M_X7_why 0 0 0 28 29 _ := ok_aload_n (i := 0) dX7_why_28 rfl
  have q5 : gz_OkE M_X7_why 0 0 0 28 32 _ := ok_get q4 cl_7 (k := 6) (by decide) in_7 wd_100 dX7_why_29
  have q6 : gz_OkS M_X7_why 0 0 28 _ := ok_ri q5 dX7_why_32
  have q7 : gz_OkE M_X7_why 0 0 0 33 34 _ := ok_aload_n (i := 0) dX7_why_33 rfl
  have q8 : gz_OkE M_X7_why 0 0 0 33 37 _ := ok_get q7 cl_7 (k := 7) (by decide) in_7 wd_101 dX7_why_34
  have q9 : gz_OkS M_X7_why 0 0 33 _ := ok_ri q8 dX7_why_37
  have q10 : gz_OkE M_X7_why 0 0 0 38 39 _ := ok_aload_n (i := 0) dX7_why_38 rfl
  have q11 : gz_OkE M_X7_why 0 0 0 38 42 _ := ok_get q10 cl_7 (k := 8) (by decide) in_7 wd_102 dX7_why_39
  have q12 : gz_OkS M_X7_why 0 0 38 _ := ok_ri q11 dX7_why_42
  have q13 : ∀ q ∈ (List.zip [28, 33, 38] [_, _, _] : List (Nat × gz_Sx)), gz_OkS M_X7_why 0 0 q.1 q.2 := List.forall_mem_cons.mpr ⟨q6, List.forall_mem_cons.mpr ⟨q9, List.forall_mem_cons.mpr ⟨q12, fun _ h => absurd h List.not_mem_nil⟩⟩⟩
  have q14 : gz_OkS M_X7_why 0 0 0 _ := ok_sw (ts := [28, 33, 38]) q1 dX7_why_1 (by first | decide | rfl | simp) (by decide) (by decide) rfl q3 q13
  have z : gz_OkS M_X7_why 0 0 0 sm_X7_why := q14
  exact gz_met (plainFor_of_name (by decide)) z (by decide) (by decide)
noncomputable def sm_X7_takenAt : gz_Sx := gz_seta 2 (gz_cv 7 9 se_X7_junctionAt (gz_a1 (gz_a1 (gz_a0) (gz_la 0)) (gz_li 1))) (gz_ra (gz_te (gz_jk (gz_la 2)) (gz_get 1 11 7 (gz_la 2)) (gz_nu)))
noncomputable def se_X7_takenAt : gz_Me := gz_sem (some (.object "GreenDesk$Plan")) 3 sm_X7_takenAt
abbrev rm_X7_takenAt : Room := { frames := 2, cells := 0, slots := 0, locals := 43 }
abbrev M_X7_takenAt : gz_Mi := (cX7_takenAt, 3, RX7, 2, 43, "takenAt", none)
theorem de_X7_takenAt : yX7_takenAt.cls ≠ "java/lang/invoke/MethodHandle" ∧ yX7_takenAt.cls ≠ "java/lang/invoke/VarHandle" ∧ (parseMethodDescriptor yX7_takenAt.desc).map (fun d => d.parameters.length) = some 1 := by decide +kernel
set_option maxRecDepth 100000 in
theorem mt_X7_takenAt : gz_Mt yX7_takenAt cX7_takenAt 3 (some (.object "GreenDesk$Plan")) rm_X7_takenAt se_X7_takenAt := by
  have q1 : gz_OkA M_X7_takenAt 0 0 0 0 0 0 _ := ok_a0
  have q2 : gz_OkE M_X7_takenAt 0 0 0 0 1 _ := ok_aload_n (i := 0) dX7_takenAt_0 rfl
  have q3 : gz_OkA M_X7_takenAt 0 0 0 0 1 1 _ := ok_a1 q1 q2
  have q4 : gz_OkE M_X7_takenAt 2 0 0 1 2 _ := ok_iload_n (i := 1) dX7_takenAt_1 rfl
  have q5 : gz_OkA M_X7_takenAt 0 0 0 0 2 2 _ := ok_a1 q3 q4
  have q6 : gz_OkE M_X7_takenAt 0 0 0 0 5 _ := ok_cv q5 mt_X7_junctionAt cl_7 wd_604 wd_183 de_X7_junctionAt (by decide) (by decide) wd_605 wd_606 wd_607 dX7_takenAt_2 (by decide)
  have q7 : gz_OkE M_X7_takenAt 0 0 0 6 7 _ := ok_aload_n (i := 2) dX7_takenAt_6 rfl
  have q8 : gz_OkJ M_X7_takenAt 0 0 0 6 14 10 _ := ok_jk q7 dX7_takenAt_7 (by decide)
  have q9 : gz_OkE M_X7_takenAt 0 0 0 10 11 _ := ok_null dX7_takenAt_10
  have q10 : gz_OkE M_X7_takenAt 0 0 0 10 18 _ := ok_eg q9 dX7_takenAt_11 (by decide)
  have q11 : gz_OkE M_X7_takenAt 0 0 0 14 15 _ := ok_aload_n (i := 2) dX7_takenAt_14 rfl
  have q12 : gz_OkE M_X7_takenAt 0 0 0 14 18 _ := ok_get q11 cl_1 (k := 7) (by decide) in_1 wd_116 dX7_takenAt_15
  have q13 : gz_OkE M_X7_takenAt 0 0 0 6 18 _ := ok_te2 q8 q10 q12
  have q14 : gz_OkS M_X7_takenAt 0 0 6 _ := ok_ra q13 dX7_takenAt_18
  have q15 : gz_OkS M_X7_takenAt 0 0 0 _ := ok_seta_n (k := 2) q6 dX7_takenAt_5 rfl (by decide) q14
  have z : gz_OkS M_X7_takenAt 0 0 0 sm_X7_takenAt := q15
  exact gz_met (plainFor_of_name (by decide)) z (by decide) (by decide)
noncomputable def sm_X7_told : gz_Sx := gz_seta 3 (gz_cv 7 9 se_X7_takenAt (gz_a1 (gz_a1 (gz_a0) (gz_la 0)) (gz_li 1))) (gz_if (gz_jk (gz_la 3)) (gz_sw (gz_li 2) 0 [gz_ri (gz_get 2 9 0 (gz_la 3)), gz_ri (gz_get 2 9 1 (gz_la 3)), gz_ri (gz_get 2 9 2 (gz_la 3)), gz_ri (gz_cv 2 9 se_X2_allBetweens (gz_a1 (gz_a0) (gz_la 3)))] (gz_ri (gz_cv 2 9 se_X2_toldOfStage (gz_a1 (gz_a1 (gz_a1 (gz_a0) (gz_la 3)) (gz_iz (fun x y => x / y) (gz_li 2) (gz_i (10)))) (gz_iz (fun x y => x - x / y * y) (gz_li 2) (gz_i (10))))))) (gz_ri (gz_i (-1))))
noncomputable def se_X7_told : gz_Me := gz_sem (some .int) 4 sm_X7_told
abbrev rm_X7_told : Room := { frames := 3, cells := 0, slots := 0, locals := 65 }
abbrev M_X7_told : gz_Mi := (cX7_told, 4, RX7, 3, 65, "told", none)
theorem de_X7_told : yX7_told.cls ≠ "java/lang/invoke/MethodHandle" ∧ yX7_told.cls ≠ "java/lang/invoke/VarHandle" ∧ (parseMethodDescriptor yX7_told.desc).map (fun d => d.parameters.length) = some 2 := by decide +kernel
set_option maxRecDepth 100000 in
theorem mt_X7_told : gz_Mt yX7_told cX7_told 4 (some .int) rm_X7_told se_X7_told := by
  have q1 : gz_OkA M_X7_told 0 0 0 0 0 0 _ := ok_a0
  have q2 : gz_OkE M_X7_told 0 0 0 0 1 _ := ok_aload_n (i := 0) dX7_told_0 rfl
  have q3 : gz_OkA M_X7_told 0 0 0 0 1 1 _ := ok_a1 q1 q2
  have q4 : gz_OkE M_X7_told 2 0 0 1 2 _ := ok_iload_n (i := 1) dX7_told_1 rfl
  have q5 : gz_OkA M_X7_told 0 0 0 0 2 2 _ := ok_a1 q3 q4
  have q6 : gz_OkE M_X7_told 0 0 0 0 5 _ := ok_cv q5 mt_X7_takenAt cl_7 wd_704 wd_183 de_X7_takenAt (by decide) (by decide) wd_705 wd_706 wd_707 dX7_told_2 (by decide)
  have q7 : gz_OkE M_X7_told 0 0 0 6 7 _ := ok_aload_n (i := 3) dX7_told_6 rfl
  have q8 : gz_OkJ M_X7_told 0 0 0 6 12 10 _ := ok_jk q7 dX7_told_7 (by decide)
  have q9 : gz_OkE M_X7_told 0 0 0 12 13 _ := ok_iload_n (i := 2) dX7_told_12 rfl
  have q10 : gz_OkA M_X7_told 0 0 0 64 64 0 _ := ok_a0
  have q11 : gz_OkE M_X7_told 0 0 0 64 65 _ := ok_aload_n (i := 3) dX7_told_64 rfl
  have q12 : gz_OkA M_X7_told 0 0 0 64 65 1 _ := ok_a1 q10 q11
  have q13 : gz_OkE M_X7_told 2 0 0 65 66 _ := ok_iload_n (i := 2) dX7_told_65 rfl
  have q14 : gz_OkE M_X7_told 3 0 0 66 68 _ := ok_bipush (v := 10) dX7_told_66 kc_b10
  have q15 : gz_OkE M_X7_told 2 0 0 65 69 _ := ok_idiv q13 q14 dX7_told_68
  have q16 : gz_OkA M_X7_told 0 0 0 64 69 2 _ := ok_a1 q12 q15
  have q17 : gz_OkE M_X7_told 4 0 0 69 70 _ := ok_iload_n (i := 2) dX7_told_69 rfl
  have q18 : gz_OkE M_X7_told 5 0 0 70 72 _ := ok_bipush (v := 10) dX7_told_70 kc_b10
  have q19 : gz_OkE M_X7_told 4 0 0 69 73 _ := ok_irem q17 q18 dX7_told_72
  have q20 : gz_OkA M_X7_told 0 0 0 64 73 3 _ := ok_a1 q16 q19
  have q21 : gz_OkE M_X7_told 0 0 0 64 76 _ := ok_cv q20 mt_X2_toldOfStage cl_2 wd_708 wd_406 de_X2_toldOfStage (by decide) (by decide) wd_709 wd_710 wd_711 dX7_told_73 (by decide)
  have q22 : gz_OkS M_X7_told 0 0 64 _ := ok_ri q21 dX7_told_76
  have q23 : gz_OkE M_X7_told 0 0 0 44 45 _ := ok_aload_n (i := 3) dX7_told_44 rfl
  have q24 : gz_OkE M_X7_told 0 0 0 44 48 _ := ok_get q23 cl_2 (k := 0) (by decide) in_2 wd_109 dX7_told_45
  have q25 : gz_OkS M_X7_told 0 0 44 _ := ok_ri q24 dX7_told_48
  have q26 : gz_OkE M_X7_told 0 0 0 49 50 _ := ok_aload_n (i := 3) dX7_told_49 rfl
  have q27 : gz_OkE M_X7_told 0 0 0 49 53 _ := ok_get q26 cl_2 (k := 1) (by decide) in_2 wd_111 dX7_told_50
  have q28 : gz_OkS M_X7_told 0 0 49 _ := ok_ri q27 dX7_told_53
  have q29 : gz_OkE M_X7_told 0 0 0 54 55 _ := ok_aload_n (i := 3) dX7_told_54 rfl
  have q30 : gz_OkE M_X7_told 0 0 0 54 58 _ := ok_get q29 cl_2 (k := 2) (by decide) in_2 wd_110 dX7_told_55
  have q31 : gz_OkS M_X7_told 0 0 54 _ := ok_ri q30 dX7_told_58
  have q32 : gz_OkA M_X7_told 0 0 0 59 59 0 _ := ok_a0
  have q33 : gz_OkE M_X7_told 0 0 0 59 60 _ := ok_aload_n (i := 3) dX7_told_59 rfl
  have q34 : gz_OkA M_X7_told 0 0 0 59 60 1 _ := ok_a1 q32 q33
  have q35 : gz_OkE M_X7_told 0 0 0 59 63 _ := ok_cv q34 mt_X2_allBetweens cl_2 wd_436 wd_406 de_X2_allBetweens (by decide) (by decide) wd_687 wd_438 wd_439 dX7_told_60 (by decide)
  have q36 : gz_OkS M_X7_told 0 0 59 _ := ok_ri q35 dX7_told_63
  have q37 : ∀ q ∈ (List.zip [44, 49, 54, 59] [_, _, _, _] : List (Nat × gz_Sx)), gz_OkS M_X7_told 0 0 q.1 q.2 := List.forall_mem_cons.mpr ⟨q25, List.forall_mem_cons.mpr ⟨q28, List.forall_mem_cons.mpr ⟨q31, List.forall_mem_cons.mpr ⟨q36, fun _ h => absurd h List.not_mem_nil⟩⟩⟩⟩
  have q38 : gz_OkS M_X7_told 0 0 12 _ := ok_sw (ts := [44, 49, 54, 59]) q9 dX7_told_13 (by first | decide | rfl | simp) (by decide) (by decide) rfl q22 q37
  have q39 : gz_OkE M_X7_told 0 0 0 10 11 _ := ok_iconst (v := -1) dX7_told_10 kc_im1
  have q40 : gz_OkS M_X7_told 0 0 10 _ := ok_ri q39 dX7_told_11
  have q41 : gz_OkS M_X7_told 0 0 6 _ := ok_if q8 q38 q40
  have q42 : gz_OkS M_X7_told 0 0 0 _ := ok_seta_n (k := 3) q6 dX7_told_5 rfl (by decide) q41
  have z : gz_OkS M_X7_told 0 0 0 sm_X7_told := q42
  exact gz_met (plainFor_of_name (by decide)) z (by decide) (by decide)
noncomputable def sm_X7_offset : gz_Sx := gz_seta 3 (gz_cv 7 9 se_X7_junctionAt (gz_a1 (gz_a1 (gz_a0) (gz_la 0)) (gz_li 1))) (gz_seta 4 (gz_cv 7 9 se_X7_takenAt (gz_a1 (gz_a1 (gz_a0) (gz_la 0)) (gz_li 1))) (gz_if (gz_ja (gz_jn (gz_la 3)) (gz_ja (gz_jn (gz_la 4)) (gz_ja (gz_j1 (fun x => decide (¬ x = 0)) (gz_cs se_X7_outside (gz_a1 (gz_a1 (gz_a1 (gz_a0) (gz_li 2)) (gz_i (0))) (gz_ib (fun x y => x - y) (gz_get 2 9 0 (gz_la 4)) (gz_i (1)))))) (gz_j2 (fun x y => decide (¬ x = y)) (gz_li 2) (gz_get 2 9 1 (gz_la 4)))))) (gz_put 2 9 1 .int (gz_la 4) (gz_li 2) (gz_vv 1 11 se_X1_clear (gz_a1 (gz_a1 (gz_a0) (gz_la 3)) (gz_get 7 9 5 (gz_la 0))) (gz_ri (gz_i (1))))) (gz_ri (gz_i (0)))))
noncomputable def se_X7_offset : gz_Me := gz_sem (some .boolean) 5 sm_X7_offset
abbrev rm_X7_offset : Room := { frames := 3, cells := 0, slots := 0, locals := 65 }
abbrev M_X7_offset : gz_Mi := (cX7_offset, 5, RX7, 3, 65, "offset", none)
theorem de_X7_offset : yX7_offset.cls ≠ "java/lang/invoke/MethodHandle" ∧ yX7_offset.cls ≠ "java/lang/invoke/VarHandle" ∧ (parseMethodDescriptor yX7_offset.desc).map (fun d => d.parameters.length) = some 2 := by decide +kernel
set_option maxRecDepth 100000 in
theorem mt_X7_offset : gz_Mt yX7_offset cX7_offset 5 (some .boolean) rm_X7_offset se_X7_offset := by
  have q1 : gz_OkA M_X7_offset 0 0 0 0 0 0 _ := ok_a0
  have q2 : gz_OkE M_X7_offset 0 0 0 0 1 _ := ok_aload_n (i := 0) dX7_offset_0 rfl
  have q3 : gz_OkA M_X7_offset 0 0 0 0 1 1 _ := ok_a1 q1 q2
  have q4 : gz_OkE M_X7_offset 2 0 0 1 2 _ := ok_iload_n (i := 1) dX7_offset_1 rfl
  have q5 : gz_OkA M_X7_offset 0 0 0 0 2 2 _ := ok_a1 q3 q4
  have q6 : gz_OkE M_X7_offset 0 0 0 0 5 _ := ok_cv q5 mt_X7_junctionAt cl_7 wd_604 wd_183 de_X7_junctionAt (by decide) (by decide) wd_605 wd_606 wd_607 dX7_offset_2 (by decide)
  have q7 : gz_OkA M_X7_offset 0 0 0 6 6 0 _ := ok_a0
  have q8 : gz_OkE M_X7_offset 0 0 0 6 7 _ := ok_aload_n (i := 0) dX7_offset_6 rfl
  have q9 : gz_OkA M_X7_offset 0 0 0 6 7 1 _ := ok_a1 q7 q8
  have q10 : gz_OkE M_X7_offset 2 0 0 7 8 _ := ok_iload_n (i := 1) dX7_offset_7 rfl
  have q11 : gz_OkA M_X7_offset 0 0 0 6 8 2 _ := ok_a1 q9 q10
  have q12 : gz_OkE M_X7_offset 0 0 0 6 11 _ := ok_cv q11 mt_X7_takenAt cl_7 wd_704 wd_183 de_X7_takenAt (by decide) (by decide) wd_705 wd_706 wd_707 dX7_offset_8 (by decide)
  have q13 : gz_OkE M_X7_offset 0 0 0 13 14 _ := ok_aload_n (i := 3) dX7_offset_13 rfl
  have q14 : gz_OkJ M_X7_offset 0 0 0 13 46 17 _ := ok_jn q13 dX7_offset_14 (by decide)
  have q15 : gz_OkE M_X7_offset 0 0 0 17 19 _ := ok_aload (i := 4) dX7_offset_17
  have q16 : gz_OkJ M_X7_offset 0 0 0 17 46 22 _ := ok_jn q15 dX7_offset_19 (by decide)
  have q17 : gz_OkA M_X7_offset 0 0 0 22 22 0 _ := ok_a0
  have q18 : gz_OkE M_X7_offset 0 0 0 22 23 _ := ok_iload_n (i := 2) dX7_offset_22 rfl
  have q19 : gz_OkA M_X7_offset 0 0 0 22 23 1 _ := ok_a1 q17 q18
  have q20 : gz_OkE M_X7_offset 2 0 0 23 24 _ := ok_iconst (v := 0) dX7_offset_23 kc_i0
  have q21 : gz_OkA M_X7_offset 0 0 0 22 24 2 _ := ok_a1 q19 q20
  have q22 : gz_OkE M_X7_offset 4 0 0 24 26 _ := ok_aload (i := 4) dX7_offset_24
  have q23 : gz_OkE M_X7_offset 4 0 0 24 29 _ := ok_get q22 cl_2 (k := 0) (by decide) in_2 wd_109 dX7_offset_26
  have q24 : gz_OkE M_X7_offset 5 0 0 29 30 _ := ok_iconst (v := 1) dX7_offset_29 kc_i1
  have q25 : gz_OkE M_X7_offset 4 0 0 24 31 _ := ok_isub q23 q24 dX7_offset_30
  have q26 : gz_OkA M_X7_offset 0 0 0 22 31 3 _ := ok_a1 q21 q25
  have q27 : gz_OkE M_X7_offset 0 0 0 22 34 _ := ok_cs q26 mt_X7_outside wd_601 wd_183 de_X7_outside (by decide) (by decide) wd_602 wd_603 dX7_offset_31 (by decide)
  have q28 : gz_OkJ M_X7_offset 0 0 0 22 46 37 _ := ok_if_ne q27 dX7_offset_34 (by decide)
  have q29 : gz_OkE M_X7_offset 0 0 0 37 38 _ := ok_iload_n (i := 2) dX7_offset_37 rfl
  have q30 : gz_OkE M_X7_offset 1 0 0 38 40 _ := ok_aload (i := 4) dX7_offset_38
  have q31 : gz_OkE M_X7_offset 1 0 0 38 43 _ := ok_get q30 cl_2 (k := 1) (by decide) in_2 wd_111 dX7_offset_40
  have q32 : gz_OkJ M_X7_offset 0 0 0 37 48 46 _ := ok_ic_ne q29 q31 dX7_offset_43 (by decide)
  have q33 : gz_OkJ M_X7_offset 0 0 0 22 48 46 _ := ok_ja q28 q32
  have q34 : gz_OkJ M_X7_offset 0 0 0 17 48 46 _ := ok_ja q16 q33
  have q35 : gz_OkJ M_X7_offset 0 0 0 13 48 46 _ := ok_ja q14 q34
  have q36 : gz_OkE M_X7_offset 0 0 0 48 50 _ := ok_aload (i := 4) dX7_offset_48
  have q37 : gz_OkE M_X7_offset 1 0 0 50 51 _ := ok_iload_n (i := 2) dX7_offset_50 rfl
  have q38 : gz_OkA M_X7_offset 0 0 0 54 54 0 _ := ok_a0
  have q39 : gz_OkE M_X7_offset 0 0 0 54 55 _ := ok_aload_n (i := 3) dX7_offset_54 rfl
  have q40 : gz_OkA M_X7_offset 0 0 0 54 55 1 _ := ok_a1 q38 q39
  have q41 : gz_OkE M_X7_offset 2 0 0 55 56 _ := ok_aload_n (i := 0) dX7_offset_55 rfl
  have q42 : gz_OkE M_X7_offset 2 0 0 55 59 _ := ok_get q41 cl_7 (k := 5) (by decide) in_7 wd_104 dX7_offset_56
  have q43 : gz_OkA M_X7_offset 0 0 0 54 59 2 _ := ok_a1 q40 q42
  have q44 : gz_OkE M_X7_offset 0 0 0 62 63 _ := ok_iconst (v := 1) dX7_offset_62 kc_i1
  have q45 : gz_OkS M_X7_offset 0 0 62 _ := ok_ri q44 dX7_offset_63
  have q46 : gz_OkS M_X7_offset 0 0 54 _ := ok_vv q43 mt_X1_clear cl_1 wd_479 wd_458 de_X1_clear (by decide) (by decide) wd_712 wd_481 wd_482 dX7_offset_59 q45
  have q47 : gz_OkS M_X7_offset 0 0 48 _ := ok_put (ty := .int) q36 q37 cl_2 (k := 1) (by decide) in_2 wd_111 tyX2 tyX2_ok nmX2 rfl rfl dX7_offset_51 q46
  have q48 : gz_OkE M_X7_offset 0 0 0 46 47 _ := ok_iconst (v := 0) dX7_offset_46 kc_i0
  have q49 : gz_OkS M_X7_offset 0 0 46 _ := ok_ri q48 dX7_offset_47
  have q50 : gz_OkS M_X7_offset 0 0 13 _ := ok_if q35 q47 q49
  have q51 : gz_OkS M_X7_offset 0 0 6 _ := ok_seta (k := 4) q12 dX7_offset_11 (by decide) q50
  have q52 : gz_OkS M_X7_offset 0 0 0 _ := ok_seta_n (k := 3) q6 dX7_offset_5 rfl (by decide) q51
  have z : gz_OkS M_X7_offset 0 0 0 sm_X7_offset := q52
  exact gz_met (plainFor_of_name (by decide)) z (by decide) (by decide)
noncomputable def sm_X7_tear : gz_Sx := gz_seta 3 (gz_cv 7 9 se_X7_takenAt (gz_a1 (gz_a1 (gz_a0) (gz_la 0)) (gz_li 1))) (gz_if (gz_ja (gz_jn (gz_la 3)) (gz_j1 (fun x => decide (x = 0)) (gz_cs se_X7_outside (gz_a1 (gz_a1 (gz_a1 (gz_a0) (gz_li 2)) (gz_i (0))) (gz_get 2 9 2 (gz_la 3)))))) (gz_put 2 9 3 .int (gz_la 3) (gz_cs se_J9_min_7cf53 (gz_a1 (gz_a1 (gz_a0) (gz_get 2 9 3 (gz_la 3))) (gz_li 2))) (gz_ri (gz_i (1)))) (gz_ri (gz_i (0))))
noncomputable def se_X7_tear : gz_Me := gz_sem (some .boolean) 4 sm_X7_tear
abbrev rm_X7_tear : Room := { frames := 3, cells := 0, slots := 0, locals := 65 }
abbrev M_X7_tear : gz_Mi := (cX7_tear, 4, RX7, 3, 65, "tear", none)
theorem de_X7_tear : yX7_tear.cls ≠ "java/lang/invoke/MethodHandle" ∧ yX7_tear.cls ≠ "java/lang/invoke/VarHandle" ∧ (parseMethodDescriptor yX7_tear.desc).map (fun d => d.parameters.length) = some 2 := by decide +kernel
set_option maxRecDepth 100000 in
theorem mt_X7_tear : gz_Mt yX7_tear cX7_tear 4 (some .boolean) rm_X7_tear se_X7_tear := by
  have q1 : gz_OkA M_X7_tear 0 0 0 0 0 0 _ := ok_a0
  have q2 : gz_OkE M_X7_tear 0 0 0 0 1 _ := ok_aload_n (i := 0) dX7_tear_0 rfl
  have q3 : gz_OkA M_X7_tear 0 0 0 0 1 1 _ := ok_a1 q1 q2
  have q4 : gz_OkE M_X7_tear 2 0 0 1 2 _ := ok_iload_n (i := 1) dX7_tear_1 rfl
  have q5 : gz_OkA M_X7_tear 0 0 0 0 2 2 _ := ok_a1 q3 q4
  have q6 : gz_OkE M_X7_tear 0 0 0 0 5 _ := ok_cv q5 mt_X7_takenAt cl_7 wd_704 wd_183 de_X7_takenAt (by decide) (by decide) wd_705 wd_706 wd_707 dX7_tear_2 (by decide)
  have q7 : gz_OkE M_X7_tear 0 0 0 6 7 _ := ok_aload_n (i := 3) dX7_tear_6 rfl
  have q8 : gz_OkJ M_X7_tear 0 0 0 6 22 10 _ := ok_jn q7 dX7_tear_7 (by decide)
  have q9 : gz_OkA M_X7_tear 0 0 0 10 10 0 _ := ok_a0
  have q10 : gz_OkE M_X7_tear 0 0 0 10 11 _ := ok_iload_n (i := 2) dX7_tear_10 rfl
  have q11 : gz_OkA M_X7_tear 0 0 0 10 11 1 _ := ok_a1 q9 q10
  have q12 : gz_OkE M_X7_tear 2 0 0 11 12 _ := ok_iconst (v := 0) dX7_tear_11 kc_i0
  have q13 : gz_OkA M_X7_tear 0 0 0 10 12 2 _ := ok_a1 q11 q12
  have q14 : gz_OkE M_X7_tear 4 0 0 12 13 _ := ok_aload_n (i := 3) dX7_tear_12 rfl
  have q15 : gz_OkE M_X7_tear 4 0 0 12 16 _ := ok_get q14 cl_2 (k := 2) (by decide) in_2 wd_110 dX7_tear_13
  have q16 : gz_OkA M_X7_tear 0 0 0 10 16 3 _ := ok_a1 q13 q15
  have q17 : gz_OkE M_X7_tear 0 0 0 10 19 _ := ok_cs q16 mt_X7_outside wd_601 wd_183 de_X7_outside (by decide) (by decide) wd_602 wd_603 dX7_tear_16 (by decide)
  have q18 : gz_OkJ M_X7_tear 0 0 0 10 24 22 _ := ok_if_eq q17 dX7_tear_19 (by decide)
  have q19 : gz_OkJ M_X7_tear 0 0 0 6 24 22 _ := ok_ja q8 q18
  have q20 : gz_OkE M_X7_tear 0 0 0 24 25 _ := ok_aload_n (i := 3) dX7_tear_24 rfl
  have q21 : gz_OkA M_X7_tear 1 0 0 25 25 0 _ := ok_a0
  have q22 : gz_OkE M_X7_tear 1 0 0 25 26 _ := ok_aload_n (i := 3) dX7_tear_25 rfl
  have q23 : gz_OkE M_X7_tear 1 0 0 25 29 _ := ok_get q22 cl_2 (k := 3) (by decide) in_2 wd_112 dX7_tear_26
  have q24 : gz_OkA M_X7_tear 1 0 0 25 29 1 _ := ok_a1 q21 q23
  have q25 : gz_OkE M_X7_tear 3 0 0 29 30 _ := ok_iload_n (i := 2) dX7_tear_29 rfl
  have q26 : gz_OkA M_X7_tear 1 0 0 25 30 2 _ := ok_a1 q24 q25
  have q27 : gz_OkE M_X7_tear 1 0 0 25 33 _ := ok_cs q26 mt_J9_min_7cf53 wd_425 wd_411 de_J9_min_7cf53 (by decide) (by decide) wd_713 wd_427 dX7_tear_30 (by decide)
  have q28 : gz_OkE M_X7_tear 0 0 0 36 37 _ := ok_iconst (v := 1) dX7_tear_36 kc_i1
  have q29 : gz_OkS M_X7_tear 0 0 36 _ := ok_ri q28 dX7_tear_37
  have q30 : gz_OkS M_X7_tear 0 0 24 _ := ok_put (ty := .int) q20 q27 cl_2 (k := 3) (by decide) in_2 wd_112 tyX2 tyX2_ok nmX2 rfl rfl dX7_tear_33 q29
  have q31 : gz_OkE M_X7_tear 0 0 0 22 23 _ := ok_iconst (v := 0) dX7_tear_22 kc_i0
  have q32 : gz_OkS M_X7_tear 0 0 22 _ := ok_ri q31 dX7_tear_23
  have q33 : gz_OkS M_X7_tear 0 0 6 _ := ok_if q19 q30 q32
  have q34 : gz_OkS M_X7_tear 0 0 0 _ := ok_seta_n (k := 3) q6 dX7_tear_5 rfl (by decide) q33
  have z : gz_OkS M_X7_tear 0 0 0 sm_X7_tear := q34
  exact gz_met (plainFor_of_name (by decide)) z (by decide) (by decide)
noncomputable def sm_X7_share : gz_Sx := gz_seta 2 (gz_cv 7 9 se_X7_junctionAt (gz_a1 (gz_a1 (gz_a0) (gz_la 0)) (gz_li 1))) (gz_seta 3 (gz_cv 7 9 se_X7_begunAt (gz_a1 (gz_a1 (gz_a0) (gz_la 0)) (gz_li 1))) (gz_if (gz_ja (gz_jn (gz_la 2)) (gz_ja (gz_jn (gz_la 3)) (gz_j2 (fun x y => decide (y ≤ x)) (gz_get 2 9 2 (gz_la 3)) (gz_i (2))))) (gz_ri (gz_cv 0 6 se_X0_leastCycle (gz_a1 (gz_a1 (gz_a1 (gz_a0) (gz_get 7 9 2 (gz_la 0))) (gz_la 2)) (gz_la 3)))) (gz_ri (gz_i (-1)))))
noncomputable def se_X7_share : gz_Me := gz_sem (some .int) 4 sm_X7_share
abbrev rm_X7_share : Room := { frames := 5, cells := 0, slots := 0, locals := 114 }
abbrev M_X7_share : gz_Mi := (cX7_share, 4, RX7, 5, 114, "share", none)
theorem de_X7_share : yX7_share.cls ≠ "java/lang/invoke/MethodHandle" ∧ yX7_share.cls ≠ "java/lang/invoke/VarHandle" ∧ (parseMethodDescriptor yX7_share.desc).map (fun d => d.parameters.length) = some 1 := by decide +kernel
set_option maxRecDepth 100000 in
theorem mt_X7_share : gz_Mt yX7_share cX7_share 4 (some .int) rm_X7_share se_X7_share := by
  have q1 : gz_OkA M_X7_share 0 0 0 0 0 0 _ := ok_a0
  have q2 : gz_OkE M_X7_share 0 0 0 0 1 _ := ok_aload_n (i := 0) dX7_share_0 rfl
  have q3 : gz_OkA M_X7_share 0 0 0 0 1 1 _ := ok_a1 q1 q2
  have q4 : gz_OkE M_X7_share 2 0 0 1 2 _ := ok_iload_n (i := 1) dX7_share_1 rfl
  have q5 : gz_OkA M_X7_share 0 0 0 0 2 2 _ := ok_a1 q3 q4
  have q6 : gz_OkE M_X7_share 0 0 0 0 5 _ := ok_cv q5 mt_X7_junctionAt cl_7 wd_604 wd_183 de_X7_junctionAt (by decide) (by decide) wd_605 wd_606 wd_607 dX7_share_2 (by decide)
  have q7 : gz_OkA M_X7_share 0 0 0 6 6 0 _ := ok_a0
  have q8 : gz_OkE M_X7_share 0 0 0 6 7 _ := ok_aload_n (i := 0) dX7_share_6 rfl
  have q9 : gz_OkA M_X7_share 0 0 0 6 7 1 _ := ok_a1 q7 q8
  have q10 : gz_OkE M_X7_share 2 0 0 7 8 _ := ok_iload_n (i := 1) dX7_share_7 rfl
  have q11 : gz_OkA M_X7_share 0 0 0 6 8 2 _ := ok_a1 q9 q10
  have q12 : gz_OkE M_X7_share 0 0 0 6 11 _ := ok_cv q11 mt_X7_begunAt cl_7 wd_659 wd_183 de_X7_begunAt (by decide) (by decide) wd_660 wd_661 wd_662 dX7_share_8 (by decide)
  have q13 : gz_OkE M_X7_share 0 0 0 12 13 _ := ok_aload_n (i := 2) dX7_share_12 rfl
  have q14 : gz_OkJ M_X7_share 0 0 0 12 28 16 _ := ok_jn q13 dX7_share_13 (by decide)
  have q15 : gz_OkE M_X7_share 0 0 0 16 17 _ := ok_aload_n (i := 3) dX7_share_16 rfl
  have q16 : gz_OkJ M_X7_share 0 0 0 16 28 20 _ := ok_jn q15 dX7_share_17 (by decide)
  have q17 : gz_OkE M_X7_share 0 0 0 20 21 _ := ok_aload_n (i := 3) dX7_share_20 rfl
  have q18 : gz_OkE M_X7_share 0 0 0 20 24 _ := ok_get q17 cl_2 (k := 2) (by decide) in_2 wd_110 dX7_share_21
  have q19 : gz_OkE M_X7_share 1 0 0 24 25 _ := ok_iconst (v := 2) dX7_share_24 kc_i2
  have q20 : gz_OkJ M_X7_share 0 0 0 20 30 28 _ := ok_ic_ge q18 q19 dX7_share_25 (by decide)
  have q21 : gz_OkJ M_X7_share 0 0 0 16 30 28 _ := ok_ja q16 q20
  have q22 : gz_OkJ M_X7_share 0 0 0 12 30 28 _ := ok_ja q14 q21
  have q23 : gz_OkA M_X7_share 0 0 0 30 30 0 _ := ok_a0
  have q24 : gz_OkE M_X7_share 0 0 0 30 31 _ := ok_aload_n (i := 0) dX7_share_30 rfl
  have q25 : gz_OkE M_X7_share 0 0 0 30 34 _ := ok_get q24 cl_7 (k := 2) (by decide) in_7 wd_98 dX7_share_31
  have q26 : gz_OkA M_X7_share 0 0 0 30 34 1 _ := ok_a1 q23 q25
  have q27 : gz_OkE M_X7_share 2 0 0 34 35 _ := ok_aload_n (i := 2) dX7_share_34 rfl
  have q28 : gz_OkA M_X7_share 0 0 0 30 35 2 _ := ok_a1 q26 q27
  have q29 : gz_OkE M_X7_share 4 0 0 35 36 _ := ok_aload_n (i := 3) dX7_share_35 rfl
  have q30 : gz_OkA M_X7_share 0 0 0 30 36 3 _ := ok_a1 q28 q29
  have q31 : gz_OkE M_X7_share 0 0 0 30 39 _ := ok_cv q30 mt_X0_leastCycle cl_0 wd_714 wd_415 de_X0_leastCycle (by decide) (by decide) wd_715 wd_716 wd_717 dX7_share_36 (by decide)
  have q32 : gz_OkS M_X7_share 0 0 30 _ := ok_ri q31 dX7_share_39
  have q33 : gz_OkE M_X7_share 0 0 0 28 29 _ := ok_iconst (v := -1) dX7_share_28 kc_im1
  have q34 : gz_OkS M_X7_share 0 0 28 _ := ok_ri q33 dX7_share_29
  have q35 : gz_OkS M_X7_share 0 0 12 _ := ok_if q22 q32 q34
  have q36 : gz_OkS M_X7_share 0 0 6 _ := ok_seta_n (k := 3) q12 dX7_share_11 rfl (by decide) q35
  have q37 : gz_OkS M_X7_share 0 0 0 _ := ok_seta_n (k := 2) q6 dX7_share_5 rfl (by decide) q36
  have z : gz_OkS M_X7_share 0 0 0 sm_X7_share := q37
  exact gz_met (plainFor_of_name (by decide)) z (by decide) (by decide)
noncomputable def lb_X7_fit_79 : gz_Sx := gz_if (gz_j2 (fun x y => decide (y ≤ x)) (gz_li 5) (gz_get 2 9 2 (gz_la 4))) (gz_sat 113) (gz_ast 100 (gz_get 2 9 5 (gz_la 4)) (gz_li 5) (gz_ald 100 (gz_get 0 6 3 (gz_get 7 9 2 (gz_la 0))) (gz_li 5)) (gz_inc 5 (1) (gz_sat 79)))
noncomputable def sm_X7_fit : gz_Sx := gz_seta 3 (gz_cv 7 9 se_X7_junctionAt (gz_a1 (gz_a1 (gz_a0) (gz_la 0)) (gz_li 1))) (gz_seta 4 (gz_cv 7 9 se_X7_begunAt (gz_a1 (gz_a1 (gz_a0) (gz_la 0)) (gz_li 1))) (gz_if (gz_ja (gz_jn (gz_la 3)) (gz_ja (gz_jn (gz_la 4)) (gz_ja (gz_j2 (fun x y => decide (x < y)) (gz_get 2 9 2 (gz_la 4)) (gz_i (2))) (gz_ja (gz_j1 (fun x => decide (¬ x = 0)) (gz_cs se_X7_outside (gz_a1 (gz_a1 (gz_a1 (gz_a0) (gz_li 2)) (gz_i (20))) (gz_i (90))))) (gz_j2 (fun x y => decide (y ≤ x)) (gz_ib (fun x y => x - y) (gz_li 2) (gz_cv 2 9 se_X2_allBetweens (gz_a1 (gz_a0) (gz_la 4)))) (gz_get 2 9 2 (gz_la 4))))))) (gz_vv 0 6 se_X0_findFittest (gz_a1 (gz_a1 (gz_a1 (gz_a1 (gz_a0) (gz_get 7 9 2 (gz_la 0))) (gz_la 3)) (gz_la 4)) (gz_ib (fun x y => x - y) (gz_li 2) (gz_cv 2 9 se_X2_allBetweens (gz_a1 (gz_a0) (gz_la 4))))) (gz_seti 5 (gz_i (0)) (gz_seq 113 5 (gz_loop 79 6 lb_X7_fit_79) (gz_put 2 9 0 .int (gz_la 4) (gz_li 2) (gz_ri (gz_i (1))))))) (gz_ri (gz_i (0)))))
noncomputable def se_X7_fit : gz_Me := gz_sem (some .boolean) 6 sm_X7_fit
abbrev rm_X7_fit : Room := { frames := 6, cells := 0, slots := 0, locals := 145 }
abbrev M_X7_fit : gz_Mi := (cX7_fit, 6, RX7, 6, 145, "fit", none)
theorem de_X7_fit : yX7_fit.cls ≠ "java/lang/invoke/MethodHandle" ∧ yX7_fit.cls ≠ "java/lang/invoke/VarHandle" ∧ (parseMethodDescriptor yX7_fit.desc).map (fun d => d.parameters.length) = some 2 := by decide +kernel
set_option maxRecDepth 100000 in
theorem mt_X7_fit : gz_Mt yX7_fit cX7_fit 6 (some .boolean) rm_X7_fit se_X7_fit := by
  have q1 : gz_OkA M_X7_fit 0 0 0 0 0 0 _ := ok_a0
  have q2 : gz_OkE M_X7_fit 0 0 0 0 1 _ := ok_aload_n (i := 0) dX7_fit_0 rfl
  have q3 : gz_OkA M_X7_fit 0 0 0 0 1 1 _ := ok_a1 q1 q2
  have q4 : gz_OkE M_X7_fit 2 0 0 1 2 _ := ok_iload_n (i := 1) dX7_fit_1 rfl
  have q5 : gz_OkA M_X7_fit 0 0 0 0 2 2 _ := ok_a1 q3 q4
  have q6 : gz_OkE M_X7_fit 0 0 0 0 5 _ := ok_cv q5 mt_X7_junctionAt cl_7 wd_604 wd_183 de_X7_junctionAt (by decide) (by decide) wd_605 wd_606 wd_607 dX7_fit_2 (by decide)
  have q7 : gz_OkA M_X7_fit 0 0 0 6 6 0 _ := ok_a0
  have q8 : gz_OkE M_X7_fit 0 0 0 6 7 _ := ok_aload_n (i := 0) dX7_fit_6 rfl
  have q9 : gz_OkA M_X7_fit 0 0 0 6 7 1 _ := ok_a1 q7 q8
  have q10 : gz_OkE M_X7_fit 2 0 0 7 8 _ := ok_iload_n (i := 1) dX7_fit_7 rfl
  have q11 : gz_OkA M_X7_fit 0 0 0 6 8 2 _ := ok_a1 q9 q10
  have q12 : gz_OkE M_X7_fit 0 0 0 6 11 _ := ok_cv q11 mt_X7_begunAt cl_7 wd_659 wd_183 de_X7_begunAt (by decide) (by decide) wd_660 wd_661 wd_662 dX7_fit_8 (by decide)
  have q13 : gz_OkE M_X7_fit 0 0 0 13 14 _ := ok_aload_n (i := 3) dX7_fit_13 rfl
  have q14 : gz_OkJ M_X7_fit 0 0 0 13 57 17 _ := ok_jn q13 dX7_fit_14 (by decide)
  have q15 : gz_OkE M_X7_fit 0 0 0 17 19 _ := ok_aload (i := 4) dX7_fit_17
  have q16 : gz_OkJ M_X7_fit 0 0 0 17 57 22 _ := ok_jn q15 dX7_fit_19 (by decide)
  have q17 : gz_OkE M_X7_fit 0 0 0 22 24 _ := ok_aload (i := 4) dX7_fit_22
  have q18 : gz_OkE M_X7_fit 0 0 0 22 27 _ := ok_get q17 cl_2 (k := 2) (by decide) in_2 wd_110 dX7_fit_24
  have q19 : gz_OkE M_X7_fit 1 0 0 27 28 _ := ok_iconst (v := 2) dX7_fit_27 kc_i2
  have q20 : gz_OkJ M_X7_fit 0 0 0 22 57 31 _ := ok_ic_lt q18 q19 dX7_fit_28 (by decide)
  have q21 : gz_OkA M_X7_fit 0 0 0 31 31 0 _ := ok_a0
  have q22 : gz_OkE M_X7_fit 0 0 0 31 32 _ := ok_iload_n (i := 2) dX7_fit_31 rfl
  have q23 : gz_OkA M_X7_fit 0 0 0 31 32 1 _ := ok_a1 q21 q22
  have q24 : gz_OkE M_X7_fit 2 0 0 32 34 _ := ok_bipush (v := 20) dX7_fit_32 kc_b20
  have q25 : gz_OkA M_X7_fit 0 0 0 31 34 2 _ := ok_a1 q23 q24
  have q26 : gz_OkE M_X7_fit 4 0 0 34 36 _ := ok_bipush (v := 90) dX7_fit_34 kc_b90
  have q27 : gz_OkA M_X7_fit 0 0 0 31 36 3 _ := ok_a1 q25 q26
  have q28 : gz_OkE M_X7_fit 0 0 0 31 39 _ := ok_cs q27 mt_X7_outside wd_601 wd_183 de_X7_outside (by decide) (by decide) wd_602 wd_603 dX7_fit_36 (by decide)
  have q29 : gz_OkJ M_X7_fit 0 0 0 31 57 42 _ := ok_if_ne q28 dX7_fit_39 (by decide)
  have q30 : gz_OkE M_X7_fit 0 0 0 42 43 _ := ok_iload_n (i := 2) dX7_fit_42 rfl
  have q31 : gz_OkA M_X7_fit 1 0 0 43 43 0 _ := ok_a0
  have q32 : gz_OkE M_X7_fit 1 0 0 43 45 _ := ok_aload (i := 4) dX7_fit_43
  have q33 : gz_OkA M_X7_fit 1 0 0 43 45 1 _ := ok_a1 q31 q32
  have q34 : gz_OkE M_X7_fit 1 0 0 43 48 _ := ok_cv q33 mt_X2_allBetweens cl_2 wd_436 wd_406 de_X2_allBetweens (by decide) (by decide) wd_687 wd_438 wd_439 dX7_fit_45 (by decide)
  have q35 : gz_OkE M_X7_fit 0 0 0 42 49 _ := ok_isub q30 q34 dX7_fit_48
  have q36 : gz_OkE M_X7_fit 1 0 0 49 51 _ := ok_aload (i := 4) dX7_fit_49
  have q37 : gz_OkE M_X7_fit 1 0 0 49 54 _ := ok_get q36 cl_2 (k := 2) (by decide) in_2 wd_110 dX7_fit_51
  have q38 : gz_OkJ M_X7_fit 0 0 0 42 59 57 _ := ok_ic_ge q35 q37 dX7_fit_54 (by decide)
  have q39 : gz_OkJ M_X7_fit 0 0 0 31 59 57 _ := ok_ja q29 q38
  have q40 : gz_OkJ M_X7_fit 0 0 0 22 59 57 _ := ok_ja q20 q39
  have q41 : gz_OkJ M_X7_fit 0 0 0 17 59 57 _ := ok_ja q16 q40
  have q42 : gz_OkJ M_X7_fit 0 0 0 13 59 57 _ := ok_ja q14 q41
  have q43 : gz_OkA M_X7_fit 0 0 0 59 59 0 _ := ok_a0
  have q44 : gz_OkE M_X7_fit 0 0 0 59 60 _ := ok_aload_n (i := 0) dX7_fit_59 rfl
  have q45 : gz_OkE M_X7_fit 0 0 0 59 63 _ := ok_get q44 cl_7 (k := 2) (by decide) in_7 wd_98 dX7_fit_60
  have q46 : gz_OkA M_X7_fit 0 0 0 59 63 1 _ := ok_a1 q43 q45
  have q47 : gz_OkE M_X7_fit 2 0 0 63 64 _ := ok_aload_n (i := 3) dX7_fit_63 rfl
  have q48 : gz_OkA M_X7_fit 0 0 0 59 64 2 _ := ok_a1 q46 q47
  have q49 : gz_OkE M_X7_fit 4 0 0 64 66 _ := ok_aload (i := 4) dX7_fit_64
  have q50 : gz_OkA M_X7_fit 0 0 0 59 66 3 _ := ok_a1 q48 q49
  have q51 : gz_OkE M_X7_fit 6 0 0 66 67 _ := ok_iload_n (i := 2) dX7_fit_66 rfl
  have q52 : gz_OkA M_X7_fit 7 0 0 67 67 0 _ := ok_a0
  have q53 : gz_OkE M_X7_fit 7 0 0 67 69 _ := ok_aload (i := 4) dX7_fit_67
  have q54 : gz_OkA M_X7_fit 7 0 0 67 69 1 _ := ok_a1 q52 q53
  have q55 : gz_OkE M_X7_fit 7 0 0 67 72 _ := ok_cv q54 mt_X2_allBetweens cl_2 wd_436 wd_406 de_X2_allBetweens (by decide) (by decide) wd_687 wd_438 wd_439 dX7_fit_69 (by decide)
  have q56 : gz_OkE M_X7_fit 6 0 0 66 73 _ := ok_isub q51 q55 dX7_fit_72
  have q57 : gz_OkA M_X7_fit 0 0 0 59 73 4 _ := ok_a1 q50 q56
  have q58 : gz_OkE M_X7_fit 0 0 0 76 77 _ := ok_iconst (v := 0) dX7_fit_76 kc_i0
  have q59 : gz_OkE M_X7_fit 0 0 0 79 81 _ := ok_iload (i := 5) dX7_fit_79
  have q60 : gz_OkE M_X7_fit 1 0 0 81 83 _ := ok_aload (i := 4) dX7_fit_81
  have q61 : gz_OkE M_X7_fit 1 0 0 81 86 _ := ok_get q60 cl_2 (k := 2) (by decide) in_2 wd_110 dX7_fit_83
  have q62 : gz_OkJ M_X7_fit 0 0 0 79 113 89 _ := ok_ic_ge q59 q61 dX7_fit_86 (by decide)
  have q63 : gz_OkS M_X7_fit 0 0 113 _ := ok_at
  have q64 : gz_OkE M_X7_fit 0 0 0 89 91 _ := ok_aload (i := 4) dX7_fit_89
  have q65 : gz_OkE M_X7_fit 0 0 0 89 94 _ := ok_get q64 cl_2 (k := 5) (by decide) in_2 wd_113 dX7_fit_91
  have q66 : gz_OkE M_X7_fit 1 0 0 94 96 _ := ok_iload (i := 5) dX7_fit_94
  have q67 : gz_OkE M_X7_fit 2 0 0 96 97 _ := ok_aload_n (i := 0) dX7_fit_96 rfl
  have q68 : gz_OkE M_X7_fit 2 0 0 96 100 _ := ok_get q67 cl_7 (k := 2) (by decide) in_7 wd_98 dX7_fit_97
  have q69 : gz_OkE M_X7_fit 2 0 0 96 103 _ := ok_get q68 cl_0 (k := 3) (by decide) in_0 wd_114 dX7_fit_100
  have q70 : gz_OkE M_X7_fit 3 0 0 103 105 _ := ok_iload (i := 5) dX7_fit_103
  have q71 : gz_OkE M_X7_fit 2 0 0 96 106 _ := ok_iald q69 q70 dX7_fit_105
  have q72 : gz_OkS M_X7_fit 0 0 110 (gz_sat 79) := ok_goto dX7_fit_110 (by decide)
  have q73 : gz_OkS M_X7_fit 0 0 107 _ := ok_inc (v := 1) dX7_fit_107 kc_i1 (by decide) q72
  have q74 : gz_OkS M_X7_fit 0 0 89 _ := ok_iast q65 q66 q71 dX7_fit_106 q73
  have q75 : gz_OkS M_X7_fit 0 0 79 _ := ok_if q62 q63 q74
  have q76 : gz_OkS M_X7_fit 0 0 79 lb_X7_fit_79 := q75
  have q77 : gz_OkS M_X7_fit 0 0 79 _ := ok_loop (k := 6) q76 rfl rfl
  have q78 : gz_OkE M_X7_fit 0 0 0 113 115 _ := ok_aload (i := 4) dX7_fit_113
  have q79 : gz_OkE M_X7_fit 1 0 0 115 116 _ := ok_iload_n (i := 2) dX7_fit_115 rfl
  have q80 : gz_OkE M_X7_fit 0 0 0 119 120 _ := ok_iconst (v := 1) dX7_fit_119 kc_i1
  have q81 : gz_OkS M_X7_fit 0 0 119 _ := ok_ri q80 dX7_fit_120
  have q82 : gz_OkS M_X7_fit 0 0 113 _ := ok_put (ty := .int) q78 q79 cl_2 (k := 0) (by decide) in_2 wd_109 tyX2 tyX2_ok nmX2 rfl rfl dX7_fit_116 q81
  have q83 : gz_OkS M_X7_fit 0 0 79 _ := ok_seq (L := 113) (k := 5) q77 q82
  have q84 : gz_OkS M_X7_fit 0 0 76 _ := ok_seti (k := 5) q58 dX7_fit_77 (by decide) q83
  have q85 : gz_OkS M_X7_fit 0 0 59 _ := ok_vv q57 mt_X0_findFittest cl_0 wd_718 wd_415 de_X0_findFittest (by decide) (by decide) wd_719 wd_720 wd_721 dX7_fit_73 q84
  have q86 : gz_OkE M_X7_fit 0 0 0 57 58 _ := ok_iconst (v := 0) dX7_fit_57 kc_i0
  have q87 : gz_OkS M_X7_fit 0 0 57 _ := ok_ri q86 dX7_fit_58
  have q88 : gz_OkS M_X7_fit 0 0 13 _ := ok_if q42 q85 q87
  have q89 : gz_OkS M_X7_fit 0 0 6 _ := ok_seta (k := 4) q12 dX7_fit_11 (by decide) q88
  have q90 : gz_OkS M_X7_fit 0 0 0 _ := ok_seta_n (k := 3) q6 dX7_fit_5 rfl (by decide) q89
  have z : gz_OkS M_X7_fit 0 0 0 sm_X7_fit := q90
  exact gz_met (plainFor_of_name (by decide)) z (by decide) (by decide)
noncomputable def sm_X7_green : gz_Sx := gz_seta 3 (gz_cv 7 9 se_X7_begunAt (gz_a1 (gz_a1 (gz_a0) (gz_la 0)) (gz_li 1))) (gz_ri (gz_te (gz_ja (gz_jn (gz_la 3)) (gz_j1 (fun x => decide (x = 0)) (gz_cs se_X7_outside (gz_a1 (gz_a1 (gz_a1 (gz_a0) (gz_li 2)) (gz_i (0))) (gz_ib (fun x y => x - y) (gz_get 2 9 2 (gz_la 3)) (gz_i (1))))))) (gz_ald 100 (gz_get 2 9 5 (gz_la 3)) (gz_li 2)) (gz_i (-1))))
noncomputable def se_X7_green : gz_Me := gz_sem (some .int) 4 sm_X7_green
abbrev rm_X7_green : Room := { frames := 3, cells := 0, slots := 0, locals := 65 }
abbrev M_X7_green : gz_Mi := (cX7_green, 4, RX7, 3, 65, "green", none)
theorem de_X7_green : yX7_green.cls ≠ "java/lang/invoke/MethodHandle" ∧ yX7_green.cls ≠ "java/lang/invoke/VarHandle" ∧ (parseMethodDescriptor yX7_green.desc).map (fun d => d.parameters.length) = some 2 := by decide +kernel
set_option maxRecDepth 100000 in
theorem mt_X7_green : gz_Mt yX7_green cX7_green 4 (some .int) rm_X7_green se_X7_green := by
  have q1 : gz_OkA M_X7_green 0 0 0 0 0 0 _ := ok_a0
  have q2 : gz_OkE M_X7_green 0 0 0 0 1 _ := ok_aload_n (i := 0) dX7_green_0 rfl
  have q3 : gz_OkA M_X7_green 0 0 0 0 1 1 _ := ok_a1 q1 q2
  have q4 : gz_OkE M_X7_green 2 0 0 1 2 _ := ok_iload_n (i := 1) dX7_green_1 rfl
  have q5 : gz_OkA M_X7_green 0 0 0 0 2 2 _ := ok_a1 q3 q4
  have q6 : gz_OkE M_X7_green 0 0 0 0 5 _ := ok_cv q5 mt_X7_begunAt cl_7 wd_659 wd_183 de_X7_begunAt (by decide) (by decide) wd_660 wd_661 wd_662 dX7_green_2 (by decide)
  have q7 : gz_OkE M_X7_green 0 0 0 6 7 _ := ok_aload_n (i := 3) dX7_green_6 rfl
  have q8 : gz_OkJ M_X7_green 0 0 0 6 24 10 _ := ok_jn q7 dX7_green_7 (by decide)
  have q9 : gz_OkA M_X7_green 0 0 0 10 10 0 _ := ok_a0
  have q10 : gz_OkE M_X7_green 0 0 0 10 11 _ := ok_iload_n (i := 2) dX7_green_10 rfl
  have q11 : gz_OkA M_X7_green 0 0 0 10 11 1 _ := ok_a1 q9 q10
  have q12 : gz_OkE M_X7_green 2 0 0 11 12 _ := ok_iconst (v := 0) dX7_green_11 kc_i0
  have q13 : gz_OkA M_X7_green 0 0 0 10 12 2 _ := ok_a1 q11 q12
  have q14 : gz_OkE M_X7_green 4 0 0 12 13 _ := ok_aload_n (i := 3) dX7_green_12 rfl
  have q15 : gz_OkE M_X7_green 4 0 0 12 16 _ := ok_get q14 cl_2 (k := 2) (by decide) in_2 wd_110 dX7_green_13
  have q16 : gz_OkE M_X7_green 5 0 0 16 17 _ := ok_iconst (v := 1) dX7_green_16 kc_i1
  have q17 : gz_OkE M_X7_green 4 0 0 12 18 _ := ok_isub q15 q16 dX7_green_17
  have q18 : gz_OkA M_X7_green 0 0 0 10 18 3 _ := ok_a1 q13 q17
  have q19 : gz_OkE M_X7_green 0 0 0 10 21 _ := ok_cs q18 mt_X7_outside wd_601 wd_183 de_X7_outside (by decide) (by decide) wd_602 wd_603 dX7_green_18 (by decide)
  have q20 : gz_OkJ M_X7_green 0 0 0 10 28 24 _ := ok_if_eq q19 dX7_green_21 (by decide)
  have q21 : gz_OkJ M_X7_green 0 0 0 6 28 24 _ := ok_ja q8 q20
  have q22 : gz_OkE M_X7_green 0 0 0 24 25 _ := ok_iconst (v := -1) dX7_green_24 kc_im1
  have q23 : gz_OkE M_X7_green 0 0 0 24 34 _ := ok_eg q22 dX7_green_25 (by decide)
  have q24 : gz_OkE M_X7_green 0 0 0 28 29 _ := ok_aload_n (i := 3) dX7_green_28 rfl
  have q25 : gz_OkE M_X7_green 0 0 0 28 32 _ := ok_get q24 cl_2 (k := 5) (by decide) in_2 wd_113 dX7_green_29
  have q26 : gz_OkE M_X7_green 1 0 0 32 33 _ := ok_iload_n (i := 2) dX7_green_32 rfl
  have q27 : gz_OkE M_X7_green 0 0 0 28 34 _ := ok_iald q25 q26 dX7_green_33
  have q28 : gz_OkE M_X7_green 0 0 0 6 34 _ := ok_te2 q21 q23 q27
  have q29 : gz_OkS M_X7_green 0 0 6 _ := ok_ri q28 dX7_green_34
  have q30 : gz_OkS M_X7_green 0 0 0 _ := ok_seta_n (k := 3) q6 dX7_green_5 rfl (by decide) q29
  have z : gz_OkS M_X7_green 0 0 0 sm_X7_green := q30
  exact gz_met (plainFor_of_name (by decide)) z (by decide) (by decide)
noncomputable def sm_X7_lamp : gz_Sx := gz_seta 4 (gz_cv 7 9 se_X7_junctionAt (gz_a1 (gz_a1 (gz_a0) (gz_la 0)) (gz_li 1))) (gz_if (gz_ja (gz_jn (gz_la 4)) (gz_ja (gz_jn (gz_cv 1 11 se_X1_member (gz_a1 (gz_a1 (gz_a0) (gz_la 4)) (gz_li 2)))) (gz_j1 (fun x => decide (x = 0)) (gz_cs se_X7_outside (gz_a1 (gz_a1 (gz_a1 (gz_a0) (gz_li 3)) (gz_i (0))) (gz_i (1000000))))))) (gz_ri (gz_te (gz_jo (gz_jn (gz_get 1 11 7 (gz_la 4))) (gz_j1 (fun x => decide (x = 0)) (gz_cv 2 9 se_X2_shows (gz_a1 (gz_a1 (gz_a1 (gz_a0) (gz_get 1 11 7 (gz_la 4))) (gz_li 2)) (gz_li 3))))) (gz_i (0)) (gz_i (1)))) (gz_ri (gz_i (-1))))
noncomputable def se_X7_lamp : gz_Me := gz_sem (some .int) 5 sm_X7_lamp
abbrev rm_X7_lamp : Room := { frames := 3, cells := 0, slots := 0, locals := 65 }
abbrev M_X7_lamp : gz_Mi := (cX7_lamp, 5, RX7, 3, 65, "lamp", none)
theorem de_X7_lamp : yX7_lamp.cls ≠ "java/lang/invoke/MethodHandle" ∧ yX7_lamp.cls ≠ "java/lang/invoke/VarHandle" ∧ (parseMethodDescriptor yX7_lamp.desc).map (fun d => d.parameters.length) = some 3 := by decide +kernel
set_option maxRecDepth 100000 in
theorem mt_X7_lamp : gz_Mt yX7_lamp cX7_lamp 5 (some .int) rm_X7_lamp se_X7_lamp := by
  have q1 : gz_OkA M_X7_lamp 0 0 0 0 0 0 _ := ok_a0
  have q2 : gz_OkE M_X7_lamp 0 0 0 0 1 _ := ok_aload_n (i := 0) dX7_lamp_0 rfl
  have q3 : gz_OkA M_X7_lamp 0 0 0 0 1 1 _ := ok_a1 q1 q2
  have q4 : gz_OkE M_X7_lamp 2 0 0 1 2 _ := ok_iload_n (i := 1) dX7_lamp_1 rfl
  have q5 : gz_OkA M_X7_lamp 0 0 0 0 2 2 _ := ok_a1 q3 q4
  have q6 : gz_OkE M_X7_lamp 0 0 0 0 5 _ := ok_cv q5 mt_X7_junctionAt cl_7 wd_604 wd_183 de_X7_junctionAt (by decide) (by decide) wd_605 wd_606 wd_607 dX7_lamp_2 (by decide)
  have q7 : gz_OkE M_X7_lamp 0 0 0 7 9 _ := ok_aload (i := 4) dX7_lamp_7
  have q8 : gz_OkJ M_X7_lamp 0 0 0 7 31 12 _ := ok_jn q7 dX7_lamp_9 (by decide)
  have q9 : gz_OkA M_X7_lamp 0 0 0 12 12 0 _ := ok_a0
  have q10 : gz_OkE M_X7_lamp 0 0 0 12 14 _ := ok_aload (i := 4) dX7_lamp_12
  have q11 : gz_OkA M_X7_lamp 0 0 0 12 14 1 _ := ok_a1 q9 q10
  have q12 : gz_OkE M_X7_lamp 2 0 0 14 15 _ := ok_iload_n (i := 2) dX7_lamp_14 rfl
  have q13 : gz_OkA M_X7_lamp 0 0 0 12 15 2 _ := ok_a1 q11 q12
  have q14 : gz_OkE M_X7_lamp 0 0 0 12 18 _ := ok_cv q13 mt_X1_member cl_1 wd_457 wd_458 de_X1_member (by decide) (by decide) wd_621 wd_460 wd_461 dX7_lamp_15 (by decide)
  have q15 : gz_OkJ M_X7_lamp 0 0 0 12 31 21 _ := ok_jn q14 dX7_lamp_18 (by decide)
  have q16 : gz_OkA M_X7_lamp 0 0 0 21 21 0 _ := ok_a0
  have q17 : gz_OkE M_X7_lamp 0 0 0 21 22 _ := ok_iload_n (i := 3) dX7_lamp_21 rfl
  have q18 : gz_OkA M_X7_lamp 0 0 0 21 22 1 _ := ok_a1 q16 q17
  have q19 : gz_OkE M_X7_lamp 2 0 0 22 23 _ := ok_iconst (v := 0) dX7_lamp_22 kc_i0
  have q20 : gz_OkA M_X7_lamp 0 0 0 21 23 2 _ := ok_a1 q18 q19
  have q21 : gz_OkE M_X7_lamp 4 0 0 23 25 _ := ok_ldc (v := 1000000) wd_115 dX7_lamp_23
  have q22 : gz_OkA M_X7_lamp 0 0 0 21 25 3 _ := ok_a1 q20 q21
  have q23 : gz_OkE M_X7_lamp 0 0 0 21 28 _ := ok_cs q22 mt_X7_outside wd_601 wd_183 de_X7_outside (by decide) (by decide) wd_602 wd_603 dX7_lamp_25 (by decide)
  have q24 : gz_OkJ M_X7_lamp 0 0 0 21 33 31 _ := ok_if_eq q23 dX7_lamp_28 (by decide)
  have q25 : gz_OkJ M_X7_lamp 0 0 0 12 33 31 _ := ok_ja q15 q24
  have q26 : gz_OkJ M_X7_lamp 0 0 0 7 33 31 _ := ok_ja q8 q25
  have q27 : gz_OkE M_X7_lamp 0 0 0 33 35 _ := ok_aload (i := 4) dX7_lamp_33
  have q28 : gz_OkE M_X7_lamp 0 0 0 33 38 _ := ok_get q27 cl_1 (k := 7) (by decide) in_1 wd_116 dX7_lamp_35
  have q29 : gz_OkJ M_X7_lamp 0 0 0 33 58 41 _ := ok_jn q28 dX7_lamp_38 (by decide)
  have q30 : gz_OkA M_X7_lamp 0 0 0 41 41 0 _ := ok_a0
  have q31 : gz_OkE M_X7_lamp 0 0 0 41 43 _ := ok_aload (i := 4) dX7_lamp_41
  have q32 : gz_OkE M_X7_lamp 0 0 0 41 46 _ := ok_get q31 cl_1 (k := 7) (by decide) in_1 wd_116 dX7_lamp_43
  have q33 : gz_OkA M_X7_lamp 0 0 0 41 46 1 _ := ok_a1 q30 q32
  have q34 : gz_OkE M_X7_lamp 2 0 0 46 47 _ := ok_iload_n (i := 2) dX7_lamp_46 rfl
  have q35 : gz_OkA M_X7_lamp 0 0 0 41 47 2 _ := ok_a1 q33 q34
  have q36 : gz_OkE M_X7_lamp 4 0 0 47 48 _ := ok_iload_n (i := 3) dX7_lamp_47 rfl
  have q37 : gz_OkA M_X7_lamp 0 0 0 41 48 3 _ := ok_a1 q35 q36
  have q38 : gz_OkE M_X7_lamp 0 0 0 41 51 _ := ok_cv q37 mt_X2_shows cl_2 wd_554 wd_406 de_X2_shows (by decide) (by decide) wd_722 wd_556 wd_557 dX7_lamp_48 (by decide)
  have q39 : gz_OkJ M_X7_lamp 0 0 0 41 58 54 _ := ok_if_eq q38 dX7_lamp_51 (by decide)
  have q40 : gz_OkJ M_X7_lamp 0 0 0 33 58 54 _ := ok_jo q29 q39
  have q41 : gz_OkE M_X7_lamp 0 0 0 54 55 _ := ok_iconst (v := 1) dX7_lamp_54 kc_i1
  have q42 : gz_OkE M_X7_lamp 0 0 0 54 59 _ := ok_eg q41 dX7_lamp_55 (by decide)
  have q43 : gz_OkE M_X7_lamp 0 0 0 58 59 _ := ok_iconst (v := 0) dX7_lamp_58 kc_i0
  have q44 : gz_OkE M_X7_lamp 0 0 0 33 59 _ := ok_te2 q40 q42 q43
  have q45 : gz_OkS M_X7_lamp 0 0 33 _ := ok_ri q44 dX7_lamp_59
  have q46 : gz_OkE M_X7_lamp 0 0 0 31 32 _ := ok_iconst (v := -1) dX7_lamp_31 kc_im1
  have q47 : gz_OkS M_X7_lamp 0 0 31 _ := ok_ri q46 dX7_lamp_32
  have q48 : gz_OkS M_X7_lamp 0 0 7 _ := ok_if q26 q45 q47
  have q49 : gz_OkS M_X7_lamp 0 0 0 _ := ok_seta (k := 4) q6 dX7_lamp_5 (by decide) q48
  have z : gz_OkS M_X7_lamp 0 0 0 sm_X7_lamp := q49
  exact gz_met (plainFor_of_name (by decide)) z (by decide) (by decide)
noncomputable def lb_X7_run_33 : gz_Sx := gz_if (gz_j2 (fun x y => decide (y ≤ x)) (gz_li 3) (gz_get 7 9 4 (gz_la 0))) (gz_sat 60) (gz_vv 1 11 se_X1_pass (gz_a1 (gz_a1 (gz_a0) (gz_ald 104 (gz_get 7 9 0 (gz_la 0)) (gz_li 3))) (gz_get 7 9 5 (gz_la 0))) (gz_inc 3 (1) (gz_sat 33)))
noncomputable def lb_X7_run_26 : gz_Sx := gz_if (gz_j2 (fun x y => decide (y ≤ x)) (gz_li 2) (gz_li 1)) (gz_sat 76) (gz_seti 3 (gz_i (0)) (gz_seq 60 3 (gz_loop 33 4 lb_X7_run_33) (gz_put 7 9 5 .int (gz_la 0) (gz_ib (fun x y => x + y) (gz_get 7 9 5 (gz_dup)) (gz_i (1))) (gz_inc 2 (1) (gz_sat 26)))))
noncomputable def sm_X7_run : gz_Sx := gz_if (gz_ja (gz_j1 (fun x => decide (¬ x = 0)) (gz_cs se_X7_outside (gz_a1 (gz_a1 (gz_a1 (gz_a0) (gz_li 1)) (gz_i (0))) (gz_i (300))))) (gz_j2 (fun x y => decide (x ≤ y)) (gz_ib (fun x y => x + y) (gz_get 7 9 5 (gz_la 0)) (gz_li 1)) (gz_i (100000)))) (gz_seti 2 (gz_i (0)) (gz_seq 76 1 (gz_loop 26 3 lb_X7_run_26) (gz_ri (gz_get 7 9 5 (gz_la 0))))) (gz_ri (gz_i (-1)))
noncomputable def se_X7_run : gz_Me := gz_sem (some .int) 4 sm_X7_run
abbrev rm_X7_run : Room := { frames := 4, cells := 0, slots := 0, locals := 88 }
abbrev M_X7_run : gz_Mi := (cX7_run, 4, RX7, 4, 88, "run", none)
theorem de_X7_run : yX7_run.cls ≠ "java/lang/invoke/MethodHandle" ∧ yX7_run.cls ≠ "java/lang/invoke/VarHandle" ∧ (parseMethodDescriptor yX7_run.desc).map (fun d => d.parameters.length) = some 1 := by decide +kernel
set_option maxRecDepth 100000 in
theorem mt_X7_run : gz_Mt yX7_run cX7_run 4 (some .int) rm_X7_run se_X7_run := by
  have q1 : gz_OkA M_X7_run 0 0 0 0 0 0 _ := ok_a0
  have q2 : gz_OkE M_X7_run 0 0 0 0 1 _ := ok_iload_n (i := 1) dX7_run_0 rfl
  have q3 : gz_OkA M_X7_run 0 0 0 0 1 1 _ := ok_a1 q1 q2
  have q4 : gz_OkE M_X7_run 2 0 0 1 2 _ := ok_iconst (v := 0) dX7_run_1 kc_i0
  have q5 : gz_OkA M_X7_run 0 0 0 0 2 2 _ := ok_a1 q3 q4
  have q6 : gz_OkE M_X7_run 4 0 0 2 5 _ := ok_sipush (v := 300) dX7_run_2 kc_s300
  have q7 : gz_OkA M_X7_run 0 0 0 0 5 3 _ := ok_a1 q5 q6
  have q8 : gz_OkE M_X7_run 0 0 0 0 8 _ := ok_cs q7 mt_X7_outside wd_601 wd_183 de_X7_outside (by decide) (by decide) wd_602 wd_603 dX7_run_5 (by decide)
  have q9 : gz_OkJ M_X7_run 0 0 0 0 22 11 _ := ok_if_ne q8 dX7_run_8 (by decide)
  have q10 : gz_OkE M_X7_run 0 0 0 11 12 _ := ok_aload_n (i := 0) dX7_run_11 rfl
  have q11 : gz_OkE M_X7_run 0 0 0 11 15 _ := ok_get q10 cl_7 (k := 5) (by decide) in_7 wd_104 dX7_run_12
  have q12 : gz_OkE M_X7_run 1 0 0 15 16 _ := ok_iload_n (i := 1) dX7_run_15 rfl
  have q13 : gz_OkE M_X7_run 0 0 0 11 17 _ := ok_iadd q11 q12 dX7_run_16
  have q14 : gz_OkE M_X7_run 1 0 0 17 19 _ := ok_ldc (v := 100000) wd_117 dX7_run_17
  have q15 : gz_OkJ M_X7_run 0 0 0 11 24 22 _ := ok_ic_le q13 q14 dX7_run_19 (by decide)
  have q16 : gz_OkJ M_X7_run 0 0 0 0 24 22 _ := ok_ja q9 q15
  have q17 : gz_OkE M_X7_run 0 0 0 24 25 _ := ok_iconst (v := 0) dX7_run_24 kc_i0
  have q18 : gz_OkE M_X7_run 0 0 0 26 27 _ := ok_iload_n (i := 2) dX7_run_26 rfl
  have q19 : gz_OkE M_X7_run 1 0 0 27 28 _ := ok_iload_n (i := 1) dX7_run_27 rfl
  have q20 : gz_OkJ M_X7_run 0 0 0 26 76 31 _ := ok_ic_ge q18 q19 dX7_run_28 (by decide)
  have q21 : gz_OkS M_X7_run 0 0 76 _ := ok_at
  have q22 : gz_OkE M_X7_run 0 0 0 31 32 _ := ok_iconst (v := 0) dX7_run_31 kc_i0
  have q23 : gz_OkE M_X7_run 0 0 0 33 34 _ := ok_iload_n (i := 3) dX7_run_33 rfl
  have q24 : gz_OkE M_X7_run 1 0 0 34 35 _ := ok_aload_n (i := 0) dX7_run_34 rfl
  have q25 : gz_OkE M_X7_run 1 0 0 34 38 _ := ok_get q24 cl_7 (k := 4) (by decide) in_7 wd_103 dX7_run_35
  have q26 : gz_OkJ M_X7_run 0 0 0 33 60 41 _ := ok_ic_ge q23 q25 dX7_run_38 (by decide)
  have q27 : gz_OkS M_X7_run 0 0 60 _ := ok_at
  have q28 : gz_OkA M_X7_run 0 0 0 41 41 0 _ := ok_a0
  have q29 : gz_OkE M_X7_run 0 0 0 41 42 _ := ok_aload_n (i := 0) dX7_run_41 rfl
  have q30 : gz_OkE M_X7_run 0 0 0 41 45 _ := ok_get q29 cl_7 (k := 0) (by decide) in_7 wd_96 dX7_run_42
  have q31 : gz_OkE M_X7_run 1 0 0 45 46 _ := ok_iload_n (i := 3) dX7_run_45 rfl
  have q32 : gz_OkE M_X7_run 0 0 0 41 47 _ := ok_aald104 q30 q31 dX7_run_46
  have q33 : gz_OkA M_X7_run 0 0 0 41 47 1 _ := ok_a1 q28 q32
  have q34 : gz_OkE M_X7_run 2 0 0 47 48 _ := ok_aload_n (i := 0) dX7_run_47 rfl
  have q35 : gz_OkE M_X7_run 2 0 0 47 51 _ := ok_get q34 cl_7 (k := 5) (by decide) in_7 wd_104 dX7_run_48
  have q36 : gz_OkA M_X7_run 0 0 0 41 51 2 _ := ok_a1 q33 q35
  have q37 : gz_OkS M_X7_run 0 0 57 (gz_sat 33) := ok_goto dX7_run_57 (by decide)
  have q38 : gz_OkS M_X7_run 0 0 54 _ := ok_inc (v := 1) dX7_run_54 kc_i1 (by decide) q37
  have q39 : gz_OkS M_X7_run 0 0 41 _ := ok_vv q36 mt_X1_pass cl_1 wd_723 wd_458 de_X1_pass (by decide) (by decide) wd_724 wd_725 wd_726 dX7_run_51 q38
  have q40 : gz_OkS M_X7_run 0 0 33 _ := ok_if q26 q27 q39
  have q41 : gz_OkS M_X7_run 0 0 33 lb_X7_run_33 := q40
  have q42 : gz_OkS M_X7_run 0 0 33 _ := ok_loop (k := 4) q41 rfl rfl
  have q43 : gz_OkE M_X7_run 0 0 0 60 61 _ := ok_aload_n (i := 0) dX7_run_60 rfl
  have q44 : gz_OkE M_X7_run 1 0 0 61 62 _ := ok_dup dX7_run_61
  have q45 : gz_OkE M_X7_run 1 0 0 61 65 _ := ok_get q44 cl_7 (k := 5) (by decide) in_7 wd_104 dX7_run_62
  have q46 : gz_OkE M_X7_run 2 0 0 65 66 _ := ok_iconst (v := 1) dX7_run_65 kc_i1
  have q47 : gz_OkE M_X7_run 1 0 0 61 67 _ := ok_iadd q45 q46 dX7_run_66
  have q48 : gz_OkS M_X7_run 0 0 73 (gz_sat 26) := ok_goto dX7_run_73 (by decide)
  have q49 : gz_OkS M_X7_run 0 0 70 _ := ok_inc (v := 1) dX7_run_70 kc_i1 (by decide) q48
  have q50 : gz_OkS M_X7_run 0 0 60 _ := ok_put (ty := .int) q43 q47 cl_7 (k := 5) (by decide) in_7 wd_104 tyX7 tyX7_ok nmX7 rfl rfl dX7_run_67 q49
  have q51 : gz_OkS M_X7_run 0 0 33 _ := ok_seq (L := 60) (k := 3) q42 q50
  have q52 : gz_OkS M_X7_run 0 0 31 _ := ok_seti_n (k := 3) q22 dX7_run_32 rfl (by decide) q51
  have q53 : gz_OkS M_X7_run 0 0 26 _ := ok_if q20 q21 q52
  have q54 : gz_OkS M_X7_run 0 0 26 lb_X7_run_26 := q53
  have q55 : gz_OkS M_X7_run 0 0 26 _ := ok_loop (k := 3) q54 rfl rfl
  have q56 : gz_OkE M_X7_run 0 0 0 76 77 _ := ok_aload_n (i := 0) dX7_run_76 rfl
  have q57 : gz_OkE M_X7_run 0 0 0 76 80 _ := ok_get q56 cl_7 (k := 5) (by decide) in_7 wd_104 dX7_run_77
  have q58 : gz_OkS M_X7_run 0 0 76 _ := ok_ri q57 dX7_run_80
  have q59 : gz_OkS M_X7_run 0 0 26 _ := ok_seq (L := 76) (k := 1) q55 q58
  have q60 : gz_OkS M_X7_run 0 0 24 _ := ok_seti_n (k := 2) q17 dX7_run_25 rfl (by decide) q59
  have q61 : gz_OkE M_X7_run 0 0 0 22 23 _ := ok_iconst (v := -1) dX7_run_22 kc_im1
  have q62 : gz_OkS M_X7_run 0 0 22 _ := ok_ri q61 dX7_run_23
  have q63 : gz_OkS M_X7_run 0 0 0 _ := ok_if q16 q60 q62
  have z : gz_OkS M_X7_run 0 0 0 sm_X7_run := q63
  exact gz_met (plainFor_of_name (by decide)) z (by decide) (by decide)
noncomputable def sm_X7_queue : gz_Sx := gz_seta 4 (gz_cv 7 9 se_X7_junctionAt (gz_a1 (gz_a1 (gz_a0) (gz_la 0)) (gz_li 1))) (gz_seta 5 (gz_cv 7 9 se_X7_streamAt (gz_a1 (gz_a1 (gz_a1 (gz_a0) (gz_la 0)) (gz_li 1)) (gz_li 2))) (gz_if (gz_ja (gz_jn (gz_la 4)) (gz_jk (gz_la 5))) (gz_rl (gz_te (gz_j2 (fun x y => decide (¬ x = y)) (gz_li 3) (gz_i (11))) (gz_cv 3 14 se_X3_toldOfQueue (gz_a1 (gz_a1 (gz_a0) (gz_la 5)) (gz_li 3))) (gz_i2l (gz_ib (fun x y => x &&& y) (gz_ib (fun x y => x >>> (y &&& 31)) (gz_get 1 11 10 (gz_la 4)) (gz_li 2)) (gz_i (1)))))) (gz_rl (gz_l (-1)))))
noncomputable def se_X7_queue : gz_Me := gz_sem (some .long) 6 sm_X7_queue
abbrev rm_X7_queue : Room := { frames := 3, cells := 0, slots := 0, locals := 66 }
abbrev M_X7_queue : gz_Mi := (cX7_queue, 6, RX7, 3, 66, "queue", none)
theorem de_X7_queue : yX7_queue.cls ≠ "java/lang/invoke/MethodHandle" ∧ yX7_queue.cls ≠ "java/lang/invoke/VarHandle" ∧ (parseMethodDescriptor yX7_queue.desc).map (fun d => d.parameters.length) = some 3 := by decide +kernel
set_option maxRecDepth 100000 in
theorem mt_X7_queue : gz_Mt yX7_queue cX7_queue 6 (some .long) rm_X7_queue se_X7_queue := by
  have q1 : gz_OkA M_X7_queue 0 0 0 0 0 0 _ := ok_a0
  have q2 : gz_OkE M_X7_queue 0 0 0 0 1 _ := ok_aload_n (i := 0) dX7_queue_0 rfl
  have q3 : gz_OkA M_X7_queue 0 0 0 0 1 1 _ := ok_a1 q1 q2
  have q4 : gz_OkE M_X7_queue 2 0 0 1 2 _ := ok_iload_n (i := 1) dX7_queue_1 rfl
  have q5 : gz_OkA M_X7_queue 0 0 0 0 2 2 _ := ok_a1 q3 q4
  have q6 : gz_OkE M_X7_queue 0 0 0 0 5 _ := ok_cv q5 mt_X7_junctionAt cl_7 wd_604 wd_183 de_X7_junctionAt (by decide) (by decide) wd_605 wd_606 wd_607 dX7_queue_2 (by decide)
  have q7 : gz_OkA M_X7_queue 0 0 0 7 7 0 _ := ok_a0
  have q8 : gz_OkE M_X7_queue 0 0 0 7 8 _ := ok_aload_n (i := 0) dX7_queue_7 rfl
  have q9 : gz_OkA M_X7_queue 0 0 0 7 8 1 _ := ok_a1 q7 q8
  have q10 : gz_OkE M_X7_queue 2 0 0 8 9 _ := ok_iload_n (i := 1) dX7_queue_8 rfl
  have q11 : gz_OkA M_X7_queue 0 0 0 7 9 2 _ := ok_a1 q9 q10
  have q12 : gz_OkE M_X7_queue 4 0 0 9 10 _ := ok_iload_n (i := 2) dX7_queue_9 rfl
  have q13 : gz_OkA M_X7_queue 0 0 0 7 10 3 _ := ok_a1 q11 q12
  have q14 : gz_OkE M_X7_queue 0 0 0 7 13 _ := ok_cv q13 mt_X7_streamAt cl_7 wd_634 wd_183 de_X7_streamAt (by decide) (by decide) wd_635 wd_636 wd_637 dX7_queue_10 (by decide)
  have q15 : gz_OkE M_X7_queue 0 0 0 15 17 _ := ok_aload (i := 4) dX7_queue_15
  have q16 : gz_OkJ M_X7_queue 0 0 0 15 25 20 _ := ok_jn q15 dX7_queue_17 (by decide)
  have q17 : gz_OkE M_X7_queue 0 0 0 20 22 _ := ok_aload (i := 5) dX7_queue_20
  have q18 : gz_OkJ M_X7_queue 0 0 0 20 29 25 _ := ok_jk q17 dX7_queue_22 (by decide)
  have q19 : gz_OkJ M_X7_queue 0 0 0 15 29 25 _ := ok_ja q16 q18
  have q20 : gz_OkE M_X7_queue 0 0 0 29 30 _ := ok_iload_n (i := 3) dX7_queue_29 rfl
  have q21 : gz_OkE M_X7_queue 1 0 0 30 32 _ := ok_bipush (v := 11) dX7_queue_30 kc_b11
  have q22 : gz_OkJ M_X7_queue 0 0 0 29 48 35 _ := ok_ic_ne q20 q21 dX7_queue_32 (by decide)
  have q23 : gz_OkE M_X7_queue 0 0 0 35 37 _ := ok_aload (i := 4) dX7_queue_35
  have q24 : gz_OkE M_X7_queue 0 0 0 35 40 _ := ok_get q23 cl_1 (k := 10) (by decide) in_1 wd_119 dX7_queue_37
  have q25 : gz_OkE M_X7_queue 1 0 0 40 41 _ := ok_iload_n (i := 2) dX7_queue_40 rfl
  have q26 : gz_OkE M_X7_queue 0 0 0 35 42 _ := ok_ishr q24 q25 dX7_queue_41
  have q27 : gz_OkE M_X7_queue 1 0 0 42 43 _ := ok_iconst (v := 1) dX7_queue_42 kc_i1
  have q28 : gz_OkE M_X7_queue 0 0 0 35 44 _ := ok_iand q26 q27 dX7_queue_43
  have q29 : gz_OkE M_X7_queue 0 0 0 35 45 _ := ok_i2l q28 dX7_queue_44
  have q30 : gz_OkE M_X7_queue 0 0 0 35 54 _ := ok_eg q29 dX7_queue_45 (by decide)
  have q31 : gz_OkA M_X7_queue 0 0 0 48 48 0 _ := ok_a0
  have q32 : gz_OkE M_X7_queue 0 0 0 48 50 _ := ok_aload (i := 5) dX7_queue_48
  have q33 : gz_OkA M_X7_queue 0 0 0 48 50 1 _ := ok_a1 q31 q32
  have q34 : gz_OkE M_X7_queue 2 0 0 50 51 _ := ok_iload_n (i := 3) dX7_queue_50 rfl
  have q35 : gz_OkA M_X7_queue 0 0 0 48 51 2 _ := ok_a1 q33 q34
  have q36 : gz_OkE M_X7_queue 0 0 0 48 54 _ := ok_cv q35 mt_X3_toldOfQueue cl_3 wd_727 wd_505 de_X3_toldOfQueue (by decide) (by decide) wd_728 wd_729 wd_730 dX7_queue_51 (by decide)
  have q37 : gz_OkE M_X7_queue 0 0 0 29 54 _ := ok_te2 q22 q30 q36
  have q38 : gz_OkS M_X7_queue 0 0 29 _ := ok_rl q37 dX7_queue_54
  have q39 : gz_OkE M_X7_queue 0 0 0 25 28 _ := ok_ldc2 (v := -1) wd_118 dX7_queue_25
  have q40 : gz_OkS M_X7_queue 0 0 25 _ := ok_rl q39 dX7_queue_28
  have q41 : gz_OkS M_X7_queue 0 0 15 _ := ok_if q19 q38 q40
  have q42 : gz_OkS M_X7_queue 0 0 7 _ := ok_seta (k := 5) q14 dX7_queue_13 (by decide) q41
  have q43 : gz_OkS M_X7_queue 0 0 0 _ := ok_seta (k := 4) q6 dX7_queue_5 (by decide) q42
  have z : gz_OkS M_X7_queue 0 0 0 sm_X7_queue := q43
  exact gz_met (plainFor_of_name (by decide)) z (by decide) (by decide)
noncomputable def lb_X7_flashing_4 : gz_Sx := gz_if (gz_j2 (fun x y => decide (y ≤ x)) (gz_li 2) (gz_get 7 9 4 (gz_la 0))) (gz_sat 33) (gz_seq 27 3 (gz_if (gz_j1 (fun x => decide (x = 0)) (gz_get 1 11 8 (gz_ald 104 (gz_get 7 9 0 (gz_la 0)) (gz_li 2)))) (gz_sat 27) (gz_inc 1 (1) (gz_sat 27))) (gz_inc 2 (1) (gz_sat 4)))
noncomputable def sm_X7_flashing : gz_Sx := gz_seti 1 (gz_i (0)) (gz_seti 2 (gz_i (0)) (gz_seq 33 2 (gz_loop 4 3 lb_X7_flashing_4) (gz_ri (gz_li 1))))
noncomputable def se_X7_flashing : gz_Me := gz_sem (some .int) 3 sm_X7_flashing
abbrev rm_X7_flashing : Room := { frames := 0, cells := 0, slots := 0, locals := 0 }
abbrev M_X7_flashing : gz_Mi := (cX7_flashing, 3, RX7, 0, 0, "flashing", none)
theorem de_X7_flashing : yX7_flashing.cls ≠ "java/lang/invoke/MethodHandle" ∧ yX7_flashing.cls ≠ "java/lang/invoke/VarHandle" ∧ (parseMethodDescriptor yX7_flashing.desc).map (fun d => d.parameters.length) = some 0 := by decide +kernel
set_option maxRecDepth 100000 in
theorem mt_X7_flashing : gz_Mt yX7_flashing cX7_flashing 3 (some .int) rm_X7_flashing se_X7_flashing := by
  have q1 : gz_OkE M_X7_flashing 0 0 0 0 1 _ := ok_iconst (v := 0) dX7_flashing_0 kc_i0
  have q2 : gz_OkE M_X7_flashing 0 0 0 2 3 _ := ok_iconst (v := 0) dX7_flashing_2 kc_i0
  have q3 : gz_OkE M_X7_flashing 0 0 0 4 5 _ := ok_iload_n (i := 2) dX7_flashing_4 rfl
  have q4 : gz_OkE M_X7_flashing 1 0 0 5 6 _ := ok_aload_n (i := 0) dX7_flashing_5 rfl
  have q5 : gz_OkE M_X7_flashing 1 0 0 5 9 _ := ok_get q4 cl_7 (k := 4) (by decide) in_7 wd_103 dX7_flashing_6
  have q6 : gz_OkJ M_X7_flashing 0 0 0 4 33 12 _ := ok_ic_ge q3 q5 dX7_flashing_9 (by decide)
  have q7 : gz_OkS M_X7_flashing 0 0 33 _ := ok_at
  have q8 : gz_OkE M_X7_flashing 0 0 0 12 13 _ := ok_aload_n (i := 0) dX7_flashing_12 rfl
  have q9 : gz_OkE M_X7_flashing 0 0 0 12 16 _ := ok_get q8 cl_7 (k := 0) (by decide) in_7 wd_96 dX7_flashing_13
  have q10 : gz_OkE M_X7_flashing 1 0 0 16 17 _ := ok_iload_n (i := 2) dX7_flashing_16 rfl
  have q11 : gz_OkE M_X7_flashing 0 0 0 12 18 _ := ok_aald104 q9 q10 dX7_flashing_17
  have q12 : gz_OkE M_X7_flashing 0 0 0 12 21 _ := ok_get q11 cl_1 (k := 8) (by decide) in_1 wd_120 dX7_flashing_18
  have q13 : gz_OkJ M_X7_flashing 0 0 0 12 27 24 _ := ok_if_eq q12 dX7_flashing_21 (by decide)
  have q14 : gz_OkS M_X7_flashing 0 0 27 _ := ok_at
  have q15 : gz_OkS M_X7_flashing 0 0 27 _ := ok_at
  have q16 : gz_OkS M_X7_flashing 0 0 24 _ := ok_inc (v := 1) dX7_flashing_24 kc_i1 (by decide) q15
  have q17 : gz_OkS M_X7_flashing 0 0 12 _ := ok_if q13 q14 q16
  have q18 : gz_OkS M_X7_flashing 0 0 30 (gz_sat 4) := ok_goto dX7_flashing_30 (by decide)
  have q19 : gz_OkS M_X7_flashing 0 0 27 _ := ok_inc (v := 1) dX7_flashing_27 kc_i1 (by decide) q18
  have q20 : gz_OkS M_X7_flashing 0 0 12 _ := ok_seq (L := 27) (k := 3) q17 q19
  have q21 : gz_OkS M_X7_flashing 0 0 4 _ := ok_if q6 q7 q20
  have q22 : gz_OkS M_X7_flashing 0 0 4 lb_X7_flashing_4 := q21
  have q23 : gz_OkS M_X7_flashing 0 0 4 _ := ok_loop (k := 3) q22 rfl rfl
  have q24 : gz_OkE M_X7_flashing 0 0 0 33 34 _ := ok_iload_n (i := 1) dX7_flashing_33 rfl
  have q25 : gz_OkS M_X7_flashing 0 0 33 _ := ok_ri q24 dX7_flashing_34
  have q26 : gz_OkS M_X7_flashing 0 0 4 _ := ok_seq (L := 33) (k := 2) q23 q25
  have q27 : gz_OkS M_X7_flashing 0 0 2 _ := ok_seti_n (k := 2) q2 dX7_flashing_3 rfl (by decide) q26
  have q28 : gz_OkS M_X7_flashing 0 0 0 _ := ok_seti_n (k := 1) q1 dX7_flashing_1 rfl (by decide) q27
  have z : gz_OkS M_X7_flashing 0 0 0 sm_X7_flashing := q28
  exact gz_met (plainFor_of_name (by decide)) z (by decide) (by decide)
noncomputable def sm_X7_count : gz_Sx := gz_sw (gz_li 1) 0 [gz_ri (gz_get 7 9 4 (gz_la 0)), gz_ri (gz_get 7 9 5 (gz_la 0)), gz_ri (gz_cv 7 9 se_X7_flashing (gz_a1 (gz_a0) (gz_la 0)))] (gz_ri (gz_i (-1)))
noncomputable def se_X7_count : gz_Me := gz_sem (some .int) 2 sm_X7_count
abbrev rm_X7_count : Room := { frames := 1, cells := 0, slots := 0, locals := 22 }
abbrev M_X7_count : gz_Mi := (cX7_count, 2, RX7, 1, 22, "count", none)
theorem de_X7_count : yX7_count.cls ≠ "java/lang/invoke/MethodHandle" ∧ yX7_count.cls ≠ "java/lang/invoke/VarHandle" ∧ (parseMethodDescriptor yX7_count.desc).map (fun d => d.parameters.length) = some 1 := by decide +kernel
set_option maxRecDepth 100000 in
theorem mt_X7_count : gz_Mt yX7_count cX7_count 2 (some .int) rm_X7_count se_X7_count := by
  have q1 : gz_OkE M_X7_count 0 0 0 0 1 _ := ok_iload_n (i := 1) dX7_count_0 rfl
  have q2 : gz_OkE M_X7_count 0 0 0 43 44 _ := ok_iconst (v := -1) dX7_count_43 kc_im1
  have q3 : gz_OkS M_X7_count 0 0 43 _ := ok_ri q2 dX7_count_44
  have q4 : gz_OkE M_X7_count 0 0 0 28 29 _ := ok_aload_n (i := 0) dX7_count_28 rfl
  have q5 : gz_OkE M_X7_count 0 0 0 28 32 _ := ok_get q4 cl_7 (k := 4) (by decide) in_7 wd_103 dX7_count_29
  have q6 : gz_OkS M_X7_count 0 0 28 _ := ok_ri q5 dX7_count_32
  have q7 : gz_OkE M_X7_count 0 0 0 33 34 _ := ok_aload_n (i := 0) dX7_count_33 rfl
  have q8 : gz_OkE M_X7_count 0 0 0 33 37 _ := ok_get q7 cl_7 (k := 5) (by decide) in_7 wd_104 dX7_count_34
  have q9 : gz_OkS M_X7_count 0 0 33 _ := ok_ri q8 dX7_count_37
  have q10 : gz_OkA M_X7_count 0 0 0 38 38 0 _ := ok_a0
  have q11 : gz_OkE M_X7_count 0 0 0 38 39 _ := ok_aload_n (i := 0) dX7_count_38 rfl
  have q12 : gz_OkA M_X7_count 0 0 0 38 39 1 _ := ok_a1 q10 q11
  have q13 : gz_OkE M_X7_count 0 0 0 38 42 _ := ok_cv q12 mt_X7_flashing cl_7 wd_731 wd_183 de_X7_flashing (by decide) (by decide) wd_732 wd_733 wd_734 dX7_count_39 (by decide)
  have q14 : gz_OkS M_X7_count 0 0 38 _ := ok_ri q13 dX7_count_42
  have q15 : ∀ q ∈ (List.zip [28, 33, 38] [_, _, _] : List (Nat × gz_Sx)), gz_OkS M_X7_count 0 0 q.1 q.2 := List.forall_mem_cons.mpr ⟨q6, List.forall_mem_cons.mpr ⟨q9, List.forall_mem_cons.mpr ⟨q14, fun _ h => absurd h List.not_mem_nil⟩⟩⟩
  have q16 : gz_OkS M_X7_count 0 0 0 _ := ok_sw (ts := [28, 33, 38]) q1 dX7_count_1 (by first | decide | rfl | simp) (by decide) (by decide) rfl q3 q15
  have z : gz_OkS M_X7_count 0 0 0 sm_X7_count := q16
  exact gz_met (plainFor_of_name (by decide)) z (by decide) (by decide)
noncomputable def sm_X7_flashes : gz_Sx := gz_seta 2 (gz_cv 7 9 se_X7_junctionAt (gz_a1 (gz_a1 (gz_a0) (gz_la 0)) (gz_li 1))) (gz_ri (gz_te (gz_jo (gz_jn (gz_la 2)) (gz_j1 (fun x => decide (x = 0)) (gz_get 1 11 8 (gz_la 2)))) (gz_i (0)) (gz_i (1))))
noncomputable def se_X7_flashes : gz_Me := gz_sem (some .boolean) 3 sm_X7_flashes
abbrev rm_X7_flashes : Room := { frames := 2, cells := 0, slots := 0, locals := 43 }
abbrev M_X7_flashes : gz_Mi := (cX7_flashes, 3, RX7, 2, 43, "flashes", none)
theorem de_X7_flashes : yX7_flashes.cls ≠ "java/lang/invoke/MethodHandle" ∧ yX7_flashes.cls ≠ "java/lang/invoke/VarHandle" ∧ (parseMethodDescriptor yX7_flashes.desc).map (fun d => d.parameters.length) = some 1 := by decide +kernel
set_option maxRecDepth 100000 in
theorem mt_X7_flashes : gz_Mt yX7_flashes cX7_flashes 3 (some .boolean) rm_X7_flashes se_X7_flashes := by
  have q1 : gz_OkA M_X7_flashes 0 0 0 0 0 0 _ := ok_a0
  have q2 : gz_OkE M_X7_flashes 0 0 0 0 1 _ := ok_aload_n (i := 0) dX7_flashes_0 rfl
  have q3 : gz_OkA M_X7_flashes 0 0 0 0 1 1 _ := ok_a1 q1 q2
  have q4 : gz_OkE M_X7_flashes 2 0 0 1 2 _ := ok_iload_n (i := 1) dX7_flashes_1 rfl
  have q5 : gz_OkA M_X7_flashes 0 0 0 0 2 2 _ := ok_a1 q3 q4
  have q6 : gz_OkE M_X7_flashes 0 0 0 0 5 _ := ok_cv q5 mt_X7_junctionAt cl_7 wd_604 wd_183 de_X7_junctionAt (by decide) (by decide) wd_605 wd_606 wd_607 dX7_flashes_2 (by decide)
  have q7 : gz_OkE M_X7_flashes 0 0 0 6 7 _ := ok_aload_n (i := 2) dX7_flashes_6 rfl
  have q8 : gz_OkJ M_X7_flashes 0 0 0 6 21 10 _ := ok_jn q7 dX7_flashes_7 (by decide)
  have q9 : gz_OkE M_X7_flashes 0 0 0 10 11 _ := ok_aload_n (i := 2) dX7_flashes_10 rfl
  have q10 : gz_OkE M_X7_flashes 0 0 0 10 14 _ := ok_get q9 cl_1 (k := 8) (by decide) in_1 wd_120 dX7_flashes_11
  have q11 : gz_OkJ M_X7_flashes 0 0 0 10 21 17 _ := ok_if_eq q10 dX7_flashes_14 (by decide)
  have q12 : gz_OkJ M_X7_flashes 0 0 0 6 21 17 _ := ok_jo q8 q11
  have q13 : gz_OkE M_X7_flashes 0 0 0 17 18 _ := ok_iconst (v := 1) dX7_flashes_17 kc_i1
  have q14 : gz_OkE M_X7_flashes 0 0 0 17 22 _ := ok_eg q13 dX7_flashes_18 (by decide)
  have q15 : gz_OkE M_X7_flashes 0 0 0 21 22 _ := ok_iconst (v := 0) dX7_flashes_21 kc_i0
  have q16 : gz_OkE M_X7_flashes 0 0 0 6 22 _ := ok_te2 q12 q14 q15
  have q17 : gz_OkS M_X7_flashes 0 0 6 _ := ok_ri q16 dX7_flashes_22
  have q18 : gz_OkS M_X7_flashes 0 0 0 _ := ok_seta_n (k := 2) q6 dX7_flashes_5 rfl (by decide) q17
  have z : gz_OkS M_X7_flashes 0 0 0 sm_X7_flashes := q18
  exact gz_met (plainFor_of_name (by decide)) z (by decide) (by decide)
noncomputable def sm_X7_laysStop : gz_Sx := gz_seta 6 (gz_cv 7 9 se_X7_junctionAt (gz_a1 (gz_a1 (gz_a0) (gz_la 0)) (gz_li 1))) (gz_if (gz_ja (gz_jn (gz_la 6)) (gz_ja (gz_jn (gz_get 1 11 7 (gz_la 6))) (gz_ja (gz_jn (gz_cv 1 11 se_X1_member (gz_a1 (gz_a1 (gz_a0) (gz_la 6)) (gz_li 2)))) (gz_ja (gz_jn (gz_cv 1 11 se_X1_member (gz_a1 (gz_a1 (gz_a0) (gz_la 6)) (gz_li 3)))) (gz_jo (gz_j1 (fun x => decide (x ≤ 0)) (gz_get 6 10 5 (gz_get 7 9 3 (gz_la 0)))) (gz_j2 (fun x y => decide (x = y)) (gz_get 2 9 0 (gz_get 1 11 7 (gz_la 6))) (gz_get 2 9 0 (gz_ald 105 (gz_get 6 10 0 (gz_get 7 9 3 (gz_la 0))) (gz_i (0)))))))))) (gz_vv 6 10 se_X6_add (gz_a1 (gz_a1 (gz_a1 (gz_a1 (gz_a1 (gz_a1 (gz_a0) (gz_get 7 9 3 (gz_la 0))) (gz_get 1 11 7 (gz_la 6))) (gz_li 2)) (gz_li 3)) (gz_li 4)) (gz_li 5)) (gz_ri (gz_i (1)))) (gz_ri (gz_i (0))))
noncomputable def se_X7_laysStop : gz_Me := gz_sem (some .boolean) 7 sm_X7_laysStop
abbrev rm_X7_laysStop : Room := { frames := 2, cells := 0, slots := 0, locals := 43 }
abbrev M_X7_laysStop : gz_Mi := (cX7_laysStop, 7, RX7, 2, 43, "laysStop", none)
theorem de_X7_laysStop : yX7_laysStop.cls ≠ "java/lang/invoke/MethodHandle" ∧ yX7_laysStop.cls ≠ "java/lang/invoke/VarHandle" ∧ (parseMethodDescriptor yX7_laysStop.desc).map (fun d => d.parameters.length) = some 5 := by decide +kernel
set_option maxRecDepth 100000 in
theorem mt_X7_laysStop : gz_Mt yX7_laysStop cX7_laysStop 7 (some .boolean) rm_X7_laysStop se_X7_laysStop := by
  have q1 : gz_OkA M_X7_laysStop 0 0 0 0 0 0 _ := ok_a0
  have q2 : gz_OkE M_X7_laysStop 0 0 0 0 1 _ := ok_aload_n (i := 0) dX7_laysStop_0 rfl
  have q3 : gz_OkA M_X7_laysStop 0 0 0 0 1 1 _ := ok_a1 q1 q2
  have q4 : gz_OkE M_X7_laysStop 2 0 0 1 2 _ := ok_iload_n (i := 1) dX7_laysStop_1 rfl
  have q5 : gz_OkA M_X7_laysStop 0 0 0 0 2 2 _ := ok_a1 q3 q4
  have q6 : gz_OkE M_X7_laysStop 0 0 0 0 5 _ := ok_cv q5 mt_X7_junctionAt cl_7 wd_604 wd_183 de_X7_junctionAt (by decide) (by decide) wd_605 wd_606 wd_607 dX7_laysStop_2 (by decide)
  have q7 : gz_OkE M_X7_laysStop 0 0 0 7 9 _ := ok_aload (i := 6) dX7_laysStop_7
  have q8 : gz_OkJ M_X7_laysStop 0 0 0 7 71 12 _ := ok_jn q7 dX7_laysStop_9 (by decide)
  have q9 : gz_OkE M_X7_laysStop 0 0 0 12 14 _ := ok_aload (i := 6) dX7_laysStop_12
  have q10 : gz_OkE M_X7_laysStop 0 0 0 12 17 _ := ok_get q9 cl_1 (k := 7) (by decide) in_1 wd_116 dX7_laysStop_14
  have q11 : gz_OkJ M_X7_laysStop 0 0 0 12 71 20 _ := ok_jn q10 dX7_laysStop_17 (by decide)
  have q12 : gz_OkA M_X7_laysStop 0 0 0 20 20 0 _ := ok_a0
  have q13 : gz_OkE M_X7_laysStop 0 0 0 20 22 _ := ok_aload (i := 6) dX7_laysStop_20
  have q14 : gz_OkA M_X7_laysStop 0 0 0 20 22 1 _ := ok_a1 q12 q13
  have q15 : gz_OkE M_X7_laysStop 2 0 0 22 23 _ := ok_iload_n (i := 2) dX7_laysStop_22 rfl
  have q16 : gz_OkA M_X7_laysStop 0 0 0 20 23 2 _ := ok_a1 q14 q15
  have q17 : gz_OkE M_X7_laysStop 0 0 0 20 26 _ := ok_cv q16 mt_X1_member cl_1 wd_457 wd_458 de_X1_member (by decide) (by decide) wd_621 wd_460 wd_461 dX7_laysStop_23 (by decide)
  have q18 : gz_OkJ M_X7_laysStop 0 0 0 20 71 29 _ := ok_jn q17 dX7_laysStop_26 (by decide)
  have q19 : gz_OkA M_X7_laysStop 0 0 0 29 29 0 _ := ok_a0
  have q20 : gz_OkE M_X7_laysStop 0 0 0 29 31 _ := ok_aload (i := 6) dX7_laysStop_29
  have q21 : gz_OkA M_X7_laysStop 0 0 0 29 31 1 _ := ok_a1 q19 q20
  have q22 : gz_OkE M_X7_laysStop 2 0 0 31 32 _ := ok_iload_n (i := 3) dX7_laysStop_31 rfl
  have q23 : gz_OkA M_X7_laysStop 0 0 0 29 32 2 _ := ok_a1 q21 q22
  have q24 : gz_OkE M_X7_laysStop 0 0 0 29 35 _ := ok_cv q23 mt_X1_member cl_1 wd_457 wd_458 de_X1_member (by decide) (by decide) wd_621 wd_460 wd_461 dX7_laysStop_32 (by decide)
  have q25 : gz_OkJ M_X7_laysStop 0 0 0 29 71 38 _ := ok_jn q24 dX7_laysStop_35 (by decide)
  have q26 : gz_OkE M_X7_laysStop 0 0 0 38 39 _ := ok_aload_n (i := 0) dX7_laysStop_38 rfl
  have q27 : gz_OkE M_X7_laysStop 0 0 0 38 42 _ := ok_get q26 cl_7 (k := 3) (by decide) in_7 wd_99 dX7_laysStop_39
  have q28 : gz_OkE M_X7_laysStop 0 0 0 38 45 _ := ok_get q27 cl_6 (k := 5) (by decide) in_6 wd_123 dX7_laysStop_42
  have q29 : gz_OkJ M_X7_laysStop 0 0 0 38 73 48 _ := ok_if_le q28 dX7_laysStop_45 (by decide)
  have q30 : gz_OkE M_X7_laysStop 0 0 0 48 50 _ := ok_aload (i := 6) dX7_laysStop_48
  have q31 : gz_OkE M_X7_laysStop 0 0 0 48 53 _ := ok_get q30 cl_1 (k := 7) (by decide) in_1 wd_116 dX7_laysStop_50
  have q32 : gz_OkE M_X7_laysStop 0 0 0 48 56 _ := ok_get q31 cl_2 (k := 0) (by decide) in_2 wd_109 dX7_laysStop_53
  have q33 : gz_OkE M_X7_laysStop 1 0 0 56 57 _ := ok_aload_n (i := 0) dX7_laysStop_56 rfl
  have q34 : gz_OkE M_X7_laysStop 1 0 0 56 60 _ := ok_get q33 cl_7 (k := 3) (by decide) in_7 wd_99 dX7_laysStop_57
  have q35 : gz_OkE M_X7_laysStop 1 0 0 56 63 _ := ok_get q34 cl_6 (k := 0) (by decide) in_6 wd_127 dX7_laysStop_60
  have q36 : gz_OkE M_X7_laysStop 2 0 0 63 64 _ := ok_iconst (v := 0) dX7_laysStop_63 kc_i0
  have q37 : gz_OkE M_X7_laysStop 1 0 0 56 65 _ := ok_aald105 q35 q36 dX7_laysStop_64
  have q38 : gz_OkE M_X7_laysStop 1 0 0 56 68 _ := ok_get q37 cl_2 (k := 0) (by decide) in_2 wd_109 dX7_laysStop_65
  have q39 : gz_OkJ M_X7_laysStop 0 0 0 48 73 71 _ := ok_ic_eq q32 q38 dX7_laysStop_68 (by decide)
  have q40 : gz_OkJ M_X7_laysStop 0 0 0 38 73 71 _ := ok_jo q29 q39
  have q41 : gz_OkJ M_X7_laysStop 0 0 0 29 73 71 _ := ok_ja q25 q40
  have q42 : gz_OkJ M_X7_laysStop 0 0 0 20 73 71 _ := ok_ja q18 q41
  have q43 : gz_OkJ M_X7_laysStop 0 0 0 12 73 71 _ := ok_ja q11 q42
  have q44 : gz_OkJ M_X7_laysStop 0 0 0 7 73 71 _ := ok_ja q8 q43
  have q45 : gz_OkA M_X7_laysStop 0 0 0 73 73 0 _ := ok_a0
  have q46 : gz_OkE M_X7_laysStop 0 0 0 73 74 _ := ok_aload_n (i := 0) dX7_laysStop_73 rfl
  have q47 : gz_OkE M_X7_laysStop 0 0 0 73 77 _ := ok_get q46 cl_7 (k := 3) (by decide) in_7 wd_99 dX7_laysStop_74
  have q48 : gz_OkA M_X7_laysStop 0 0 0 73 77 1 _ := ok_a1 q45 q47
  have q49 : gz_OkE M_X7_laysStop 2 0 0 77 79 _ := ok_aload (i := 6) dX7_laysStop_77
  have q50 : gz_OkE M_X7_laysStop 2 0 0 77 82 _ := ok_get q49 cl_1 (k := 7) (by decide) in_1 wd_116 dX7_laysStop_79
  have q51 : gz_OkA M_X7_laysStop 0 0 0 73 82 2 _ := ok_a1 q48 q50
  have q52 : gz_OkE M_X7_laysStop 4 0 0 82 83 _ := ok_iload_n (i := 2) dX7_laysStop_82 rfl
  have q53 : gz_OkA M_X7_laysStop 0 0 0 73 83 3 _ := ok_a1 q51 q52
  have q54 : gz_OkE M_X7_laysStop 6 0 0 83 84 _ := ok_iload_n (i := 3) dX7_laysStop_83 rfl
  have q55 : gz_OkA M_X7_laysStop 0 0 0 73 84 4 _ := ok_a1 q53 q54
  have q56 : gz_OkE M_X7_laysStop 8 0 0 84 86 _ := ok_iload (i := 4) dX7_laysStop_84
  have q57 : gz_OkA M_X7_laysStop 0 0 0 73 86 5 _ := ok_a1 q55 q56
  have q58 : gz_OkE M_X7_laysStop 10 0 0 86 88 _ := ok_iload (i := 5) dX7_laysStop_86
  have q59 : gz_OkA M_X7_laysStop 0 0 0 73 88 6 _ := ok_a1 q57 q58
  have q60 : gz_OkE M_X7_laysStop 0 0 0 91 92 _ := ok_iconst (v := 1) dX7_laysStop_91 kc_i1
  have q61 : gz_OkS M_X7_laysStop 0 0 91 _ := ok_ri q60 dX7_laysStop_92
  have q62 : gz_OkS M_X7_laysStop 0 0 73 _ := ok_vv q59 mt_X6_add cl_6 wd_735 wd_559 de_X6_add (by decide) (by decide) wd_736 wd_737 wd_738 dX7_laysStop_88 q61
  have q63 : gz_OkE M_X7_laysStop 0 0 0 71 72 _ := ok_iconst (v := 0) dX7_laysStop_71 kc_i0
  have q64 : gz_OkS M_X7_laysStop 0 0 71 _ := ok_ri q63 dX7_laysStop_72
  have q65 : gz_OkS M_X7_laysStop 0 0 7 _ := ok_if q44 q62 q64
  have q66 : gz_OkS M_X7_laysStop 0 0 0 _ := ok_seta (k := 6) q6 dX7_laysStop_5 (by decide) q65
  have z : gz_OkS M_X7_laysStop 0 0 0 sm_X7_laysStop := q66
  exact gz_met (plainFor_of_name (by decide)) z (by decide) (by decide)
noncomputable def sm_X7_layWay : gz_Sx := gz_seti 8 (gz_te (gz_j2 (fun x y => decide (x = y)) (gz_li 3) (gz_i (-1))) (gz_i (0)) (gz_i (1))) (gz_seti 9 (gz_te (gz_j1 (fun x => decide (x = 0)) (gz_li 8)) (gz_i (99)) (gz_i (999))) (gz_if (gz_ja (gz_j2 (fun x y => decide (x = y)) (gz_li 1) (gz_li 2)) (gz_ja (gz_j2 (fun x y => decide (x = y)) (gz_li 1) (gz_li 3)) (gz_ja (gz_j2 (fun x y => decide (x = y)) (gz_li 2) (gz_li 3)) (gz_ja (gz_j1 (fun x => decide (¬ x = 0)) (gz_cs se_X7_outside (gz_a1 (gz_a1 (gz_a1 (gz_a0) (gz_li 4)) (gz_i (0))) (gz_li 9)))) (gz_ja (gz_j1 (fun x => decide (¬ x = 0)) (gz_cs se_X7_outside (gz_a1 (gz_a1 (gz_a1 (gz_a0) (gz_li 5)) (gz_i (0))) (gz_li 9)))) (gz_ja (gz_j1 (fun x => decide (¬ x = 0)) (gz_cs se_X7_outside (gz_a1 (gz_a1 (gz_a1 (gz_a0) (gz_li 6)) (gz_i (0))) (gz_i (120))))) (gz_j1 (fun x => decide (x = 0)) (gz_cs se_X7_outside (gz_a1 (gz_a1 (gz_a1 (gz_a0) (gz_li 7)) (gz_i (0))) (gz_te (gz_j1 (fun x => decide (x = 0)) (gz_li 8)) (gz_i (0)) (gz_i (120)))))))))))) (gz_put 6 10 5 .int (gz_get 7 9 3 (gz_la 0)) (gz_i (0)) (gz_ri (gz_te (gz_jo (gz_j1 (fun x => decide (x = 0)) (gz_cv 7 9 se_X7_laysStop (gz_a1 (gz_a1 (gz_a1 (gz_a1 (gz_a1 (gz_a1 (gz_a0) (gz_la 0)) (gz_li 1)) (gz_iz (fun x y => x - x / y * y) (gz_li 4) (gz_i (10)))) (gz_iz (fun x y => x - x / y * y) (gz_li 5) (gz_i (10)))) (gz_i (0))) (gz_ib (fun x y => x + y) (gz_li 6) (gz_li 7))))) (gz_jo (gz_j1 (fun x => decide (x = 0)) (gz_cv 7 9 se_X7_laysStop (gz_a1 (gz_a1 (gz_a1 (gz_a1 (gz_a1 (gz_a1 (gz_a0) (gz_la 0)) (gz_li 2)) (gz_iz (fun x y => x - x / y * y) (gz_iz (fun x y => x / y) (gz_li 4) (gz_i (10))) (gz_i (10)))) (gz_iz (fun x y => x - x / y * y) (gz_iz (fun x y => x / y) (gz_li 5) (gz_i (10))) (gz_i (10)))) (gz_li 6)) (gz_li 7)))) (gz_ja (gz_j1 (fun x => decide (x = 0)) (gz_li 8)) (gz_j1 (fun x => decide (x = 0)) (gz_cv 7 9 se_X7_laysStop (gz_a1 (gz_a1 (gz_a1 (gz_a1 (gz_a1 (gz_a1 (gz_a0) (gz_la 0)) (gz_li 3)) (gz_iz (fun x y => x / y) (gz_li 4) (gz_i (100)))) (gz_iz (fun x y => x / y) (gz_li 5) (gz_i (100)))) (gz_ib (fun x y => x + y) (gz_li 6) (gz_li 7))) (gz_i (0)))))))) (gz_i (0)) (gz_i (1))))) (gz_ri (gz_i (0)))))
noncomputable def se_X7_layWay : gz_Me := gz_sem (some .boolean) 10 sm_X7_layWay
abbrev rm_X7_layWay : Room := { frames := 3, cells := 0, slots := 0, locals := 69 }
abbrev M_X7_layWay : gz_Mi := (cX7_layWay, 10, RX7, 3, 69, "layWay", none)
theorem de_X7_layWay : yX7_layWay.cls ≠ "java/lang/invoke/MethodHandle" ∧ yX7_layWay.cls ≠ "java/lang/invoke/VarHandle" ∧ (parseMethodDescriptor yX7_layWay.desc).map (fun d => d.parameters.length) = some 7 := by decide +kernel
set_option maxRecDepth 100000 in
theorem mt_X7_layWay : gz_Mt yX7_layWay cX7_layWay 10 (some .boolean) rm_X7_layWay se_X7_layWay := by
  have q1 : gz_OkE M_X7_layWay 0 0 0 0 1 _ := ok_iload_n (i := 3) dX7_layWay_0 rfl
  have q2 : gz_OkE M_X7_layWay 1 0 0 1 2 _ := ok_iconst (v := -1) dX7_layWay_1 kc_im1
  have q3 : gz_OkJ M_X7_layWay 0 0 0 0 9 5 _ := ok_ic_eq q1 q2 dX7_layWay_2 (by decide)
  have q4 : gz_OkE M_X7_layWay 0 0 0 5 6 _ := ok_iconst (v := 1) dX7_layWay_5 kc_i1
  have q5 : gz_OkE M_X7_layWay 0 0 0 5 10 _ := ok_eg q4 dX7_layWay_6 (by decide)
  have q6 : gz_OkE M_X7_layWay 0 0 0 9 10 _ := ok_iconst (v := 0) dX7_layWay_9 kc_i0
  have q7 : gz_OkE M_X7_layWay 0 0 0 0 10 _ := ok_te2 q3 q5 q6
  have q8 : gz_OkE M_X7_layWay 0 0 0 12 14 _ := ok_iload (i := 8) dX7_layWay_12
  have q9 : gz_OkJ M_X7_layWay 0 0 0 12 23 17 _ := ok_if_eq q8 dX7_layWay_14 (by decide)
  have q10 : gz_OkE M_X7_layWay 0 0 0 17 20 _ := ok_sipush (v := 999) dX7_layWay_17 kc_s999
  have q11 : gz_OkE M_X7_layWay 0 0 0 17 25 _ := ok_eg q10 dX7_layWay_20 (by decide)
  have q12 : gz_OkE M_X7_layWay 0 0 0 23 25 _ := ok_bipush (v := 99) dX7_layWay_23 kc_b99
  have q13 : gz_OkE M_X7_layWay 0 0 0 12 25 _ := ok_te2 q9 q11 q12
  have q14 : gz_OkE M_X7_layWay 0 0 0 27 28 _ := ok_iload_n (i := 1) dX7_layWay_27 rfl
  have q15 : gz_OkE M_X7_layWay 1 0 0 28 29 _ := ok_iload_n (i := 2) dX7_layWay_28 rfl
  have q16 : gz_OkJ M_X7_layWay 0 0 0 27 95 32 _ := ok_ic_eq q14 q15 dX7_layWay_29 (by decide)
  have q17 : gz_OkE M_X7_layWay 0 0 0 32 33 _ := ok_iload_n (i := 1) dX7_layWay_32 rfl
  have q18 : gz_OkE M_X7_layWay 1 0 0 33 34 _ := ok_iload_n (i := 3) dX7_layWay_33 rfl
  have q19 : gz_OkJ M_X7_layWay 0 0 0 32 95 37 _ := ok_ic_eq q17 q18 dX7_layWay_34 (by decide)
  have q20 : gz_OkE M_X7_layWay 0 0 0 37 38 _ := ok_iload_n (i := 2) dX7_layWay_37 rfl
  have q21 : gz_OkE M_X7_layWay 1 0 0 38 39 _ := ok_iload_n (i := 3) dX7_layWay_38 rfl
  have q22 : gz_OkJ M_X7_layWay 0 0 0 37 95 42 _ := ok_ic_eq q20 q21 dX7_layWay_39 (by decide)
  have q23 : gz_OkA M_X7_layWay 0 0 0 42 42 0 _ := ok_a0
  have q24 : gz_OkE M_X7_layWay 0 0 0 42 44 _ := ok_iload (i := 4) dX7_layWay_42
  have q25 : gz_OkA M_X7_layWay 0 0 0 42 44 1 _ := ok_a1 q23 q24
  have q26 : gz_OkE M_X7_layWay 2 0 0 44 45 _ := ok_iconst (v := 0) dX7_layWay_44 kc_i0
  have q27 : gz_OkA M_X7_layWay 0 0 0 42 45 2 _ := ok_a1 q25 q26
  have q28 : gz_OkE M_X7_layWay 4 0 0 45 47 _ := ok_iload (i := 9) dX7_layWay_45
  have q29 : gz_OkA M_X7_layWay 0 0 0 42 47 3 _ := ok_a1 q27 q28
  have q30 : gz_OkE M_X7_layWay 0 0 0 42 50 _ := ok_cs q29 mt_X7_outside wd_601 wd_183 de_X7_outside (by decide) (by decide) wd_602 wd_603 dX7_layWay_47 (by decide)
  have q31 : gz_OkJ M_X7_layWay 0 0 0 42 95 53 _ := ok_if_ne q30 dX7_layWay_50 (by decide)
  have q32 : gz_OkA M_X7_layWay 0 0 0 53 53 0 _ := ok_a0
  have q33 : gz_OkE M_X7_layWay 0 0 0 53 55 _ := ok_iload (i := 5) dX7_layWay_53
  have q34 : gz_OkA M_X7_layWay 0 0 0 53 55 1 _ := ok_a1 q32 q33
  have q35 : gz_OkE M_X7_layWay 2 0 0 55 56 _ := ok_iconst (v := 0) dX7_layWay_55 kc_i0
  have q36 : gz_OkA M_X7_layWay 0 0 0 53 56 2 _ := ok_a1 q34 q35
  have q37 : gz_OkE M_X7_layWay 4 0 0 56 58 _ := ok_iload (i := 9) dX7_layWay_56
  have q38 : gz_OkA M_X7_layWay 0 0 0 53 58 3 _ := ok_a1 q36 q37
  have q39 : gz_OkE M_X7_layWay 0 0 0 53 61 _ := ok_cs q38 mt_X7_outside wd_601 wd_183 de_X7_outside (by decide) (by decide) wd_602 wd_603 dX7_layWay_58 (by decide)
  have q40 : gz_OkJ M_X7_layWay 0 0 0 53 95 64 _ := ok_if_ne q39 dX7_layWay_61 (by decide)
  have q41 : gz_OkA M_X7_layWay 0 0 0 64 64 0 _ := ok_a0
  have q42 : gz_OkE M_X7_layWay 0 0 0 64 66 _ := ok_iload (i := 6) dX7_layWay_64
  have q43 : gz_OkA M_X7_layWay 0 0 0 64 66 1 _ := ok_a1 q41 q42
  have q44 : gz_OkE M_X7_layWay 2 0 0 66 67 _ := ok_iconst (v := 0) dX7_layWay_66 kc_i0
  have q45 : gz_OkA M_X7_layWay 0 0 0 64 67 2 _ := ok_a1 q43 q44
  have q46 : gz_OkE M_X7_layWay 4 0 0 67 69 _ := ok_bipush (v := 120) dX7_layWay_67 kc_b120
  have q47 : gz_OkA M_X7_layWay 0 0 0 64 69 3 _ := ok_a1 q45 q46
  have q48 : gz_OkE M_X7_layWay 0 0 0 64 72 _ := ok_cs q47 mt_X7_outside wd_601 wd_183 de_X7_outside (by decide) (by decide) wd_602 wd_603 dX7_layWay_69 (by decide)
  have q49 : gz_OkJ M_X7_layWay 0 0 0 64 95 75 _ := ok_if_ne q48 dX7_layWay_72 (by decide)
  have q50 : gz_OkA M_X7_layWay 0 0 0 75 75 0 _ := ok_a0
  have q51 : gz_OkE M_X7_layWay 0 0 0 75 77 _ := ok_iload (i := 7) dX7_layWay_75
  have q52 : gz_OkA M_X7_layWay 0 0 0 75 77 1 _ := ok_a1 q50 q51
  have q53 : gz_OkE M_X7_layWay 2 0 0 77 78 _ := ok_iconst (v := 0) dX7_layWay_77 kc_i0
  have q54 : gz_OkA M_X7_layWay 0 0 0 75 78 2 _ := ok_a1 q52 q53
  have q55 : gz_OkE M_X7_layWay 4 0 0 78 80 _ := ok_iload (i := 8) dX7_layWay_78
  have q56 : gz_OkJ M_X7_layWay 4 0 0 78 88 83 _ := ok_if_eq q55 dX7_layWay_80 (by decide)
  have q57 : gz_OkE M_X7_layWay 4 0 0 83 85 _ := ok_bipush (v := 120) dX7_layWay_83 kc_b120
  have q58 : gz_OkE M_X7_layWay 4 0 0 83 89 _ := ok_eg q57 dX7_layWay_85 (by decide)
  have q59 : gz_OkE M_X7_layWay 4 0 0 88 89 _ := ok_iconst (v := 0) dX7_layWay_88 kc_i0
  have q60 : gz_OkE M_X7_layWay 4 0 0 78 89 _ := ok_te2 q56 q58 q59
  have q61 : gz_OkA M_X7_layWay 0 0 0 75 89 3 _ := ok_a1 q54 q60
  have q62 : gz_OkE M_X7_layWay 0 0 0 75 92 _ := ok_cs q61 mt_X7_outside wd_601 wd_183 de_X7_outside (by decide) (by decide) wd_602 wd_603 dX7_layWay_89 (by decide)
  have q63 : gz_OkJ M_X7_layWay 0 0 0 75 97 95 _ := ok_if_eq q62 dX7_layWay_92 (by decide)
  have q64 : gz_OkJ M_X7_layWay 0 0 0 64 97 95 _ := ok_ja q49 q63
  have q65 : gz_OkJ M_X7_layWay 0 0 0 53 97 95 _ := ok_ja q40 q64
  have q66 : gz_OkJ M_X7_layWay 0 0 0 42 97 95 _ := ok_ja q31 q65
  have q67 : gz_OkJ M_X7_layWay 0 0 0 37 97 95 _ := ok_ja q22 q66
  have q68 : gz_OkJ M_X7_layWay 0 0 0 32 97 95 _ := ok_ja q19 q67
  have q69 : gz_OkJ M_X7_layWay 0 0 0 27 97 95 _ := ok_ja q16 q68
  have q70 : gz_OkE M_X7_layWay 0 0 0 97 98 _ := ok_aload_n (i := 0) dX7_layWay_97 rfl
  have q71 : gz_OkE M_X7_layWay 0 0 0 97 101 _ := ok_get q70 cl_7 (k := 3) (by decide) in_7 wd_99 dX7_layWay_98
  have q72 : gz_OkE M_X7_layWay 1 0 0 101 102 _ := ok_iconst (v := 0) dX7_layWay_101 kc_i0
  have q73 : gz_OkA M_X7_layWay 0 0 0 105 105 0 _ := ok_a0
  have q74 : gz_OkE M_X7_layWay 0 0 0 105 106 _ := ok_aload_n (i := 0) dX7_layWay_105 rfl
  have q75 : gz_OkA M_X7_layWay 0 0 0 105 106 1 _ := ok_a1 q73 q74
  have q76 : gz_OkE M_X7_layWay 2 0 0 106 107 _ := ok_iload_n (i := 1) dX7_layWay_106 rfl
  have q77 : gz_OkA M_X7_layWay 0 0 0 105 107 2 _ := ok_a1 q75 q76
  have q78 : gz_OkE M_X7_layWay 4 0 0 107 109 _ := ok_iload (i := 4) dX7_layWay_107
  have q79 : gz_OkE M_X7_layWay 5 0 0 109 111 _ := ok_bipush (v := 10) dX7_layWay_109 kc_b10
  have q80 : gz_OkE M_X7_layWay 4 0 0 107 112 _ := ok_irem q78 q79 dX7_layWay_111
  have q81 : gz_OkA M_X7_layWay 0 0 0 105 112 3 _ := ok_a1 q77 q80
  have q82 : gz_OkE M_X7_layWay 6 0 0 112 114 _ := ok_iload (i := 5) dX7_layWay_112
  have q83 : gz_OkE M_X7_layWay 7 0 0 114 116 _ := ok_bipush (v := 10) dX7_layWay_114 kc_b10
  have q84 : gz_OkE M_X7_layWay 6 0 0 112 117 _ := ok_irem q82 q83 dX7_layWay_116
  have q85 : gz_OkA M_X7_layWay 0 0 0 105 117 4 _ := ok_a1 q81 q84
  have q86 : gz_OkE M_X7_layWay 8 0 0 117 118 _ := ok_iconst (v := 0) dX7_layWay_117 kc_i0
  have q87 : gz_OkA M_X7_layWay 0 0 0 105 118 5 _ := ok_a1 q85 q86
  have q88 : gz_OkE M_X7_layWay 10 0 0 118 120 _ := ok_iload (i := 6) dX7_layWay_118
  have q89 : gz_OkE M_X7_layWay 11 0 0 120 122 _ := ok_iload (i := 7) dX7_layWay_120
  have q90 : gz_OkE M_X7_layWay 10 0 0 118 123 _ := ok_iadd q88 q89 dX7_layWay_122
  have q91 : gz_OkA M_X7_layWay 0 0 0 105 123 6 _ := ok_a1 q87 q90
  have q92 : gz_OkE M_X7_layWay 0 0 0 105 126 _ := ok_cv q91 mt_X7_laysStop cl_7 wd_739 wd_183 de_X7_laysStop (by decide) (by decide) wd_740 wd_741 wd_742 dX7_layWay_123 (by decide)
  have q93 : gz_OkJ M_X7_layWay 0 0 0 105 190 129 _ := ok_if_eq q92 dX7_layWay_126 (by decide)
  have q94 : gz_OkA M_X7_layWay 0 0 0 129 129 0 _ := ok_a0
  have q95 : gz_OkE M_X7_layWay 0 0 0 129 130 _ := ok_aload_n (i := 0) dX7_layWay_129 rfl
  have q96 : gz_OkA M_X7_layWay 0 0 0 129 130 1 _ := ok_a1 q94 q95
  have q97 : gz_OkE M_X7_layWay 2 0 0 130 131 _ := ok_iload_n (i := 2) dX7_layWay_130 rfl
  have q98 : gz_OkA M_X7_layWay 0 0 0 129 131 2 _ := ok_a1 q96 q97
  have q99 : gz_OkE M_X7_layWay 4 0 0 131 133 _ := ok_iload (i := 4) dX7_layWay_131
  have q100 : gz_OkE M_X7_layWay 5 0 0 133 135 _ := ok_bipush (v := 10) dX7_layWay_133 kc_b10
  have q101 : gz_OkE M_X7_layWay 4 0 0 131 136 _ := ok_idiv q99 q100 dX7_layWay_135
  have q102 : gz_OkE M_X7_layWay 5 0 0 136 138 _ := ok_bipush (v := 10) dX7_layWay_136 kc_b10
  have q103 : gz_OkE M_X7_layWay 4 0 0 131 139 _ := ok_irem q101 q102 dX7_layWay_138
  have q104 : gz_OkA M_X7_layWay 0 0 0 129 139 3 _ := ok_a1 q98 q103
  have q105 : gz_OkE M_X7_layWay 6 0 0 139 141 _ := ok_iload (i := 5) dX7_layWay_139
  have q106 : gz_OkE M_X7_layWay 7 0 0 141 143 _ := ok_bipush (v := 10) dX7_layWay_141 kc_b10
  have q107 : gz_OkE M_X7_layWay 6 0 0 139 144 _ := ok_idiv q105 q106 dX7_layWay_143
  have q108 : gz_OkE M_X7_layWay 7 0 0 144 146 _ := ok_bipush (v := 10) dX7_layWay_144 kc_b10
  have q109 : gz_OkE M_X7_layWay 6 0 0 139 147 _ := ok_irem q107 q108 dX7_layWay_146
  have q110 : gz_OkA M_X7_layWay 0 0 0 129 147 4 _ := ok_a1 q104 q109
  have q111 : gz_OkE M_X7_layWay 8 0 0 147 149 _ := ok_iload (i := 6) dX7_layWay_147
  have q112 : gz_OkA M_X7_layWay 0 0 0 129 149 5 _ := ok_a1 q110 q111
  have q113 : gz_OkE M_X7_layWay 10 0 0 149 151 _ := ok_iload (i := 7) dX7_layWay_149
  have q114 : gz_OkA M_X7_layWay 0 0 0 129 151 6 _ := ok_a1 q112 q113
  have q115 : gz_OkE M_X7_layWay 0 0 0 129 154 _ := ok_cv q114 mt_X7_laysStop cl_7 wd_739 wd_183 de_X7_laysStop (by decide) (by decide) wd_740 wd_741 wd_742 dX7_layWay_151 (by decide)
  have q116 : gz_OkJ M_X7_layWay 0 0 0 129 190 157 _ := ok_if_eq q115 dX7_layWay_154 (by decide)
  have q117 : gz_OkE M_X7_layWay 0 0 0 157 159 _ := ok_iload (i := 8) dX7_layWay_157
  have q118 : gz_OkJ M_X7_layWay 0 0 0 157 186 162 _ := ok_if_eq q117 dX7_layWay_159 (by decide)
  have q119 : gz_OkA M_X7_layWay 0 0 0 162 162 0 _ := ok_a0
  have q120 : gz_OkE M_X7_layWay 0 0 0 162 163 _ := ok_aload_n (i := 0) dX7_layWay_162 rfl
  have q121 : gz_OkA M_X7_layWay 0 0 0 162 163 1 _ := ok_a1 q119 q120
  have q122 : gz_OkE M_X7_layWay 2 0 0 163 164 _ := ok_iload_n (i := 3) dX7_layWay_163 rfl
  have q123 : gz_OkA M_X7_layWay 0 0 0 162 164 2 _ := ok_a1 q121 q122
  have q124 : gz_OkE M_X7_layWay 4 0 0 164 166 _ := ok_iload (i := 4) dX7_layWay_164
  have q125 : gz_OkE M_X7_layWay 5 0 0 166 168 _ := ok_bipush (v := 100) dX7_layWay_166 kc_b100
  have q126 : gz_OkE M_X7_layWay 4 0 0 164 169 _ := ok_idiv q124 q125 dX7_layWay_168
  have q127 : gz_OkA M_X7_layWay 0 0 0 162 169 3 _ := ok_a1 q123 q126
  have q128 : gz_OkE M_X7_layWay 6 0 0 169 171 _ := ok_iload (i := 5) dX7_layWay_169
  have q129 : gz_OkE M_X7_layWay 7 0 0 171 173 _ := ok_bipush (v := 100) dX7_layWay_171 kc_b100
  have q130 : gz_OkE M_X7_layWay 6 0 0 169 174 _ := ok_idiv q128 q129 dX7_layWay_173
  have q131 : gz_OkA M_X7_layWay 0 0 0 162 174 4 _ := ok_a1 q127 q130
  have q132 : gz_OkE M_X7_layWay 8 0 0 174 176 _ := ok_iload (i := 6) dX7_layWay_174
  have q133 : gz_OkE M_X7_layWay 9 0 0 176 178 _ := ok_iload (i := 7) dX7_layWay_176
  have q134 : gz_OkE M_X7_layWay 8 0 0 174 179 _ := ok_iadd q132 q133 dX7_layWay_178
  have q135 : gz_OkA M_X7_layWay 0 0 0 162 179 5 _ := ok_a1 q131 q134
  have q136 : gz_OkE M_X7_layWay 10 0 0 179 180 _ := ok_iconst (v := 0) dX7_layWay_179 kc_i0
  have q137 : gz_OkA M_X7_layWay 0 0 0 162 180 6 _ := ok_a1 q135 q136
  have q138 : gz_OkE M_X7_layWay 0 0 0 162 183 _ := ok_cv q137 mt_X7_laysStop cl_7 wd_739 wd_183 de_X7_laysStop (by decide) (by decide) wd_740 wd_741 wd_742 dX7_layWay_180 (by decide)
  have q139 : gz_OkJ M_X7_layWay 0 0 0 162 190 186 _ := ok_if_eq q138 dX7_layWay_183 (by decide)
  have q140 : gz_OkJ M_X7_layWay 0 0 0 157 190 186 _ := ok_ja q118 q139
  have q141 : gz_OkJ M_X7_layWay 0 0 0 129 190 186 _ := ok_jo q116 q140
  have q142 : gz_OkJ M_X7_layWay 0 0 0 105 190 186 _ := ok_jo q93 q141
  have q143 : gz_OkE M_X7_layWay 0 0 0 186 187 _ := ok_iconst (v := 1) dX7_layWay_186 kc_i1
  have q144 : gz_OkE M_X7_layWay 0 0 0 186 191 _ := ok_eg q143 dX7_layWay_187 (by decide)
  have q145 : gz_OkE M_X7_layWay 0 0 0 190 191 _ := ok_iconst (v := 0) dX7_layWay_190 kc_i0
  have q146 : gz_OkE M_X7_layWay 0 0 0 105 191 _ := ok_te2 q142 q144 q145
  have q147 : gz_OkS M_X7_layWay 0 0 105 _ := ok_ri q146 dX7_layWay_191
  have q148 : gz_OkS M_X7_layWay 0 0 97 _ := ok_put (ty := .int) q71 q72 cl_6 (k := 5) (by decide) in_6 wd_123 tyX6 tyX6_ok nmX6 rfl rfl dX7_layWay_102 q147
  have q149 : gz_OkE M_X7_layWay 0 0 0 95 96 _ := ok_iconst (v := 0) dX7_layWay_95 kc_i0
  have q150 : gz_OkS M_X7_layWay 0 0 95 _ := ok_ri q149 dX7_layWay_96
  have q151 : gz_OkS M_X7_layWay 0 0 27 _ := ok_if q69 q148 q150
  have q152 : gz_OkS M_X7_layWay 0 0 12 _ := ok_seti (k := 9) q13 dX7_layWay_25 (by decide) q151
  have q153 : gz_OkS M_X7_layWay 0 0 0 _ := ok_seti (k := 8) q7 dX7_layWay_10 (by decide) q152
  have z : gz_OkS M_X7_layWay 0 0 0 sm_X7_layWay := q153
  exact gz_met (plainFor_of_name (by decide)) z (by decide) (by decide)
noncomputable def sm_X7_width : gz_Sx := gz_if (gz_ja (gz_j1 (fun x => decide (¬ x = 0)) (gz_cs se_X7_outside (gz_a1 (gz_a1 (gz_a1 (gz_a0) (gz_li 8)) (gz_i (0))) (gz_i (1))))) (gz_j1 (fun x => decide (¬ x = 0)) (gz_cv 7 9 se_X7_layWay (gz_a1 (gz_a1 (gz_a1 (gz_a1 (gz_a1 (gz_a1 (gz_a1 (gz_a1 (gz_a0) (gz_la 0)) (gz_li 1)) (gz_li 2)) (gz_li 3)) (gz_li 4)) (gz_li 5)) (gz_li 6)) (gz_li 7))))) (gz_ri (gz_cv 6 10 se_X6_passing (gz_a1 (gz_a1 (gz_a0) (gz_get 7 9 3 (gz_la 0))) (gz_li 8)))) (gz_ri (gz_i (-1)))
noncomputable def se_X7_width : gz_Me := gz_sem (some .int) 9 sm_X7_width
abbrev rm_X7_width : Room := { frames := 5, cells := 0, slots := 0, locals := 112 }
abbrev M_X7_width : gz_Mi := (cX7_width, 9, RX7, 5, 112, "width", none)
theorem de_X7_width : yX7_width.cls ≠ "java/lang/invoke/MethodHandle" ∧ yX7_width.cls ≠ "java/lang/invoke/VarHandle" ∧ (parseMethodDescriptor yX7_width.desc).map (fun d => d.parameters.length) = some 8 := by decide +kernel
set_option maxRecDepth 100000 in
theorem mt_X7_width : gz_Mt yX7_width cX7_width 9 (some .int) rm_X7_width se_X7_width := by
  have q1 : gz_OkA M_X7_width 0 0 0 0 0 0 _ := ok_a0
  have q2 : gz_OkE M_X7_width 0 0 0 0 2 _ := ok_iload (i := 8) dX7_width_0
  have q3 : gz_OkA M_X7_width 0 0 0 0 2 1 _ := ok_a1 q1 q2
  have q4 : gz_OkE M_X7_width 2 0 0 2 3 _ := ok_iconst (v := 0) dX7_width_2 kc_i0
  have q5 : gz_OkA M_X7_width 0 0 0 0 3 2 _ := ok_a1 q3 q4
  have q6 : gz_OkE M_X7_width 4 0 0 3 4 _ := ok_iconst (v := 1) dX7_width_3 kc_i1
  have q7 : gz_OkA M_X7_width 0 0 0 0 4 3 _ := ok_a1 q5 q6
  have q8 : gz_OkE M_X7_width 0 0 0 0 7 _ := ok_cs q7 mt_X7_outside wd_601 wd_183 de_X7_outside (by decide) (by decide) wd_602 wd_603 dX7_width_4 (by decide)
  have q9 : gz_OkJ M_X7_width 0 0 0 0 28 10 _ := ok_if_ne q8 dX7_width_7 (by decide)
  have q10 : gz_OkA M_X7_width 0 0 0 10 10 0 _ := ok_a0
  have q11 : gz_OkE M_X7_width 0 0 0 10 11 _ := ok_aload_n (i := 0) dX7_width_10 rfl
  have q12 : gz_OkA M_X7_width 0 0 0 10 11 1 _ := ok_a1 q10 q11
  have q13 : gz_OkE M_X7_width 2 0 0 11 12 _ := ok_iload_n (i := 1) dX7_width_11 rfl
  have q14 : gz_OkA M_X7_width 0 0 0 10 12 2 _ := ok_a1 q12 q13
  have q15 : gz_OkE M_X7_width 4 0 0 12 13 _ := ok_iload_n (i := 2) dX7_width_12 rfl
  have q16 : gz_OkA M_X7_width 0 0 0 10 13 3 _ := ok_a1 q14 q15
  have q17 : gz_OkE M_X7_width 6 0 0 13 14 _ := ok_iload_n (i := 3) dX7_width_13 rfl
  have q18 : gz_OkA M_X7_width 0 0 0 10 14 4 _ := ok_a1 q16 q17
  have q19 : gz_OkE M_X7_width 8 0 0 14 16 _ := ok_iload (i := 4) dX7_width_14
  have q20 : gz_OkA M_X7_width 0 0 0 10 16 5 _ := ok_a1 q18 q19
  have q21 : gz_OkE M_X7_width 10 0 0 16 18 _ := ok_iload (i := 5) dX7_width_16
  have q22 : gz_OkA M_X7_width 0 0 0 10 18 6 _ := ok_a1 q20 q21
  have q23 : gz_OkE M_X7_width 12 0 0 18 20 _ := ok_iload (i := 6) dX7_width_18
  have q24 : gz_OkA M_X7_width 0 0 0 10 20 7 _ := ok_a1 q22 q23
  have q25 : gz_OkE M_X7_width 14 0 0 20 22 _ := ok_iload (i := 7) dX7_width_20
  have q26 : gz_OkA M_X7_width 0 0 0 10 22 8 _ := ok_a1 q24 q25
  have q27 : gz_OkE M_X7_width 0 0 0 10 25 _ := ok_cv q26 mt_X7_layWay cl_7 wd_743 wd_183 de_X7_layWay (by decide) (by decide) wd_744 wd_745 wd_746 dX7_width_22 (by decide)
  have q28 : gz_OkJ M_X7_width 0 0 0 10 30 28 _ := ok_if_ne q27 dX7_width_25 (by decide)
  have q29 : gz_OkJ M_X7_width 0 0 0 0 30 28 _ := ok_ja q9 q28
  have q30 : gz_OkA M_X7_width 0 0 0 30 30 0 _ := ok_a0
  have q31 : gz_OkE M_X7_width 0 0 0 30 31 _ := ok_aload_n (i := 0) dX7_width_30 rfl
  have q32 : gz_OkE M_X7_width 0 0 0 30 34 _ := ok_get q31 cl_7 (k := 3) (by decide) in_7 wd_99 dX7_width_31
  have q33 : gz_OkA M_X7_width 0 0 0 30 34 1 _ := ok_a1 q30 q32
  have q34 : gz_OkE M_X7_width 2 0 0 34 36 _ := ok_iload (i := 8) dX7_width_34
  have q35 : gz_OkA M_X7_width 0 0 0 30 36 2 _ := ok_a1 q33 q34
  have q36 : gz_OkE M_X7_width 0 0 0 30 39 _ := ok_cv q35 mt_X6_passing cl_6 wd_747 wd_559 de_X6_passing (by decide) (by decide) wd_748 wd_749 wd_750 dX7_width_36 (by decide)
  have q37 : gz_OkS M_X7_width 0 0 30 _ := ok_ri q36 dX7_width_39
  have q38 : gz_OkE M_X7_width 0 0 0 28 29 _ := ok_iconst (v := -1) dX7_width_28 kc_im1
  have q39 : gz_OkS M_X7_width 0 0 28 _ := ok_ri q38 dX7_width_29
  have q40 : gz_OkS M_X7_width 0 0 0 _ := ok_if q29 q37 q39
  have z : gz_OkS M_X7_width 0 0 0 sm_X7_width := q40
  exact gz_met (plainFor_of_name (by decide)) z (by decide) (by decide)
noncomputable def sm_X7_wave : gz_Sx := gz_if (gz_ja (gz_j1 (fun x => decide (¬ x = 0)) (gz_cs se_X7_outside (gz_a1 (gz_a1 (gz_a1 (gz_a0) (gz_li 8)) (gz_i (0))) (gz_i (2))))) (gz_j1 (fun x => decide (¬ x = 0)) (gz_cv 7 9 se_X7_layWay (gz_a1 (gz_a1 (gz_a1 (gz_a1 (gz_a1 (gz_a1 (gz_a1 (gz_a1 (gz_a0) (gz_la 0)) (gz_li 1)) (gz_li 2)) (gz_li 3)) (gz_li 4)) (gz_li 5)) (gz_li 6)) (gz_li 7))))) (gz_vv 6 10 se_X6_findBest (gz_a1 (gz_a0) (gz_get 7 9 3 (gz_la 0))) (gz_if (gz_j1 (fun x => decide (¬ x = 0)) (gz_li 8)) (gz_if (gz_j2 (fun x y => decide (¬ x = y)) (gz_li 8) (gz_i (1))) (gz_ri (gz_te (gz_j2 (fun x y => decide (¬ x = y)) (gz_get 6 10 5 (gz_get 7 9 3 (gz_la 0))) (gz_i (3))) (gz_i (-1)) (gz_get 6 10 9 (gz_get 7 9 3 (gz_la 0))))) (gz_ri (gz_get 6 10 8 (gz_get 7 9 3 (gz_la 0))))) (gz_ri (gz_get 6 10 6 (gz_get 7 9 3 (gz_la 0)))))) (gz_ri (gz_i (-1)))
noncomputable def se_X7_wave : gz_Me := gz_sem (some .int) 9 sm_X7_wave
abbrev rm_X7_wave : Room := { frames := 4, cells := 0, slots := 0, locals := 98 }
abbrev M_X7_wave : gz_Mi := (cX7_wave, 9, RX7, 4, 98, "wave", none)
theorem de_X7_wave : yX7_wave.cls ≠ "java/lang/invoke/MethodHandle" ∧ yX7_wave.cls ≠ "java/lang/invoke/VarHandle" ∧ (parseMethodDescriptor yX7_wave.desc).map (fun d => d.parameters.length) = some 8 := by decide +kernel
set_option maxRecDepth 100000 in
theorem mt_X7_wave : gz_Mt yX7_wave cX7_wave 9 (some .int) rm_X7_wave se_X7_wave := by
  have q1 : gz_OkA M_X7_wave 0 0 0 0 0 0 _ := ok_a0
  have q2 : gz_OkE M_X7_wave 0 0 0 0 2 _ := ok_iload (i := 8) dX7_wave_0
  have q3 : gz_OkA M_X7_wave 0 0 0 0 2 1 _ := ok_a1 q1 q2
  have q4 : gz_OkE M_X7_wave 2 0 0 2 3 _ := ok_iconst (v := 0) dX7_wave_2 kc_i0
  have q5 : gz_OkA M_X7_wave 0 0 0 0 3 2 _ := ok_a1 q3 q4
  have q6 : gz_OkE M_X7_wave 4 0 0 3 4 _ := ok_iconst (v := 2) dX7_wave_3 kc_i2
  have q7 : gz_OkA M_X7_wave 0 0 0 0 4 3 _ := ok_a1 q5 q6
  have q8 : gz_OkE M_X7_wave 0 0 0 0 7 _ := ok_cs q7 mt_X7_outside wd_601 wd_183 de_X7_outside (by decide) (by decide) wd_602 wd_603 dX7_wave_4 (by decide)
  have q9 : gz_OkJ M_X7_wave 0 0 0 0 28 10 _ := ok_if_ne q8 dX7_wave_7 (by decide)
  have q10 : gz_OkA M_X7_wave 0 0 0 10 10 0 _ := ok_a0
  have q11 : gz_OkE M_X7_wave 0 0 0 10 11 _ := ok_aload_n (i := 0) dX7_wave_10 rfl
  have q12 : gz_OkA M_X7_wave 0 0 0 10 11 1 _ := ok_a1 q10 q11
  have q13 : gz_OkE M_X7_wave 2 0 0 11 12 _ := ok_iload_n (i := 1) dX7_wave_11 rfl
  have q14 : gz_OkA M_X7_wave 0 0 0 10 12 2 _ := ok_a1 q12 q13
  have q15 : gz_OkE M_X7_wave 4 0 0 12 13 _ := ok_iload_n (i := 2) dX7_wave_12 rfl
  have q16 : gz_OkA M_X7_wave 0 0 0 10 13 3 _ := ok_a1 q14 q15
  have q17 : gz_OkE M_X7_wave 6 0 0 13 14 _ := ok_iload_n (i := 3) dX7_wave_13 rfl
  have q18 : gz_OkA M_X7_wave 0 0 0 10 14 4 _ := ok_a1 q16 q17
  have q19 : gz_OkE M_X7_wave 8 0 0 14 16 _ := ok_iload (i := 4) dX7_wave_14
  have q20 : gz_OkA M_X7_wave 0 0 0 10 16 5 _ := ok_a1 q18 q19
  have q21 : gz_OkE M_X7_wave 10 0 0 16 18 _ := ok_iload (i := 5) dX7_wave_16
  have q22 : gz_OkA M_X7_wave 0 0 0 10 18 6 _ := ok_a1 q20 q21
  have q23 : gz_OkE M_X7_wave 12 0 0 18 20 _ := ok_iload (i := 6) dX7_wave_18
  have q24 : gz_OkA M_X7_wave 0 0 0 10 20 7 _ := ok_a1 q22 q23
  have q25 : gz_OkE M_X7_wave 14 0 0 20 22 _ := ok_iload (i := 7) dX7_wave_20
  have q26 : gz_OkA M_X7_wave 0 0 0 10 22 8 _ := ok_a1 q24 q25
  have q27 : gz_OkE M_X7_wave 0 0 0 10 25 _ := ok_cv q26 mt_X7_layWay cl_7 wd_743 wd_183 de_X7_layWay (by decide) (by decide) wd_744 wd_745 wd_746 dX7_wave_22 (by decide)
  have q28 : gz_OkJ M_X7_wave 0 0 0 10 30 28 _ := ok_if_ne q27 dX7_wave_25 (by decide)
  have q29 : gz_OkJ M_X7_wave 0 0 0 0 30 28 _ := ok_ja q9 q28
  have q30 : gz_OkA M_X7_wave 0 0 0 30 30 0 _ := ok_a0
  have q31 : gz_OkE M_X7_wave 0 0 0 30 31 _ := ok_aload_n (i := 0) dX7_wave_30 rfl
  have q32 : gz_OkE M_X7_wave 0 0 0 30 34 _ := ok_get q31 cl_7 (k := 3) (by decide) in_7 wd_99 dX7_wave_31
  have q33 : gz_OkA M_X7_wave 0 0 0 30 34 1 _ := ok_a1 q30 q32
  have q34 : gz_OkE M_X7_wave 0 0 0 37 39 _ := ok_iload (i := 8) dX7_wave_37
  have q35 : gz_OkJ M_X7_wave 0 0 0 37 50 42 _ := ok_if_ne q34 dX7_wave_39 (by decide)
  have q36 : gz_OkE M_X7_wave 0 0 0 50 52 _ := ok_iload (i := 8) dX7_wave_50
  have q37 : gz_OkE M_X7_wave 1 0 0 52 53 _ := ok_iconst (v := 1) dX7_wave_52 kc_i1
  have q38 : gz_OkJ M_X7_wave 0 0 0 50 64 56 _ := ok_ic_ne q36 q37 dX7_wave_53 (by decide)
  have q39 : gz_OkE M_X7_wave 0 0 0 64 65 _ := ok_aload_n (i := 0) dX7_wave_64 rfl
  have q40 : gz_OkE M_X7_wave 0 0 0 64 68 _ := ok_get q39 cl_7 (k := 3) (by decide) in_7 wd_99 dX7_wave_65
  have q41 : gz_OkE M_X7_wave 0 0 0 64 71 _ := ok_get q40 cl_6 (k := 5) (by decide) in_6 wd_123 dX7_wave_68
  have q42 : gz_OkE M_X7_wave 1 0 0 71 72 _ := ok_iconst (v := 3) dX7_wave_71 kc_i3
  have q43 : gz_OkJ M_X7_wave 0 0 0 64 85 75 _ := ok_ic_ne q41 q42 dX7_wave_72 (by decide)
  have q44 : gz_OkE M_X7_wave 0 0 0 75 76 _ := ok_aload_n (i := 0) dX7_wave_75 rfl
  have q45 : gz_OkE M_X7_wave 0 0 0 75 79 _ := ok_get q44 cl_7 (k := 3) (by decide) in_7 wd_99 dX7_wave_76
  have q46 : gz_OkE M_X7_wave 0 0 0 75 82 _ := ok_get q45 cl_6 (k := 9) (by decide) in_6 wd_124 dX7_wave_79
  have q47 : gz_OkE M_X7_wave 0 0 0 75 86 _ := ok_eg q46 dX7_wave_82 (by decide)
  have q48 : gz_OkE M_X7_wave 0 0 0 85 86 _ := ok_iconst (v := -1) dX7_wave_85 kc_im1
  have q49 : gz_OkE M_X7_wave 0 0 0 64 86 _ := ok_te2 q43 q47 q48
  have q50 : gz_OkS M_X7_wave 0 0 64 _ := ok_ri q49 dX7_wave_86
  have q51 : gz_OkE M_X7_wave 0 0 0 56 57 _ := ok_aload_n (i := 0) dX7_wave_56 rfl
  have q52 : gz_OkE M_X7_wave 0 0 0 56 60 _ := ok_get q51 cl_7 (k := 3) (by decide) in_7 wd_99 dX7_wave_57
  have q53 : gz_OkE M_X7_wave 0 0 0 56 63 _ := ok_get q52 cl_6 (k := 8) (by decide) in_6 wd_122 dX7_wave_60
  have q54 : gz_OkS M_X7_wave 0 0 56 _ := ok_ri q53 dX7_wave_63
  have q55 : gz_OkS M_X7_wave 0 0 50 _ := ok_if q38 q50 q54
  have q56 : gz_OkE M_X7_wave 0 0 0 42 43 _ := ok_aload_n (i := 0) dX7_wave_42 rfl
  have q57 : gz_OkE M_X7_wave 0 0 0 42 46 _ := ok_get q56 cl_7 (k := 3) (by decide) in_7 wd_99 dX7_wave_43
  have q58 : gz_OkE M_X7_wave 0 0 0 42 49 _ := ok_get q57 cl_6 (k := 6) (by decide) in_6 wd_121 dX7_wave_46
  have q59 : gz_OkS M_X7_wave 0 0 42 _ := ok_ri q58 dX7_wave_49
  have q60 : gz_OkS M_X7_wave 0 0 37 _ := ok_if q35 q55 q59
  have q61 : gz_OkS M_X7_wave 0 0 30 _ := ok_vv q33 mt_X6_findBest cl_6 wd_751 wd_559 de_X6_findBest (by decide) (by decide) wd_752 wd_753 wd_754 dX7_wave_34 q60
  have q62 : gz_OkE M_X7_wave 0 0 0 28 29 _ := ok_iconst (v := -1) dX7_wave_28 kc_im1
  have q63 : gz_OkS M_X7_wave 0 0 28 _ := ok_ri q62 dX7_wave_29
  have q64 : gz_OkS M_X7_wave 0 0 0 _ := ok_if q29 q61 q63
  have z : gz_OkS M_X7_wave 0 0 0 sm_X7_wave := q64
  exact gz_met (plainFor_of_name (by decide)) z (by decide) (by decide)
noncomputable def sm_X7_check : gz_Sx := gz_seta 4 (gz_cv 7 9 se_X7_junctionAt (gz_a1 (gz_a1 (gz_a0) (gz_la 0)) (gz_li 1))) (gz_if (gz_jk (gz_la 4)) (gz_seti 5 (gz_cs se_J9_max_7cf53 (gz_a1 (gz_a1 (gz_a0) (gz_i (0))) (gz_ib (fun x y => x - y) (gz_get 7 9 5 (gz_la 0)) (gz_i (200))))) (gz_if (gz_j2 (fun x y => decide (¬ x = y)) (gz_li 3) (gz_i (-1))) (gz_if (gz_ja (gz_jn (gz_cv 1 11 se_X1_member (gz_a1 (gz_a1 (gz_a0) (gz_la 4)) (gz_li 2)))) (gz_j1 (fun x => decide (x = 0)) (gz_cs se_X7_outside (gz_a1 (gz_a1 (gz_a1 (gz_a0) (gz_li 3)) (gz_li 5)) (gz_ib (fun x y => x - y) (gz_get 7 9 5 (gz_la 0)) (gz_i (1))))))) (gz_ri (gz_cv 5 3 se_X5_firstClashRead (gz_a1 (gz_a1 (gz_a1 (gz_a1 (gz_a1 (gz_a1 (gz_a0) (gz_get 7 9 1 (gz_la 0))) (gz_la 4)) (gz_li 5)) (gz_get 7 9 5 (gz_la 0))) (gz_li 3)) (gz_ib (fun x y => x <<< (y &&& 31)) (gz_i (1)) (gz_li 2))))) (gz_ri (gz_i (-2)))) (gz_ri (gz_cv 5 3 se_X5_firstClashRead (gz_a1 (gz_a1 (gz_a1 (gz_a1 (gz_a1 (gz_a1 (gz_a0) (gz_get 7 9 1 (gz_la 0))) (gz_la 4)) (gz_li 5)) (gz_get 7 9 5 (gz_la 0))) (gz_i (-1))) (gz_i (0))))))) (gz_ri (gz_i (-2))))
noncomputable def se_X7_check : gz_Me := gz_sem (some .int) 6 sm_X7_check
abbrev rm_X7_check : Room := { frames := 3, cells := 0, slots := 0, locals := 73 }
abbrev M_X7_check : gz_Mi := (cX7_check, 6, RX7, 3, 73, "check", none)
theorem de_X7_check : yX7_check.cls ≠ "java/lang/invoke/MethodHandle" ∧ yX7_check.cls ≠ "java/lang/invoke/VarHandle" ∧ (parseMethodDescriptor yX7_check.desc).map (fun d => d.parameters.length) = some 3 := by decide +kernel
set_option maxRecDepth 100000 in
theorem mt_X7_check : gz_Mt yX7_check cX7_check 6 (some .int) rm_X7_check se_X7_check := by
  have q1 : gz_OkA M_X7_check 0 0 0 0 0 0 _ := ok_a0
  have q2 : gz_OkE M_X7_check 0 0 0 0 1 _ := ok_aload_n (i := 0) dX7_check_0 rfl
  have q3 : gz_OkA M_X7_check 0 0 0 0 1 1 _ := ok_a1 q1 q2
  have q4 : gz_OkE M_X7_check 2 0 0 1 2 _ := ok_iload_n (i := 1) dX7_check_1 rfl
  have q5 : gz_OkA M_X7_check 0 0 0 0 2 2 _ := ok_a1 q3 q4
  have q6 : gz_OkE M_X7_check 0 0 0 0 5 _ := ok_cv q5 mt_X7_junctionAt cl_7 wd_604 wd_183 de_X7_junctionAt (by decide) (by decide) wd_605 wd_606 wd_607 dX7_check_2 (by decide)
  have q7 : gz_OkE M_X7_check 0 0 0 7 9 _ := ok_aload (i := 4) dX7_check_7
  have q8 : gz_OkJ M_X7_check 0 0 0 7 15 12 _ := ok_jk q7 dX7_check_9 (by decide)
  have q9 : gz_OkA M_X7_check 0 0 0 15 15 0 _ := ok_a0
  have q10 : gz_OkE M_X7_check 0 0 0 15 16 _ := ok_iconst (v := 0) dX7_check_15 kc_i0
  have q11 : gz_OkA M_X7_check 0 0 0 15 16 1 _ := ok_a1 q9 q10
  have q12 : gz_OkE M_X7_check 2 0 0 16 17 _ := ok_aload_n (i := 0) dX7_check_16 rfl
  have q13 : gz_OkE M_X7_check 2 0 0 16 20 _ := ok_get q12 cl_7 (k := 5) (by decide) in_7 wd_104 dX7_check_17
  have q14 : gz_OkE M_X7_check 3 0 0 20 23 _ := ok_sipush (v := 200) dX7_check_20 kc_s200
  have q15 : gz_OkE M_X7_check 2 0 0 16 24 _ := ok_isub q13 q14 dX7_check_23
  have q16 : gz_OkA M_X7_check 0 0 0 15 24 2 _ := ok_a1 q11 q15
  have q17 : gz_OkE M_X7_check 0 0 0 15 27 _ := ok_cs q16 mt_J9_max_7cf53 wd_418 wd_411 de_J9_max_7cf53 (by decide) (by decide) wd_755 wd_420 dX7_check_24 (by decide)
  have q18 : gz_OkE M_X7_check 0 0 0 29 30 _ := ok_iload_n (i := 3) dX7_check_29 rfl
  have q19 : gz_OkE M_X7_check 1 0 0 30 31 _ := ok_iconst (v := -1) dX7_check_30 kc_im1
  have q20 : gz_OkJ M_X7_check 0 0 0 29 52 34 _ := ok_ic_ne q18 q19 dX7_check_31 (by decide)
  have q21 : gz_OkA M_X7_check 0 0 0 52 52 0 _ := ok_a0
  have q22 : gz_OkE M_X7_check 0 0 0 52 54 _ := ok_aload (i := 4) dX7_check_52
  have q23 : gz_OkA M_X7_check 0 0 0 52 54 1 _ := ok_a1 q21 q22
  have q24 : gz_OkE M_X7_check 2 0 0 54 55 _ := ok_iload_n (i := 2) dX7_check_54 rfl
  have q25 : gz_OkA M_X7_check 0 0 0 52 55 2 _ := ok_a1 q23 q24
  have q26 : gz_OkE M_X7_check 0 0 0 52 58 _ := ok_cv q25 mt_X1_member cl_1 wd_457 wd_458 de_X1_member (by decide) (by decide) wd_621 wd_460 wd_461 dX7_check_55 (by decide)
  have q27 : gz_OkJ M_X7_check 0 0 0 52 76 61 _ := ok_jn q26 dX7_check_58 (by decide)
  have q28 : gz_OkA M_X7_check 0 0 0 61 61 0 _ := ok_a0
  have q29 : gz_OkE M_X7_check 0 0 0 61 62 _ := ok_iload_n (i := 3) dX7_check_61 rfl
  have q30 : gz_OkA M_X7_check 0 0 0 61 62 1 _ := ok_a1 q28 q29
  have q31 : gz_OkE M_X7_check 2 0 0 62 64 _ := ok_iload (i := 5) dX7_check_62
  have q32 : gz_OkA M_X7_check 0 0 0 61 64 2 _ := ok_a1 q30 q31
  have q33 : gz_OkE M_X7_check 4 0 0 64 65 _ := ok_aload_n (i := 0) dX7_check_64 rfl
  have q34 : gz_OkE M_X7_check 4 0 0 64 68 _ := ok_get q33 cl_7 (k := 5) (by decide) in_7 wd_104 dX7_check_65
  have q35 : gz_OkE M_X7_check 5 0 0 68 69 _ := ok_iconst (v := 1) dX7_check_68 kc_i1
  have q36 : gz_OkE M_X7_check 4 0 0 64 70 _ := ok_isub q34 q35 dX7_check_69
  have q37 : gz_OkA M_X7_check 0 0 0 61 70 3 _ := ok_a1 q32 q36
  have q38 : gz_OkE M_X7_check 0 0 0 61 73 _ := ok_cs q37 mt_X7_outside wd_601 wd_183 de_X7_outside (by decide) (by decide) wd_602 wd_603 dX7_check_70 (by decide)
  have q39 : gz_OkJ M_X7_check 0 0 0 61 79 76 _ := ok_if_eq q38 dX7_check_73 (by decide)
  have q40 : gz_OkJ M_X7_check 0 0 0 52 79 76 _ := ok_ja q27 q39
  have q41 : gz_OkA M_X7_check 0 0 0 79 79 0 _ := ok_a0
  have q42 : gz_OkE M_X7_check 0 0 0 79 80 _ := ok_aload_n (i := 0) dX7_check_79 rfl
  have q43 : gz_OkE M_X7_check 0 0 0 79 83 _ := ok_get q42 cl_7 (k := 1) (by decide) in_7 wd_97 dX7_check_80
  have q44 : gz_OkA M_X7_check 0 0 0 79 83 1 _ := ok_a1 q41 q43
  have q45 : gz_OkE M_X7_check 2 0 0 83 85 _ := ok_aload (i := 4) dX7_check_83
  have q46 : gz_OkA M_X7_check 0 0 0 79 85 2 _ := ok_a1 q44 q45
  have q47 : gz_OkE M_X7_check 4 0 0 85 87 _ := ok_iload (i := 5) dX7_check_85
  have q48 : gz_OkA M_X7_check 0 0 0 79 87 3 _ := ok_a1 q46 q47
  have q49 : gz_OkE M_X7_check 6 0 0 87 88 _ := ok_aload_n (i := 0) dX7_check_87 rfl
  have q50 : gz_OkE M_X7_check 6 0 0 87 91 _ := ok_get q49 cl_7 (k := 5) (by decide) in_7 wd_104 dX7_check_88
  have q51 : gz_OkA M_X7_check 0 0 0 79 91 4 _ := ok_a1 q48 q50
  have q52 : gz_OkE M_X7_check 8 0 0 91 92 _ := ok_iload_n (i := 3) dX7_check_91 rfl
  have q53 : gz_OkA M_X7_check 0 0 0 79 92 5 _ := ok_a1 q51 q52
  have q54 : gz_OkE M_X7_check 10 0 0 92 93 _ := ok_iconst (v := 1) dX7_check_92 kc_i1
  have q55 : gz_OkE M_X7_check 11 0 0 93 94 _ := ok_iload_n (i := 2) dX7_check_93 rfl
  have q56 : gz_OkE M_X7_check 10 0 0 92 95 _ := ok_ishl q54 q55 dX7_check_94
  have q57 : gz_OkA M_X7_check 0 0 0 79 95 6 _ := ok_a1 q53 q56
  have q58 : gz_OkE M_X7_check 0 0 0 79 98 _ := ok_cv q57 mt_X5_firstClashRead cl_5 wd_756 wd_537 de_X5_firstClashRead (by decide) (by decide) wd_757 wd_758 wd_759 dX7_check_95 (by decide)
  have q59 : gz_OkS M_X7_check 0 0 79 _ := ok_ri q58 dX7_check_98
  have q60 : gz_OkE M_X7_check 0 0 0 76 78 _ := ok_bipush (v := -2) dX7_check_76 kc_bm2
  have q61 : gz_OkS M_X7_check 0 0 76 _ := ok_ri q60 dX7_check_78
  have q62 : gz_OkS M_X7_check 0 0 52 _ := ok_if q40 q59 q61
  have q63 : gz_OkA M_X7_check 0 0 0 34 34 0 _ := ok_a0
  have q64 : gz_OkE M_X7_check 0 0 0 34 35 _ := ok_aload_n (i := 0) dX7_check_34 rfl
  have q65 : gz_OkE M_X7_check 0 0 0 34 38 _ := ok_get q64 cl_7 (k := 1) (by decide) in_7 wd_97 dX7_check_35
  have q66 : gz_OkA M_X7_check 0 0 0 34 38 1 _ := ok_a1 q63 q65
  have q67 : gz_OkE M_X7_check 2 0 0 38 40 _ := ok_aload (i := 4) dX7_check_38
  have q68 : gz_OkA M_X7_check 0 0 0 34 40 2 _ := ok_a1 q66 q67
  have q69 : gz_OkE M_X7_check 4 0 0 40 42 _ := ok_iload (i := 5) dX7_check_40
  have q70 : gz_OkA M_X7_check 0 0 0 34 42 3 _ := ok_a1 q68 q69
  have q71 : gz_OkE M_X7_check 6 0 0 42 43 _ := ok_aload_n (i := 0) dX7_check_42 rfl
  have q72 : gz_OkE M_X7_check 6 0 0 42 46 _ := ok_get q71 cl_7 (k := 5) (by decide) in_7 wd_104 dX7_check_43
  have q73 : gz_OkA M_X7_check 0 0 0 34 46 4 _ := ok_a1 q70 q72
  have q74 : gz_OkE M_X7_check 8 0 0 46 47 _ := ok_iconst (v := -1) dX7_check_46 kc_im1
  have q75 : gz_OkA M_X7_check 0 0 0 34 47 5 _ := ok_a1 q73 q74
  have q76 : gz_OkE M_X7_check 10 0 0 47 48 _ := ok_iconst (v := 0) dX7_check_47 kc_i0
  have q77 : gz_OkA M_X7_check 0 0 0 34 48 6 _ := ok_a1 q75 q76
  have q78 : gz_OkE M_X7_check 0 0 0 34 51 _ := ok_cv q77 mt_X5_firstClashRead cl_5 wd_756 wd_537 de_X5_firstClashRead (by decide) (by decide) wd_757 wd_758 wd_759 dX7_check_48 (by decide)
  have q79 : gz_OkS M_X7_check 0 0 34 _ := ok_ri q78 dX7_check_51
  have q80 : gz_OkS M_X7_check 0 0 29 _ := ok_if q20 q62 q79
  have q81 : gz_OkS M_X7_check 0 0 15 _ := ok_seti (k := 5) q17 dX7_check_27 (by decide) q80
  have q82 : gz_OkE M_X7_check 0 0 0 12 14 _ := ok_bipush (v := -2) dX7_check_12 kc_bm2
  have q83 : gz_OkS M_X7_check 0 0 12 _ := ok_ri q82 dX7_check_14
  have q84 : gz_OkS M_X7_check 0 0 7 _ := ok_if q8 q81 q83
  have q85 : gz_OkS M_X7_check 0 0 0 _ := ok_seta (k := 4) q6 dX7_check_5 (by decide) q84
  have z : gz_OkS M_X7_check 0 0 0 sm_X7_check := q85
  exact gz_met (plainFor_of_name (by decide)) z (by decide) (by decide)
noncomputable def sm_X8_init : gz_Sx := gz_sup (gz_la 0) (gz_put 8 48 2 (.array .int) (gz_la 0) (gz_nar 100 (.int 0) (gz_i (8)) 8) (gz_put 8 48 3 (.array .int) (gz_la 0) (gz_nar 100 (.int 0) (gz_i (64)) 64) (gz_put 8 48 4 (.array .int) (gz_la 0) (gz_nar 100 (.int 0) (gz_i (64)) 64) (gz_put 8 48 5 (.array .int) (gz_la 0) (gz_nar 100 (.int 0) (gz_i (64)) 64) (gz_put 8 48 6 (.array .int) (gz_la 0) (gz_nar 100 (.int 0) (gz_i (64)) 64) (gz_put 8 48 7 (.array .int) (gz_la 0) (gz_nar 100 (.int 0) (gz_i (512)) 512) (gz_put 8 48 8 (.array .boolean) (gz_la 0) (gz_nar 101 (.int 0) (gz_i (512)) 512) (gz_put 8 48 9 (.array .boolean) (gz_la 0) (gz_nar 101 (.int 0) (gz_i (16)) 16) (gz_put 8 48 10 (.array .int) (gz_la 0) (gz_nar 100 (.int 0) (gz_i (16)) 16) (gz_put 8 48 11 (.array .int) (gz_la 0) (gz_nar 100 (.int 0) (gz_i (16)) 16) (gz_put 8 48 12 (.array .int) (gz_la 0) (gz_nar 100 (.int 0) (gz_i (64)) 64) (gz_put 8 48 13 (.array .int) (gz_la 0) (gz_nar 100 (.int 0) (gz_i (64)) 64) (gz_put 8 48 14 (.array .int) (gz_la 0) (gz_nar 100 (.int 0) (gz_i (16)) 16) (gz_put 8 48 15 (.array .int) (gz_la 0) (gz_nar 100 (.int 0) (gz_i (8)) 8) (gz_put 8 48 16 (.array .int) (gz_la 0) (gz_nar 100 (.int 0) (gz_i (8)) 8) (gz_put 8 48 17 (.array .boolean) (gz_la 0) (gz_nar 101 (.int 0) (gz_i (8)) 8) (gz_put 8 48 19 .int (gz_la 0) (gz_i (-1)) (gz_put 8 48 20 .int (gz_la 0) (gz_i (-1)) (gz_put 8 48 21 .int (gz_la 0) (gz_i (-1)) (gz_put 8 48 22 (.array .int) (gz_la 0) (gz_nar 100 (.int 0) (gz_i (1440)) 1440) (gz_put 8 48 23 (.array .int) (gz_la 0) (gz_nar 100 (.int 0) (gz_i (1440)) 1440) (gz_put 8 48 24 (.array .int) (gz_la 0) (gz_nar 100 (.int 0) (gz_i (16)) 16) (gz_put 8 48 25 (.array .int) (gz_la 0) (gz_nar 100 (.int 0) (gz_i (4)) 4) (gz_put 8 48 26 (.array .int) (gz_la 0) (gz_nar 100 (.int 0) (gz_i (4)) 4) (gz_put 8 48 29 (.array .boolean) (gz_la 0) (gz_nar 101 (.int 0) (gz_i (64)) 64) (gz_put 8 48 30 (.array .int) (gz_la 0) (gz_nar 100 (.int 0) (gz_i (64)) 64) (gz_put 8 48 31 (.array .int) (gz_la 0) (gz_nar 100 (.int 0) (gz_i (64)) 64) (gz_put 8 48 32 (.array .int) (gz_la 0) (gz_nar 100 (.int 0) (gz_i (64)) 64) (gz_put 8 48 33 (.array .int) (gz_la 0) (gz_nar 100 (.int 0) (gz_i (64)) 64) (gz_put 8 48 34 (.array .int) (gz_la 0) (gz_nar 100 (.int 0) (gz_i (3840)) 3840) (gz_put 8 48 35 (.array .int) (gz_la 0) (gz_nar 100 (.int 0) (gz_i (64)) 64) (gz_put 8 48 36 (.array .int) (gz_la 0) (gz_nar 100 (.int 0) (gz_i (64)) 64) (gz_put 8 48 37 (.array .long) (gz_la 0) (gz_nar 102 (.long 0) (gz_i (64)) 64) (gz_put 8 48 38 (.array .long) (gz_la 0) (gz_nar 102 (.long 0) (gz_i (64)) 64) (gz_put 8 48 39 (.array .long) (gz_la 0) (gz_nar 102 (.long 0) (gz_i (64)) 64) (gz_put 8 48 40 (.array .long) (gz_la 0) (gz_nar 102 (.long 0) (gz_i (64)) 64) (gz_put 8 48 41 (.array .long) (gz_la 0) (gz_nar 102 (.long 0) (gz_i (64)) 64) (gz_put 8 48 42 (.array .long) (gz_la 0) (gz_nar 102 (.long 0) (gz_i (64)) 64) (gz_put 8 48 43 (.array .boolean) (gz_la 0) (gz_nar 101 (.int 0) (gz_i (64)) 64) (gz_put 8 48 44 (.array .int) (gz_la 0) (gz_nar 100 (.int 0) (gz_i (1600)) 1600) (gz_put 8 48 45 (.array .int) (gz_la 0) (gz_nar 100 (.int 0) (gz_i (3)) 3) (gz_put 8 48 46 (.array .int) (gz_la 0) (gz_nar 100 (.int 0) (gz_i (3)) 3) (gz_rv)))))))))))))))))))))))))))))))))))))))))))
noncomputable def se_X8_init : gz_Me := gz_sem none 1 sm_X8_init
abbrev rm_X8_init : Room := { frames := 1, cells := 39, slots := 10750, locals := 12 }
abbrev M_X8_init : gz_Mi := (cX8_init, 1, RX8, 1, 12, "<init>", none)
theorem de_X8_init : yX8_init.cls ≠ "java/lang/invoke/MethodHandle" ∧ yX8_init.cls ≠ "java/lang/invoke/VarHandle" ∧ (parseMethodDescriptor yX8_init.desc).map (fun d => d.parameters.length) = some 0 := by decide +kernel
set_option maxRecDepth 100000 in
theorem mt_X8_init : gz_Mt yX8_init cX8_init 1 none rm_X8_init se_X8_init := by
  have q1 : gz_OkE M_X8_init 0 0 0 0 1 _ := ok_aload_n (i := 0) dX8_init_0 rfl
  have q2 : gz_OkE M_X8_init 0 0 0 4 5 _ := ok_aload_n (i := 0) dX8_init_4 rfl
  have q3 : gz_OkE M_X8_init 1 0 0 5 7 _ := ok_bipush (v := 8) dX8_init_5 kc_b8
  have q4 : gz_OkE M_X8_init 1 1 8 5 9 _ := ok_newI (n := 8) q3 wd_0 (by decide) dX8_init_7
  have q5 : gz_OkE M_X8_init 0 0 0 12 13 _ := ok_aload_n (i := 0) dX8_init_12 rfl
  have q6 : gz_OkE M_X8_init 1 0 0 13 15 _ := ok_bipush (v := 64) dX8_init_13 kc_b64
  have q7 : gz_OkE M_X8_init 1 1 64 13 17 _ := ok_newI (n := 64) q6 wd_0 (by decide) dX8_init_15
  have q8 : gz_OkE M_X8_init 0 0 0 20 21 _ := ok_aload_n (i := 0) dX8_init_20 rfl
  have q9 : gz_OkE M_X8_init 1 0 0 21 23 _ := ok_bipush (v := 64) dX8_init_21 kc_b64
  have q10 : gz_OkE M_X8_init 1 1 64 21 25 _ := ok_newI (n := 64) q9 wd_0 (by decide) dX8_init_23
  have q11 : gz_OkE M_X8_init 0 0 0 28 29 _ := ok_aload_n (i := 0) dX8_init_28 rfl
  have q12 : gz_OkE M_X8_init 1 0 0 29 31 _ := ok_bipush (v := 64) dX8_init_29 kc_b64
  have q13 : gz_OkE M_X8_init 1 1 64 29 33 _ := ok_newI (n := 64) q12 wd_0 (by decide) dX8_init_31
  have q14 : gz_OkE M_X8_init 0 0 0 36 37 _ := ok_aload_n (i := 0) dX8_init_36 rfl
  have q15 : gz_OkE M_X8_init 1 0 0 37 39 _ := ok_bipush (v := 64) dX8_init_37 kc_b64
  have q16 : gz_OkE M_X8_init 1 1 64 37 41 _ := ok_newI (n := 64) q15 wd_0 (by decide) dX8_init_39
  have q17 : gz_OkE M_X8_init 0 0 0 44 45 _ := ok_aload_n (i := 0) dX8_init_44 rfl
  have q18 : gz_OkE M_X8_init 1 0 0 45 48 _ := ok_sipush (v := 512) dX8_init_45 kc_s512
  have q19 : gz_OkE M_X8_init 1 1 512 45 50 _ := ok_newI (n := 512) q18 wd_0 (by decide) dX8_init_48
  have q20 : gz_OkE M_X8_init 0 0 0 53 54 _ := ok_aload_n (i := 0) dX8_init_53 rfl
  have q21 : gz_OkE M_X8_init 1 0 0 54 57 _ := ok_sipush (v := 512) dX8_init_54 kc_s512
  have q22 : gz_OkE M_X8_init 1 1 512 54 59 _ := ok_newZ (n := 512) q21 wd_61 (by decide) dX8_init_57
  have q23 : gz_OkE M_X8_init 0 0 0 62 63 _ := ok_aload_n (i := 0) dX8_init_62 rfl
  have q24 : gz_OkE M_X8_init 1 0 0 63 65 _ := ok_bipush (v := 16) dX8_init_63 kc_b16
  have q25 : gz_OkE M_X8_init 1 1 16 63 67 _ := ok_newZ (n := 16) q24 wd_61 (by decide) dX8_init_65
  have q26 : gz_OkE M_X8_init 0 0 0 70 71 _ := ok_aload_n (i := 0) dX8_init_70 rfl
  have q27 : gz_OkE M_X8_init 1 0 0 71 73 _ := ok_bipush (v := 16) dX8_init_71 kc_b16
  have q28 : gz_OkE M_X8_init 1 1 16 71 75 _ := ok_newI (n := 16) q27 wd_0 (by decide) dX8_init_73
  have q29 : gz_OkE M_X8_init 0 0 0 78 79 _ := ok_aload_n (i := 0) dX8_init_78 rfl
  have q30 : gz_OkE M_X8_init 1 0 0 79 81 _ := ok_bipush (v := 16) dX8_init_79 kc_b16
  have q31 : gz_OkE M_X8_init 1 1 16 79 83 _ := ok_newI (n := 16) q30 wd_0 (by decide) dX8_init_81
  have q32 : gz_OkE M_X8_init 0 0 0 86 87 _ := ok_aload_n (i := 0) dX8_init_86 rfl
  have q33 : gz_OkE M_X8_init 1 0 0 87 89 _ := ok_bipush (v := 64) dX8_init_87 kc_b64
  have q34 : gz_OkE M_X8_init 1 1 64 87 91 _ := ok_newI (n := 64) q33 wd_0 (by decide) dX8_init_89
  have q35 : gz_OkE M_X8_init 0 0 0 94 95 _ := ok_aload_n (i := 0) dX8_init_94 rfl
  have q36 : gz_OkE M_X8_init 1 0 0 95 97 _ := ok_bipush (v := 64) dX8_init_95 kc_b64
  have q37 : gz_OkE M_X8_init 1 1 64 95 99 _ := ok_newI (n := 64) q36 wd_0 (by decide) dX8_init_97
  have q38 : gz_OkE M_X8_init 0 0 0 102 103 _ := ok_aload_n (i := 0) dX8_init_102 rfl
  have q39 : gz_OkE M_X8_init 1 0 0 103 105 _ := ok_bipush (v := 16) dX8_init_103 kc_b16
  have q40 : gz_OkE M_X8_init 1 1 16 103 107 _ := ok_newI (n := 16) q39 wd_0 (by decide) dX8_init_105
  have q41 : gz_OkE M_X8_init 0 0 0 110 111 _ := ok_aload_n (i := 0) dX8_init_110 rfl
  have q42 : gz_OkE M_X8_init 1 0 0 111 113 _ := ok_bipush (v := 8) dX8_init_111 kc_b8
  have q43 : gz_OkE M_X8_init 1 1 8 111 115 _ := ok_newI (n := 8) q42 wd_0 (by decide) dX8_init_113
  have q44 : gz_OkE M_X8_init 0 0 0 118 119 _ := ok_aload_n (i := 0) dX8_init_118 rfl
  have q45 : gz_OkE M_X8_init 1 0 0 119 121 _ := ok_bipush (v := 8) dX8_init_119 kc_b8
  have q46 : gz_OkE M_X8_init 1 1 8 119 123 _ := ok_newI (n := 8) q45 wd_0 (by decide) dX8_init_121
  have q47 : gz_OkE M_X8_init 0 0 0 126 127 _ := ok_aload_n (i := 0) dX8_init_126 rfl
  have q48 : gz_OkE M_X8_init 1 0 0 127 129 _ := ok_bipush (v := 8) dX8_init_127 kc_b8
  have q49 : gz_OkE M_X8_init 1 1 8 127 131 _ := ok_newZ (n := 8) q48 wd_61 (by decide) dX8_init_129
  have q50 : gz_OkE M_X8_init 0 0 0 134 135 _ := ok_aload_n (i := 0) dX8_init_134 rfl
  have q51 : gz_OkE M_X8_init 1 0 0 135 136 _ := ok_iconst (v := -1) dX8_init_135 kc_im1
  have q52 : gz_OkE M_X8_init 0 0 0 139 140 _ := ok_aload_n (i := 0) dX8_init_139 rfl
  have q53 : gz_OkE M_X8_init 1 0 0 140 141 _ := ok_iconst (v := -1) dX8_init_140 kc_im1
  have q54 : gz_OkE M_X8_init 0 0 0 144 145 _ := ok_aload_n (i := 0) dX8_init_144 rfl
  have q55 : gz_OkE M_X8_init 1 0 0 145 146 _ := ok_iconst (v := -1) dX8_init_145 kc_im1
  have q56 : gz_OkE M_X8_init 0 0 0 149 150 _ := ok_aload_n (i := 0) dX8_init_149 rfl
  have q57 : gz_OkE M_X8_init 1 0 0 150 153 _ := ok_sipush (v := 1440) dX8_init_150 kc_s1440
  have q58 : gz_OkE M_X8_init 1 1 1440 150 155 _ := ok_newI (n := 1440) q57 wd_0 (by decide) dX8_init_153
  have q59 : gz_OkE M_X8_init 0 0 0 158 159 _ := ok_aload_n (i := 0) dX8_init_158 rfl
  have q60 : gz_OkE M_X8_init 1 0 0 159 162 _ := ok_sipush (v := 1440) dX8_init_159 kc_s1440
  have q61 : gz_OkE M_X8_init 1 1 1440 159 164 _ := ok_newI (n := 1440) q60 wd_0 (by decide) dX8_init_162
  have q62 : gz_OkE M_X8_init 0 0 0 167 168 _ := ok_aload_n (i := 0) dX8_init_167 rfl
  have q63 : gz_OkE M_X8_init 1 0 0 168 170 _ := ok_bipush (v := 16) dX8_init_168 kc_b16
  have q64 : gz_OkE M_X8_init 1 1 16 168 172 _ := ok_newI (n := 16) q63 wd_0 (by decide) dX8_init_170
  have q65 : gz_OkE M_X8_init 0 0 0 175 176 _ := ok_aload_n (i := 0) dX8_init_175 rfl
  have q66 : gz_OkE M_X8_init 1 0 0 176 177 _ := ok_iconst (v := 4) dX8_init_176 kc_i4
  have q67 : gz_OkE M_X8_init 1 1 4 176 179 _ := ok_newI (n := 4) q66 wd_0 (by decide) dX8_init_177
  have q68 : gz_OkE M_X8_init 0 0 0 182 183 _ := ok_aload_n (i := 0) dX8_init_182 rfl
  have q69 : gz_OkE M_X8_init 1 0 0 183 184 _ := ok_iconst (v := 4) dX8_init_183 kc_i4
  have q70 : gz_OkE M_X8_init 1 1 4 183 186 _ := ok_newI (n := 4) q69 wd_0 (by decide) dX8_init_184
  have q71 : gz_OkE M_X8_init 0 0 0 189 190 _ := ok_aload_n (i := 0) dX8_init_189 rfl
  have q72 : gz_OkE M_X8_init 1 0 0 190 192 _ := ok_bipush (v := 64) dX8_init_190 kc_b64
  have q73 : gz_OkE M_X8_init 1 1 64 190 194 _ := ok_newZ (n := 64) q72 wd_61 (by decide) dX8_init_192
  have q74 : gz_OkE M_X8_init 0 0 0 197 198 _ := ok_aload_n (i := 0) dX8_init_197 rfl
  have q75 : gz_OkE M_X8_init 1 0 0 198 200 _ := ok_bipush (v := 64) dX8_init_198 kc_b64
  have q76 : gz_OkE M_X8_init 1 1 64 198 202 _ := ok_newI (n := 64) q75 wd_0 (by decide) dX8_init_200
  have q77 : gz_OkE M_X8_init 0 0 0 205 206 _ := ok_aload_n (i := 0) dX8_init_205 rfl
  have q78 : gz_OkE M_X8_init 1 0 0 206 208 _ := ok_bipush (v := 64) dX8_init_206 kc_b64
  have q79 : gz_OkE M_X8_init 1 1 64 206 210 _ := ok_newI (n := 64) q78 wd_0 (by decide) dX8_init_208
  have q80 : gz_OkE M_X8_init 0 0 0 213 214 _ := ok_aload_n (i := 0) dX8_init_213 rfl
  have q81 : gz_OkE M_X8_init 1 0 0 214 216 _ := ok_bipush (v := 64) dX8_init_214 kc_b64
  have q82 : gz_OkE M_X8_init 1 1 64 214 218 _ := ok_newI (n := 64) q81 wd_0 (by decide) dX8_init_216
  have q83 : gz_OkE M_X8_init 0 0 0 221 222 _ := ok_aload_n (i := 0) dX8_init_221 rfl
  have q84 : gz_OkE M_X8_init 1 0 0 222 224 _ := ok_bipush (v := 64) dX8_init_222 kc_b64
  have q85 : gz_OkE M_X8_init 1 1 64 222 226 _ := ok_newI (n := 64) q84 wd_0 (by decide) dX8_init_224
  have q86 : gz_OkE M_X8_init 0 0 0 229 230 _ := ok_aload_n (i := 0) dX8_init_229 rfl
  have q87 : gz_OkE M_X8_init 1 0 0 230 233 _ := ok_sipush (v := 3840) dX8_init_230 kc_s3840
  have q88 : gz_OkE M_X8_init 1 1 3840 230 235 _ := ok_newI (n := 3840) q87 wd_0 (by decide) dX8_init_233
  have q89 : gz_OkE M_X8_init 0 0 0 238 239 _ := ok_aload_n (i := 0) dX8_init_238 rfl
  have q90 : gz_OkE M_X8_init 1 0 0 239 241 _ := ok_bipush (v := 64) dX8_init_239 kc_b64
  have q91 : gz_OkE M_X8_init 1 1 64 239 243 _ := ok_newI (n := 64) q90 wd_0 (by decide) dX8_init_241
  have q92 : gz_OkE M_X8_init 0 0 0 246 247 _ := ok_aload_n (i := 0) dX8_init_246 rfl
  have q93 : gz_OkE M_X8_init 1 0 0 247 249 _ := ok_bipush (v := 64) dX8_init_247 kc_b64
  have q94 : gz_OkE M_X8_init 1 1 64 247 251 _ := ok_newI (n := 64) q93 wd_0 (by decide) dX8_init_249
  have q95 : gz_OkE M_X8_init 0 0 0 254 255 _ := ok_aload_n (i := 0) dX8_init_254 rfl
  have q96 : gz_OkE M_X8_init 1 0 0 255 257 _ := ok_bipush (v := 64) dX8_init_255 kc_b64
  have q97 : gz_OkE M_X8_init 1 1 64 255 259 _ := ok_newJ (n := 64) q96 wd_83 (by decide) dX8_init_257
  have q98 : gz_OkE M_X8_init 0 0 0 262 263 _ := ok_aload_n (i := 0) dX8_init_262 rfl
  have q99 : gz_OkE M_X8_init 1 0 0 263 265 _ := ok_bipush (v := 64) dX8_init_263 kc_b64
  have q100 : gz_OkE M_X8_init 1 1 64 263 267 _ := ok_newJ (n := 64) q99 wd_83 (by decide) dX8_init_265
  have q101 : gz_OkE M_X8_init 0 0 0 270 271 _ := ok_aload_n (i := 0) dX8_init_270 rfl
  have q102 : gz_OkE M_X8_init 1 0 0 271 273 _ := ok_bipush (v := 64) dX8_init_271 kc_b64
  have q103 : gz_OkE M_X8_init 1 1 64 271 275 _ := ok_newJ (n := 64) q102 wd_83 (by decide) dX8_init_273
  have q104 : gz_OkE M_X8_init 0 0 0 278 279 _ := ok_aload_n (i := 0) dX8_init_278 rfl
  have q105 : gz_OkE M_X8_init 1 0 0 279 281 _ := ok_bipush (v := 64) dX8_init_279 kc_b64
  have q106 : gz_OkE M_X8_init 1 1 64 279 283 _ := ok_newJ (n := 64) q105 wd_83 (by decide) dX8_init_281
  have q107 : gz_OkE M_X8_init 0 0 0 286 287 _ := ok_aload_n (i := 0) dX8_init_286 rfl
  have q108 : gz_OkE M_X8_init 1 0 0 287 289 _ := ok_bipush (v := 64) dX8_init_287 kc_b64
  have q109 : gz_OkE M_X8_init 1 1 64 287 291 _ := ok_newJ (n := 64) q108 wd_83 (by decide) dX8_init_289
  have q110 : gz_OkE M_X8_init 0 0 0 294 295 _ := ok_aload_n (i := 0) dX8_init_294 rfl
  have q111 : gz_OkE M_X8_init 1 0 0 295 297 _ := ok_bipush (v := 64) dX8_init_295 kc_b64
  have q112 : gz_OkE M_X8_init 1 1 64 295 299 _ := ok_newJ (n := 64) q111 wd_83 (by decide) dX8_init_297
  have q113 : gz_OkE M_X8_init 0 0 0 302 303 _ := ok_aload_n (i := 0) dX8_init_302 rfl
  have q114 : gz_OkE M_X8_init 1 0 0 303 305 _ := ok_bipush (v := 64) dX8_init_303 kc_b64
  have q115 : gz_OkE M_X8_init 1 1 64 303 307 _ := ok_newZ (n := 64) q114 wd_61 (by decide) dX8_init_305
  have q116 : gz_OkE M_X8_init 0 0 0 310 311 _ := ok_aload_n (i := 0) dX8_init_310 rfl
  have q117 : gz_OkE M_X8_init 1 0 0 311 314 _ := ok_sipush (v := 1600) dX8_init_311 kc_s1600
  have q118 : gz_OkE M_X8_init 1 1 1600 311 316 _ := ok_newI (n := 1600) q117 wd_0 (by decide) dX8_init_314
  have q119 : gz_OkE M_X8_init 0 0 0 319 320 _ := ok_aload_n (i := 0) dX8_init_319 rfl
  have q120 : gz_OkE M_X8_init 1 0 0 320 321 _ := ok_iconst (v := 3) dX8_init_320 kc_i3
  have q121 : gz_OkE M_X8_init 1 1 3 320 323 _ := ok_newI (n := 3) q120 wd_0 (by decide) dX8_init_321
  have q122 : gz_OkE M_X8_init 0 0 0 326 327 _ := ok_aload_n (i := 0) dX8_init_326 rfl
  have q123 : gz_OkE M_X8_init 1 0 0 327 328 _ := ok_iconst (v := 3) dX8_init_327 kc_i3
  have q124 : gz_OkE M_X8_init 1 1 3 327 330 _ := ok_newI (n := 3) q123 wd_0 (by decide) dX8_init_328
  have q125 : gz_OkS M_X8_init 0 0 333 _ := ok_rv dX8_init_333
  have q126 : gz_OkS M_X8_init 1 3 326 _ := ok_putF (ty := (.array .int)) q122 q124 cl_8 (k := 46) (by decide) in_8 wd_169 tyX8 tyX8_ok nmX8 rfl rfl rfl rfl dX8_init_330 q125
  have q127 : gz_OkS M_X8_init 2 6 319 _ := ok_putF (ty := (.array .int)) q119 q121 cl_8 (k := 45) (by decide) in_8 wd_168 tyX8 tyX8_ok nmX8 rfl rfl rfl rfl dX8_init_323 q126
  have q128 : gz_OkS M_X8_init 3 1606 310 _ := ok_putF (ty := (.array .int)) q116 q118 cl_8 (k := 44) (by decide) in_8 wd_167 tyX8 tyX8_ok nmX8 rfl rfl rfl rfl dX8_init_316 q127
  have q129 : gz_OkS M_X8_init 4 1670 302 _ := ok_putF (ty := (.array .boolean)) q113 q115 cl_8 (k := 43) (by decide) in_8 wd_166 tyX8 tyX8_ok nmX8 rfl rfl rfl rfl dX8_init_307 q128
  have q130 : gz_OkS M_X8_init 5 1734 294 _ := ok_putF (ty := (.array .long)) q110 q112 cl_8 (k := 42) (by decide) in_8 wd_165 tyX8 tyX8_ok nmX8 rfl rfl rfl rfl dX8_init_299 q129
  have q131 : gz_OkS M_X8_init 6 1798 286 _ := ok_putF (ty := (.array .long)) q107 q109 cl_8 (k := 41) (by decide) in_8 wd_164 tyX8 tyX8_ok nmX8 rfl rfl rfl rfl dX8_init_291 q130
  have q132 : gz_OkS M_X8_init 7 1862 278 _ := ok_putF (ty := (.array .long)) q104 q106 cl_8 (k := 40) (by decide) in_8 wd_163 tyX8 tyX8_ok nmX8 rfl rfl rfl rfl dX8_init_283 q131
  have q133 : gz_OkS M_X8_init 8 1926 270 _ := ok_putF (ty := (.array .long)) q101 q103 cl_8 (k := 39) (by decide) in_8 wd_162 tyX8 tyX8_ok nmX8 rfl rfl rfl rfl dX8_init_275 q132
  have q134 : gz_OkS M_X8_init 9 1990 262 _ := ok_putF (ty := (.array .long)) q98 q100 cl_8 (k := 38) (by decide) in_8 wd_161 tyX8 tyX8_ok nmX8 rfl rfl rfl rfl dX8_init_267 q133
  have q135 : gz_OkS M_X8_init 10 2054 254 _ := ok_putF (ty := (.array .long)) q95 q97 cl_8 (k := 37) (by decide) in_8 wd_160 tyX8 tyX8_ok nmX8 rfl rfl rfl rfl dX8_init_259 q134
  have q136 : gz_OkS M_X8_init 11 2118 246 _ := ok_putF (ty := (.array .int)) q92 q94 cl_8 (k := 36) (by decide) in_8 wd_159 tyX8 tyX8_ok nmX8 rfl rfl rfl rfl dX8_init_251 q135
  have q137 : gz_OkS M_X8_init 12 2182 238 _ := ok_putF (ty := (.array .int)) q89 q91 cl_8 (k := 35) (by decide) in_8 wd_158 tyX8 tyX8_ok nmX8 rfl rfl rfl rfl dX8_init_243 q136
  have q138 : gz_OkS M_X8_init 13 6022 229 _ := ok_putF (ty := (.array .int)) q86 q88 cl_8 (k := 34) (by decide) in_8 wd_157 tyX8 tyX8_ok nmX8 rfl rfl rfl rfl dX8_init_235 q137
  have q139 : gz_OkS M_X8_init 14 6086 221 _ := ok_putF (ty := (.array .int)) q83 q85 cl_8 (k := 33) (by decide) in_8 wd_156 tyX8 tyX8_ok nmX8 rfl rfl rfl rfl dX8_init_226 q138
  have q140 : gz_OkS M_X8_init 15 6150 213 _ := ok_putF (ty := (.array .int)) q80 q82 cl_8 (k := 32) (by decide) in_8 wd_155 tyX8 tyX8_ok nmX8 rfl rfl rfl rfl dX8_init_218 q139
  have q141 : gz_OkS M_X8_init 16 6214 205 _ := ok_putF (ty := (.array .int)) q77 q79 cl_8 (k := 31) (by decide) in_8 wd_154 tyX8 tyX8_ok nmX8 rfl rfl rfl rfl dX8_init_210 q140
  have q142 : gz_OkS M_X8_init 17 6278 197 _ := ok_putF (ty := (.array .int)) q74 q76 cl_8 (k := 30) (by decide) in_8 wd_153 tyX8 tyX8_ok nmX8 rfl rfl rfl rfl dX8_init_202 q141
  have q143 : gz_OkS M_X8_init 18 6342 189 _ := ok_putF (ty := (.array .boolean)) q71 q73 cl_8 (k := 29) (by decide) in_8 wd_152 tyX8 tyX8_ok nmX8 rfl rfl rfl rfl dX8_init_194 q142
  have q144 : gz_OkS M_X8_init 19 6346 182 _ := ok_putF (ty := (.array .int)) q68 q70 cl_8 (k := 26) (by decide) in_8 wd_151 tyX8 tyX8_ok nmX8 rfl rfl rfl rfl dX8_init_186 q143
  have q145 : gz_OkS M_X8_init 20 6350 175 _ := ok_putF (ty := (.array .int)) q65 q67 cl_8 (k := 25) (by decide) in_8 wd_150 tyX8 tyX8_ok nmX8 rfl rfl rfl rfl dX8_init_179 q144
  have q146 : gz_OkS M_X8_init 21 6366 167 _ := ok_putF (ty := (.array .int)) q62 q64 cl_8 (k := 24) (by decide) in_8 wd_149 tyX8 tyX8_ok nmX8 rfl rfl rfl rfl dX8_init_172 q145
  have q147 : gz_OkS M_X8_init 22 7806 158 _ := ok_putF (ty := (.array .int)) q59 q61 cl_8 (k := 23) (by decide) in_8 wd_148 tyX8 tyX8_ok nmX8 rfl rfl rfl rfl dX8_init_164 q146
  have q148 : gz_OkS M_X8_init 23 9246 149 _ := ok_putF (ty := (.array .int)) q56 q58 cl_8 (k := 22) (by decide) in_8 wd_147 tyX8 tyX8_ok nmX8 rfl rfl rfl rfl dX8_init_155 q147
  have q149 : gz_OkS M_X8_init 23 9246 144 _ := ok_put (ty := .int) q54 q55 cl_8 (k := 21) (by decide) in_8 wd_146 tyX8 tyX8_ok nmX8 rfl rfl dX8_init_146 q148
  have q150 : gz_OkS M_X8_init 23 9246 139 _ := ok_put (ty := .int) q52 q53 cl_8 (k := 20) (by decide) in_8 wd_145 tyX8 tyX8_ok nmX8 rfl rfl dX8_init_141 q149
  have q151 : gz_OkS M_X8_init 23 9246 134 _ := ok_put (ty := .int) q50 q51 cl_8 (k := 19) (by decide) in_8 wd_144 tyX8 tyX8_ok nmX8 rfl rfl dX8_init_136 q150
  have q152 : gz_OkS M_X8_init 24 9254 126 _ := ok_putF (ty := (.array .boolean)) q47 q49 cl_8 (k := 17) (by decide) in_8 wd_143 tyX8 tyX8_ok nmX8 rfl rfl rfl rfl dX8_init_131 q151
  have q153 : gz_OkS M_X8_init 25 9262 118 _ := ok_putF (ty := (.array .int)) q44 q46 cl_8 (k := 16) (by decide) in_8 wd_142 tyX8 tyX8_ok nmX8 rfl rfl rfl rfl dX8_init_123 q152
  have q154 : gz_OkS M_X8_init 26 9270 110 _ := ok_putF (ty := (.array .int)) q41 q43 cl_8 (k := 15) (by decide) in_8 wd_141 tyX8 tyX8_ok nmX8 rfl rfl rfl rfl dX8_init_115 q153
  have q155 : gz_OkS M_X8_init 27 9286 102 _ := ok_putF (ty := (.array .int)) q38 q40 cl_8 (k := 14) (by decide) in_8 wd_140 tyX8 tyX8_ok nmX8 rfl rfl rfl rfl dX8_init_107 q154
  have q156 : gz_OkS M_X8_init 28 9350 94 _ := ok_putF (ty := (.array .int)) q35 q37 cl_8 (k := 13) (by decide) in_8 wd_139 tyX8 tyX8_ok nmX8 rfl rfl rfl rfl dX8_init_99 q155
  have q157 : gz_OkS M_X8_init 29 9414 86 _ := ok_putF (ty := (.array .int)) q32 q34 cl_8 (k := 12) (by decide) in_8 wd_138 tyX8 tyX8_ok nmX8 rfl rfl rfl rfl dX8_init_91 q156
  have q158 : gz_OkS M_X8_init 30 9430 78 _ := ok_putF (ty := (.array .int)) q29 q31 cl_8 (k := 11) (by decide) in_8 wd_137 tyX8 tyX8_ok nmX8 rfl rfl rfl rfl dX8_init_83 q157
  have q159 : gz_OkS M_X8_init 31 9446 70 _ := ok_putF (ty := (.array .int)) q26 q28 cl_8 (k := 10) (by decide) in_8 wd_136 tyX8 tyX8_ok nmX8 rfl rfl rfl rfl dX8_init_75 q158
  have q160 : gz_OkS M_X8_init 32 9462 62 _ := ok_putF (ty := (.array .boolean)) q23 q25 cl_8 (k := 9) (by decide) in_8 wd_135 tyX8 tyX8_ok nmX8 rfl rfl rfl rfl dX8_init_67 q159
  have q161 : gz_OkS M_X8_init 33 9974 53 _ := ok_putF (ty := (.array .boolean)) q20 q22 cl_8 (k := 8) (by decide) in_8 wd_134 tyX8 tyX8_ok nmX8 rfl rfl rfl rfl dX8_init_59 q160
  have q162 : gz_OkS M_X8_init 34 10486 44 _ := ok_putF (ty := (.array .int)) q17 q19 cl_8 (k := 7) (by decide) in_8 wd_133 tyX8 tyX8_ok nmX8 rfl rfl rfl rfl dX8_init_50 q161
  have q163 : gz_OkS M_X8_init 35 10550 36 _ := ok_putF (ty := (.array .int)) q14 q16 cl_8 (k := 6) (by decide) in_8 wd_132 tyX8 tyX8_ok nmX8 rfl rfl rfl rfl dX8_init_41 q162
  have q164 : gz_OkS M_X8_init 36 10614 28 _ := ok_putF (ty := (.array .int)) q11 q13 cl_8 (k := 5) (by decide) in_8 wd_131 tyX8 tyX8_ok nmX8 rfl rfl rfl rfl dX8_init_33 q163
  have q165 : gz_OkS M_X8_init 37 10678 20 _ := ok_putF (ty := (.array .int)) q8 q10 cl_8 (k := 4) (by decide) in_8 wd_130 tyX8 tyX8_ok nmX8 rfl rfl rfl rfl dX8_init_25 q164
  have q166 : gz_OkS M_X8_init 38 10742 12 _ := ok_putF (ty := (.array .int)) q5 q7 cl_8 (k := 3) (by decide) in_8 wd_129 tyX8 tyX8_ok nmX8 rfl rfl rfl rfl dX8_init_17 q165
  have q167 : gz_OkS M_X8_init 39 10750 4 _ := ok_putF (ty := (.array .int)) q2 q4 cl_8 (k := 2) (by decide) in_8 wd_128 tyX8 tyX8_ok nmX8 rfl rfl rfl rfl dX8_init_9 q166
  have q168 : gz_OkS M_X8_init 39 10750 0 _ := ok_sup q1 wd_760 wd_403 wd_404 (by decide) (by decide) dX8_init_1 q167
  have z : gz_OkS M_X8_init 39 10750 0 sm_X8_init := q168
  exact gz_met (plainFor_of_name (by decide)) z (by decide) (by decide)
noncomputable def sm_X8_isIn : gz_Sx := gz_ri (gz_te (gz_jo (gz_j2 (fun x y => decide (x < y)) (gz_li 0) (gz_li 1)) (gz_j2 (fun x y => decide (y < x)) (gz_li 0) (gz_li 2))) (gz_i (0)) (gz_i (1)))
noncomputable def se_X8_isIn : gz_Me := gz_sem (some .boolean) 3 sm_X8_isIn
abbrev rm_X8_isIn : Room := { frames := 0, cells := 0, slots := 0, locals := 0 }
abbrev M_X8_isIn : gz_Mi := (cX8_isIn, 3, RX8, 0, 0, "isIn", none)
theorem de_X8_isIn : yX8_isIn.cls ≠ "java/lang/invoke/MethodHandle" ∧ yX8_isIn.cls ≠ "java/lang/invoke/VarHandle" ∧ (parseMethodDescriptor yX8_isIn.desc).map (fun d => d.parameters.length) = some 3 := by decide +kernel
set_option maxRecDepth 100000 in
theorem mt_X8_isIn : gz_Mt yX8_isIn cX8_isIn 3 (some .boolean) rm_X8_isIn se_X8_isIn := by
  have q1 : gz_OkE M_X8_isIn 0 0 0 0 1 _ := ok_iload_n (i := 0) dX8_isIn_0 rfl
  have q2 : gz_OkE M_X8_isIn 1 0 0 1 2 _ := ok_iload_n (i := 1) dX8_isIn_1 rfl
  have q3 : gz_OkJ M_X8_isIn 0 0 0 0 14 5 _ := ok_ic_lt q1 q2 dX8_isIn_2 (by decide)
  have q4 : gz_OkE M_X8_isIn 0 0 0 5 6 _ := ok_iload_n (i := 0) dX8_isIn_5 rfl
  have q5 : gz_OkE M_X8_isIn 1 0 0 6 7 _ := ok_iload_n (i := 2) dX8_isIn_6 rfl
  have q6 : gz_OkJ M_X8_isIn 0 0 0 5 14 10 _ := ok_ic_gt q4 q5 dX8_isIn_7 (by decide)
  have q7 : gz_OkJ M_X8_isIn 0 0 0 0 14 10 _ := ok_jo q3 q6
  have q8 : gz_OkE M_X8_isIn 0 0 0 10 11 _ := ok_iconst (v := 1) dX8_isIn_10 kc_i1
  have q9 : gz_OkE M_X8_isIn 0 0 0 10 15 _ := ok_eg q8 dX8_isIn_11 (by decide)
  have q10 : gz_OkE M_X8_isIn 0 0 0 14 15 _ := ok_iconst (v := 0) dX8_isIn_14 kc_i0
  have q11 : gz_OkE M_X8_isIn 0 0 0 0 15 _ := ok_te2 q7 q9 q10
  have q12 : gz_OkS M_X8_isIn 0 0 0 _ := ok_ri q11 dX8_isIn_15
  have z : gz_OkS M_X8_isIn 0 0 0 sm_X8_isIn := q12
  exact gz_met (plainFor_of_name (by decide)) z (by decide) (by decide)
noncomputable def sm_X8_isJunction : gz_Sx := gz_ri (gz_te (gz_jo (gz_j1 (fun x => decide (x < 0)) (gz_li 1)) (gz_j2 (fun x y => decide (y ≤ x)) (gz_li 1) (gz_get 8 48 0 (gz_la 0)))) (gz_i (0)) (gz_i (1)))
noncomputable def se_X8_isJunction : gz_Me := gz_sem (some .boolean) 2 sm_X8_isJunction
abbrev rm_X8_isJunction : Room := { frames := 0, cells := 0, slots := 0, locals := 0 }
abbrev M_X8_isJunction : gz_Mi := (cX8_isJunction, 2, RX8, 0, 0, "isJunction", none)
theorem de_X8_isJunction : yX8_isJunction.cls ≠ "java/lang/invoke/MethodHandle" ∧ yX8_isJunction.cls ≠ "java/lang/invoke/VarHandle" ∧ (parseMethodDescriptor yX8_isJunction.desc).map (fun d => d.parameters.length) = some 1 := by decide +kernel
set_option maxRecDepth 100000 in
theorem mt_X8_isJunction : gz_Mt yX8_isJunction cX8_isJunction 2 (some .boolean) rm_X8_isJunction se_X8_isJunction := by
  have q1 : gz_OkE M_X8_isJunction 0 0 0 0 1 _ := ok_iload_n (i := 1) dX8_isJunction_0 rfl
  have q2 : gz_OkJ M_X8_isJunction 0 0 0 0 16 4 _ := ok_if_lt q1 dX8_isJunction_1 (by decide)
  have q3 : gz_OkE M_X8_isJunction 0 0 0 4 5 _ := ok_iload_n (i := 1) dX8_isJunction_4 rfl
  have q4 : gz_OkE M_X8_isJunction 1 0 0 5 6 _ := ok_aload_n (i := 0) dX8_isJunction_5 rfl
  have q5 : gz_OkE M_X8_isJunction 1 0 0 5 9 _ := ok_get q4 cl_8 (k := 0) (by decide) in_8 wd_170 dX8_isJunction_6
  have q6 : gz_OkJ M_X8_isJunction 0 0 0 4 16 12 _ := ok_ic_ge q3 q5 dX8_isJunction_9 (by decide)
  have q7 : gz_OkJ M_X8_isJunction 0 0 0 0 16 12 _ := ok_jo q2 q6
  have q8 : gz_OkE M_X8_isJunction 0 0 0 12 13 _ := ok_iconst (v := 1) dX8_isJunction_12 kc_i1
  have q9 : gz_OkE M_X8_isJunction 0 0 0 12 17 _ := ok_eg q8 dX8_isJunction_13 (by decide)
  have q10 : gz_OkE M_X8_isJunction 0 0 0 16 17 _ := ok_iconst (v := 0) dX8_isJunction_16 kc_i0
  have q11 : gz_OkE M_X8_isJunction 0 0 0 0 17 _ := ok_te2 q7 q9 q10
  have q12 : gz_OkS M_X8_isJunction 0 0 0 _ := ok_ri q11 dX8_isJunction_17
  have z : gz_OkS M_X8_isJunction 0 0 0 sm_X8_isJunction := q12
  exact gz_met (plainFor_of_name (by decide)) z (by decide) (by decide)
noncomputable def sm_X8_isStream : gz_Sx := gz_ri (gz_te (gz_jo (gz_j1 (fun x => decide (x = 0)) (gz_cv 8 48 se_X8_isJunction (gz_a1 (gz_a1 (gz_a0) (gz_la 0)) (gz_li 1)))) (gz_jo (gz_j1 (fun x => decide (x < 0)) (gz_li 2)) (gz_j2 (fun x y => decide (y ≤ x)) (gz_li 2) (gz_ald 100 (gz_get 8 48 2 (gz_la 0)) (gz_li 1))))) (gz_i (0)) (gz_i (1)))
noncomputable def se_X8_isStream : gz_Me := gz_sem (some .boolean) 3 sm_X8_isStream
abbrev rm_X8_isStream : Room := { frames := 1, cells := 0, slots := 0, locals := 21 }
abbrev M_X8_isStream : gz_Mi := (cX8_isStream, 3, RX8, 1, 21, "isStream", none)
theorem de_X8_isStream : yX8_isStream.cls ≠ "java/lang/invoke/MethodHandle" ∧ yX8_isStream.cls ≠ "java/lang/invoke/VarHandle" ∧ (parseMethodDescriptor yX8_isStream.desc).map (fun d => d.parameters.length) = some 2 := by decide +kernel
set_option maxRecDepth 100000 in
theorem mt_X8_isStream : gz_Mt yX8_isStream cX8_isStream 3 (some .boolean) rm_X8_isStream se_X8_isStream := by
  have q1 : gz_OkA M_X8_isStream 0 0 0 0 0 0 _ := ok_a0
  have q2 : gz_OkE M_X8_isStream 0 0 0 0 1 _ := ok_aload_n (i := 0) dX8_isStream_0 rfl
  have q3 : gz_OkA M_X8_isStream 0 0 0 0 1 1 _ := ok_a1 q1 q2
  have q4 : gz_OkE M_X8_isStream 2 0 0 1 2 _ := ok_iload_n (i := 1) dX8_isStream_1 rfl
  have q5 : gz_OkA M_X8_isStream 0 0 0 0 2 2 _ := ok_a1 q3 q4
  have q6 : gz_OkE M_X8_isStream 0 0 0 0 5 _ := ok_cv q5 mt_X8_isJunction cl_8 wd_761 wd_188 de_X8_isJunction (by decide) (by decide) wd_762 wd_763 wd_764 dX8_isStream_2 (by decide)
  have q7 : gz_OkJ M_X8_isStream 0 0 0 0 26 8 _ := ok_if_eq q6 dX8_isStream_5 (by decide)
  have q8 : gz_OkE M_X8_isStream 0 0 0 8 9 _ := ok_iload_n (i := 2) dX8_isStream_8 rfl
  have q9 : gz_OkJ M_X8_isStream 0 0 0 8 26 12 _ := ok_if_lt q8 dX8_isStream_9 (by decide)
  have q10 : gz_OkE M_X8_isStream 0 0 0 12 13 _ := ok_iload_n (i := 2) dX8_isStream_12 rfl
  have q11 : gz_OkE M_X8_isStream 1 0 0 13 14 _ := ok_aload_n (i := 0) dX8_isStream_13 rfl
  have q12 : gz_OkE M_X8_isStream 1 0 0 13 17 _ := ok_get q11 cl_8 (k := 2) (by decide) in_8 wd_128 dX8_isStream_14
  have q13 : gz_OkE M_X8_isStream 2 0 0 17 18 _ := ok_iload_n (i := 1) dX8_isStream_17 rfl
  have q14 : gz_OkE M_X8_isStream 1 0 0 13 19 _ := ok_iald q12 q13 dX8_isStream_18
  have q15 : gz_OkJ M_X8_isStream 0 0 0 12 26 22 _ := ok_ic_ge q10 q14 dX8_isStream_19 (by decide)
  have q16 : gz_OkJ M_X8_isStream 0 0 0 8 26 22 _ := ok_jo q9 q15
  have q17 : gz_OkJ M_X8_isStream 0 0 0 0 26 22 _ := ok_jo q7 q16
  have q18 : gz_OkE M_X8_isStream 0 0 0 22 23 _ := ok_iconst (v := 1) dX8_isStream_22 kc_i1
  have q19 : gz_OkE M_X8_isStream 0 0 0 22 27 _ := ok_eg q18 dX8_isStream_23 (by decide)
  have q20 : gz_OkE M_X8_isStream 0 0 0 26 27 _ := ok_iconst (v := 0) dX8_isStream_26 kc_i0
  have q21 : gz_OkE M_X8_isStream 0 0 0 0 27 _ := ok_te2 q17 q19 q20
  have q22 : gz_OkS M_X8_isStream 0 0 0 _ := ok_ri q21 dX8_isStream_27
  have z : gz_OkS M_X8_isStream 0 0 0 sm_X8_isStream := q22
  exact gz_met (plainFor_of_name (by decide)) z (by decide) (by decide)
noncomputable def sm_X8_isPlanned : gz_Sx := gz_ri (gz_te (gz_ja (gz_j1 (fun x => decide (¬ x = 0)) (gz_ald 101 (gz_get 8 48 9 (gz_la 0)) (gz_li 1))) (gz_j1 (fun x => decide (x = 0)) (gz_ald 101 (gz_get 8 48 9 (gz_la 0)) (gz_ib (fun x y => x + y) (gz_i (8)) (gz_li 1))))) (gz_i (0)) (gz_i (1)))
noncomputable def se_X8_isPlanned : gz_Me := gz_sem (some .boolean) 2 sm_X8_isPlanned
abbrev rm_X8_isPlanned : Room := { frames := 0, cells := 0, slots := 0, locals := 0 }
abbrev M_X8_isPlanned : gz_Mi := (cX8_isPlanned, 2, RX8, 0, 0, "isPlanned", none)
theorem de_X8_isPlanned : yX8_isPlanned.cls ≠ "java/lang/invoke/MethodHandle" ∧ yX8_isPlanned.cls ≠ "java/lang/invoke/VarHandle" ∧ (parseMethodDescriptor yX8_isPlanned.desc).map (fun d => d.parameters.length) = some 1 := by decide +kernel
set_option maxRecDepth 100000 in
theorem mt_X8_isPlanned : gz_Mt yX8_isPlanned cX8_isPlanned 2 (some .boolean) rm_X8_isPlanned se_X8_isPlanned := by
  have q1 : gz_OkE M_X8_isPlanned 0 0 0 0 1 _ := ok_aload_n (i := 0) dX8_isPlanned_0 rfl
  have q2 : gz_OkE M_X8_isPlanned 0 0 0 0 4 _ := ok_get q1 cl_8 (k := 9) (by decide) in_8 wd_135 dX8_isPlanned_1
  have q3 : gz_OkE M_X8_isPlanned 1 0 0 4 5 _ := ok_iload_n (i := 1) dX8_isPlanned_4 rfl
  have q4 : gz_OkE M_X8_isPlanned 0 0 0 0 6 _ := ok_zald q2 q3 dX8_isPlanned_5
  have q5 : gz_OkJ M_X8_isPlanned 0 0 0 0 21 9 _ := ok_if_ne q4 dX8_isPlanned_6 (by decide)
  have q6 : gz_OkE M_X8_isPlanned 0 0 0 9 10 _ := ok_aload_n (i := 0) dX8_isPlanned_9 rfl
  have q7 : gz_OkE M_X8_isPlanned 0 0 0 9 13 _ := ok_get q6 cl_8 (k := 9) (by decide) in_8 wd_135 dX8_isPlanned_10
  have q8 : gz_OkE M_X8_isPlanned 1 0 0 13 15 _ := ok_bipush (v := 8) dX8_isPlanned_13 kc_b8
  have q9 : gz_OkE M_X8_isPlanned 2 0 0 15 16 _ := ok_iload_n (i := 1) dX8_isPlanned_15 rfl
  have q10 : gz_OkE M_X8_isPlanned 1 0 0 13 17 _ := ok_iadd q8 q9 dX8_isPlanned_16
  have q11 : gz_OkE M_X8_isPlanned 0 0 0 9 18 _ := ok_zald q7 q10 dX8_isPlanned_17
  have q12 : gz_OkJ M_X8_isPlanned 0 0 0 9 25 21 _ := ok_if_eq q11 dX8_isPlanned_18 (by decide)
  have q13 : gz_OkJ M_X8_isPlanned 0 0 0 0 25 21 _ := ok_ja q5 q12
  have q14 : gz_OkE M_X8_isPlanned 0 0 0 21 22 _ := ok_iconst (v := 1) dX8_isPlanned_21 kc_i1
  have q15 : gz_OkE M_X8_isPlanned 0 0 0 21 26 _ := ok_eg q14 dX8_isPlanned_22 (by decide)
  have q16 : gz_OkE M_X8_isPlanned 0 0 0 25 26 _ := ok_iconst (v := 0) dX8_isPlanned_25 kc_i0
  have q17 : gz_OkE M_X8_isPlanned 0 0 0 0 26 _ := ok_te2 q13 q15 q16
  have q18 : gz_OkS M_X8_isPlanned 0 0 0 _ := ok_ri q17 dX8_isPlanned_26
  have z : gz_OkS M_X8_isPlanned 0 0 0 sm_X8_isPlanned := q18
  exact gz_met (plainFor_of_name (by decide)) z (by decide) (by decide)
noncomputable def sm_X8_junction : gz_Sx := gz_if (gz_ja (gz_j2 (fun x y => decide (x = y)) (gz_get 8 48 0 (gz_la 0)) (gz_i (8))) (gz_j1 (fun x => decide (x ≤ 0)) (gz_get 8 48 1 (gz_la 0)))) (gz_put 8 48 0 .int (gz_la 0) (gz_ib (fun x y => x + y) (gz_get 8 48 0 (gz_dup)) (gz_i (1))) (gz_ri (gz_ib (fun x y => x - y) (gz_get 8 48 0 (gz_la 0)) (gz_i (1))))) (gz_ri (gz_i (-1)))
noncomputable def se_X8_junction : gz_Me := gz_sem (some .int) 1 sm_X8_junction
abbrev rm_X8_junction : Room := { frames := 0, cells := 0, slots := 0, locals := 0 }
abbrev M_X8_junction : gz_Mi := (cX8_junction, 1, RX8, 0, 0, "junction", none)
theorem de_X8_junction : yX8_junction.cls ≠ "java/lang/invoke/MethodHandle" ∧ yX8_junction.cls ≠ "java/lang/invoke/VarHandle" ∧ (parseMethodDescriptor yX8_junction.desc).map (fun d => d.parameters.length) = some 0 := by decide +kernel
set_option maxRecDepth 100000 in
theorem mt_X8_junction : gz_Mt yX8_junction cX8_junction 1 (some .int) rm_X8_junction se_X8_junction := by
  have q1 : gz_OkE M_X8_junction 0 0 0 0 1 _ := ok_aload_n (i := 0) dX8_junction_0 rfl
  have q2 : gz_OkE M_X8_junction 0 0 0 0 4 _ := ok_get q1 cl_8 (k := 0) (by decide) in_8 wd_170 dX8_junction_1
  have q3 : gz_OkE M_X8_junction 1 0 0 4 6 _ := ok_bipush (v := 8) dX8_junction_4 kc_b8
  have q4 : gz_OkJ M_X8_junction 0 0 0 0 16 9 _ := ok_ic_eq q2 q3 dX8_junction_6 (by decide)
  have q5 : gz_OkE M_X8_junction 0 0 0 9 10 _ := ok_aload_n (i := 0) dX8_junction_9 rfl
  have q6 : gz_OkE M_X8_junction 0 0 0 9 13 _ := ok_get q5 cl_8 (k := 1) (by decide) in_8 wd_171 dX8_junction_10
  have q7 : gz_OkJ M_X8_junction 0 0 0 9 18 16 _ := ok_if_le q6 dX8_junction_13 (by decide)
  have q8 : gz_OkJ M_X8_junction 0 0 0 0 18 16 _ := ok_ja q4 q7
  have q9 : gz_OkE M_X8_junction 0 0 0 18 19 _ := ok_aload_n (i := 0) dX8_junction_18 rfl
  have q10 : gz_OkE M_X8_junction 1 0 0 19 20 _ := ok_dup dX8_junction_19
  have q11 : gz_OkE M_X8_junction 1 0 0 19 23 _ := ok_get q10 cl_8 (k := 0) (by decide) in_8 wd_170 dX8_junction_20
  have q12 : gz_OkE M_X8_junction 2 0 0 23 24 _ := ok_iconst (v := 1) dX8_junction_23 kc_i1
  have q13 : gz_OkE M_X8_junction 1 0 0 19 25 _ := ok_iadd q11 q12 dX8_junction_24
  have q14 : gz_OkE M_X8_junction 0 0 0 28 29 _ := ok_aload_n (i := 0) dX8_junction_28 rfl
  have q15 : gz_OkE M_X8_junction 0 0 0 28 32 _ := ok_get q14 cl_8 (k := 0) (by decide) in_8 wd_170 dX8_junction_29
  have q16 : gz_OkE M_X8_junction 1 0 0 32 33 _ := ok_iconst (v := 1) dX8_junction_32 kc_i1
  have q17 : gz_OkE M_X8_junction 0 0 0 28 34 _ := ok_isub q15 q16 dX8_junction_33
  have q18 : gz_OkS M_X8_junction 0 0 28 _ := ok_ri q17 dX8_junction_34
  have q19 : gz_OkS M_X8_junction 0 0 18 _ := ok_put (ty := .int) q9 q13 cl_8 (k := 0) (by decide) in_8 wd_170 tyX8 tyX8_ok nmX8 rfl rfl dX8_junction_25 q18
  have q20 : gz_OkE M_X8_junction 0 0 0 16 17 _ := ok_iconst (v := -1) dX8_junction_16 kc_im1
  have q21 : gz_OkS M_X8_junction 0 0 16 _ := ok_ri q20 dX8_junction_17
  have q22 : gz_OkS M_X8_junction 0 0 0 _ := ok_if q8 q19 q21
  have z : gz_OkS M_X8_junction 0 0 0 sm_X8_junction := q22
  exact gz_met (plainFor_of_name (by decide)) z (by decide) (by decide)
noncomputable def sm_X8_stream : gz_Sx := gz_seq 60 6 (gz_seq 58 0 (gz_if (gz_jo (gz_j1 (fun x => decide (x = 0)) (gz_cv 8 48 se_X8_isJunction (gz_a1 (gz_a1 (gz_a0) (gz_la 0)) (gz_li 1)))) (gz_jo (gz_j1 (fun x => decide (x = 0)) (gz_cs se_X8_isIn (gz_a1 (gz_a1 (gz_a1 (gz_a0) (gz_li 2)) (gz_i (0))) (gz_i (3))))) (gz_jo (gz_j1 (fun x => decide (x = 0)) (gz_cs se_X8_isIn (gz_a1 (gz_a1 (gz_a1 (gz_a0) (gz_li 3)) (gz_i (0))) (gz_i (3600))))) (gz_ja (gz_j2 (fun x y => decide (y ≤ x)) (gz_li 2) (gz_i (2))) (gz_j1 (fun x => decide (x = 0)) (gz_cs se_X8_isIn (gz_a1 (gz_a1 (gz_a1 (gz_a0) (gz_li 4)) (gz_i (600))) (gz_i (3600))))))))) (gz_sat 58) (gz_if (gz_j1 (fun x => decide (¬ x = 0)) (gz_cs se_X8_isIn (gz_a1 (gz_a1 (gz_a1 (gz_a0) (gz_li 5)) (gz_i (4))) (gz_i (30))))) (gz_sat 60) (gz_sat 58))) (gz_ri (gz_i (-1)))) (gz_if (gz_ja (gz_j2 (fun x y => decide (x = y)) (gz_ald 100 (gz_get 8 48 2 (gz_la 0)) (gz_li 1)) (gz_i (8))) (gz_ja (gz_j1 (fun x => decide (¬ x = 0)) (gz_cv 8 48 se_X8_isPlanned (gz_a1 (gz_a1 (gz_a0) (gz_la 0)) (gz_li 1)))) (gz_j1 (fun x => decide (x ≤ 0)) (gz_get 8 48 1 (gz_la 0))))) (gz_seti 6 (gz_ib (fun x y => x + y) (gz_ib (fun x y => x * y) (gz_i (8)) (gz_li 1)) (gz_ald 100 (gz_get 8 48 2 (gz_la 0)) (gz_li 1))) (gz_ast 100 (gz_get 8 48 2 (gz_la 0)) (gz_li 1) (gz_ib (fun x y => x + y) (gz_d2 100) (gz_i (1))) (gz_ast 100 (gz_get 8 48 3 (gz_la 0)) (gz_li 6) (gz_li 2) (gz_ast 100 (gz_get 8 48 4 (gz_la 0)) (gz_li 6) (gz_li 3) (gz_ast 100 (gz_get 8 48 5 (gz_la 0)) (gz_li 6) (gz_te (gz_j2 (fun x y => decide (¬ x = y)) (gz_li 2) (gz_i (2))) (gz_te (gz_j2 (fun x y => decide (¬ x = y)) (gz_li 2) (gz_i (3))) (gz_li 4) (gz_i (1200))) (gz_i (3600))) (gz_ast 100 (gz_get 8 48 6 (gz_la 0)) (gz_li 6) (gz_cs se_J9_max_7cf53 (gz_a1 (gz_a1 (gz_a0) (gz_li 5)) (gz_te (gz_j2 (fun x y => decide (¬ x = y)) (gz_li 2) (gz_i (1))) (gz_te (gz_j2 (fun x y => decide (¬ x = y)) (gz_li 2) (gz_i (2))) (gz_i (4)) (gz_i (8))) (gz_i (5))))) (gz_ri (gz_ib (fun x y => x - y) (gz_ald 100 (gz_get 8 48 2 (gz_la 0)) (gz_li 1)) (gz_i (1)))))))))) (gz_ri (gz_i (-1))))
noncomputable def se_X8_stream : gz_Me := gz_sem (some .int) 7 sm_X8_stream
abbrev rm_X8_stream : Room := { frames := 1, cells := 0, slots := 0, locals := 22 }
abbrev M_X8_stream : gz_Mi := (cX8_stream, 7, RX8, 1, 22, "stream", none)
theorem de_X8_stream : yX8_stream.cls ≠ "java/lang/invoke/MethodHandle" ∧ yX8_stream.cls ≠ "java/lang/invoke/VarHandle" ∧ (parseMethodDescriptor yX8_stream.desc).map (fun d => d.parameters.length) = some 5 := by decide +kernel
set_option maxRecDepth 100000 in
theorem mt_X8_stream : gz_Mt yX8_stream cX8_stream 7 (some .int) rm_X8_stream se_X8_stream := by
  have q1 : gz_OkA M_X8_stream 0 0 0 0 0 0 _ := ok_a0
  have q2 : gz_OkE M_X8_stream 0 0 0 0 1 _ := ok_aload_n (i := 0) dX8_stream_0 rfl
  have q3 : gz_OkA M_X8_stream 0 0 0 0 1 1 _ := ok_a1 q1 q2
  have q4 : gz_OkE M_X8_stream 2 0 0 1 2 _ := ok_iload_n (i := 1) dX8_stream_1 rfl
  have q5 : gz_OkA M_X8_stream 0 0 0 0 2 2 _ := ok_a1 q3 q4
  have q6 : gz_OkE M_X8_stream 0 0 0 0 5 _ := ok_cv q5 mt_X8_isJunction cl_8 wd_761 wd_188 de_X8_isJunction (by decide) (by decide) wd_762 wd_763 wd_764 dX8_stream_2 (by decide)
  have q7 : gz_OkJ M_X8_stream 0 0 0 0 58 8 _ := ok_if_eq q6 dX8_stream_5 (by decide)
  have q8 : gz_OkA M_X8_stream 0 0 0 8 8 0 _ := ok_a0
  have q9 : gz_OkE M_X8_stream 0 0 0 8 9 _ := ok_iload_n (i := 2) dX8_stream_8 rfl
  have q10 : gz_OkA M_X8_stream 0 0 0 8 9 1 _ := ok_a1 q8 q9
  have q11 : gz_OkE M_X8_stream 2 0 0 9 10 _ := ok_iconst (v := 0) dX8_stream_9 kc_i0
  have q12 : gz_OkA M_X8_stream 0 0 0 8 10 2 _ := ok_a1 q10 q11
  have q13 : gz_OkE M_X8_stream 4 0 0 10 11 _ := ok_iconst (v := 3) dX8_stream_10 kc_i3
  have q14 : gz_OkA M_X8_stream 0 0 0 8 11 3 _ := ok_a1 q12 q13
  have q15 : gz_OkE M_X8_stream 0 0 0 8 14 _ := ok_cs q14 mt_X8_isIn wd_765 wd_188 de_X8_isIn (by decide) (by decide) wd_766 wd_767 dX8_stream_11 (by decide)
  have q16 : gz_OkJ M_X8_stream 0 0 0 8 58 17 _ := ok_if_eq q15 dX8_stream_14 (by decide)
  have q17 : gz_OkA M_X8_stream 0 0 0 17 17 0 _ := ok_a0
  have q18 : gz_OkE M_X8_stream 0 0 0 17 18 _ := ok_iload_n (i := 3) dX8_stream_17 rfl
  have q19 : gz_OkA M_X8_stream 0 0 0 17 18 1 _ := ok_a1 q17 q18
  have q20 : gz_OkE M_X8_stream 2 0 0 18 19 _ := ok_iconst (v := 0) dX8_stream_18 kc_i0
  have q21 : gz_OkA M_X8_stream 0 0 0 17 19 2 _ := ok_a1 q19 q20
  have q22 : gz_OkE M_X8_stream 4 0 0 19 22 _ := ok_sipush (v := 3600) dX8_stream_19 kc_s3600
  have q23 : gz_OkA M_X8_stream 0 0 0 17 22 3 _ := ok_a1 q21 q22
  have q24 : gz_OkE M_X8_stream 0 0 0 17 25 _ := ok_cs q23 mt_X8_isIn wd_765 wd_188 de_X8_isIn (by decide) (by decide) wd_766 wd_767 dX8_stream_22 (by decide)
  have q25 : gz_OkJ M_X8_stream 0 0 0 17 58 28 _ := ok_if_eq q24 dX8_stream_25 (by decide)
  have q26 : gz_OkE M_X8_stream 0 0 0 28 29 _ := ok_iload_n (i := 2) dX8_stream_28 rfl
  have q27 : gz_OkE M_X8_stream 1 0 0 29 30 _ := ok_iconst (v := 2) dX8_stream_29 kc_i2
  have q28 : gz_OkJ M_X8_stream 0 0 0 28 47 33 _ := ok_ic_ge q26 q27 dX8_stream_30 (by decide)
  have q29 : gz_OkA M_X8_stream 0 0 0 33 33 0 _ := ok_a0
  have q30 : gz_OkE M_X8_stream 0 0 0 33 35 _ := ok_iload (i := 4) dX8_stream_33
  have q31 : gz_OkA M_X8_stream 0 0 0 33 35 1 _ := ok_a1 q29 q30
  have q32 : gz_OkE M_X8_stream 2 0 0 35 38 _ := ok_sipush (v := 600) dX8_stream_35 kc_s600
  have q33 : gz_OkA M_X8_stream 0 0 0 33 38 2 _ := ok_a1 q31 q32
  have q34 : gz_OkE M_X8_stream 4 0 0 38 41 _ := ok_sipush (v := 3600) dX8_stream_38 kc_s3600
  have q35 : gz_OkA M_X8_stream 0 0 0 33 41 3 _ := ok_a1 q33 q34
  have q36 : gz_OkE M_X8_stream 0 0 0 33 44 _ := ok_cs q35 mt_X8_isIn wd_765 wd_188 de_X8_isIn (by decide) (by decide) wd_766 wd_767 dX8_stream_41 (by decide)
  have q37 : gz_OkJ M_X8_stream 0 0 0 33 58 47 _ := ok_if_eq q36 dX8_stream_44 (by decide)
  have q38 : gz_OkJ M_X8_stream 0 0 0 28 58 47 _ := ok_ja q28 q37
  have q39 : gz_OkJ M_X8_stream 0 0 0 17 58 47 _ := ok_jo q25 q38
  have q40 : gz_OkJ M_X8_stream 0 0 0 8 58 47 _ := ok_jo q16 q39
  have q41 : gz_OkJ M_X8_stream 0 0 0 0 58 47 _ := ok_jo q7 q40
  have q42 : gz_OkS M_X8_stream 0 0 58 _ := ok_at
  have q43 : gz_OkA M_X8_stream 0 0 0 47 47 0 _ := ok_a0
  have q44 : gz_OkE M_X8_stream 0 0 0 47 49 _ := ok_iload (i := 5) dX8_stream_47
  have q45 : gz_OkA M_X8_stream 0 0 0 47 49 1 _ := ok_a1 q43 q44
  have q46 : gz_OkE M_X8_stream 2 0 0 49 50 _ := ok_iconst (v := 4) dX8_stream_49 kc_i4
  have q47 : gz_OkA M_X8_stream 0 0 0 47 50 2 _ := ok_a1 q45 q46
  have q48 : gz_OkE M_X8_stream 4 0 0 50 52 _ := ok_bipush (v := 30) dX8_stream_50 kc_b30
  have q49 : gz_OkA M_X8_stream 0 0 0 47 52 3 _ := ok_a1 q47 q48
  have q50 : gz_OkE M_X8_stream 0 0 0 47 55 _ := ok_cs q49 mt_X8_isIn wd_765 wd_188 de_X8_isIn (by decide) (by decide) wd_766 wd_767 dX8_stream_52 (by decide)
  have q51 : gz_OkJ M_X8_stream 0 0 0 47 60 58 _ := ok_if_ne q50 dX8_stream_55 (by decide)
  have q52 : gz_OkS M_X8_stream 0 0 60 _ := ok_at
  have q53 : gz_OkS M_X8_stream 0 0 58 _ := ok_at
  have q54 : gz_OkS M_X8_stream 0 0 47 _ := ok_if q51 q52 q53
  have q55 : gz_OkS M_X8_stream 0 0 0 _ := ok_if q41 q42 q54
  have q56 : gz_OkE M_X8_stream 0 0 0 58 59 _ := ok_iconst (v := -1) dX8_stream_58 kc_im1
  have q57 : gz_OkS M_X8_stream 0 0 58 _ := ok_ri q56 dX8_stream_59
  have q58 : gz_OkS M_X8_stream 0 0 0 _ := ok_seq (L := 58) (k := 0) q55 q57
  have q59 : gz_OkE M_X8_stream 0 0 0 60 61 _ := ok_aload_n (i := 0) dX8_stream_60 rfl
  have q60 : gz_OkE M_X8_stream 0 0 0 60 64 _ := ok_get q59 cl_8 (k := 2) (by decide) in_8 wd_128 dX8_stream_61
  have q61 : gz_OkE M_X8_stream 1 0 0 64 65 _ := ok_iload_n (i := 1) dX8_stream_64 rfl
  have q62 : gz_OkE M_X8_stream 0 0 0 60 66 _ := ok_iald q60 q61 dX8_stream_65
  have q63 : gz_OkE M_X8_stream 1 0 0 66 68 _ := ok_bipush (v := 8) dX8_stream_66 kc_b8
  have q64 : gz_OkJ M_X8_stream 0 0 0 60 86 71 _ := ok_ic_eq q62 q63 dX8_stream_68 (by decide)
  have q65 : gz_OkA M_X8_stream 0 0 0 71 71 0 _ := ok_a0
  have q66 : gz_OkE M_X8_stream 0 0 0 71 72 _ := ok_aload_n (i := 0) dX8_stream_71 rfl
  have q67 : gz_OkA M_X8_stream 0 0 0 71 72 1 _ := ok_a1 q65 q66
  have q68 : gz_OkE M_X8_stream 2 0 0 72 73 _ := ok_iload_n (i := 1) dX8_stream_72 rfl
  have q69 : gz_OkA M_X8_stream 0 0 0 71 73 2 _ := ok_a1 q67 q68
  have q70 : gz_OkE M_X8_stream 0 0 0 71 76 _ := ok_cv q69 mt_X8_isPlanned cl_8 wd_768 wd_188 de_X8_isPlanned (by decide) (by decide) wd_769 wd_770 wd_771 dX8_stream_73 (by decide)
  have q71 : gz_OkJ M_X8_stream 0 0 0 71 86 79 _ := ok_if_ne q70 dX8_stream_76 (by decide)
  have q72 : gz_OkE M_X8_stream 0 0 0 79 80 _ := ok_aload_n (i := 0) dX8_stream_79 rfl
  have q73 : gz_OkE M_X8_stream 0 0 0 79 83 _ := ok_get q72 cl_8 (k := 1) (by decide) in_8 wd_171 dX8_stream_80
  have q74 : gz_OkJ M_X8_stream 0 0 0 79 88 86 _ := ok_if_le q73 dX8_stream_83 (by decide)
  have q75 : gz_OkJ M_X8_stream 0 0 0 71 88 86 _ := ok_ja q71 q74
  have q76 : gz_OkJ M_X8_stream 0 0 0 60 88 86 _ := ok_ja q64 q75
  have q77 : gz_OkE M_X8_stream 0 0 0 88 90 _ := ok_bipush (v := 8) dX8_stream_88 kc_b8
  have q78 : gz_OkE M_X8_stream 1 0 0 90 91 _ := ok_iload_n (i := 1) dX8_stream_90 rfl
  have q79 : gz_OkE M_X8_stream 0 0 0 88 92 _ := ok_imul q77 q78 dX8_stream_91
  have q80 : gz_OkE M_X8_stream 1 0 0 92 93 _ := ok_aload_n (i := 0) dX8_stream_92 rfl
  have q81 : gz_OkE M_X8_stream 1 0 0 92 96 _ := ok_get q80 cl_8 (k := 2) (by decide) in_8 wd_128 dX8_stream_93
  have q82 : gz_OkE M_X8_stream 2 0 0 96 97 _ := ok_iload_n (i := 1) dX8_stream_96 rfl
  have q83 : gz_OkE M_X8_stream 1 0 0 92 98 _ := ok_iald q81 q82 dX8_stream_97
  have q84 : gz_OkE M_X8_stream 0 0 0 88 99 _ := ok_iadd q79 q83 dX8_stream_98
  have q85 : gz_OkE M_X8_stream 0 0 0 101 102 _ := ok_aload_n (i := 0) dX8_stream_101 rfl
  have q86 : gz_OkE M_X8_stream 0 0 0 101 105 _ := ok_get q85 cl_8 (k := 2) (by decide) in_8 wd_128 dX8_stream_102
  have q87 : gz_OkE M_X8_stream 1 0 0 105 106 _ := ok_iload_n (i := 1) dX8_stream_105 rfl
  have q88 : gz_OkE M_X8_stream 2 0 0 106 108 _ := ok_d2iald dX8_stream_106 dX8_stream_107
  have q89 : gz_OkE M_X8_stream 3 0 0 108 109 _ := ok_iconst (v := 1) dX8_stream_108 kc_i1
  have q90 : gz_OkE M_X8_stream 2 0 0 106 110 _ := ok_iadd q88 q89 dX8_stream_109
  have q91 : gz_OkE M_X8_stream 0 0 0 111 112 _ := ok_aload_n (i := 0) dX8_stream_111 rfl
  have q92 : gz_OkE M_X8_stream 0 0 0 111 115 _ := ok_get q91 cl_8 (k := 3) (by decide) in_8 wd_129 dX8_stream_112
  have q93 : gz_OkE M_X8_stream 1 0 0 115 117 _ := ok_iload (i := 6) dX8_stream_115
  have q94 : gz_OkE M_X8_stream 2 0 0 117 118 _ := ok_iload_n (i := 2) dX8_stream_117 rfl
  have q95 : gz_OkE M_X8_stream 0 0 0 119 120 _ := ok_aload_n (i := 0) dX8_stream_119 rfl
  have q96 : gz_OkE M_X8_stream 0 0 0 119 123 _ := ok_get q95 cl_8 (k := 4) (by decide) in_8 wd_130 dX8_stream_120
  have q97 : gz_OkE M_X8_stream 1 0 0 123 125 _ := ok_iload (i := 6) dX8_stream_123
  have q98 : gz_OkE M_X8_stream 2 0 0 125 126 _ := ok_iload_n (i := 3) dX8_stream_125 rfl
  have q99 : gz_OkE M_X8_stream 0 0 0 127 128 _ := ok_aload_n (i := 0) dX8_stream_127 rfl
  have q100 : gz_OkE M_X8_stream 0 0 0 127 131 _ := ok_get q99 cl_8 (k := 5) (by decide) in_8 wd_131 dX8_stream_128
  have q101 : gz_OkE M_X8_stream 1 0 0 131 133 _ := ok_iload (i := 6) dX8_stream_131
  have q102 : gz_OkE M_X8_stream 2 0 0 133 134 _ := ok_iload_n (i := 2) dX8_stream_133 rfl
  have q103 : gz_OkE M_X8_stream 3 0 0 134 135 _ := ok_iconst (v := 2) dX8_stream_134 kc_i2
  have q104 : gz_OkJ M_X8_stream 2 0 0 133 144 138 _ := ok_ic_ne q102 q103 dX8_stream_135 (by decide)
  have q105 : gz_OkE M_X8_stream 2 0 0 138 141 _ := ok_sipush (v := 3600) dX8_stream_138 kc_s3600
  have q106 : gz_OkE M_X8_stream 2 0 0 138 157 _ := ok_eg q105 dX8_stream_141 (by decide)
  have q107 : gz_OkE M_X8_stream 2 0 0 144 145 _ := ok_iload_n (i := 2) dX8_stream_144 rfl
  have q108 : gz_OkE M_X8_stream 3 0 0 145 146 _ := ok_iconst (v := 3) dX8_stream_145 kc_i3
  have q109 : gz_OkJ M_X8_stream 2 0 0 144 155 149 _ := ok_ic_ne q107 q108 dX8_stream_146 (by decide)
  have q110 : gz_OkE M_X8_stream 2 0 0 149 152 _ := ok_sipush (v := 1200) dX8_stream_149 kc_s1200
  have q111 : gz_OkE M_X8_stream 2 0 0 149 157 _ := ok_eg q110 dX8_stream_152 (by decide)
  have q112 : gz_OkE M_X8_stream 2 0 0 155 157 _ := ok_iload (i := 4) dX8_stream_155
  have q113 : gz_OkE M_X8_stream 2 0 0 144 157 _ := ok_te2 q109 q111 q112
  have q114 : gz_OkE M_X8_stream 2 0 0 133 157 _ := ok_te2 q104 q106 q113
  have q115 : gz_OkE M_X8_stream 0 0 0 158 159 _ := ok_aload_n (i := 0) dX8_stream_158 rfl
  have q116 : gz_OkE M_X8_stream 0 0 0 158 162 _ := ok_get q115 cl_8 (k := 6) (by decide) in_8 wd_132 dX8_stream_159
  have q117 : gz_OkE M_X8_stream 1 0 0 162 164 _ := ok_iload (i := 6) dX8_stream_162
  have q118 : gz_OkA M_X8_stream 2 0 0 164 164 0 _ := ok_a0
  have q119 : gz_OkE M_X8_stream 2 0 0 164 166 _ := ok_iload (i := 5) dX8_stream_164
  have q120 : gz_OkA M_X8_stream 2 0 0 164 166 1 _ := ok_a1 q118 q119
  have q121 : gz_OkE M_X8_stream 4 0 0 166 167 _ := ok_iload_n (i := 2) dX8_stream_166 rfl
  have q122 : gz_OkE M_X8_stream 5 0 0 167 168 _ := ok_iconst (v := 1) dX8_stream_167 kc_i1
  have q123 : gz_OkJ M_X8_stream 4 0 0 166 175 171 _ := ok_ic_ne q121 q122 dX8_stream_168 (by decide)
  have q124 : gz_OkE M_X8_stream 4 0 0 171 172 _ := ok_iconst (v := 5) dX8_stream_171 kc_i5
  have q125 : gz_OkE M_X8_stream 4 0 0 171 186 _ := ok_eg q124 dX8_stream_172 (by decide)
  have q126 : gz_OkE M_X8_stream 4 0 0 175 176 _ := ok_iload_n (i := 2) dX8_stream_175 rfl
  have q127 : gz_OkE M_X8_stream 5 0 0 176 177 _ := ok_iconst (v := 2) dX8_stream_176 kc_i2
  have q128 : gz_OkJ M_X8_stream 4 0 0 175 185 180 _ := ok_ic_ne q126 q127 dX8_stream_177 (by decide)
  have q129 : gz_OkE M_X8_stream 4 0 0 180 182 _ := ok_bipush (v := 8) dX8_stream_180 kc_b8
  have q130 : gz_OkE M_X8_stream 4 0 0 180 186 _ := ok_eg q129 dX8_stream_182 (by decide)
  have q131 : gz_OkE M_X8_stream 4 0 0 185 186 _ := ok_iconst (v := 4) dX8_stream_185 kc_i4
  have q132 : gz_OkE M_X8_stream 4 0 0 175 186 _ := ok_te2 q128 q130 q131
  have q133 : gz_OkE M_X8_stream 4 0 0 166 186 _ := ok_te2 q123 q125 q132
  have q134 : gz_OkA M_X8_stream 2 0 0 164 186 2 _ := ok_a1 q120 q133
  have q135 : gz_OkE M_X8_stream 2 0 0 164 189 _ := ok_cs q134 mt_J9_max_7cf53 wd_418 wd_411 de_J9_max_7cf53 (by decide) (by decide) wd_772 wd_420 dX8_stream_186 (by decide)
  have q136 : gz_OkE M_X8_stream 0 0 0 190 191 _ := ok_aload_n (i := 0) dX8_stream_190 rfl
  have q137 : gz_OkE M_X8_stream 0 0 0 190 194 _ := ok_get q136 cl_8 (k := 2) (by decide) in_8 wd_128 dX8_stream_191
  have q138 : gz_OkE M_X8_stream 1 0 0 194 195 _ := ok_iload_n (i := 1) dX8_stream_194 rfl
  have q139 : gz_OkE M_X8_stream 0 0 0 190 196 _ := ok_iald q137 q138 dX8_stream_195
  have q140 : gz_OkE M_X8_stream 1 0 0 196 197 _ := ok_iconst (v := 1) dX8_stream_196 kc_i1
  have q141 : gz_OkE M_X8_stream 0 0 0 190 198 _ := ok_isub q139 q140 dX8_stream_197
  have q142 : gz_OkS M_X8_stream 0 0 190 _ := ok_ri q141 dX8_stream_198
  have q143 : gz_OkS M_X8_stream 0 0 158 _ := ok_iast q116 q117 q135 dX8_stream_189 q142
  have q144 : gz_OkS M_X8_stream 0 0 127 _ := ok_iast q100 q101 q114 dX8_stream_157 q143
  have q145 : gz_OkS M_X8_stream 0 0 119 _ := ok_iast q96 q97 q98 dX8_stream_126 q144
  have q146 : gz_OkS M_X8_stream 0 0 111 _ := ok_iast q92 q93 q94 dX8_stream_118 q145
  have q147 : gz_OkS M_X8_stream 0 0 101 _ := ok_iast q86 q87 q90 dX8_stream_110 q146
  have q148 : gz_OkS M_X8_stream 0 0 88 _ := ok_seti (k := 6) q84 dX8_stream_99 (by decide) q147
  have q149 : gz_OkE M_X8_stream 0 0 0 86 87 _ := ok_iconst (v := -1) dX8_stream_86 kc_im1
  have q150 : gz_OkS M_X8_stream 0 0 86 _ := ok_ri q149 dX8_stream_87
  have q151 : gz_OkS M_X8_stream 0 0 60 _ := ok_if q76 q148 q150
  have q152 : gz_OkS M_X8_stream 0 0 0 _ := ok_seq (L := 60) (k := 6) q58 q151
  have z : gz_OkS M_X8_stream 0 0 0 sm_X8_stream := q152
  exact gz_met (plainFor_of_name (by decide)) z (by decide) (by decide)
noncomputable def sm_X8_seconds : gz_Sx := gz_ri (gz_ald 100 (gz_get 8 48 7 (gz_la 0)) (gz_ib (fun x y => x + y) (gz_ib (fun x y => x + y) (gz_ib (fun x y => x * y) (gz_i (64)) (gz_li 1)) (gz_ib (fun x y => x * y) (gz_i (8)) (gz_li 2))) (gz_li 3)))
noncomputable def se_X8_seconds : gz_Me := gz_sem (some .int) 4 sm_X8_seconds
abbrev rm_X8_seconds : Room := { frames := 0, cells := 0, slots := 0, locals := 0 }
abbrev M_X8_seconds : gz_Mi := (cX8_seconds, 4, RX8, 0, 0, "seconds", none)
theorem de_X8_seconds : yX8_seconds.cls ≠ "java/lang/invoke/MethodHandle" ∧ yX8_seconds.cls ≠ "java/lang/invoke/VarHandle" ∧ (parseMethodDescriptor yX8_seconds.desc).map (fun d => d.parameters.length) = some 3 := by decide +kernel
set_option maxRecDepth 100000 in
theorem mt_X8_seconds : gz_Mt yX8_seconds cX8_seconds 4 (some .int) rm_X8_seconds se_X8_seconds := by
  have q1 : gz_OkE M_X8_seconds 0 0 0 0 1 _ := ok_aload_n (i := 0) dX8_seconds_0 rfl
  have q2 : gz_OkE M_X8_seconds 0 0 0 0 4 _ := ok_get q1 cl_8 (k := 7) (by decide) in_8 wd_133 dX8_seconds_1
  have q3 : gz_OkE M_X8_seconds 1 0 0 4 6 _ := ok_bipush (v := 64) dX8_seconds_4 kc_b64
  have q4 : gz_OkE M_X8_seconds 2 0 0 6 7 _ := ok_iload_n (i := 1) dX8_seconds_6 rfl
  have q5 : gz_OkE M_X8_seconds 1 0 0 4 8 _ := ok_imul q3 q4 dX8_seconds_7
  have q6 : gz_OkE M_X8_seconds 2 0 0 8 10 _ := ok_bipush (v := 8) dX8_seconds_8 kc_b8
  have q7 : gz_OkE M_X8_seconds 3 0 0 10 11 _ := ok_iload_n (i := 2) dX8_seconds_10 rfl
  have q8 : gz_OkE M_X8_seconds 2 0 0 8 12 _ := ok_imul q6 q7 dX8_seconds_11
  have q9 : gz_OkE M_X8_seconds 1 0 0 4 13 _ := ok_iadd q5 q8 dX8_seconds_12
  have q10 : gz_OkE M_X8_seconds 2 0 0 13 14 _ := ok_iload_n (i := 3) dX8_seconds_13 rfl
  have q11 : gz_OkE M_X8_seconds 1 0 0 4 15 _ := ok_iadd q9 q10 dX8_seconds_14
  have q12 : gz_OkE M_X8_seconds 0 0 0 0 16 _ := ok_iald q2 q11 dX8_seconds_15
  have q13 : gz_OkS M_X8_seconds 0 0 0 _ := ok_ri q12 dX8_seconds_16
  have z : gz_OkS M_X8_seconds 0 0 0 sm_X8_seconds := q13
  exact gz_met (plainFor_of_name (by decide)) z (by decide) (by decide)
noncomputable def sm_X8_isYielding : gz_Sx := gz_ri (gz_te (gz_ja (gz_j1 (fun x => decide (¬ x = 0)) (gz_ald 101 (gz_get 8 48 8 (gz_la 0)) (gz_ib (fun x y => x + y) (gz_ib (fun x y => x + y) (gz_ib (fun x y => x * y) (gz_i (64)) (gz_li 1)) (gz_ib (fun x y => x * y) (gz_i (8)) (gz_li 2))) (gz_li 3)))) (gz_j1 (fun x => decide (x = 0)) (gz_ald 101 (gz_get 8 48 8 (gz_la 0)) (gz_ib (fun x y => x + y) (gz_ib (fun x y => x + y) (gz_ib (fun x y => x * y) (gz_i (64)) (gz_li 1)) (gz_ib (fun x y => x * y) (gz_i (8)) (gz_li 3))) (gz_li 2))))) (gz_i (0)) (gz_i (1)))
noncomputable def se_X8_isYielding : gz_Me := gz_sem (some .boolean) 4 sm_X8_isYielding
abbrev rm_X8_isYielding : Room := { frames := 0, cells := 0, slots := 0, locals := 0 }
abbrev M_X8_isYielding : gz_Mi := (cX8_isYielding, 4, RX8, 0, 0, "isYielding", none)
theorem de_X8_isYielding : yX8_isYielding.cls ≠ "java/lang/invoke/MethodHandle" ∧ yX8_isYielding.cls ≠ "java/lang/invoke/VarHandle" ∧ (parseMethodDescriptor yX8_isYielding.desc).map (fun d => d.parameters.length) = some 3 := by decide +kernel
set_option maxRecDepth 100000 in
theorem mt_X8_isYielding : gz_Mt yX8_isYielding cX8_isYielding 4 (some .boolean) rm_X8_isYielding se_X8_isYielding := by
  have q1 : gz_OkE M_X8_isYielding 0 0 0 0 1 _ := ok_aload_n (i := 0) dX8_isYielding_0 rfl
  have q2 : gz_OkE M_X8_isYielding 0 0 0 0 4 _ := ok_get q1 cl_8 (k := 8) (by decide) in_8 wd_134 dX8_isYielding_1
  have q3 : gz_OkE M_X8_isYielding 1 0 0 4 6 _ := ok_bipush (v := 64) dX8_isYielding_4 kc_b64
  have q4 : gz_OkE M_X8_isYielding 2 0 0 6 7 _ := ok_iload_n (i := 1) dX8_isYielding_6 rfl
  have q5 : gz_OkE M_X8_isYielding 1 0 0 4 8 _ := ok_imul q3 q4 dX8_isYielding_7
  have q6 : gz_OkE M_X8_isYielding 2 0 0 8 10 _ := ok_bipush (v := 8) dX8_isYielding_8 kc_b8
  have q7 : gz_OkE M_X8_isYielding 3 0 0 10 11 _ := ok_iload_n (i := 2) dX8_isYielding_10 rfl
  have q8 : gz_OkE M_X8_isYielding 2 0 0 8 12 _ := ok_imul q6 q7 dX8_isYielding_11
  have q9 : gz_OkE M_X8_isYielding 1 0 0 4 13 _ := ok_iadd q5 q8 dX8_isYielding_12
  have q10 : gz_OkE M_X8_isYielding 2 0 0 13 14 _ := ok_iload_n (i := 3) dX8_isYielding_13 rfl
  have q11 : gz_OkE M_X8_isYielding 1 0 0 4 15 _ := ok_iadd q9 q10 dX8_isYielding_14
  have q12 : gz_OkE M_X8_isYielding 0 0 0 0 16 _ := ok_zald q2 q11 dX8_isYielding_15
  have q13 : gz_OkJ M_X8_isYielding 0 0 0 0 38 19 _ := ok_if_ne q12 dX8_isYielding_16 (by decide)
  have q14 : gz_OkE M_X8_isYielding 0 0 0 19 20 _ := ok_aload_n (i := 0) dX8_isYielding_19 rfl
  have q15 : gz_OkE M_X8_isYielding 0 0 0 19 23 _ := ok_get q14 cl_8 (k := 8) (by decide) in_8 wd_134 dX8_isYielding_20
  have q16 : gz_OkE M_X8_isYielding 1 0 0 23 25 _ := ok_bipush (v := 64) dX8_isYielding_23 kc_b64
  have q17 : gz_OkE M_X8_isYielding 2 0 0 25 26 _ := ok_iload_n (i := 1) dX8_isYielding_25 rfl
  have q18 : gz_OkE M_X8_isYielding 1 0 0 23 27 _ := ok_imul q16 q17 dX8_isYielding_26
  have q19 : gz_OkE M_X8_isYielding 2 0 0 27 29 _ := ok_bipush (v := 8) dX8_isYielding_27 kc_b8
  have q20 : gz_OkE M_X8_isYielding 3 0 0 29 30 _ := ok_iload_n (i := 3) dX8_isYielding_29 rfl
  have q21 : gz_OkE M_X8_isYielding 2 0 0 27 31 _ := ok_imul q19 q20 dX8_isYielding_30
  have q22 : gz_OkE M_X8_isYielding 1 0 0 23 32 _ := ok_iadd q18 q21 dX8_isYielding_31
  have q23 : gz_OkE M_X8_isYielding 2 0 0 32 33 _ := ok_iload_n (i := 2) dX8_isYielding_32 rfl
  have q24 : gz_OkE M_X8_isYielding 1 0 0 23 34 _ := ok_iadd q22 q23 dX8_isYielding_33
  have q25 : gz_OkE M_X8_isYielding 0 0 0 19 35 _ := ok_zald q15 q24 dX8_isYielding_34
  have q26 : gz_OkJ M_X8_isYielding 0 0 0 19 42 38 _ := ok_if_eq q25 dX8_isYielding_35 (by decide)
  have q27 : gz_OkJ M_X8_isYielding 0 0 0 0 42 38 _ := ok_ja q13 q26
  have q28 : gz_OkE M_X8_isYielding 0 0 0 38 39 _ := ok_iconst (v := 1) dX8_isYielding_38 kc_i1
  have q29 : gz_OkE M_X8_isYielding 0 0 0 38 43 _ := ok_eg q28 dX8_isYielding_39 (by decide)
  have q30 : gz_OkE M_X8_isYielding 0 0 0 42 43 _ := ok_iconst (v := 0) dX8_isYielding_42 kc_i0
  have q31 : gz_OkE M_X8_isYielding 0 0 0 0 43 _ := ok_te2 q27 q29 q30
  have q32 : gz_OkS M_X8_isYielding 0 0 0 _ := ok_ri q31 dX8_isYielding_43
  have z : gz_OkS M_X8_isYielding 0 0 0 sm_X8_isYielding := q32
  exact gz_met (plainFor_of_name (by decide)) z (by decide) (by decide)
noncomputable def sm_X8_apart : gz_Sx := gz_ri (gz_te (gz_j1 (fun x => decide (x = 0)) (gz_cv 8 48 se_X8_isYielding (gz_a1 (gz_a1 (gz_a1 (gz_a1 (gz_a0) (gz_la 0)) (gz_li 1)) (gz_li 2)) (gz_li 3)))) (gz_cv 8 48 se_X8_seconds (gz_a1 (gz_a1 (gz_a1 (gz_a1 (gz_a0) (gz_la 0)) (gz_li 1)) (gz_li 2)) (gz_li 3))) (gz_i (0)))
noncomputable def se_X8_apart : gz_Me := gz_sem (some .int) 4 sm_X8_apart
abbrev rm_X8_apart : Room := { frames := 1, cells := 0, slots := 0, locals := 23 }
abbrev M_X8_apart : gz_Mi := (cX8_apart, 4, RX8, 1, 23, "apart", none)
theorem de_X8_apart : yX8_apart.cls ≠ "java/lang/invoke/MethodHandle" ∧ yX8_apart.cls ≠ "java/lang/invoke/VarHandle" ∧ (parseMethodDescriptor yX8_apart.desc).map (fun d => d.parameters.length) = some 3 := by decide +kernel
set_option maxRecDepth 100000 in
theorem mt_X8_apart : gz_Mt yX8_apart cX8_apart 4 (some .int) rm_X8_apart se_X8_apart := by
  have q1 : gz_OkA M_X8_apart 0 0 0 0 0 0 _ := ok_a0
  have q2 : gz_OkE M_X8_apart 0 0 0 0 1 _ := ok_aload_n (i := 0) dX8_apart_0 rfl
  have q3 : gz_OkA M_X8_apart 0 0 0 0 1 1 _ := ok_a1 q1 q2
  have q4 : gz_OkE M_X8_apart 2 0 0 1 2 _ := ok_iload_n (i := 1) dX8_apart_1 rfl
  have q5 : gz_OkA M_X8_apart 0 0 0 0 2 2 _ := ok_a1 q3 q4
  have q6 : gz_OkE M_X8_apart 4 0 0 2 3 _ := ok_iload_n (i := 2) dX8_apart_2 rfl
  have q7 : gz_OkA M_X8_apart 0 0 0 0 3 3 _ := ok_a1 q5 q6
  have q8 : gz_OkE M_X8_apart 6 0 0 3 4 _ := ok_iload_n (i := 3) dX8_apart_3 rfl
  have q9 : gz_OkA M_X8_apart 0 0 0 0 4 4 _ := ok_a1 q7 q8
  have q10 : gz_OkE M_X8_apart 0 0 0 0 7 _ := ok_cv q9 mt_X8_isYielding cl_8 wd_773 wd_188 de_X8_isYielding (by decide) (by decide) wd_774 wd_775 wd_776 dX8_apart_4 (by decide)
  have q11 : gz_OkJ M_X8_apart 0 0 0 0 14 10 _ := ok_if_eq q10 dX8_apart_7 (by decide)
  have q12 : gz_OkE M_X8_apart 0 0 0 10 11 _ := ok_iconst (v := 0) dX8_apart_10 kc_i0
  have q13 : gz_OkE M_X8_apart 0 0 0 10 21 _ := ok_eg q12 dX8_apart_11 (by decide)
  have q14 : gz_OkA M_X8_apart 0 0 0 14 14 0 _ := ok_a0
  have q15 : gz_OkE M_X8_apart 0 0 0 14 15 _ := ok_aload_n (i := 0) dX8_apart_14 rfl
  have q16 : gz_OkA M_X8_apart 0 0 0 14 15 1 _ := ok_a1 q14 q15
  have q17 : gz_OkE M_X8_apart 2 0 0 15 16 _ := ok_iload_n (i := 1) dX8_apart_15 rfl
  have q18 : gz_OkA M_X8_apart 0 0 0 14 16 2 _ := ok_a1 q16 q17
  have q19 : gz_OkE M_X8_apart 4 0 0 16 17 _ := ok_iload_n (i := 2) dX8_apart_16 rfl
  have q20 : gz_OkA M_X8_apart 0 0 0 14 17 3 _ := ok_a1 q18 q19
  have q21 : gz_OkE M_X8_apart 6 0 0 17 18 _ := ok_iload_n (i := 3) dX8_apart_17 rfl
  have q22 : gz_OkA M_X8_apart 0 0 0 14 18 4 _ := ok_a1 q20 q21
  have q23 : gz_OkE M_X8_apart 0 0 0 14 21 _ := ok_cv q22 mt_X8_seconds cl_8 wd_777 wd_188 de_X8_seconds (by decide) (by decide) wd_778 wd_779 wd_780 dX8_apart_18 (by decide)
  have q24 : gz_OkE M_X8_apart 0 0 0 0 21 _ := ok_te2 q11 q13 q23
  have q25 : gz_OkS M_X8_apart 0 0 0 _ := ok_ri q24 dX8_apart_21
  have z : gz_OkS M_X8_apart 0 0 0 sm_X8_apart := q25
  exact gz_met (plainFor_of_name (by decide)) z (by decide) (by decide)
noncomputable def sm_X8_against : gz_Sx := gz_if (gz_ja (gz_j1 (fun x => decide (x = 0)) (gz_cv 8 48 se_X8_isStream (gz_a1 (gz_a1 (gz_a1 (gz_a0) (gz_la 0)) (gz_li 1)) (gz_li 2)))) (gz_ja (gz_j1 (fun x => decide (x = 0)) (gz_cv 8 48 se_X8_isStream (gz_a1 (gz_a1 (gz_a1 (gz_a0) (gz_la 0)) (gz_li 1)) (gz_li 3)))) (gz_ja (gz_j2 (fun x y => decide (x = y)) (gz_li 2) (gz_li 3)) (gz_ja (gz_j1 (fun x => decide (x = 0)) (gz_cs se_X8_isIn (gz_a1 (gz_a1 (gz_a1 (gz_a0) (gz_li 4)) (gz_i (1))) (gz_i (20))))) (gz_ja (gz_j1 (fun x => decide (x = 0)) (gz_cs se_X8_isIn (gz_a1 (gz_a1 (gz_a1 (gz_a0) (gz_li 5)) (gz_i (1))) (gz_i (20))))) (gz_j1 (fun x => decide (x = 0)) (gz_cv 8 48 se_X8_isPlanned (gz_a1 (gz_a1 (gz_a0) (gz_la 0)) (gz_li 1))))))))) (gz_ast 100 (gz_get 8 48 7 (gz_la 0)) (gz_ib (fun x y => x + y) (gz_ib (fun x y => x + y) (gz_ib (fun x y => x * y) (gz_i (64)) (gz_li 1)) (gz_ib (fun x y => x * y) (gz_i (8)) (gz_li 2))) (gz_li 3)) (gz_li 4) (gz_ast 100 (gz_get 8 48 7 (gz_la 0)) (gz_ib (fun x y => x + y) (gz_ib (fun x y => x + y) (gz_ib (fun x y => x * y) (gz_i (64)) (gz_li 1)) (gz_ib (fun x y => x * y) (gz_i (8)) (gz_li 3))) (gz_li 2)) (gz_li 5) (gz_ri (gz_i (1))))) (gz_ri (gz_i (0)))
noncomputable def se_X8_against : gz_Me := gz_sem (some .boolean) 6 sm_X8_against
abbrev rm_X8_against : Room := { frames := 2, cells := 0, slots := 0, locals := 43 }
abbrev M_X8_against : gz_Mi := (cX8_against, 6, RX8, 2, 43, "against", none)
theorem de_X8_against : yX8_against.cls ≠ "java/lang/invoke/MethodHandle" ∧ yX8_against.cls ≠ "java/lang/invoke/VarHandle" ∧ (parseMethodDescriptor yX8_against.desc).map (fun d => d.parameters.length) = some 5 := by decide +kernel
set_option maxRecDepth 100000 in
theorem mt_X8_against : gz_Mt yX8_against cX8_against 6 (some .boolean) rm_X8_against se_X8_against := by
  have q1 : gz_OkA M_X8_against 0 0 0 0 0 0 _ := ok_a0
  have q2 : gz_OkE M_X8_against 0 0 0 0 1 _ := ok_aload_n (i := 0) dX8_against_0 rfl
  have q3 : gz_OkA M_X8_against 0 0 0 0 1 1 _ := ok_a1 q1 q2
  have q4 : gz_OkE M_X8_against 2 0 0 1 2 _ := ok_iload_n (i := 1) dX8_against_1 rfl
  have q5 : gz_OkA M_X8_against 0 0 0 0 2 2 _ := ok_a1 q3 q4
  have q6 : gz_OkE M_X8_against 4 0 0 2 3 _ := ok_iload_n (i := 2) dX8_against_2 rfl
  have q7 : gz_OkA M_X8_against 0 0 0 0 3 3 _ := ok_a1 q5 q6
  have q8 : gz_OkE M_X8_against 0 0 0 0 6 _ := ok_cv q7 mt_X8_isStream cl_8 wd_781 wd_188 de_X8_isStream (by decide) (by decide) wd_782 wd_783 wd_784 dX8_against_3 (by decide)
  have q9 : gz_OkJ M_X8_against 0 0 0 0 53 9 _ := ok_if_eq q8 dX8_against_6 (by decide)
  have q10 : gz_OkA M_X8_against 0 0 0 9 9 0 _ := ok_a0
  have q11 : gz_OkE M_X8_against 0 0 0 9 10 _ := ok_aload_n (i := 0) dX8_against_9 rfl
  have q12 : gz_OkA M_X8_against 0 0 0 9 10 1 _ := ok_a1 q10 q11
  have q13 : gz_OkE M_X8_against 2 0 0 10 11 _ := ok_iload_n (i := 1) dX8_against_10 rfl
  have q14 : gz_OkA M_X8_against 0 0 0 9 11 2 _ := ok_a1 q12 q13
  have q15 : gz_OkE M_X8_against 4 0 0 11 12 _ := ok_iload_n (i := 3) dX8_against_11 rfl
  have q16 : gz_OkA M_X8_against 0 0 0 9 12 3 _ := ok_a1 q14 q15
  have q17 : gz_OkE M_X8_against 0 0 0 9 15 _ := ok_cv q16 mt_X8_isStream cl_8 wd_781 wd_188 de_X8_isStream (by decide) (by decide) wd_782 wd_783 wd_784 dX8_against_12 (by decide)
  have q18 : gz_OkJ M_X8_against 0 0 0 9 53 18 _ := ok_if_eq q17 dX8_against_15 (by decide)
  have q19 : gz_OkE M_X8_against 0 0 0 18 19 _ := ok_iload_n (i := 2) dX8_against_18 rfl
  have q20 : gz_OkE M_X8_against 1 0 0 19 20 _ := ok_iload_n (i := 3) dX8_against_19 rfl
  have q21 : gz_OkJ M_X8_against 0 0 0 18 53 23 _ := ok_ic_eq q19 q20 dX8_against_20 (by decide)
  have q22 : gz_OkA M_X8_against 0 0 0 23 23 0 _ := ok_a0
  have q23 : gz_OkE M_X8_against 0 0 0 23 25 _ := ok_iload (i := 4) dX8_against_23
  have q24 : gz_OkA M_X8_against 0 0 0 23 25 1 _ := ok_a1 q22 q23
  have q25 : gz_OkE M_X8_against 2 0 0 25 26 _ := ok_iconst (v := 1) dX8_against_25 kc_i1
  have q26 : gz_OkA M_X8_against 0 0 0 23 26 2 _ := ok_a1 q24 q25
  have q27 : gz_OkE M_X8_against 4 0 0 26 28 _ := ok_bipush (v := 20) dX8_against_26 kc_b20
  have q28 : gz_OkA M_X8_against 0 0 0 23 28 3 _ := ok_a1 q26 q27
  have q29 : gz_OkE M_X8_against 0 0 0 23 31 _ := ok_cs q28 mt_X8_isIn wd_765 wd_188 de_X8_isIn (by decide) (by decide) wd_766 wd_767 dX8_against_28 (by decide)
  have q30 : gz_OkJ M_X8_against 0 0 0 23 53 34 _ := ok_if_eq q29 dX8_against_31 (by decide)
  have q31 : gz_OkA M_X8_against 0 0 0 34 34 0 _ := ok_a0
  have q32 : gz_OkE M_X8_against 0 0 0 34 36 _ := ok_iload (i := 5) dX8_against_34
  have q33 : gz_OkA M_X8_against 0 0 0 34 36 1 _ := ok_a1 q31 q32
  have q34 : gz_OkE M_X8_against 2 0 0 36 37 _ := ok_iconst (v := 1) dX8_against_36 kc_i1
  have q35 : gz_OkA M_X8_against 0 0 0 34 37 2 _ := ok_a1 q33 q34
  have q36 : gz_OkE M_X8_against 4 0 0 37 39 _ := ok_bipush (v := 20) dX8_against_37 kc_b20
  have q37 : gz_OkA M_X8_against 0 0 0 34 39 3 _ := ok_a1 q35 q36
  have q38 : gz_OkE M_X8_against 0 0 0 34 42 _ := ok_cs q37 mt_X8_isIn wd_765 wd_188 de_X8_isIn (by decide) (by decide) wd_766 wd_767 dX8_against_39 (by decide)
  have q39 : gz_OkJ M_X8_against 0 0 0 34 53 45 _ := ok_if_eq q38 dX8_against_42 (by decide)
  have q40 : gz_OkA M_X8_against 0 0 0 45 45 0 _ := ok_a0
  have q41 : gz_OkE M_X8_against 0 0 0 45 46 _ := ok_aload_n (i := 0) dX8_against_45 rfl
  have q42 : gz_OkA M_X8_against 0 0 0 45 46 1 _ := ok_a1 q40 q41
  have q43 : gz_OkE M_X8_against 2 0 0 46 47 _ := ok_iload_n (i := 1) dX8_against_46 rfl
  have q44 : gz_OkA M_X8_against 0 0 0 45 47 2 _ := ok_a1 q42 q43
  have q45 : gz_OkE M_X8_against 0 0 0 45 50 _ := ok_cv q44 mt_X8_isPlanned cl_8 wd_768 wd_188 de_X8_isPlanned (by decide) (by decide) wd_769 wd_770 wd_771 dX8_against_47 (by decide)
  have q46 : gz_OkJ M_X8_against 0 0 0 45 55 53 _ := ok_if_eq q45 dX8_against_50 (by decide)
  have q47 : gz_OkJ M_X8_against 0 0 0 34 55 53 _ := ok_ja q39 q46
  have q48 : gz_OkJ M_X8_against 0 0 0 23 55 53 _ := ok_ja q30 q47
  have q49 : gz_OkJ M_X8_against 0 0 0 18 55 53 _ := ok_ja q21 q48
  have q50 : gz_OkJ M_X8_against 0 0 0 9 55 53 _ := ok_ja q18 q49
  have q51 : gz_OkJ M_X8_against 0 0 0 0 55 53 _ := ok_ja q9 q50
  have q52 : gz_OkE M_X8_against 0 0 0 55 56 _ := ok_aload_n (i := 0) dX8_against_55 rfl
  have q53 : gz_OkE M_X8_against 0 0 0 55 59 _ := ok_get q52 cl_8 (k := 7) (by decide) in_8 wd_133 dX8_against_56
  have q54 : gz_OkE M_X8_against 1 0 0 59 61 _ := ok_bipush (v := 64) dX8_against_59 kc_b64
  have q55 : gz_OkE M_X8_against 2 0 0 61 62 _ := ok_iload_n (i := 1) dX8_against_61 rfl
  have q56 : gz_OkE M_X8_against 1 0 0 59 63 _ := ok_imul q54 q55 dX8_against_62
  have q57 : gz_OkE M_X8_against 2 0 0 63 65 _ := ok_bipush (v := 8) dX8_against_63 kc_b8
  have q58 : gz_OkE M_X8_against 3 0 0 65 66 _ := ok_iload_n (i := 2) dX8_against_65 rfl
  have q59 : gz_OkE M_X8_against 2 0 0 63 67 _ := ok_imul q57 q58 dX8_against_66
  have q60 : gz_OkE M_X8_against 1 0 0 59 68 _ := ok_iadd q56 q59 dX8_against_67
  have q61 : gz_OkE M_X8_against 2 0 0 68 69 _ := ok_iload_n (i := 3) dX8_against_68 rfl
  have q62 : gz_OkE M_X8_against 1 0 0 59 70 _ := ok_iadd q60 q61 dX8_against_69
  have q63 : gz_OkE M_X8_against 2 0 0 70 72 _ := ok_iload (i := 4) dX8_against_70
  have q64 : gz_OkE M_X8_against 0 0 0 73 74 _ := ok_aload_n (i := 0) dX8_against_73 rfl
  have q65 : gz_OkE M_X8_against 0 0 0 73 77 _ := ok_get q64 cl_8 (k := 7) (by decide) in_8 wd_133 dX8_against_74
  have q66 : gz_OkE M_X8_against 1 0 0 77 79 _ := ok_bipush (v := 64) dX8_against_77 kc_b64
  have q67 : gz_OkE M_X8_against 2 0 0 79 80 _ := ok_iload_n (i := 1) dX8_against_79 rfl
  have q68 : gz_OkE M_X8_against 1 0 0 77 81 _ := ok_imul q66 q67 dX8_against_80
  have q69 : gz_OkE M_X8_against 2 0 0 81 83 _ := ok_bipush (v := 8) dX8_against_81 kc_b8
  have q70 : gz_OkE M_X8_against 3 0 0 83 84 _ := ok_iload_n (i := 3) dX8_against_83 rfl
  have q71 : gz_OkE M_X8_against 2 0 0 81 85 _ := ok_imul q69 q70 dX8_against_84
  have q72 : gz_OkE M_X8_against 1 0 0 77 86 _ := ok_iadd q68 q71 dX8_against_85
  have q73 : gz_OkE M_X8_against 2 0 0 86 87 _ := ok_iload_n (i := 2) dX8_against_86 rfl
  have q74 : gz_OkE M_X8_against 1 0 0 77 88 _ := ok_iadd q72 q73 dX8_against_87
  have q75 : gz_OkE M_X8_against 2 0 0 88 90 _ := ok_iload (i := 5) dX8_against_88
  have q76 : gz_OkE M_X8_against 0 0 0 91 92 _ := ok_iconst (v := 1) dX8_against_91 kc_i1
  have q77 : gz_OkS M_X8_against 0 0 91 _ := ok_ri q76 dX8_against_92
  have q78 : gz_OkS M_X8_against 0 0 73 _ := ok_iast q65 q74 q75 dX8_against_90 q77
  have q79 : gz_OkS M_X8_against 0 0 55 _ := ok_iast q53 q62 q63 dX8_against_72 q78
  have q80 : gz_OkE M_X8_against 0 0 0 53 54 _ := ok_iconst (v := 0) dX8_against_53 kc_i0
  have q81 : gz_OkS M_X8_against 0 0 53 _ := ok_ri q80 dX8_against_54
  have q82 : gz_OkS M_X8_against 0 0 0 _ := ok_if q51 q79 q81
  have z : gz_OkS M_X8_against 0 0 0 sm_X8_against := q82
  exact gz_met (plainFor_of_name (by decide)) z (by decide) (by decide)
