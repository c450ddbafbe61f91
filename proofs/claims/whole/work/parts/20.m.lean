noncomputable def sm_X0_init : gz_Sx := gz_sup (gz_la 0) (gz_put 0 6 0 (.array .int) (gz_la 0) (gz_nar 100 (.int 0) (gz_i (16)) 16) (gz_put 0 6 1 (.array .int) (gz_la 0) (gz_nar 100 (.int 0) (gz_i (4)) 4) (gz_put 0 6 2 (.array .int) (gz_la 0) (gz_nar 100 (.int 0) (gz_i (4)) 4) (gz_put 0 6 3 (.array .int) (gz_la 0) (gz_nar 100 (.int 0) (gz_i (4)) 4) (gz_rv)))))
noncomputable def se_X0_init : gz_Me := gz_sem none 1 sm_X0_init
abbrev rm_X0_init : Room := { frames := 1, cells := 4, slots := 28, locals := 12 }
abbrev M_X0_init : gz_Mi := (cX0_init, 1, RX0, 1, 12, "<init>", none)
theorem de_X0_init : yX0_init.cls ≠ "java/lang/invoke/MethodHandle" ∧ yX0_init.cls ≠ "java/lang/invoke/VarHandle" ∧ (parseMethodDescriptor yX0_init.desc).map (fun d => d.parameters.length) = some 0 := by decide +kernel
set_option maxRecDepth 100000 in
theorem mt_X0_init : gz_Mt yX0_init cX0_init 1 none rm_X0_init se_X0_init := by
  have q1 : gz_OkE M_X0_init 0 0 0 0 1 _ := ok_aload_n (i := 0) dX0_init_0 rfl
  have q2 : gz_OkE M_X0_init 0 0 0 4 5 _ := ok_aload_n (i := 0) dX0_init_4 rfl
  have q3 : gz_OkE M_X0_init 1 0 0 5 7 _ := ok_bipush (v := 16) dX0_init_5 kc_b16
  have q4 : gz_OkE M_X0_init 1 1 16 5 9 _ := ok_newI (n := 16) q3 wd_0 (by decide) dX0_init_7
  have q5 : gz_OkE M_X0_init 0 0 0 12 13 _ := ok_aload_n (i := 0) dX0_init_12 rfl
  have q6 : gz_OkE M_X0_init 1 0 0 13 14 _ := ok_iconst (v := 4) dX0_init_13 kc_i4
  have q7 : gz_OkE M_X0_init 1 1 4 13 16 _ := ok_newI (n := 4) q6 wd_0 (by decide) dX0_init_14
  have q8 : gz_OkE M_X0_init 0 0 0 19 20 _ := ok_aload_n (i := 0) dX0_init_19 rfl
  have q9 : gz_OkE M_X0_init 1 0 0 20 21 _ := ok_iconst (v := 4) dX0_init_20 kc_i4
  have q10 : gz_OkE M_X0_init 1 1 4 20 23 _ := ok_newI (n := 4) q9 wd_0 (by decide) dX0_init_21
  have q11 : gz_OkE M_X0_init 0 0 0 26 27 _ := ok_aload_n (i := 0) dX0_init_26 rfl
  have q12 : gz_OkE M_X0_init 1 0 0 27 28 _ := ok_iconst (v := 4) dX0_init_27 kc_i4
  have q13 : gz_OkE M_X0_init 1 1 4 27 30 _ := ok_newI (n := 4) q12 wd_0 (by decide) dX0_init_28
  have q14 : gz_OkS M_X0_init 0 0 33 _ := ok_rv dX0_init_33
  have q15 : gz_OkS M_X0_init 1 4 26 _ := ok_putF (ty := (.array .int)) q11 q13 cl_0 (k := 3) (by decide) in_0 wd_4 tyX0 tyX0_ok nmX0 rfl rfl rfl rfl dX0_init_30 q14
  have q16 : gz_OkS M_X0_init 2 8 19 _ := ok_putF (ty := (.array .int)) q8 q10 cl_0 (k := 2) (by decide) in_0 wd_3 tyX0 tyX0_ok nmX0 rfl rfl rfl rfl dX0_init_23 q15
  have q17 : gz_OkS M_X0_init 3 12 12 _ := ok_putF (ty := (.array .int)) q5 q7 cl_0 (k := 1) (by decide) in_0 wd_2 tyX0 tyX0_ok nmX0 rfl rfl rfl rfl dX0_init_16 q16
  have q18 : gz_OkS M_X0_init 4 28 4 _ := ok_putF (ty := (.array .int)) q2 q4 cl_0 (k := 0) (by decide) in_0 wd_1 tyX0 tyX0_ok nmX0 rfl rfl rfl rfl dX0_init_9 q17
  have q19 : gz_OkS M_X0_init 4 28 0 _ := ok_sup q1 wd_402 wd_403 wd_404 (by decide) (by decide) dX0_init_1 q18
  have z : gz_OkS M_X0_init 4 28 0 sm_X0_init := q19
  exact gz_met (plainFor_of_name (by decide)) z (by decide) (by decide)
noncomputable def lb_X2_stagesWith_4 : gz_Sx := gz_if (gz_j2 (fun x y => decide (y ≤ x)) (gz_li 3) (gz_get 2 9 2 (gz_la 0))) (gz_sat 37) (gz_seq 31 4 (gz_if (gz_j1 (fun x => decide (x = 0)) (gz_ib (fun x y => x &&& y) (gz_ib (fun x y => x >>> (y &&& 31)) (gz_ald 100 (gz_get 2 9 4 (gz_la 0)) (gz_li 3)) (gz_li 1)) (gz_i (1)))) (gz_sat 31) (gz_seti 2 (gz_ib (fun x y => x ||| y) (gz_li 2) (gz_ib (fun x y => x <<< (y &&& 31)) (gz_i (1)) (gz_li 3))) (gz_sat 31))) (gz_inc 3 (1) (gz_sat 4)))
noncomputable def sm_X2_stagesWith : gz_Sx := gz_seti 2 (gz_i (0)) (gz_seti 3 (gz_i (0)) (gz_seq 37 3 (gz_loop 4 4 lb_X2_stagesWith_4) (gz_ri (gz_li 2))))
noncomputable def se_X2_stagesWith : gz_Me := gz_sem (some .int) 4 sm_X2_stagesWith
abbrev rm_X2_stagesWith : Room := { frames := 0, cells := 0, slots := 0, locals := 0 }
abbrev M_X2_stagesWith : gz_Mi := (cX2_stagesWith, 4, RX2, 0, 0, "stagesWith", none)
theorem de_X2_stagesWith : yX2_stagesWith.cls ≠ "java/lang/invoke/MethodHandle" ∧ yX2_stagesWith.cls ≠ "java/lang/invoke/VarHandle" ∧ (parseMethodDescriptor yX2_stagesWith.desc).map (fun d => d.parameters.length) = some 1 := by decide +kernel
set_option maxRecDepth 100000 in
theorem mt_X2_stagesWith : gz_Mt yX2_stagesWith cX2_stagesWith 4 (some .int) rm_X2_stagesWith se_X2_stagesWith := by
  have q1 : gz_OkE M_X2_stagesWith 0 0 0 0 1 _ := ok_iconst (v := 0) dX2_stagesWith_0 kc_i0
  have q2 : gz_OkE M_X2_stagesWith 0 0 0 2 3 _ := ok_iconst (v := 0) dX2_stagesWith_2 kc_i0
  have q3 : gz_OkE M_X2_stagesWith 0 0 0 4 5 _ := ok_iload_n (i := 3) dX2_stagesWith_4 rfl
  have q4 : gz_OkE M_X2_stagesWith 1 0 0 5 6 _ := ok_aload_n (i := 0) dX2_stagesWith_5 rfl
  have q5 : gz_OkE M_X2_stagesWith 1 0 0 5 9 _ := ok_get q4 cl_2 (k := 2) (by decide) in_2 wd_41 dX2_stagesWith_6
  have q6 : gz_OkJ M_X2_stagesWith 0 0 0 4 37 12 _ := ok_ic_ge q3 q5 dX2_stagesWith_9 (by decide)
  have q7 : gz_OkS M_X2_stagesWith 0 0 37 _ := ok_at
  have q8 : gz_OkE M_X2_stagesWith 0 0 0 12 13 _ := ok_aload_n (i := 0) dX2_stagesWith_12 rfl
  have q9 : gz_OkE M_X2_stagesWith 0 0 0 12 16 _ := ok_get q8 cl_2 (k := 4) (by decide) in_2 wd_36 dX2_stagesWith_13
  have q10 : gz_OkE M_X2_stagesWith 1 0 0 16 17 _ := ok_iload_n (i := 3) dX2_stagesWith_16 rfl
  have q11 : gz_OkE M_X2_stagesWith 0 0 0 12 18 _ := ok_iald q9 q10 dX2_stagesWith_17
  have q12 : gz_OkE M_X2_stagesWith 1 0 0 18 19 _ := ok_iload_n (i := 1) dX2_stagesWith_18 rfl
  have q13 : gz_OkE M_X2_stagesWith 0 0 0 12 20 _ := ok_ishr q11 q12 dX2_stagesWith_19
  have q14 : gz_OkE M_X2_stagesWith 1 0 0 20 21 _ := ok_iconst (v := 1) dX2_stagesWith_20 kc_i1
  have q15 : gz_OkE M_X2_stagesWith 0 0 0 12 22 _ := ok_iand q13 q14 dX2_stagesWith_21
  have q16 : gz_OkJ M_X2_stagesWith 0 0 0 12 31 25 _ := ok_if_eq q15 dX2_stagesWith_22 (by decide)
  have q17 : gz_OkS M_X2_stagesWith 0 0 31 _ := ok_at
  have q18 : gz_OkE M_X2_stagesWith 0 0 0 25 26 _ := ok_iload_n (i := 2) dX2_stagesWith_25 rfl
  have q19 : gz_OkE M_X2_stagesWith 1 0 0 26 27 _ := ok_iconst (v := 1) dX2_stagesWith_26 kc_i1
  have q20 : gz_OkE M_X2_stagesWith 2 0 0 27 28 _ := ok_iload_n (i := 3) dX2_stagesWith_27 rfl
  have q21 : gz_OkE M_X2_stagesWith 1 0 0 26 29 _ := ok_ishl q19 q20 dX2_stagesWith_28
  have q22 : gz_OkE M_X2_stagesWith 0 0 0 25 30 _ := ok_ior q18 q21 dX2_stagesWith_29
  have q23 : gz_OkS M_X2_stagesWith 0 0 31 _ := ok_at
  have q24 : gz_OkS M_X2_stagesWith 0 0 25 _ := ok_seti_n (k := 2) q22 dX2_stagesWith_30 rfl (by decide) q23
  have q25 : gz_OkS M_X2_stagesWith 0 0 12 _ := ok_if q16 q17 q24
  have q26 : gz_OkS M_X2_stagesWith 0 0 34 (gz_sat 4) := ok_goto dX2_stagesWith_34 (by decide)
  have q27 : gz_OkS M_X2_stagesWith 0 0 31 _ := ok_inc (v := 1) dX2_stagesWith_31 kc_i1 (by decide) q26
  have q28 : gz_OkS M_X2_stagesWith 0 0 12 _ := ok_seq (L := 31) (k := 4) q25 q27
  have q29 : gz_OkS M_X2_stagesWith 0 0 4 _ := ok_if q6 q7 q28
  have q30 : gz_OkS M_X2_stagesWith 0 0 4 lb_X2_stagesWith_4 := q29
  have q31 : gz_OkS M_X2_stagesWith 0 0 4 _ := ok_loop (k := 4) q30 rfl rfl
  have q32 : gz_OkE M_X2_stagesWith 0 0 0 37 38 _ := ok_iload_n (i := 2) dX2_stagesWith_37 rfl
  have q33 : gz_OkS M_X2_stagesWith 0 0 37 _ := ok_ri q32 dX2_stagesWith_38
  have q34 : gz_OkS M_X2_stagesWith 0 0 4 _ := ok_seq (L := 37) (k := 3) q31 q33
  have q35 : gz_OkS M_X2_stagesWith 0 0 2 _ := ok_seti_n (k := 3) q2 dX2_stagesWith_3 rfl (by decide) q34
  have q36 : gz_OkS M_X2_stagesWith 0 0 0 _ := ok_seti_n (k := 2) q1 dX2_stagesWith_1 rfl (by decide) q35
  have z : gz_OkS M_X2_stagesWith 0 0 0 sm_X2_stagesWith := q36
  exact gz_met (plainFor_of_name (by decide)) z (by decide) (by decide)
noncomputable def lb_X0_leavesOneOut_2 : gz_Sx := gz_if (gz_j2 (fun x y => decide (y ≤ x)) (gz_li 3) (gz_get 1 11 5 (gz_la 1))) (gz_sat 38) (gz_if (gz_jo (gz_j1 (fun x => decide (x ≤ 0)) (gz_get 3 14 1 (gz_ald 103 (gz_get 1 11 0 (gz_la 1)) (gz_li 3)))) (gz_j1 (fun x => decide (¬ x = 0)) (gz_cv 2 9 se_X2_stagesWith (gz_a1 (gz_a1 (gz_a0) (gz_la 2)) (gz_li 3))))) (gz_inc 3 (1) (gz_sat 2)) (gz_ri (gz_i (1))))
noncomputable def sm_X0_leavesOneOut : gz_Sx := gz_seti 3 (gz_i (0)) (gz_seq 38 0 (gz_loop 2 4 lb_X0_leavesOneOut_2) (gz_ri (gz_i (0))))
noncomputable def se_X0_leavesOneOut : gz_Me := gz_sem (some .boolean) 4 sm_X0_leavesOneOut
abbrev rm_X0_leavesOneOut : Room := { frames := 1, cells := 0, slots := 0, locals := 23 }
abbrev M_X0_leavesOneOut : gz_Mi := (cX0_leavesOneOut, 4, RX0, 1, 23, "leavesOneOut", none)
theorem de_X0_leavesOneOut : yX0_leavesOneOut.cls ≠ "java/lang/invoke/MethodHandle" ∧ yX0_leavesOneOut.cls ≠ "java/lang/invoke/VarHandle" ∧ (parseMethodDescriptor yX0_leavesOneOut.desc).map (fun d => d.parameters.length) = some 2 := by decide +kernel
set_option maxRecDepth 100000 in
theorem mt_X0_leavesOneOut : gz_Mt yX0_leavesOneOut cX0_leavesOneOut 4 (some .boolean) rm_X0_leavesOneOut se_X0_leavesOneOut := by
  have q1 : gz_OkE M_X0_leavesOneOut 0 0 0 0 1 _ := ok_iconst (v := 0) dX0_leavesOneOut_0 kc_i0
  have q2 : gz_OkE M_X0_leavesOneOut 0 0 0 2 3 _ := ok_iload_n (i := 3) dX0_leavesOneOut_2 rfl
  have q3 : gz_OkE M_X0_leavesOneOut 1 0 0 3 4 _ := ok_aload_n (i := 1) dX0_leavesOneOut_3 rfl
  have q4 : gz_OkE M_X0_leavesOneOut 1 0 0 3 7 _ := ok_get q3 cl_1 (k := 5) (by decide) in_1 wd_6 dX0_leavesOneOut_4
  have q5 : gz_OkJ M_X0_leavesOneOut 0 0 0 2 38 10 _ := ok_ic_ge q2 q4 dX0_leavesOneOut_7 (by decide)
  have q6 : gz_OkS M_X0_leavesOneOut 0 0 38 _ := ok_at
  have q7 : gz_OkE M_X0_leavesOneOut 0 0 0 10 11 _ := ok_aload_n (i := 1) dX0_leavesOneOut_10 rfl
  have q8 : gz_OkE M_X0_leavesOneOut 0 0 0 10 14 _ := ok_get q7 cl_1 (k := 0) (by decide) in_1 wd_7 dX0_leavesOneOut_11
  have q9 : gz_OkE M_X0_leavesOneOut 1 0 0 14 15 _ := ok_iload_n (i := 3) dX0_leavesOneOut_14 rfl
  have q10 : gz_OkE M_X0_leavesOneOut 0 0 0 10 16 _ := ok_aald103 q8 q9 dX0_leavesOneOut_15
  have q11 : gz_OkE M_X0_leavesOneOut 0 0 0 10 19 _ := ok_get q10 cl_3 (k := 1) (by decide) in_3 wd_8 dX0_leavesOneOut_16
  have q12 : gz_OkJ M_X0_leavesOneOut 0 0 0 10 32 22 _ := ok_if_le q11 dX0_leavesOneOut_19 (by decide)
  have q13 : gz_OkA M_X0_leavesOneOut 0 0 0 22 22 0 _ := ok_a0
  have q14 : gz_OkE M_X0_leavesOneOut 0 0 0 22 23 _ := ok_aload_n (i := 2) dX0_leavesOneOut_22 rfl
  have q15 : gz_OkA M_X0_leavesOneOut 0 0 0 22 23 1 _ := ok_a1 q13 q14
  have q16 : gz_OkE M_X0_leavesOneOut 2 0 0 23 24 _ := ok_iload_n (i := 3) dX0_leavesOneOut_23 rfl
  have q17 : gz_OkA M_X0_leavesOneOut 0 0 0 22 24 2 _ := ok_a1 q15 q16
  have q18 : gz_OkE M_X0_leavesOneOut 0 0 0 22 27 _ := ok_cv q17 mt_X2_stagesWith cl_2 wd_405 wd_406 de_X2_stagesWith (by decide) (by decide) wd_407 wd_408 wd_409 dX0_leavesOneOut_24 (by decide)
  have q19 : gz_OkJ M_X0_leavesOneOut 0 0 0 22 32 30 _ := ok_if_ne q18 dX0_leavesOneOut_27 (by decide)
  have q20 : gz_OkJ M_X0_leavesOneOut 0 0 0 10 32 30 _ := ok_jo q12 q19
  have q21 : gz_OkS M_X0_leavesOneOut 0 0 35 (gz_sat 2) := ok_goto dX0_leavesOneOut_35 (by decide)
  have q22 : gz_OkS M_X0_leavesOneOut 0 0 32 _ := ok_inc (v := 1) dX0_leavesOneOut_32 kc_i1 (by decide) q21
  have q23 : gz_OkE M_X0_leavesOneOut 0 0 0 30 31 _ := ok_iconst (v := 1) dX0_leavesOneOut_30 kc_i1
  have q24 : gz_OkS M_X0_leavesOneOut 0 0 30 _ := ok_ri q23 dX0_leavesOneOut_31
  have q25 : gz_OkS M_X0_leavesOneOut 0 0 10 _ := ok_if q20 q22 q24
  have q26 : gz_OkS M_X0_leavesOneOut 0 0 2 _ := ok_if q5 q6 q25
  have q27 : gz_OkS M_X0_leavesOneOut 0 0 2 lb_X0_leavesOneOut_2 := q26
  have q28 : gz_OkS M_X0_leavesOneOut 0 0 2 _ := ok_loop (k := 4) q27 rfl rfl
  have q29 : gz_OkE M_X0_leavesOneOut 0 0 0 38 39 _ := ok_iconst (v := 0) dX0_leavesOneOut_38 kc_i0
  have q30 : gz_OkS M_X0_leavesOneOut 0 0 38 _ := ok_ri q29 dX0_leavesOneOut_39
  have q31 : gz_OkS M_X0_leavesOneOut 0 0 2 _ := ok_seq (L := 38) (k := 0) q28 q30
  have q32 : gz_OkS M_X0_leavesOneOut 0 0 0 _ := ok_seti_n (k := 3) q1 dX0_leavesOneOut_1 rfl (by decide) q31
  have z : gz_OkS M_X0_leavesOneOut 0 0 0 sm_X0_leavesOneOut := q32
  exact gz_met (plainFor_of_name (by decide)) z (by decide) (by decide)
noncomputable def sm_J9_min_f86c9 : gz_Sx := gz_rl (gz_te (gz_j1 (fun x => decide (0 < x)) (gz_lc (gz_ll 0) (gz_ll 2))) (gz_ll 2) (gz_ll 0))
noncomputable def se_J9_min_f86c9 : gz_Me := gz_sem (some .long) 4 sm_J9_min_f86c9
abbrev rm_J9_min_f86c9 : Room := { frames := 0, cells := 0, slots := 0, locals := 0 }
abbrev M_J9_min_f86c9 : gz_Mi := (cJ9_min_f86c9, 4, RJ9, 0, 0, "min", none)
theorem de_J9_min_f86c9 : yJ9_min_f86c9.cls ≠ "java/lang/invoke/MethodHandle" ∧ yJ9_min_f86c9.cls ≠ "java/lang/invoke/VarHandle" ∧ (parseMethodDescriptor yJ9_min_f86c9.desc).map (fun d => d.parameters.length) = some 2 := by decide +kernel
set_option maxRecDepth 100000 in
theorem mt_J9_min_f86c9 : gz_Mt yJ9_min_f86c9 cJ9_min_f86c9 4 (some .long) rm_J9_min_f86c9 se_J9_min_f86c9 := by
  have q1 : gz_OkE M_J9_min_f86c9 0 0 0 0 1 _ := ok_lload_n (i := 0) dJ9_min_f86c9_0 rfl
  have q2 : gz_OkE M_J9_min_f86c9 2 0 0 1 2 _ := ok_lload_n (i := 2) dJ9_min_f86c9_1 rfl
  have q3 : gz_OkE M_J9_min_f86c9 0 0 0 0 3 _ := ok_lcmp q1 q2 dJ9_min_f86c9_2
  have q4 : gz_OkJ M_J9_min_f86c9 0 0 0 0 10 6 _ := ok_if_gt q3 dJ9_min_f86c9_3 (by decide)
  have q5 : gz_OkE M_J9_min_f86c9 0 0 0 6 7 _ := ok_lload_n (i := 0) dJ9_min_f86c9_6 rfl
  have q6 : gz_OkE M_J9_min_f86c9 0 0 0 6 11 _ := ok_eg q5 dJ9_min_f86c9_7 (by decide)
  have q7 : gz_OkE M_J9_min_f86c9 0 0 0 10 11 _ := ok_lload_n (i := 2) dJ9_min_f86c9_10 rfl
  have q8 : gz_OkE M_J9_min_f86c9 0 0 0 0 11 _ := ok_te2 q4 q6 q7
  have q9 : gz_OkS M_J9_min_f86c9 0 0 0 _ := ok_rl q8 dJ9_min_f86c9_11
  have z : gz_OkS M_J9_min_f86c9 0 0 0 sm_J9_min_f86c9 := q9
  exact gz_met (by decide +kernel) z (by decide) (by decide)
noncomputable def sm_X0_partsUp : gz_Sx := gz_if (gz_j1 (fun x => decide (0 < x)) (gz_lc (gz_ll 2) (gz_l (0)))) (gz_ri (gz_l2i (gz_cs se_J9_min_f86c9 (gz_a1 (gz_a1 (gz_a0) (gz_l (1000000))) (gz_lz (fun x y => x / y) (gz_lb (fun x y => x - y) (gz_lb (fun x y => x + y) (gz_ll 0) (gz_ll 2)) (gz_l (1))) (gz_ll 2)))))) (gz_ri (gz_te (gz_j1 (fun x => decide (x ≤ 0)) (gz_lc (gz_ll 0) (gz_l (0)))) (gz_i (0)) (gz_i (1000000))))
noncomputable def se_X0_partsUp : gz_Me := gz_sem (some .int) 4 sm_X0_partsUp
abbrev rm_X0_partsUp : Room := { frames := 1, cells := 0, slots := 0, locals := 23 }
abbrev M_X0_partsUp : gz_Mi := (cX0_partsUp, 4, RX0, 1, 23, "partsUp", none)
theorem de_X0_partsUp : yX0_partsUp.cls ≠ "java/lang/invoke/MethodHandle" ∧ yX0_partsUp.cls ≠ "java/lang/invoke/VarHandle" ∧ (parseMethodDescriptor yX0_partsUp.desc).map (fun d => d.parameters.length) = some 2 := by decide +kernel
set_option maxRecDepth 100000 in
theorem mt_X0_partsUp : gz_Mt yX0_partsUp cX0_partsUp 4 (some .int) rm_X0_partsUp se_X0_partsUp := by
  have q1 : gz_OkE M_X0_partsUp 0 0 0 0 1 _ := ok_lload_n (i := 2) dX0_partsUp_0 rfl
  have q2 : gz_OkE M_X0_partsUp 2 0 0 1 2 _ := ok_lconst (v := 0) dX0_partsUp_1 kc_l0
  have q3 : gz_OkE M_X0_partsUp 0 0 0 0 3 _ := ok_lcmp q1 q2 dX0_partsUp_2
  have q4 : gz_OkJ M_X0_partsUp 0 0 0 0 19 6 _ := ok_if_gt q3 dX0_partsUp_3 (by decide)
  have q5 : gz_OkA M_X0_partsUp 0 0 0 19 19 0 _ := ok_a0
  have q6 : gz_OkE M_X0_partsUp 0 0 0 19 22 _ := ok_ldc2 (v := 1000000) wd_13 dX0_partsUp_19
  have q7 : gz_OkA M_X0_partsUp 0 0 0 19 22 1 _ := ok_a1 q5 q6
  have q8 : gz_OkE M_X0_partsUp 2 0 0 22 23 _ := ok_lload_n (i := 0) dX0_partsUp_22 rfl
  have q9 : gz_OkE M_X0_partsUp 4 0 0 23 24 _ := ok_lload_n (i := 2) dX0_partsUp_23 rfl
  have q10 : gz_OkE M_X0_partsUp 2 0 0 22 25 _ := ok_ladd q8 q9 dX0_partsUp_24
  have q11 : gz_OkE M_X0_partsUp 4 0 0 25 26 _ := ok_lconst (v := 1) dX0_partsUp_25 kc_l1
  have q12 : gz_OkE M_X0_partsUp 2 0 0 22 27 _ := ok_lsub q10 q11 dX0_partsUp_26
  have q13 : gz_OkE M_X0_partsUp 4 0 0 27 28 _ := ok_lload_n (i := 2) dX0_partsUp_27 rfl
  have q14 : gz_OkE M_X0_partsUp 2 0 0 22 29 _ := ok_ldiv q12 q13 dX0_partsUp_28
  have q15 : gz_OkA M_X0_partsUp 0 0 0 19 29 2 _ := ok_a1 q7 q14
  have q16 : gz_OkE M_X0_partsUp 0 0 0 19 32 _ := ok_cs q15 mt_J9_min_f86c9 wd_410 wd_411 de_J9_min_f86c9 (by decide) (by decide) wd_412 wd_413 dX0_partsUp_29 (by decide)
  have q17 : gz_OkE M_X0_partsUp 0 0 0 19 33 _ := ok_l2i q16 dX0_partsUp_32
  have q18 : gz_OkS M_X0_partsUp 0 0 19 _ := ok_ri q17 dX0_partsUp_33
  have q19 : gz_OkE M_X0_partsUp 0 0 0 6 7 _ := ok_lload_n (i := 0) dX0_partsUp_6 rfl
  have q20 : gz_OkE M_X0_partsUp 2 0 0 7 8 _ := ok_lconst (v := 0) dX0_partsUp_7 kc_l0
  have q21 : gz_OkE M_X0_partsUp 0 0 0 6 9 _ := ok_lcmp q19 q20 dX0_partsUp_8
  have q22 : gz_OkJ M_X0_partsUp 0 0 0 6 17 12 _ := ok_if_le q21 dX0_partsUp_9 (by decide)
  have q23 : gz_OkE M_X0_partsUp 0 0 0 12 14 _ := ok_ldc (v := 1000000) wd_12 dX0_partsUp_12
  have q24 : gz_OkE M_X0_partsUp 0 0 0 12 18 _ := ok_eg q23 dX0_partsUp_14 (by decide)
  have q25 : gz_OkE M_X0_partsUp 0 0 0 17 18 _ := ok_iconst (v := 0) dX0_partsUp_17 kc_i0
  have q26 : gz_OkE M_X0_partsUp 0 0 0 6 18 _ := ok_te2 q22 q24 q25
  have q27 : gz_OkS M_X0_partsUp 0 0 6 _ := ok_ri q26 dX0_partsUp_18
  have q28 : gz_OkS M_X0_partsUp 0 0 0 _ := ok_if q4 q18 q27
  have z : gz_OkS M_X0_partsUp 0 0 0 sm_X0_partsUp := q28
  exact gz_met (plainFor_of_name (by decide)) z (by decide) (by decide)
noncomputable def sm_J9_max_7cf53 : gz_Sx := gz_ri (gz_te (gz_j2 (fun x y => decide (x < y)) (gz_li 0) (gz_li 1)) (gz_li 1) (gz_li 0))
noncomputable def se_J9_max_7cf53 : gz_Me := gz_sem (some .int) 2 sm_J9_max_7cf53
abbrev rm_J9_max_7cf53 : Room := { frames := 0, cells := 0, slots := 0, locals := 0 }
abbrev M_J9_max_7cf53 : gz_Mi := (cJ9_max_7cf53, 2, RJ9, 0, 0, "max", none)
theorem de_J9_max_7cf53 : yJ9_max_7cf53.cls ≠ "java/lang/invoke/MethodHandle" ∧ yJ9_max_7cf53.cls ≠ "java/lang/invoke/VarHandle" ∧ (parseMethodDescriptor yJ9_max_7cf53.desc).map (fun d => d.parameters.length) = some 2 := by decide +kernel
set_option maxRecDepth 100000 in
theorem mt_J9_max_7cf53 : gz_Mt yJ9_max_7cf53 cJ9_max_7cf53 2 (some .int) rm_J9_max_7cf53 se_J9_max_7cf53 := by
  have q1 : gz_OkE M_J9_max_7cf53 0 0 0 0 1 _ := ok_iload_n (i := 0) dJ9_max_7cf53_0 rfl
  have q2 : gz_OkE M_J9_max_7cf53 1 0 0 1 2 _ := ok_iload_n (i := 1) dJ9_max_7cf53_1 rfl
  have q3 : gz_OkJ M_J9_max_7cf53 0 0 0 0 9 5 _ := ok_ic_lt q1 q2 dJ9_max_7cf53_2 (by decide)
  have q4 : gz_OkE M_J9_max_7cf53 0 0 0 5 6 _ := ok_iload_n (i := 0) dJ9_max_7cf53_5 rfl
  have q5 : gz_OkE M_J9_max_7cf53 0 0 0 5 10 _ := ok_eg q4 dJ9_max_7cf53_6 (by decide)
  have q6 : gz_OkE M_J9_max_7cf53 0 0 0 9 10 _ := ok_iload_n (i := 1) dJ9_max_7cf53_9 rfl
  have q7 : gz_OkE M_J9_max_7cf53 0 0 0 0 10 _ := ok_te2 q3 q5 q6
  have q8 : gz_OkS M_J9_max_7cf53 0 0 0 _ := ok_ri q7 dJ9_max_7cf53_10
  have z : gz_OkS M_J9_max_7cf53 0 0 0 sm_J9_max_7cf53 := q8
  exact gz_met (by decide +kernel) z (by decide) (by decide)
noncomputable def lb_X0_askForLoad_3 : gz_Sx := gz_if (gz_j2 (fun x y => decide (y ≤ x)) (gz_li 7) (gz_len (gz_get 0 6 0 (gz_la 0)))) (gz_sat 27) (gz_ast 100 (gz_get 0 6 0 (gz_la 0)) (gz_li 7) (gz_i (0)) (gz_inc 7 (1) (gz_sat 3)))
noncomputable def lb_X0_askForLoad_30 : gz_Sx := gz_if (gz_j2 (fun x y => decide (y ≤ x)) (gz_li 7) (gz_get 1 11 5 (gz_la 1))) (gz_sat 103) (gz_seta 8 (gz_ald 103 (gz_get 1 11 0 (gz_la 1)) (gz_li 7)) (gz_seti 9 (gz_cv 2 9 se_X2_stagesWith (gz_a1 (gz_a1 (gz_a0) (gz_la 2)) (gz_li 7))) (gz_seti 10 (gz_cs se_X0_partsUp (gz_a1 (gz_a1 (gz_a0) (gz_lb (fun x y => x * y) (gz_i2l (gz_get 3 14 1 (gz_la 8))) (gz_ll 5))) (gz_lb (fun x y => x * y) (gz_i2l (gz_get 3 14 2 (gz_la 8))) (gz_ll 3)))) (gz_ast 100 (gz_get 0 6 0 (gz_la 0)) (gz_li 9) (gz_cs se_J9_max_7cf53 (gz_a1 (gz_a1 (gz_a0) (gz_ald 100 (gz_get 0 6 0 (gz_la 0)) (gz_li 9))) (gz_li 10))) (gz_inc 7 (1) (gz_sat 30))))))
noncomputable def sm_X0_askForLoad : gz_Sx := gz_seti 7 (gz_i (0)) (gz_seq 27 6 (gz_loop 3 8 lb_X0_askForLoad_3) (gz_seti 7 (gz_i (0)) (gz_seq 103 0 (gz_loop 30 8 lb_X0_askForLoad_30) (gz_rv))))
noncomputable def se_X0_askForLoad : gz_Me := gz_sem none 11 sm_X0_askForLoad
abbrev rm_X0_askForLoad : Room := { frames := 2, cells := 0, slots := 0, locals := 46 }
abbrev M_X0_askForLoad : gz_Mi := (cX0_askForLoad, 11, RX0, 2, 46, "askForLoad", none)
theorem de_X0_askForLoad : yX0_askForLoad.cls ≠ "java/lang/invoke/MethodHandle" ∧ yX0_askForLoad.cls ≠ "java/lang/invoke/VarHandle" ∧ (parseMethodDescriptor yX0_askForLoad.desc).map (fun d => d.parameters.length) = some 4 := by decide +kernel
set_option maxRecDepth 100000 in
theorem mt_X0_askForLoad : gz_Mt yX0_askForLoad cX0_askForLoad 11 none rm_X0_askForLoad se_X0_askForLoad := by
  have q1 : gz_OkE M_X0_askForLoad 0 0 0 0 1 _ := ok_iconst (v := 0) dX0_askForLoad_0 kc_i0
  have q2 : gz_OkE M_X0_askForLoad 0 0 0 3 5 _ := ok_iload (i := 7) dX0_askForLoad_3
  have q3 : gz_OkE M_X0_askForLoad 1 0 0 5 6 _ := ok_aload_n (i := 0) dX0_askForLoad_5 rfl
  have q4 : gz_OkE M_X0_askForLoad 1 0 0 5 9 _ := ok_get q3 cl_0 (k := 0) (by decide) in_0 wd_1 dX0_askForLoad_6
  have q5 : gz_OkE M_X0_askForLoad 1 0 0 5 10 _ := ok_alen q4 dX0_askForLoad_9
  have q6 : gz_OkJ M_X0_askForLoad 0 0 0 3 27 13 _ := ok_ic_ge q2 q5 dX0_askForLoad_10 (by decide)
  have q7 : gz_OkS M_X0_askForLoad 0 0 27 _ := ok_at
  have q8 : gz_OkE M_X0_askForLoad 0 0 0 13 14 _ := ok_aload_n (i := 0) dX0_askForLoad_13 rfl
  have q9 : gz_OkE M_X0_askForLoad 0 0 0 13 17 _ := ok_get q8 cl_0 (k := 0) (by decide) in_0 wd_1 dX0_askForLoad_14
  have q10 : gz_OkE M_X0_askForLoad 1 0 0 17 19 _ := ok_iload (i := 7) dX0_askForLoad_17
  have q11 : gz_OkE M_X0_askForLoad 2 0 0 19 20 _ := ok_iconst (v := 0) dX0_askForLoad_19 kc_i0
  have q12 : gz_OkS M_X0_askForLoad 0 0 24 (gz_sat 3) := ok_goto dX0_askForLoad_24 (by decide)
  have q13 : gz_OkS M_X0_askForLoad 0 0 21 _ := ok_inc (v := 1) dX0_askForLoad_21 kc_i1 (by decide) q12
  have q14 : gz_OkS M_X0_askForLoad 0 0 13 _ := ok_iast q9 q10 q11 dX0_askForLoad_20 q13
  have q15 : gz_OkS M_X0_askForLoad 0 0 3 _ := ok_if q6 q7 q14
  have q16 : gz_OkS M_X0_askForLoad 0 0 3 lb_X0_askForLoad_3 := q15
  have q17 : gz_OkS M_X0_askForLoad 0 0 3 _ := ok_loop (k := 8) q16 rfl rfl
  have q18 : gz_OkE M_X0_askForLoad 0 0 0 27 28 _ := ok_iconst (v := 0) dX0_askForLoad_27 kc_i0
  have q19 : gz_OkE M_X0_askForLoad 0 0 0 30 32 _ := ok_iload (i := 7) dX0_askForLoad_30
  have q20 : gz_OkE M_X0_askForLoad 1 0 0 32 33 _ := ok_aload_n (i := 1) dX0_askForLoad_32 rfl
  have q21 : gz_OkE M_X0_askForLoad 1 0 0 32 36 _ := ok_get q20 cl_1 (k := 5) (by decide) in_1 wd_6 dX0_askForLoad_33
  have q22 : gz_OkJ M_X0_askForLoad 0 0 0 30 103 39 _ := ok_ic_ge q19 q21 dX0_askForLoad_36 (by decide)
  have q23 : gz_OkS M_X0_askForLoad 0 0 103 _ := ok_at
  have q24 : gz_OkE M_X0_askForLoad 0 0 0 39 40 _ := ok_aload_n (i := 1) dX0_askForLoad_39 rfl
  have q25 : gz_OkE M_X0_askForLoad 0 0 0 39 43 _ := ok_get q24 cl_1 (k := 0) (by decide) in_1 wd_7 dX0_askForLoad_40
  have q26 : gz_OkE M_X0_askForLoad 1 0 0 43 45 _ := ok_iload (i := 7) dX0_askForLoad_43
  have q27 : gz_OkE M_X0_askForLoad 0 0 0 39 46 _ := ok_aald103 q25 q26 dX0_askForLoad_45
  have q28 : gz_OkA M_X0_askForLoad 0 0 0 48 48 0 _ := ok_a0
  have q29 : gz_OkE M_X0_askForLoad 0 0 0 48 49 _ := ok_aload_n (i := 2) dX0_askForLoad_48 rfl
  have q30 : gz_OkA M_X0_askForLoad 0 0 0 48 49 1 _ := ok_a1 q28 q29
  have q31 : gz_OkE M_X0_askForLoad 2 0 0 49 51 _ := ok_iload (i := 7) dX0_askForLoad_49
  have q32 : gz_OkA M_X0_askForLoad 0 0 0 48 51 2 _ := ok_a1 q30 q31
  have q33 : gz_OkE M_X0_askForLoad 0 0 0 48 54 _ := ok_cv q32 mt_X2_stagesWith cl_2 wd_405 wd_406 de_X2_stagesWith (by decide) (by decide) wd_407 wd_408 wd_409 dX0_askForLoad_51 (by decide)
  have q34 : gz_OkA M_X0_askForLoad 0 0 0 56 56 0 _ := ok_a0
  have q35 : gz_OkE M_X0_askForLoad 0 0 0 56 58 _ := ok_aload (i := 8) dX0_askForLoad_56
  have q36 : gz_OkE M_X0_askForLoad 0 0 0 56 61 _ := ok_get q35 cl_3 (k := 1) (by decide) in_3 wd_8 dX0_askForLoad_58
  have q37 : gz_OkE M_X0_askForLoad 0 0 0 56 62 _ := ok_i2l q36 dX0_askForLoad_61
  have q38 : gz_OkE M_X0_askForLoad 2 0 0 62 64 _ := ok_lload (i := 5) dX0_askForLoad_62
  have q39 : gz_OkE M_X0_askForLoad 0 0 0 56 65 _ := ok_lmul q37 q38 dX0_askForLoad_64
  have q40 : gz_OkA M_X0_askForLoad 0 0 0 56 65 1 _ := ok_a1 q34 q39
  have q41 : gz_OkE M_X0_askForLoad 2 0 0 65 67 _ := ok_aload (i := 8) dX0_askForLoad_65
  have q42 : gz_OkE M_X0_askForLoad 2 0 0 65 70 _ := ok_get q41 cl_3 (k := 2) (by decide) in_3 wd_11 dX0_askForLoad_67
  have q43 : gz_OkE M_X0_askForLoad 2 0 0 65 71 _ := ok_i2l q42 dX0_askForLoad_70
  have q44 : gz_OkE M_X0_askForLoad 4 0 0 71 72 _ := ok_lload_n (i := 3) dX0_askForLoad_71 rfl
  have q45 : gz_OkE M_X0_askForLoad 2 0 0 65 73 _ := ok_lmul q43 q44 dX0_askForLoad_72
  have q46 : gz_OkA M_X0_askForLoad 0 0 0 56 73 2 _ := ok_a1 q40 q45
  have q47 : gz_OkE M_X0_askForLoad 0 0 0 56 76 _ := ok_cs q46 mt_X0_partsUp wd_414 wd_415 de_X0_partsUp (by decide) (by decide) wd_416 wd_417 dX0_askForLoad_73 (by decide)
  have q48 : gz_OkE M_X0_askForLoad 0 0 0 78 79 _ := ok_aload_n (i := 0) dX0_askForLoad_78 rfl
  have q49 : gz_OkE M_X0_askForLoad 0 0 0 78 82 _ := ok_get q48 cl_0 (k := 0) (by decide) in_0 wd_1 dX0_askForLoad_79
  have q50 : gz_OkE M_X0_askForLoad 1 0 0 82 84 _ := ok_iload (i := 9) dX0_askForLoad_82
  have q51 : gz_OkA M_X0_askForLoad 2 0 0 84 84 0 _ := ok_a0
  have q52 : gz_OkE M_X0_askForLoad 2 0 0 84 85 _ := ok_aload_n (i := 0) dX0_askForLoad_84 rfl
  have q53 : gz_OkE M_X0_askForLoad 2 0 0 84 88 _ := ok_get q52 cl_0 (k := 0) (by decide) in_0 wd_1 dX0_askForLoad_85
  have q54 : gz_OkE M_X0_askForLoad 3 0 0 88 90 _ := ok_iload (i := 9) dX0_askForLoad_88
  have q55 : gz_OkE M_X0_askForLoad 2 0 0 84 91 _ := ok_iald q53 q54 dX0_askForLoad_90
  have q56 : gz_OkA M_X0_askForLoad 2 0 0 84 91 1 _ := ok_a1 q51 q55
  have q57 : gz_OkE M_X0_askForLoad 4 0 0 91 93 _ := ok_iload (i := 10) dX0_askForLoad_91
  have q58 : gz_OkA M_X0_askForLoad 2 0 0 84 93 2 _ := ok_a1 q56 q57
  have q59 : gz_OkE M_X0_askForLoad 2 0 0 84 96 _ := ok_cs q58 mt_J9_max_7cf53 wd_418 wd_411 de_J9_max_7cf53 (by decide) (by decide) wd_419 wd_420 dX0_askForLoad_93 (by decide)
  have q60 : gz_OkS M_X0_askForLoad 0 0 100 (gz_sat 30) := ok_goto dX0_askForLoad_100 (by decide)
  have q61 : gz_OkS M_X0_askForLoad 0 0 97 _ := ok_inc (v := 1) dX0_askForLoad_97 kc_i1 (by decide) q60
  have q62 : gz_OkS M_X0_askForLoad 0 0 78 _ := ok_iast q49 q50 q59 dX0_askForLoad_96 q61
  have q63 : gz_OkS M_X0_askForLoad 0 0 56 _ := ok_seti (k := 10) q47 dX0_askForLoad_76 (by decide) q62
  have q64 : gz_OkS M_X0_askForLoad 0 0 48 _ := ok_seti (k := 9) q33 dX0_askForLoad_54 (by decide) q63
  have q65 : gz_OkS M_X0_askForLoad 0 0 39 _ := ok_seta (k := 8) q27 dX0_askForLoad_46 (by decide) q64
  have q66 : gz_OkS M_X0_askForLoad 0 0 30 _ := ok_if q22 q23 q65
  have q67 : gz_OkS M_X0_askForLoad 0 0 30 lb_X0_askForLoad_30 := q66
  have q68 : gz_OkS M_X0_askForLoad 0 0 30 _ := ok_loop (k := 8) q67 rfl rfl
  have q69 : gz_OkS M_X0_askForLoad 0 0 103 _ := ok_rv dX0_askForLoad_103
  have q70 : gz_OkS M_X0_askForLoad 0 0 30 _ := ok_seq (L := 103) (k := 0) q68 q69
  have q71 : gz_OkS M_X0_askForLoad 0 0 27 _ := ok_seti (k := 7) q18 dX0_askForLoad_28 (by decide) q70
  have q72 : gz_OkS M_X0_askForLoad 0 0 3 _ := ok_seq (L := 27) (k := 6) q17 q71
  have q73 : gz_OkS M_X0_askForLoad 0 0 0 _ := ok_seti (k := 7) q1 dX0_askForLoad_1 (by decide) q72
  have z : gz_OkS M_X0_askForLoad 0 0 0 sm_X0_askForLoad := q73
  exact gz_met (plainFor_of_name (by decide)) z (by decide) (by decide)
noncomputable def sm_X0_needBeside : gz_Sx := gz_ri (gz_cs se_J9_max_7cf53 (gz_a1 (gz_a1 (gz_a0) (gz_ald 100 (gz_get 0 6 0 (gz_la 0)) (gz_li 1))) (gz_ib (fun x y => x - y) (gz_ald 100 (gz_get 0 6 0 (gz_la 0)) (gz_ib (fun x y => x ||| y) (gz_li 1) (gz_i (1)))) (gz_li 2))))
noncomputable def se_X0_needBeside : gz_Me := gz_sem (some .int) 3 sm_X0_needBeside
abbrev rm_X0_needBeside : Room := { frames := 1, cells := 0, slots := 0, locals := 21 }
abbrev M_X0_needBeside : gz_Mi := (cX0_needBeside, 3, RX0, 1, 21, "needBeside", none)
theorem de_X0_needBeside : yX0_needBeside.cls ≠ "java/lang/invoke/MethodHandle" ∧ yX0_needBeside.cls ≠ "java/lang/invoke/VarHandle" ∧ (parseMethodDescriptor yX0_needBeside.desc).map (fun d => d.parameters.length) = some 2 := by decide +kernel
set_option maxRecDepth 100000 in
theorem mt_X0_needBeside : gz_Mt yX0_needBeside cX0_needBeside 3 (some .int) rm_X0_needBeside se_X0_needBeside := by
  have q1 : gz_OkA M_X0_needBeside 0 0 0 0 0 0 _ := ok_a0
  have q2 : gz_OkE M_X0_needBeside 0 0 0 0 1 _ := ok_aload_n (i := 0) dX0_needBeside_0 rfl
  have q3 : gz_OkE M_X0_needBeside 0 0 0 0 4 _ := ok_get q2 cl_0 (k := 0) (by decide) in_0 wd_1 dX0_needBeside_1
  have q4 : gz_OkE M_X0_needBeside 1 0 0 4 5 _ := ok_iload_n (i := 1) dX0_needBeside_4 rfl
  have q5 : gz_OkE M_X0_needBeside 0 0 0 0 6 _ := ok_iald q3 q4 dX0_needBeside_5
  have q6 : gz_OkA M_X0_needBeside 0 0 0 0 6 1 _ := ok_a1 q1 q5
  have q7 : gz_OkE M_X0_needBeside 2 0 0 6 7 _ := ok_aload_n (i := 0) dX0_needBeside_6 rfl
  have q8 : gz_OkE M_X0_needBeside 2 0 0 6 10 _ := ok_get q7 cl_0 (k := 0) (by decide) in_0 wd_1 dX0_needBeside_7
  have q9 : gz_OkE M_X0_needBeside 3 0 0 10 11 _ := ok_iload_n (i := 1) dX0_needBeside_10 rfl
  have q10 : gz_OkE M_X0_needBeside 4 0 0 11 12 _ := ok_iconst (v := 1) dX0_needBeside_11 kc_i1
  have q11 : gz_OkE M_X0_needBeside 3 0 0 10 13 _ := ok_ior q9 q10 dX0_needBeside_12
  have q12 : gz_OkE M_X0_needBeside 2 0 0 6 14 _ := ok_iald q8 q11 dX0_needBeside_13
  have q13 : gz_OkE M_X0_needBeside 3 0 0 14 15 _ := ok_iload_n (i := 2) dX0_needBeside_14 rfl
  have q14 : gz_OkE M_X0_needBeside 2 0 0 6 16 _ := ok_isub q12 q13 dX0_needBeside_15
  have q15 : gz_OkA M_X0_needBeside 0 0 0 0 16 2 _ := ok_a1 q6 q14
  have q16 : gz_OkE M_X0_needBeside 0 0 0 0 19 _ := ok_cs q15 mt_J9_max_7cf53 wd_418 wd_411 de_J9_max_7cf53 (by decide) (by decide) wd_419 wd_420 dX0_needBeside_16 (by decide)
  have q17 : gz_OkS M_X0_needBeside 0 0 0 _ := ok_ri q16 dX0_needBeside_19
  have z : gz_OkS M_X0_needBeside 0 0 0 sm_X0_needBeside := q17
  exact gz_met (plainFor_of_name (by decide)) z (by decide) (by decide)
noncomputable def sm_J9_min_7cf53 : gz_Sx := gz_ri (gz_te (gz_j2 (fun x y => decide (y < x)) (gz_li 0) (gz_li 1)) (gz_li 1) (gz_li 0))
noncomputable def se_J9_min_7cf53 : gz_Me := gz_sem (some .int) 2 sm_J9_min_7cf53
abbrev rm_J9_min_7cf53 : Room := { frames := 0, cells := 0, slots := 0, locals := 0 }
abbrev M_J9_min_7cf53 : gz_Mi := (cJ9_min_7cf53, 2, RJ9, 0, 0, "min", none)
theorem de_J9_min_7cf53 : yJ9_min_7cf53.cls ≠ "java/lang/invoke/MethodHandle" ∧ yJ9_min_7cf53.cls ≠ "java/lang/invoke/VarHandle" ∧ (parseMethodDescriptor yJ9_min_7cf53.desc).map (fun d => d.parameters.length) = some 2 := by decide +kernel
set_option maxRecDepth 100000 in
theorem mt_J9_min_7cf53 : gz_Mt yJ9_min_7cf53 cJ9_min_7cf53 2 (some .int) rm_J9_min_7cf53 se_J9_min_7cf53 := by
  have q1 : gz_OkE M_J9_min_7cf53 0 0 0 0 1 _ := ok_iload_n (i := 0) dJ9_min_7cf53_0 rfl
  have q2 : gz_OkE M_J9_min_7cf53 1 0 0 1 2 _ := ok_iload_n (i := 1) dJ9_min_7cf53_1 rfl
  have q3 : gz_OkJ M_J9_min_7cf53 0 0 0 0 9 5 _ := ok_ic_gt q1 q2 dJ9_min_7cf53_2 (by decide)
  have q4 : gz_OkE M_J9_min_7cf53 0 0 0 5 6 _ := ok_iload_n (i := 0) dJ9_min_7cf53_5 rfl
  have q5 : gz_OkE M_J9_min_7cf53 0 0 0 5 10 _ := ok_eg q4 dJ9_min_7cf53_6 (by decide)
  have q6 : gz_OkE M_J9_min_7cf53 0 0 0 9 10 _ := ok_iload_n (i := 1) dJ9_min_7cf53_9 rfl
  have q7 : gz_OkE M_J9_min_7cf53 0 0 0 0 10 _ := ok_te2 q3 q5 q6
  have q8 : gz_OkS M_J9_min_7cf53 0 0 0 _ := ok_ri q7 dJ9_min_7cf53_10
  have z : gz_OkS M_J9_min_7cf53 0 0 0 sm_J9_min_7cf53 := q8
  exact gz_met (by decide +kernel) z (by decide) (by decide)
noncomputable def lb_X0_dealsBehind_16 : gz_Sx := gz_if (gz_j2 (fun x y => decide (y ≤ x)) (gz_li 4) (gz_i (4))) (gz_sat 119) (gz_seti 5 (gz_ib (fun x y => x - y) (gz_li 2) (gz_cv 0 6 se_X0_needBeside (gz_a1 (gz_a1 (gz_a1 (gz_a0) (gz_la 0)) (gz_ib (fun x y => x &&& y) (gz_i (14)) (gz_ib (fun x y => x ^^^ y) (gz_ib (fun x y => x <<< (y &&& 31)) (gz_i (1)) (gz_li 4)) (gz_i (-1))))) (gz_li 1)))) (gz_ast 100 (gz_get 0 6 1 (gz_la 0)) (gz_li 4) (gz_te (gz_j2 (fun x y => decide (y ≤ x)) (gz_li 4) (gz_li 3)) (gz_i (0)) (gz_cs se_J9_max_7cf53 (gz_a1 (gz_a1 (gz_a0) (gz_i (1))) (gz_cv 0 6 se_X0_needBeside (gz_a1 (gz_a1 (gz_a1 (gz_a0) (gz_la 0)) (gz_ib (fun x y => x <<< (y &&& 31)) (gz_i (1)) (gz_li 4))) (gz_li 1)))))) (gz_ast 100 (gz_get 0 6 2 (gz_la 0)) (gz_li 4) (gz_te (gz_j2 (fun x y => decide (y ≤ x)) (gz_li 4) (gz_li 3)) (gz_cs se_J9_min_7cf53 (gz_a1 (gz_a1 (gz_a0) (gz_i (0))) (gz_li 5))) (gz_li 5)) (gz_if (gz_j2 (fun x y => decide (x ≤ y)) (gz_ald 100 (gz_get 0 6 1 (gz_la 0)) (gz_li 4)) (gz_ald 100 (gz_get 0 6 2 (gz_la 0)) (gz_li 4))) (gz_inc 4 (1) (gz_sat 16)) (gz_ri (gz_i (0)))))))
noncomputable def sm_X0_dealsBehind : gz_Sx := gz_if (gz_j2 (fun x y => decide (x ≤ y)) (gz_cv 0 6 se_X0_needBeside (gz_a1 (gz_a1 (gz_a1 (gz_a0) (gz_la 0)) (gz_i (14))) (gz_li 1))) (gz_li 2)) (gz_seti 4 (gz_i (1)) (gz_seq 119 3 (gz_loop 16 5 lb_X0_dealsBehind_16) (gz_if (gz_ja (gz_j2 (fun x y => decide (y < x)) (gz_ib (fun x y => x + y) (gz_ib (fun x y => x + y) (gz_ald 100 (gz_get 0 6 1 (gz_la 0)) (gz_i (1))) (gz_ald 100 (gz_get 0 6 1 (gz_la 0)) (gz_i (2)))) (gz_ald 100 (gz_get 0 6 1 (gz_la 0)) (gz_i (3)))) (gz_li 2)) (gz_j2 (fun x y => decide (y ≤ x)) (gz_ib (fun x y => x + y) (gz_ib (fun x y => x + y) (gz_ald 100 (gz_get 0 6 2 (gz_la 0)) (gz_i (1))) (gz_ald 100 (gz_get 0 6 2 (gz_la 0)) (gz_i (2)))) (gz_ald 100 (gz_get 0 6 2 (gz_la 0)) (gz_i (3)))) (gz_li 2))) (gz_ast 100 (gz_get 0 6 3 (gz_la 0)) (gz_i (1)) (gz_cs se_J9_max_7cf53 (gz_a1 (gz_a1 (gz_a0) (gz_ald 100 (gz_get 0 6 1 (gz_la 0)) (gz_i (1)))) (gz_ib (fun x y => x - y) (gz_ib (fun x y => x - y) (gz_li 2) (gz_ald 100 (gz_get 0 6 2 (gz_la 0)) (gz_i (2)))) (gz_ald 100 (gz_get 0 6 2 (gz_la 0)) (gz_i (3)))))) (gz_ast 100 (gz_get 0 6 3 (gz_la 0)) (gz_i (2)) (gz_cs se_J9_max_7cf53 (gz_a1 (gz_a1 (gz_a0) (gz_ald 100 (gz_get 0 6 1 (gz_la 0)) (gz_i (2)))) (gz_ib (fun x y => x - y) (gz_ib (fun x y => x - y) (gz_li 2) (gz_ald 100 (gz_get 0 6 3 (gz_la 0)) (gz_i (1)))) (gz_ald 100 (gz_get 0 6 2 (gz_la 0)) (gz_i (3)))))) (gz_ast 100 (gz_get 0 6 3 (gz_la 0)) (gz_i (3)) (gz_ib (fun x y => x - y) (gz_ib (fun x y => x - y) (gz_li 2) (gz_ald 100 (gz_get 0 6 3 (gz_la 0)) (gz_i (1)))) (gz_ald 100 (gz_get 0 6 3 (gz_la 0)) (gz_i (2)))) (gz_ri (gz_i (1)))))) (gz_ri (gz_i (0)))))) (gz_ri (gz_i (0)))
noncomputable def se_X0_dealsBehind : gz_Me := gz_sem (some .boolean) 6 sm_X0_dealsBehind
abbrev rm_X0_dealsBehind : Room := { frames := 2, cells := 0, slots := 0, locals := 43 }
abbrev M_X0_dealsBehind : gz_Mi := (cX0_dealsBehind, 6, RX0, 2, 43, "dealsBehind", none)
theorem de_X0_dealsBehind : yX0_dealsBehind.cls ≠ "java/lang/invoke/MethodHandle" ∧ yX0_dealsBehind.cls ≠ "java/lang/invoke/VarHandle" ∧ (parseMethodDescriptor yX0_dealsBehind.desc).map (fun d => d.parameters.length) = some 3 := by decide +kernel
set_option maxRecDepth 100000 in
theorem mt_X0_dealsBehind : gz_Mt yX0_dealsBehind cX0_dealsBehind 6 (some .boolean) rm_X0_dealsBehind se_X0_dealsBehind := by
  have q1 : gz_OkA M_X0_dealsBehind 0 0 0 0 0 0 _ := ok_a0
  have q2 : gz_OkE M_X0_dealsBehind 0 0 0 0 1 _ := ok_aload_n (i := 0) dX0_dealsBehind_0 rfl
  have q3 : gz_OkA M_X0_dealsBehind 0 0 0 0 1 1 _ := ok_a1 q1 q2
  have q4 : gz_OkE M_X0_dealsBehind 2 0 0 1 3 _ := ok_bipush (v := 14) dX0_dealsBehind_1 kc_b14
  have q5 : gz_OkA M_X0_dealsBehind 0 0 0 0 3 2 _ := ok_a1 q3 q4
  have q6 : gz_OkE M_X0_dealsBehind 4 0 0 3 4 _ := ok_iload_n (i := 1) dX0_dealsBehind_3 rfl
  have q7 : gz_OkA M_X0_dealsBehind 0 0 0 0 4 3 _ := ok_a1 q5 q6
  have q8 : gz_OkE M_X0_dealsBehind 0 0 0 0 7 _ := ok_cv q7 mt_X0_needBeside cl_0 wd_421 wd_415 de_X0_needBeside (by decide) (by decide) wd_422 wd_423 wd_424 dX0_dealsBehind_4 (by decide)
  have q9 : gz_OkE M_X0_dealsBehind 1 0 0 7 8 _ := ok_iload_n (i := 2) dX0_dealsBehind_7 rfl
  have q10 : gz_OkJ M_X0_dealsBehind 0 0 0 0 13 11 _ := ok_ic_le q8 q9 dX0_dealsBehind_8 (by decide)
  have q11 : gz_OkE M_X0_dealsBehind 0 0 0 13 14 _ := ok_iconst (v := 1) dX0_dealsBehind_13 kc_i1
  have q12 : gz_OkE M_X0_dealsBehind 0 0 0 16 18 _ := ok_iload (i := 4) dX0_dealsBehind_16
  have q13 : gz_OkE M_X0_dealsBehind 1 0 0 18 19 _ := ok_iconst (v := 4) dX0_dealsBehind_18 kc_i4
  have q14 : gz_OkJ M_X0_dealsBehind 0 0 0 16 119 22 _ := ok_ic_ge q12 q13 dX0_dealsBehind_19 (by decide)
  have q15 : gz_OkS M_X0_dealsBehind 0 0 119 _ := ok_at
  have q16 : gz_OkE M_X0_dealsBehind 0 0 0 22 23 _ := ok_iload_n (i := 2) dX0_dealsBehind_22 rfl
  have q17 : gz_OkA M_X0_dealsBehind 1 0 0 23 23 0 _ := ok_a0
  have q18 : gz_OkE M_X0_dealsBehind 1 0 0 23 24 _ := ok_aload_n (i := 0) dX0_dealsBehind_23 rfl
  have q19 : gz_OkA M_X0_dealsBehind 1 0 0 23 24 1 _ := ok_a1 q17 q18
  have q20 : gz_OkE M_X0_dealsBehind 3 0 0 24 26 _ := ok_bipush (v := 14) dX0_dealsBehind_24 kc_b14
  have q21 : gz_OkE M_X0_dealsBehind 4 0 0 26 27 _ := ok_iconst (v := 1) dX0_dealsBehind_26 kc_i1
  have q22 : gz_OkE M_X0_dealsBehind 5 0 0 27 29 _ := ok_iload (i := 4) dX0_dealsBehind_27
  have q23 : gz_OkE M_X0_dealsBehind 4 0 0 26 30 _ := ok_ishl q21 q22 dX0_dealsBehind_29
  have q24 : gz_OkE M_X0_dealsBehind 5 0 0 30 31 _ := ok_iconst (v := -1) dX0_dealsBehind_30 kc_im1
  have q25 : gz_OkE M_X0_dealsBehind 4 0 0 26 32 _ := ok_ixor q23 q24 dX0_dealsBehind_31
  have q26 : gz_OkE M_X0_dealsBehind 3 0 0 24 33 _ := ok_iand q20 q25 dX0_dealsBehind_32
  have q27 : gz_OkA M_X0_dealsBehind 1 0 0 23 33 2 _ := ok_a1 q19 q26
  have q28 : gz_OkE M_X0_dealsBehind 5 0 0 33 34 _ := ok_iload_n (i := 1) dX0_dealsBehind_33 rfl
  have q29 : gz_OkA M_X0_dealsBehind 1 0 0 23 34 3 _ := ok_a1 q27 q28
  have q30 : gz_OkE M_X0_dealsBehind 1 0 0 23 37 _ := ok_cv q29 mt_X0_needBeside cl_0 wd_421 wd_415 de_X0_needBeside (by decide) (by decide) wd_422 wd_423 wd_424 dX0_dealsBehind_34 (by decide)
  have q31 : gz_OkE M_X0_dealsBehind 0 0 0 22 38 _ := ok_isub q16 q30 dX0_dealsBehind_37
  have q32 : gz_OkE M_X0_dealsBehind 0 0 0 40 41 _ := ok_aload_n (i := 0) dX0_dealsBehind_40 rfl
  have q33 : gz_OkE M_X0_dealsBehind 0 0 0 40 44 _ := ok_get q32 cl_0 (k := 1) (by decide) in_0 wd_2 dX0_dealsBehind_41
  have q34 : gz_OkE M_X0_dealsBehind 1 0 0 44 46 _ := ok_iload (i := 4) dX0_dealsBehind_44
  have q35 : gz_OkE M_X0_dealsBehind 2 0 0 46 48 _ := ok_iload (i := 4) dX0_dealsBehind_46
  have q36 : gz_OkE M_X0_dealsBehind 3 0 0 48 49 _ := ok_iload_n (i := 3) dX0_dealsBehind_48 rfl
  have q37 : gz_OkJ M_X0_dealsBehind 2 0 0 46 68 52 _ := ok_ic_ge q35 q36 dX0_dealsBehind_49 (by decide)
  have q38 : gz_OkA M_X0_dealsBehind 2 0 0 52 52 0 _ := ok_a0
  have q39 : gz_OkE M_X0_dealsBehind 2 0 0 52 53 _ := ok_iconst (v := 1) dX0_dealsBehind_52 kc_i1
  have q40 : gz_OkA M_X0_dealsBehind 2 0 0 52 53 1 _ := ok_a1 q38 q39
  have q41 : gz_OkA M_X0_dealsBehind 4 0 0 53 53 0 _ := ok_a0
  have q42 : gz_OkE M_X0_dealsBehind 4 0 0 53 54 _ := ok_aload_n (i := 0) dX0_dealsBehind_53 rfl
  have q43 : gz_OkA M_X0_dealsBehind 4 0 0 53 54 1 _ := ok_a1 q41 q42
  have q44 : gz_OkE M_X0_dealsBehind 6 0 0 54 55 _ := ok_iconst (v := 1) dX0_dealsBehind_54 kc_i1
  have q45 : gz_OkE M_X0_dealsBehind 7 0 0 55 57 _ := ok_iload (i := 4) dX0_dealsBehind_55
  have q46 : gz_OkE M_X0_dealsBehind 6 0 0 54 58 _ := ok_ishl q44 q45 dX0_dealsBehind_57
  have q47 : gz_OkA M_X0_dealsBehind 4 0 0 53 58 2 _ := ok_a1 q43 q46
  have q48 : gz_OkE M_X0_dealsBehind 8 0 0 58 59 _ := ok_iload_n (i := 1) dX0_dealsBehind_58 rfl
  have q49 : gz_OkA M_X0_dealsBehind 4 0 0 53 59 3 _ := ok_a1 q47 q48
  have q50 : gz_OkE M_X0_dealsBehind 4 0 0 53 62 _ := ok_cv q49 mt_X0_needBeside cl_0 wd_421 wd_415 de_X0_needBeside (by decide) (by decide) wd_422 wd_423 wd_424 dX0_dealsBehind_59 (by decide)
  have q51 : gz_OkA M_X0_dealsBehind 2 0 0 52 62 2 _ := ok_a1 q40 q50
  have q52 : gz_OkE M_X0_dealsBehind 2 0 0 52 65 _ := ok_cs q51 mt_J9_max_7cf53 wd_418 wd_411 de_J9_max_7cf53 (by decide) (by decide) wd_419 wd_420 dX0_dealsBehind_62 (by decide)
  have q53 : gz_OkE M_X0_dealsBehind 2 0 0 52 69 _ := ok_eg q52 dX0_dealsBehind_65 (by decide)
  have q54 : gz_OkE M_X0_dealsBehind 2 0 0 68 69 _ := ok_iconst (v := 0) dX0_dealsBehind_68 kc_i0
  have q55 : gz_OkE M_X0_dealsBehind 2 0 0 46 69 _ := ok_te2 q37 q53 q54
  have q56 : gz_OkE M_X0_dealsBehind 0 0 0 70 71 _ := ok_aload_n (i := 0) dX0_dealsBehind_70 rfl
  have q57 : gz_OkE M_X0_dealsBehind 0 0 0 70 74 _ := ok_get q56 cl_0 (k := 2) (by decide) in_0 wd_3 dX0_dealsBehind_71
  have q58 : gz_OkE M_X0_dealsBehind 1 0 0 74 76 _ := ok_iload (i := 4) dX0_dealsBehind_74
  have q59 : gz_OkE M_X0_dealsBehind 2 0 0 76 78 _ := ok_iload (i := 4) dX0_dealsBehind_76
  have q60 : gz_OkE M_X0_dealsBehind 3 0 0 78 79 _ := ok_iload_n (i := 3) dX0_dealsBehind_78 rfl
  have q61 : gz_OkJ M_X0_dealsBehind 2 0 0 76 87 82 _ := ok_ic_ge q59 q60 dX0_dealsBehind_79 (by decide)
  have q62 : gz_OkE M_X0_dealsBehind 2 0 0 82 84 _ := ok_iload (i := 5) dX0_dealsBehind_82
  have q63 : gz_OkE M_X0_dealsBehind 2 0 0 82 93 _ := ok_eg q62 dX0_dealsBehind_84 (by decide)
  have q64 : gz_OkA M_X0_dealsBehind 2 0 0 87 87 0 _ := ok_a0
  have q65 : gz_OkE M_X0_dealsBehind 2 0 0 87 88 _ := ok_iconst (v := 0) dX0_dealsBehind_87 kc_i0
  have q66 : gz_OkA M_X0_dealsBehind 2 0 0 87 88 1 _ := ok_a1 q64 q65
  have q67 : gz_OkE M_X0_dealsBehind 4 0 0 88 90 _ := ok_iload (i := 5) dX0_dealsBehind_88
  have q68 : gz_OkA M_X0_dealsBehind 2 0 0 87 90 2 _ := ok_a1 q66 q67
  have q69 : gz_OkE M_X0_dealsBehind 2 0 0 87 93 _ := ok_cs q68 mt_J9_min_7cf53 wd_425 wd_411 de_J9_min_7cf53 (by decide) (by decide) wd_426 wd_427 dX0_dealsBehind_90 (by decide)
  have q70 : gz_OkE M_X0_dealsBehind 2 0 0 76 93 _ := ok_te2 q61 q63 q69
  have q71 : gz_OkE M_X0_dealsBehind 0 0 0 94 95 _ := ok_aload_n (i := 0) dX0_dealsBehind_94 rfl
  have q72 : gz_OkE M_X0_dealsBehind 0 0 0 94 98 _ := ok_get q71 cl_0 (k := 1) (by decide) in_0 wd_2 dX0_dealsBehind_95
  have q73 : gz_OkE M_X0_dealsBehind 1 0 0 98 100 _ := ok_iload (i := 4) dX0_dealsBehind_98
  have q74 : gz_OkE M_X0_dealsBehind 0 0 0 94 101 _ := ok_iald q72 q73 dX0_dealsBehind_100
  have q75 : gz_OkE M_X0_dealsBehind 1 0 0 101 102 _ := ok_aload_n (i := 0) dX0_dealsBehind_101 rfl
  have q76 : gz_OkE M_X0_dealsBehind 1 0 0 101 105 _ := ok_get q75 cl_0 (k := 2) (by decide) in_0 wd_3 dX0_dealsBehind_102
  have q77 : gz_OkE M_X0_dealsBehind 2 0 0 105 107 _ := ok_iload (i := 4) dX0_dealsBehind_105
  have q78 : gz_OkE M_X0_dealsBehind 1 0 0 101 108 _ := ok_iald q76 q77 dX0_dealsBehind_107
  have q79 : gz_OkJ M_X0_dealsBehind 0 0 0 94 113 111 _ := ok_ic_le q74 q78 dX0_dealsBehind_108 (by decide)
  have q80 : gz_OkS M_X0_dealsBehind 0 0 116 (gz_sat 16) := ok_goto dX0_dealsBehind_116 (by decide)
  have q81 : gz_OkS M_X0_dealsBehind 0 0 113 _ := ok_inc (v := 1) dX0_dealsBehind_113 kc_i1 (by decide) q80
  have q82 : gz_OkE M_X0_dealsBehind 0 0 0 111 112 _ := ok_iconst (v := 0) dX0_dealsBehind_111 kc_i0
  have q83 : gz_OkS M_X0_dealsBehind 0 0 111 _ := ok_ri q82 dX0_dealsBehind_112
  have q84 : gz_OkS M_X0_dealsBehind 0 0 94 _ := ok_if q79 q81 q83
  have q85 : gz_OkS M_X0_dealsBehind 0 0 70 _ := ok_iast q57 q58 q70 dX0_dealsBehind_93 q84
  have q86 : gz_OkS M_X0_dealsBehind 0 0 40 _ := ok_iast q33 q34 q55 dX0_dealsBehind_69 q85
  have q87 : gz_OkS M_X0_dealsBehind 0 0 22 _ := ok_seti (k := 5) q31 dX0_dealsBehind_38 (by decide) q86
  have q88 : gz_OkS M_X0_dealsBehind 0 0 16 _ := ok_if q14 q15 q87
  have q89 : gz_OkS M_X0_dealsBehind 0 0 16 lb_X0_dealsBehind_16 := q88
  have q90 : gz_OkS M_X0_dealsBehind 0 0 16 _ := ok_loop (k := 5) q89 rfl rfl
  have q91 : gz_OkE M_X0_dealsBehind 0 0 0 119 120 _ := ok_aload_n (i := 0) dX0_dealsBehind_119 rfl
  have q92 : gz_OkE M_X0_dealsBehind 0 0 0 119 123 _ := ok_get q91 cl_0 (k := 1) (by decide) in_0 wd_2 dX0_dealsBehind_120
  have q93 : gz_OkE M_X0_dealsBehind 1 0 0 123 124 _ := ok_iconst (v := 1) dX0_dealsBehind_123 kc_i1
  have q94 : gz_OkE M_X0_dealsBehind 0 0 0 119 125 _ := ok_iald q92 q93 dX0_dealsBehind_124
  have q95 : gz_OkE M_X0_dealsBehind 1 0 0 125 126 _ := ok_aload_n (i := 0) dX0_dealsBehind_125 rfl
  have q96 : gz_OkE M_X0_dealsBehind 1 0 0 125 129 _ := ok_get q95 cl_0 (k := 1) (by decide) in_0 wd_2 dX0_dealsBehind_126
  have q97 : gz_OkE M_X0_dealsBehind 2 0 0 129 130 _ := ok_iconst (v := 2) dX0_dealsBehind_129 kc_i2
  have q98 : gz_OkE M_X0_dealsBehind 1 0 0 125 131 _ := ok_iald q96 q97 dX0_dealsBehind_130
  have q99 : gz_OkE M_X0_dealsBehind 0 0 0 119 132 _ := ok_iadd q94 q98 dX0_dealsBehind_131
  have q100 : gz_OkE M_X0_dealsBehind 1 0 0 132 133 _ := ok_aload_n (i := 0) dX0_dealsBehind_132 rfl
  have q101 : gz_OkE M_X0_dealsBehind 1 0 0 132 136 _ := ok_get q100 cl_0 (k := 1) (by decide) in_0 wd_2 dX0_dealsBehind_133
  have q102 : gz_OkE M_X0_dealsBehind 2 0 0 136 137 _ := ok_iconst (v := 3) dX0_dealsBehind_136 kc_i3
  have q103 : gz_OkE M_X0_dealsBehind 1 0 0 132 138 _ := ok_iald q101 q102 dX0_dealsBehind_137
  have q104 : gz_OkE M_X0_dealsBehind 0 0 0 119 139 _ := ok_iadd q99 q103 dX0_dealsBehind_138
  have q105 : gz_OkE M_X0_dealsBehind 1 0 0 139 140 _ := ok_iload_n (i := 2) dX0_dealsBehind_139 rfl
  have q106 : gz_OkJ M_X0_dealsBehind 0 0 0 119 167 143 _ := ok_ic_gt q104 q105 dX0_dealsBehind_140 (by decide)
  have q107 : gz_OkE M_X0_dealsBehind 0 0 0 143 144 _ := ok_aload_n (i := 0) dX0_dealsBehind_143 rfl
  have q108 : gz_OkE M_X0_dealsBehind 0 0 0 143 147 _ := ok_get q107 cl_0 (k := 2) (by decide) in_0 wd_3 dX0_dealsBehind_144
  have q109 : gz_OkE M_X0_dealsBehind 1 0 0 147 148 _ := ok_iconst (v := 1) dX0_dealsBehind_147 kc_i1
  have q110 : gz_OkE M_X0_dealsBehind 0 0 0 143 149 _ := ok_iald q108 q109 dX0_dealsBehind_148
  have q111 : gz_OkE M_X0_dealsBehind 1 0 0 149 150 _ := ok_aload_n (i := 0) dX0_dealsBehind_149 rfl
  have q112 : gz_OkE M_X0_dealsBehind 1 0 0 149 153 _ := ok_get q111 cl_0 (k := 2) (by decide) in_0 wd_3 dX0_dealsBehind_150
  have q113 : gz_OkE M_X0_dealsBehind 2 0 0 153 154 _ := ok_iconst (v := 2) dX0_dealsBehind_153 kc_i2
  have q114 : gz_OkE M_X0_dealsBehind 1 0 0 149 155 _ := ok_iald q112 q113 dX0_dealsBehind_154
  have q115 : gz_OkE M_X0_dealsBehind 0 0 0 143 156 _ := ok_iadd q110 q114 dX0_dealsBehind_155
  have q116 : gz_OkE M_X0_dealsBehind 1 0 0 156 157 _ := ok_aload_n (i := 0) dX0_dealsBehind_156 rfl
  have q117 : gz_OkE M_X0_dealsBehind 1 0 0 156 160 _ := ok_get q116 cl_0 (k := 2) (by decide) in_0 wd_3 dX0_dealsBehind_157
  have q118 : gz_OkE M_X0_dealsBehind 2 0 0 160 161 _ := ok_iconst (v := 3) dX0_dealsBehind_160 kc_i3
  have q119 : gz_OkE M_X0_dealsBehind 1 0 0 156 162 _ := ok_iald q117 q118 dX0_dealsBehind_161
  have q120 : gz_OkE M_X0_dealsBehind 0 0 0 143 163 _ := ok_iadd q115 q119 dX0_dealsBehind_162
  have q121 : gz_OkE M_X0_dealsBehind 1 0 0 163 164 _ := ok_iload_n (i := 2) dX0_dealsBehind_163 rfl
  have q122 : gz_OkJ M_X0_dealsBehind 0 0 0 143 169 167 _ := ok_ic_ge q120 q121 dX0_dealsBehind_164 (by decide)
  have q123 : gz_OkJ M_X0_dealsBehind 0 0 0 119 169 167 _ := ok_ja q106 q122
  have q124 : gz_OkE M_X0_dealsBehind 0 0 0 169 170 _ := ok_aload_n (i := 0) dX0_dealsBehind_169 rfl
  have q125 : gz_OkE M_X0_dealsBehind 0 0 0 169 173 _ := ok_get q124 cl_0 (k := 3) (by decide) in_0 wd_4 dX0_dealsBehind_170
  have q126 : gz_OkE M_X0_dealsBehind 1 0 0 173 174 _ := ok_iconst (v := 1) dX0_dealsBehind_173 kc_i1
  have q127 : gz_OkA M_X0_dealsBehind 2 0 0 174 174 0 _ := ok_a0
  have q128 : gz_OkE M_X0_dealsBehind 2 0 0 174 175 _ := ok_aload_n (i := 0) dX0_dealsBehind_174 rfl
  have q129 : gz_OkE M_X0_dealsBehind 2 0 0 174 178 _ := ok_get q128 cl_0 (k := 1) (by decide) in_0 wd_2 dX0_dealsBehind_175
  have q130 : gz_OkE M_X0_dealsBehind 3 0 0 178 179 _ := ok_iconst (v := 1) dX0_dealsBehind_178 kc_i1
  have q131 : gz_OkE M_X0_dealsBehind 2 0 0 174 180 _ := ok_iald q129 q130 dX0_dealsBehind_179
  have q132 : gz_OkA M_X0_dealsBehind 2 0 0 174 180 1 _ := ok_a1 q127 q131
  have q133 : gz_OkE M_X0_dealsBehind 4 0 0 180 181 _ := ok_iload_n (i := 2) dX0_dealsBehind_180 rfl
  have q134 : gz_OkE M_X0_dealsBehind 5 0 0 181 182 _ := ok_aload_n (i := 0) dX0_dealsBehind_181 rfl
  have q135 : gz_OkE M_X0_dealsBehind 5 0 0 181 185 _ := ok_get q134 cl_0 (k := 2) (by decide) in_0 wd_3 dX0_dealsBehind_182
  have q136 : gz_OkE M_X0_dealsBehind 6 0 0 185 186 _ := ok_iconst (v := 2) dX0_dealsBehind_185 kc_i2
  have q137 : gz_OkE M_X0_dealsBehind 5 0 0 181 187 _ := ok_iald q135 q136 dX0_dealsBehind_186
  have q138 : gz_OkE M_X0_dealsBehind 4 0 0 180 188 _ := ok_isub q133 q137 dX0_dealsBehind_187
  have q139 : gz_OkE M_X0_dealsBehind 5 0 0 188 189 _ := ok_aload_n (i := 0) dX0_dealsBehind_188 rfl
  have q140 : gz_OkE M_X0_dealsBehind 5 0 0 188 192 _ := ok_get q139 cl_0 (k := 2) (by decide) in_0 wd_3 dX0_dealsBehind_189
  have q141 : gz_OkE M_X0_dealsBehind 6 0 0 192 193 _ := ok_iconst (v := 3) dX0_dealsBehind_192 kc_i3
  have q142 : gz_OkE M_X0_dealsBehind 5 0 0 188 194 _ := ok_iald q140 q141 dX0_dealsBehind_193
  have q143 : gz_OkE M_X0_dealsBehind 4 0 0 180 195 _ := ok_isub q138 q142 dX0_dealsBehind_194
  have q144 : gz_OkA M_X0_dealsBehind 2 0 0 174 195 2 _ := ok_a1 q132 q143
  have q145 : gz_OkE M_X0_dealsBehind 2 0 0 174 198 _ := ok_cs q144 mt_J9_max_7cf53 wd_418 wd_411 de_J9_max_7cf53 (by decide) (by decide) wd_419 wd_420 dX0_dealsBehind_195 (by decide)
  have q146 : gz_OkE M_X0_dealsBehind 0 0 0 199 200 _ := ok_aload_n (i := 0) dX0_dealsBehind_199 rfl
  have q147 : gz_OkE M_X0_dealsBehind 0 0 0 199 203 _ := ok_get q146 cl_0 (k := 3) (by decide) in_0 wd_4 dX0_dealsBehind_200
  have q148 : gz_OkE M_X0_dealsBehind 1 0 0 203 204 _ := ok_iconst (v := 2) dX0_dealsBehind_203 kc_i2
  have q149 : gz_OkA M_X0_dealsBehind 2 0 0 204 204 0 _ := ok_a0
  have q150 : gz_OkE M_X0_dealsBehind 2 0 0 204 205 _ := ok_aload_n (i := 0) dX0_dealsBehind_204 rfl
  have q151 : gz_OkE M_X0_dealsBehind 2 0 0 204 208 _ := ok_get q150 cl_0 (k := 1) (by decide) in_0 wd_2 dX0_dealsBehind_205
  have q152 : gz_OkE M_X0_dealsBehind 3 0 0 208 209 _ := ok_iconst (v := 2) dX0_dealsBehind_208 kc_i2
  have q153 : gz_OkE M_X0_dealsBehind 2 0 0 204 210 _ := ok_iald q151 q152 dX0_dealsBehind_209
  have q154 : gz_OkA M_X0_dealsBehind 2 0 0 204 210 1 _ := ok_a1 q149 q153
  have q155 : gz_OkE M_X0_dealsBehind 4 0 0 210 211 _ := ok_iload_n (i := 2) dX0_dealsBehind_210 rfl
  have q156 : gz_OkE M_X0_dealsBehind 5 0 0 211 212 _ := ok_aload_n (i := 0) dX0_dealsBehind_211 rfl
  have q157 : gz_OkE M_X0_dealsBehind 5 0 0 211 215 _ := ok_get q156 cl_0 (k := 3) (by decide) in_0 wd_4 dX0_dealsBehind_212
  have q158 : gz_OkE M_X0_dealsBehind 6 0 0 215 216 _ := ok_iconst (v := 1) dX0_dealsBehind_215 kc_i1
  have q159 : gz_OkE M_X0_dealsBehind 5 0 0 211 217 _ := ok_iald q157 q158 dX0_dealsBehind_216
  have q160 : gz_OkE M_X0_dealsBehind 4 0 0 210 218 _ := ok_isub q155 q159 dX0_dealsBehind_217
  have q161 : gz_OkE M_X0_dealsBehind 5 0 0 218 219 _ := ok_aload_n (i := 0) dX0_dealsBehind_218 rfl
  have q162 : gz_OkE M_X0_dealsBehind 5 0 0 218 222 _ := ok_get q161 cl_0 (k := 2) (by decide) in_0 wd_3 dX0_dealsBehind_219
  have q163 : gz_OkE M_X0_dealsBehind 6 0 0 222 223 _ := ok_iconst (v := 3) dX0_dealsBehind_222 kc_i3
  have q164 : gz_OkE M_X0_dealsBehind 5 0 0 218 224 _ := ok_iald q162 q163 dX0_dealsBehind_223
  have q165 : gz_OkE M_X0_dealsBehind 4 0 0 210 225 _ := ok_isub q160 q164 dX0_dealsBehind_224
  have q166 : gz_OkA M_X0_dealsBehind 2 0 0 204 225 2 _ := ok_a1 q154 q165
  have q167 : gz_OkE M_X0_dealsBehind 2 0 0 204 228 _ := ok_cs q166 mt_J9_max_7cf53 wd_418 wd_411 de_J9_max_7cf53 (by decide) (by decide) wd_419 wd_420 dX0_dealsBehind_225 (by decide)
  have q168 : gz_OkE M_X0_dealsBehind 0 0 0 229 230 _ := ok_aload_n (i := 0) dX0_dealsBehind_229 rfl
  have q169 : gz_OkE M_X0_dealsBehind 0 0 0 229 233 _ := ok_get q168 cl_0 (k := 3) (by decide) in_0 wd_4 dX0_dealsBehind_230
  have q170 : gz_OkE M_X0_dealsBehind 1 0 0 233 234 _ := ok_iconst (v := 3) dX0_dealsBehind_233 kc_i3
  have q171 : gz_OkE M_X0_dealsBehind 2 0 0 234 235 _ := ok_iload_n (i := 2) dX0_dealsBehind_234 rfl
  have q172 : gz_OkE M_X0_dealsBehind 3 0 0 235 236 _ := ok_aload_n (i := 0) dX0_dealsBehind_235 rfl
  have q173 : gz_OkE M_X0_dealsBehind 3 0 0 235 239 _ := ok_get q172 cl_0 (k := 3) (by decide) in_0 wd_4 dX0_dealsBehind_236
  have q174 : gz_OkE M_X0_dealsBehind 4 0 0 239 240 _ := ok_iconst (v := 1) dX0_dealsBehind_239 kc_i1
  have q175 : gz_OkE M_X0_dealsBehind 3 0 0 235 241 _ := ok_iald q173 q174 dX0_dealsBehind_240
  have q176 : gz_OkE M_X0_dealsBehind 2 0 0 234 242 _ := ok_isub q171 q175 dX0_dealsBehind_241
  have q177 : gz_OkE M_X0_dealsBehind 3 0 0 242 243 _ := ok_aload_n (i := 0) dX0_dealsBehind_242 rfl
  have q178 : gz_OkE M_X0_dealsBehind 3 0 0 242 246 _ := ok_get q177 cl_0 (k := 3) (by decide) in_0 wd_4 dX0_dealsBehind_243
  have q179 : gz_OkE M_X0_dealsBehind 4 0 0 246 247 _ := ok_iconst (v := 2) dX0_dealsBehind_246 kc_i2
  have q180 : gz_OkE M_X0_dealsBehind 3 0 0 242 248 _ := ok_iald q178 q179 dX0_dealsBehind_247
  have q181 : gz_OkE M_X0_dealsBehind 2 0 0 234 249 _ := ok_isub q176 q180 dX0_dealsBehind_248
  have q182 : gz_OkE M_X0_dealsBehind 0 0 0 250 251 _ := ok_iconst (v := 1) dX0_dealsBehind_250 kc_i1
  have q183 : gz_OkS M_X0_dealsBehind 0 0 250 _ := ok_ri q182 dX0_dealsBehind_251
  have q184 : gz_OkS M_X0_dealsBehind 0 0 229 _ := ok_iast q169 q170 q181 dX0_dealsBehind_249 q183
  have q185 : gz_OkS M_X0_dealsBehind 0 0 199 _ := ok_iast q147 q148 q167 dX0_dealsBehind_228 q184
  have q186 : gz_OkS M_X0_dealsBehind 0 0 169 _ := ok_iast q125 q126 q145 dX0_dealsBehind_198 q185
  have q187 : gz_OkE M_X0_dealsBehind 0 0 0 167 168 _ := ok_iconst (v := 0) dX0_dealsBehind_167 kc_i0
  have q188 : gz_OkS M_X0_dealsBehind 0 0 167 _ := ok_ri q187 dX0_dealsBehind_168
  have q189 : gz_OkS M_X0_dealsBehind 0 0 119 _ := ok_if q123 q186 q188
  have q190 : gz_OkS M_X0_dealsBehind 0 0 16 _ := ok_seq (L := 119) (k := 3) q90 q189
  have q191 : gz_OkS M_X0_dealsBehind 0 0 13 _ := ok_seti (k := 4) q11 dX0_dealsBehind_14 (by decide) q190
  have q192 : gz_OkE M_X0_dealsBehind 0 0 0 11 12 _ := ok_iconst (v := 0) dX0_dealsBehind_11 kc_i0
  have q193 : gz_OkS M_X0_dealsBehind 0 0 11 _ := ok_ri q192 dX0_dealsBehind_12
  have q194 : gz_OkS M_X0_dealsBehind 0 0 0 _ := ok_if q10 q191 q193
  have z : gz_OkS M_X0_dealsBehind 0 0 0 sm_X0_dealsBehind := q194
  exact gz_met (plainFor_of_name (by decide)) z (by decide) (by decide)
noncomputable def lb_X0_deals_11 : gz_Sx := gz_if (gz_j2 (fun x y => decide (y ≤ x)) (gz_li 3) (gz_li 1)) (gz_sat 43) (gz_if (gz_j1 (fun x => decide (x = 0)) (gz_cv 0 6 se_X0_dealsBehind (gz_a1 (gz_a1 (gz_a1 (gz_a1 (gz_a0) (gz_la 0)) (gz_li 3)) (gz_ib (fun x y => x - y) (gz_li 1) (gz_li 3))) (gz_li 2)))) (gz_inc 3 (1) (gz_sat 11)) (gz_ast 100 (gz_get 0 6 3 (gz_la 0)) (gz_i (0)) (gz_li 3) (gz_ri (gz_i (1)))))
noncomputable def sm_X0_deals : gz_Sx := gz_seti 3 (gz_cs se_J9_max_7cf53 (gz_a1 (gz_a1 (gz_a0) (gz_i (1))) (gz_ald 100 (gz_get 0 6 0 (gz_la 0)) (gz_i (1))))) (gz_seq 43 0 (gz_loop 11 4 lb_X0_deals_11) (gz_ri (gz_i (0))))
noncomputable def se_X0_deals : gz_Me := gz_sem (some .boolean) 4 sm_X0_deals
abbrev rm_X0_deals : Room := { frames := 3, cells := 0, slots := 0, locals := 68 }
abbrev M_X0_deals : gz_Mi := (cX0_deals, 4, RX0, 3, 68, "deals", none)
theorem de_X0_deals : yX0_deals.cls ≠ "java/lang/invoke/MethodHandle" ∧ yX0_deals.cls ≠ "java/lang/invoke/VarHandle" ∧ (parseMethodDescriptor yX0_deals.desc).map (fun d => d.parameters.length) = some 2 := by decide +kernel
set_option maxRecDepth 100000 in
theorem mt_X0_deals : gz_Mt yX0_deals cX0_deals 4 (some .boolean) rm_X0_deals se_X0_deals := by
  have q1 : gz_OkA M_X0_deals 0 0 0 0 0 0 _ := ok_a0
  have q2 : gz_OkE M_X0_deals 0 0 0 0 1 _ := ok_iconst (v := 1) dX0_deals_0 kc_i1
  have q3 : gz_OkA M_X0_deals 0 0 0 0 1 1 _ := ok_a1 q1 q2
  have q4 : gz_OkE M_X0_deals 2 0 0 1 2 _ := ok_aload_n (i := 0) dX0_deals_1 rfl
  have q5 : gz_OkE M_X0_deals 2 0 0 1 5 _ := ok_get q4 cl_0 (k := 0) (by decide) in_0 wd_1 dX0_deals_2
  have q6 : gz_OkE M_X0_deals 3 0 0 5 6 _ := ok_iconst (v := 1) dX0_deals_5 kc_i1
  have q7 : gz_OkE M_X0_deals 2 0 0 1 7 _ := ok_iald q5 q6 dX0_deals_6
  have q8 : gz_OkA M_X0_deals 0 0 0 0 7 2 _ := ok_a1 q3 q7
  have q9 : gz_OkE M_X0_deals 0 0 0 0 10 _ := ok_cs q8 mt_J9_max_7cf53 wd_418 wd_411 de_J9_max_7cf53 (by decide) (by decide) wd_419 wd_420 dX0_deals_7 (by decide)
  have q10 : gz_OkE M_X0_deals 0 0 0 11 12 _ := ok_iload_n (i := 3) dX0_deals_11 rfl
  have q11 : gz_OkE M_X0_deals 1 0 0 12 13 _ := ok_iload_n (i := 1) dX0_deals_12 rfl
  have q12 : gz_OkJ M_X0_deals 0 0 0 11 43 16 _ := ok_ic_ge q10 q11 dX0_deals_13 (by decide)
  have q13 : gz_OkS M_X0_deals 0 0 43 _ := ok_at
  have q14 : gz_OkA M_X0_deals 0 0 0 16 16 0 _ := ok_a0
  have q15 : gz_OkE M_X0_deals 0 0 0 16 17 _ := ok_aload_n (i := 0) dX0_deals_16 rfl
  have q16 : gz_OkA M_X0_deals 0 0 0 16 17 1 _ := ok_a1 q14 q15
  have q17 : gz_OkE M_X0_deals 2 0 0 17 18 _ := ok_iload_n (i := 3) dX0_deals_17 rfl
  have q18 : gz_OkA M_X0_deals 0 0 0 16 18 2 _ := ok_a1 q16 q17
  have q19 : gz_OkE M_X0_deals 4 0 0 18 19 _ := ok_iload_n (i := 1) dX0_deals_18 rfl
  have q20 : gz_OkE M_X0_deals 5 0 0 19 20 _ := ok_iload_n (i := 3) dX0_deals_19 rfl
  have q21 : gz_OkE M_X0_deals 4 0 0 18 21 _ := ok_isub q19 q20 dX0_deals_20
  have q22 : gz_OkA M_X0_deals 0 0 0 16 21 3 _ := ok_a1 q18 q21
  have q23 : gz_OkE M_X0_deals 6 0 0 21 22 _ := ok_iload_n (i := 2) dX0_deals_21 rfl
  have q24 : gz_OkA M_X0_deals 0 0 0 16 22 4 _ := ok_a1 q22 q23
  have q25 : gz_OkE M_X0_deals 0 0 0 16 25 _ := ok_cv q24 mt_X0_dealsBehind cl_0 wd_428 wd_415 de_X0_dealsBehind (by decide) (by decide) wd_429 wd_430 wd_431 dX0_deals_22 (by decide)
  have q26 : gz_OkJ M_X0_deals 0 0 0 16 37 28 _ := ok_if_eq q25 dX0_deals_25 (by decide)
  have q27 : gz_OkS M_X0_deals 0 0 40 (gz_sat 11) := ok_goto dX0_deals_40 (by decide)
  have q28 : gz_OkS M_X0_deals 0 0 37 _ := ok_inc (v := 1) dX0_deals_37 kc_i1 (by decide) q27
  have q29 : gz_OkE M_X0_deals 0 0 0 28 29 _ := ok_aload_n (i := 0) dX0_deals_28 rfl
  have q30 : gz_OkE M_X0_deals 0 0 0 28 32 _ := ok_get q29 cl_0 (k := 3) (by decide) in_0 wd_4 dX0_deals_29
  have q31 : gz_OkE M_X0_deals 1 0 0 32 33 _ := ok_iconst (v := 0) dX0_deals_32 kc_i0
  have q32 : gz_OkE M_X0_deals 2 0 0 33 34 _ := ok_iload_n (i := 3) dX0_deals_33 rfl
  have q33 : gz_OkE M_X0_deals 0 0 0 35 36 _ := ok_iconst (v := 1) dX0_deals_35 kc_i1
  have q34 : gz_OkS M_X0_deals 0 0 35 _ := ok_ri q33 dX0_deals_36
  have q35 : gz_OkS M_X0_deals 0 0 28 _ := ok_iast q30 q31 q32 dX0_deals_34 q34
  have q36 : gz_OkS M_X0_deals 0 0 16 _ := ok_if q26 q28 q35
  have q37 : gz_OkS M_X0_deals 0 0 11 _ := ok_if q12 q13 q36
  have q38 : gz_OkS M_X0_deals 0 0 11 lb_X0_deals_11 := q37
  have q39 : gz_OkS M_X0_deals 0 0 11 _ := ok_loop (k := 4) q38 rfl rfl
  have q40 : gz_OkE M_X0_deals 0 0 0 43 44 _ := ok_iconst (v := 0) dX0_deals_43 kc_i0
  have q41 : gz_OkS M_X0_deals 0 0 43 _ := ok_ri q40 dX0_deals_44
  have q42 : gz_OkS M_X0_deals 0 0 11 _ := ok_seq (L := 43) (k := 0) q39 q41
  have q43 : gz_OkS M_X0_deals 0 0 0 _ := ok_seti_n (k := 3) q9 dX0_deals_10 rfl (by decide) q42
  have z : gz_OkS M_X0_deals 0 0 0 sm_X0_deals := q43
  exact gz_met (plainFor_of_name (by decide)) z (by decide) (by decide)
noncomputable def lb_X2_allBetweens_4 : gz_Sx := gz_if (gz_j2 (fun x y => decide (y ≤ x)) (gz_li 2) (gz_get 2 9 2 (gz_la 0))) (gz_sat 27) (gz_seti 1 (gz_ib (fun x y => x + y) (gz_li 1) (gz_ald 100 (gz_get 2 9 6 (gz_la 0)) (gz_li 2))) (gz_inc 2 (1) (gz_sat 4)))
noncomputable def sm_X2_allBetweens : gz_Sx := gz_seti 1 (gz_i (0)) (gz_seti 2 (gz_i (0)) (gz_seq 27 2 (gz_loop 4 3 lb_X2_allBetweens_4) (gz_ri (gz_li 1))))
noncomputable def se_X2_allBetweens : gz_Me := gz_sem (some .int) 3 sm_X2_allBetweens
abbrev rm_X2_allBetweens : Room := { frames := 0, cells := 0, slots := 0, locals := 0 }
abbrev M_X2_allBetweens : gz_Mi := (cX2_allBetweens, 3, RX2, 0, 0, "allBetweens", none)
theorem de_X2_allBetweens : yX2_allBetweens.cls ≠ "java/lang/invoke/MethodHandle" ∧ yX2_allBetweens.cls ≠ "java/lang/invoke/VarHandle" ∧ (parseMethodDescriptor yX2_allBetweens.desc).map (fun d => d.parameters.length) = some 0 := by decide +kernel
set_option maxRecDepth 100000 in
theorem mt_X2_allBetweens : gz_Mt yX2_allBetweens cX2_allBetweens 3 (some .int) rm_X2_allBetweens se_X2_allBetweens := by
  have q1 : gz_OkE M_X2_allBetweens 0 0 0 0 1 _ := ok_iconst (v := 0) dX2_allBetweens_0 kc_i0
  have q2 : gz_OkE M_X2_allBetweens 0 0 0 2 3 _ := ok_iconst (v := 0) dX2_allBetweens_2 kc_i0
  have q3 : gz_OkE M_X2_allBetweens 0 0 0 4 5 _ := ok_iload_n (i := 2) dX2_allBetweens_4 rfl
  have q4 : gz_OkE M_X2_allBetweens 1 0 0 5 6 _ := ok_aload_n (i := 0) dX2_allBetweens_5 rfl
  have q5 : gz_OkE M_X2_allBetweens 1 0 0 5 9 _ := ok_get q4 cl_2 (k := 2) (by decide) in_2 wd_41 dX2_allBetweens_6
  have q6 : gz_OkJ M_X2_allBetweens 0 0 0 4 27 12 _ := ok_ic_ge q3 q5 dX2_allBetweens_9 (by decide)
  have q7 : gz_OkS M_X2_allBetweens 0 0 27 _ := ok_at
  have q8 : gz_OkE M_X2_allBetweens 0 0 0 12 13 _ := ok_iload_n (i := 1) dX2_allBetweens_12 rfl
  have q9 : gz_OkE M_X2_allBetweens 1 0 0 13 14 _ := ok_aload_n (i := 0) dX2_allBetweens_13 rfl
  have q10 : gz_OkE M_X2_allBetweens 1 0 0 13 17 _ := ok_get q9 cl_2 (k := 6) (by decide) in_2 wd_38 dX2_allBetweens_14
  have q11 : gz_OkE M_X2_allBetweens 2 0 0 17 18 _ := ok_iload_n (i := 2) dX2_allBetweens_17 rfl
  have q12 : gz_OkE M_X2_allBetweens 1 0 0 13 19 _ := ok_iald q10 q11 dX2_allBetweens_18
  have q13 : gz_OkE M_X2_allBetweens 0 0 0 12 20 _ := ok_iadd q8 q12 dX2_allBetweens_19
  have q14 : gz_OkS M_X2_allBetweens 0 0 24 (gz_sat 4) := ok_goto dX2_allBetweens_24 (by decide)
  have q15 : gz_OkS M_X2_allBetweens 0 0 21 _ := ok_inc (v := 1) dX2_allBetweens_21 kc_i1 (by decide) q14
  have q16 : gz_OkS M_X2_allBetweens 0 0 12 _ := ok_seti_n (k := 1) q13 dX2_allBetweens_20 rfl (by decide) q15
  have q17 : gz_OkS M_X2_allBetweens 0 0 4 _ := ok_if q6 q7 q16
  have q18 : gz_OkS M_X2_allBetweens 0 0 4 lb_X2_allBetweens_4 := q17
  have q19 : gz_OkS M_X2_allBetweens 0 0 4 _ := ok_loop (k := 3) q18 rfl rfl
  have q20 : gz_OkE M_X2_allBetweens 0 0 0 27 28 _ := ok_iload_n (i := 1) dX2_allBetweens_27 rfl
  have q21 : gz_OkS M_X2_allBetweens 0 0 27 _ := ok_ri q20 dX2_allBetweens_28
  have q22 : gz_OkS M_X2_allBetweens 0 0 4 _ := ok_seq (L := 27) (k := 2) q19 q21
  have q23 : gz_OkS M_X2_allBetweens 0 0 2 _ := ok_seti_n (k := 2) q2 dX2_allBetweens_3 rfl (by decide) q22
  have q24 : gz_OkS M_X2_allBetweens 0 0 0 _ := ok_seti_n (k := 1) q1 dX2_allBetweens_1 rfl (by decide) q23
  have z : gz_OkS M_X2_allBetweens 0 0 0 sm_X2_allBetweens := q24
  exact gz_met (plainFor_of_name (by decide)) z (by decide) (by decide)
noncomputable def lb_X0_leastCycle_14 : gz_Sx := gz_if (gz_j2 (fun x y => decide (y < x)) (gz_li 3) (gz_i (90))) (gz_sat 54) (gz_vv 0 6 se_X0_askForLoad (gz_a1 (gz_a1 (gz_a1 (gz_a1 (gz_a1 (gz_a0) (gz_la 0)) (gz_la 1)) (gz_la 2)) (gz_l (1))) (gz_i2l (gz_li 3))) (gz_if (gz_j1 (fun x => decide (x = 0)) (gz_cv 0 6 se_X0_deals (gz_a1 (gz_a1 (gz_a1 (gz_a0) (gz_la 0)) (gz_ib (fun x y => x - y) (gz_li 3) (gz_cv 2 9 se_X2_allBetweens (gz_a1 (gz_a0) (gz_la 2))))) (gz_get 2 9 2 (gz_la 2))))) (gz_inc 3 (1) (gz_sat 14)) (gz_ri (gz_li 3))))
noncomputable def sm_X0_leastCycle : gz_Sx := gz_if (gz_j1 (fun x => decide (x = 0)) (gz_cv 0 6 se_X0_leavesOneOut (gz_a1 (gz_a1 (gz_a1 (gz_a0) (gz_la 0)) (gz_la 1)) (gz_la 2)))) (gz_seti 3 (gz_i (20)) (gz_seq 54 0 (gz_loop 14 4 lb_X0_leastCycle_14) (gz_ri (gz_i (-1))))) (gz_ri (gz_i (-1)))
noncomputable def se_X0_leastCycle : gz_Me := gz_sem (some .int) 4 sm_X0_leastCycle
abbrev rm_X0_leastCycle : Room := { frames := 4, cells := 0, slots := 0, locals := 91 }
abbrev M_X0_leastCycle : gz_Mi := (cX0_leastCycle, 4, RX0, 4, 91, "leastCycle", none)
theorem de_X0_leastCycle : yX0_leastCycle.cls ≠ "java/lang/invoke/MethodHandle" ∧ yX0_leastCycle.cls ≠ "java/lang/invoke/VarHandle" ∧ (parseMethodDescriptor yX0_leastCycle.desc).map (fun d => d.parameters.length) = some 2 := by decide +kernel
set_option maxRecDepth 100000 in
theorem mt_X0_leastCycle : gz_Mt yX0_leastCycle cX0_leastCycle 4 (some .int) rm_X0_leastCycle se_X0_leastCycle := by
  have q1 : gz_OkA M_X0_leastCycle 0 0 0 0 0 0 _ := ok_a0
  have q2 : gz_OkE M_X0_leastCycle 0 0 0 0 1 _ := ok_aload_n (i := 0) dX0_leastCycle_0 rfl
  have q3 : gz_OkA M_X0_leastCycle 0 0 0 0 1 1 _ := ok_a1 q1 q2
  have q4 : gz_OkE M_X0_leastCycle 2 0 0 1 2 _ := ok_aload_n (i := 1) dX0_leastCycle_1 rfl
  have q5 : gz_OkA M_X0_leastCycle 0 0 0 0 2 2 _ := ok_a1 q3 q4
  have q6 : gz_OkE M_X0_leastCycle 4 0 0 2 3 _ := ok_aload_n (i := 2) dX0_leastCycle_2 rfl
  have q7 : gz_OkA M_X0_leastCycle 0 0 0 0 3 3 _ := ok_a1 q5 q6
  have q8 : gz_OkE M_X0_leastCycle 0 0 0 0 6 _ := ok_cv q7 mt_X0_leavesOneOut cl_0 wd_432 wd_415 de_X0_leavesOneOut (by decide) (by decide) wd_433 wd_434 wd_435 dX0_leastCycle_3 (by decide)
  have q9 : gz_OkJ M_X0_leastCycle 0 0 0 0 11 9 _ := ok_if_eq q8 dX0_leastCycle_6 (by decide)
  have q10 : gz_OkE M_X0_leastCycle 0 0 0 11 13 _ := ok_bipush (v := 20) dX0_leastCycle_11 kc_b20
  have q11 : gz_OkE M_X0_leastCycle 0 0 0 14 15 _ := ok_iload_n (i := 3) dX0_leastCycle_14 rfl
  have q12 : gz_OkE M_X0_leastCycle 1 0 0 15 17 _ := ok_bipush (v := 90) dX0_leastCycle_15 kc_b90
  have q13 : gz_OkJ M_X0_leastCycle 0 0 0 14 54 20 _ := ok_ic_gt q11 q12 dX0_leastCycle_17 (by decide)
  have q14 : gz_OkS M_X0_leastCycle 0 0 54 _ := ok_at
  have q15 : gz_OkA M_X0_leastCycle 0 0 0 20 20 0 _ := ok_a0
  have q16 : gz_OkE M_X0_leastCycle 0 0 0 20 21 _ := ok_aload_n (i := 0) dX0_leastCycle_20 rfl
  have q17 : gz_OkA M_X0_leastCycle 0 0 0 20 21 1 _ := ok_a1 q15 q16
  have q18 : gz_OkE M_X0_leastCycle 2 0 0 21 22 _ := ok_aload_n (i := 1) dX0_leastCycle_21 rfl
  have q19 : gz_OkA M_X0_leastCycle 0 0 0 20 22 2 _ := ok_a1 q17 q18
  have q20 : gz_OkE M_X0_leastCycle 4 0 0 22 23 _ := ok_aload_n (i := 2) dX0_leastCycle_22 rfl
  have q21 : gz_OkA M_X0_leastCycle 0 0 0 20 23 3 _ := ok_a1 q19 q20
  have q22 : gz_OkE M_X0_leastCycle 6 0 0 23 24 _ := ok_lconst (v := 1) dX0_leastCycle_23 kc_l1
  have q23 : gz_OkA M_X0_leastCycle 0 0 0 20 24 4 _ := ok_a1 q21 q22
  have q24 : gz_OkE M_X0_leastCycle 8 0 0 24 25 _ := ok_iload_n (i := 3) dX0_leastCycle_24 rfl
  have q25 : gz_OkE M_X0_leastCycle 8 0 0 24 26 _ := ok_i2l q24 dX0_leastCycle_25
  have q26 : gz_OkA M_X0_leastCycle 0 0 0 20 26 5 _ := ok_a1 q23 q25
  have q27 : gz_OkA M_X0_leastCycle 0 0 0 29 29 0 _ := ok_a0
  have q28 : gz_OkE M_X0_leastCycle 0 0 0 29 30 _ := ok_aload_n (i := 0) dX0_leastCycle_29 rfl
  have q29 : gz_OkA M_X0_leastCycle 0 0 0 29 30 1 _ := ok_a1 q27 q28
  have q30 : gz_OkE M_X0_leastCycle 2 0 0 30 31 _ := ok_iload_n (i := 3) dX0_leastCycle_30 rfl
  have q31 : gz_OkA M_X0_leastCycle 3 0 0 31 31 0 _ := ok_a0
  have q32 : gz_OkE M_X0_leastCycle 3 0 0 31 32 _ := ok_aload_n (i := 2) dX0_leastCycle_31 rfl
  have q33 : gz_OkA M_X0_leastCycle 3 0 0 31 32 1 _ := ok_a1 q31 q32
  have q34 : gz_OkE M_X0_leastCycle 3 0 0 31 35 _ := ok_cv q33 mt_X2_allBetweens cl_2 wd_436 wd_406 de_X2_allBetweens (by decide) (by decide) wd_437 wd_438 wd_439 dX0_leastCycle_32 (by decide)
  have q35 : gz_OkE M_X0_leastCycle 2 0 0 30 36 _ := ok_isub q30 q34 dX0_leastCycle_35
  have q36 : gz_OkA M_X0_leastCycle 0 0 0 29 36 2 _ := ok_a1 q29 q35
  have q37 : gz_OkE M_X0_leastCycle 4 0 0 36 37 _ := ok_aload_n (i := 2) dX0_leastCycle_36 rfl
  have q38 : gz_OkE M_X0_leastCycle 4 0 0 36 40 _ := ok_get q37 cl_2 (k := 2) (by decide) in_2 wd_5 dX0_leastCycle_37
  have q39 : gz_OkA M_X0_leastCycle 0 0 0 29 40 3 _ := ok_a1 q36 q38
  have q40 : gz_OkE M_X0_leastCycle 0 0 0 29 43 _ := ok_cv q39 mt_X0_deals cl_0 wd_440 wd_415 de_X0_deals (by decide) (by decide) wd_441 wd_442 wd_443 dX0_leastCycle_40 (by decide)
  have q41 : gz_OkJ M_X0_leastCycle 0 0 0 29 48 46 _ := ok_if_eq q40 dX0_leastCycle_43 (by decide)
  have q42 : gz_OkS M_X0_leastCycle 0 0 51 (gz_sat 14) := ok_goto dX0_leastCycle_51 (by decide)
  have q43 : gz_OkS M_X0_leastCycle 0 0 48 _ := ok_inc (v := 1) dX0_leastCycle_48 kc_i1 (by decide) q42
  have q44 : gz_OkE M_X0_leastCycle 0 0 0 46 47 _ := ok_iload_n (i := 3) dX0_leastCycle_46 rfl
  have q45 : gz_OkS M_X0_leastCycle 0 0 46 _ := ok_ri q44 dX0_leastCycle_47
  have q46 : gz_OkS M_X0_leastCycle 0 0 29 _ := ok_if q41 q43 q45
  have q47 : gz_OkS M_X0_leastCycle 0 0 20 _ := ok_vv q26 mt_X0_askForLoad cl_0 wd_444 wd_415 de_X0_askForLoad (by decide) (by decide) wd_445 wd_446 wd_447 dX0_leastCycle_26 q46
  have q48 : gz_OkS M_X0_leastCycle 0 0 14 _ := ok_if q13 q14 q47
  have q49 : gz_OkS M_X0_leastCycle 0 0 14 lb_X0_leastCycle_14 := q48
  have q50 : gz_OkS M_X0_leastCycle 0 0 14 _ := ok_loop (k := 4) q49 rfl rfl
  have q51 : gz_OkE M_X0_leastCycle 0 0 0 54 55 _ := ok_iconst (v := -1) dX0_leastCycle_54 kc_im1
  have q52 : gz_OkS M_X0_leastCycle 0 0 54 _ := ok_ri q51 dX0_leastCycle_55
  have q53 : gz_OkS M_X0_leastCycle 0 0 14 _ := ok_seq (L := 54) (k := 0) q50 q52
  have q54 : gz_OkS M_X0_leastCycle 0 0 11 _ := ok_seti_n (k := 3) q10 dX0_leastCycle_13 rfl (by decide) q53
  have q55 : gz_OkE M_X0_leastCycle 0 0 0 9 10 _ := ok_iconst (v := -1) dX0_leastCycle_9 kc_im1
  have q56 : gz_OkS M_X0_leastCycle 0 0 9 _ := ok_ri q55 dX0_leastCycle_10
  have q57 : gz_OkS M_X0_leastCycle 0 0 0 _ := ok_if q9 q54 q56
  have z : gz_OkS M_X0_leastCycle 0 0 0 sm_X0_leastCycle := q57
  exact gz_met (plainFor_of_name (by decide)) z (by decide) (by decide)
noncomputable def lb_X0_mostGreen_12 : gz_Sx := gz_if (gz_jo (gz_j2 (fun x y => decide (y ≤ x)) (gz_li 7) (gz_i (90))) (gz_j2 (fun x y => decide (x ≤ y)) (gz_ib (fun x y => x - y) (gz_li 6) (gz_li 5)) (gz_i (1)))) (gz_sat 97) (gz_seti 8 (gz_iz (fun x y => x / y) (gz_ib (fun x y => x + y) (gz_li 5) (gz_li 6)) (gz_i (2))) (gz_vv 0 6 se_X0_askForLoad (gz_a1 (gz_a1 (gz_a1 (gz_a1 (gz_a1 (gz_a0) (gz_la 0)) (gz_la 1)) (gz_la 2)) (gz_i2l (gz_get 3 14 1 (gz_ald 103 (gz_get 1 11 0 (gz_la 1)) (gz_li 3))))) (gz_lb (fun x y => x * y) (gz_i2l (gz_get 3 14 2 (gz_ald 103 (gz_get 1 11 0 (gz_la 1)) (gz_li 3)))) (gz_i2l (gz_li 8)))) (gz_seq 91 8 (gz_if (gz_j1 (fun x => decide (x = 0)) (gz_cv 0 6 se_X0_deals (gz_a1 (gz_a1 (gz_a1 (gz_a0) (gz_la 0)) (gz_li 4)) (gz_get 2 9 2 (gz_la 2))))) (gz_seti 6 (gz_li 8) (gz_sat 91)) (gz_seti 5 (gz_li 8) (gz_sat 91))) (gz_inc 7 (1) (gz_sat 12)))))
noncomputable def sm_X0_mostGreen : gz_Sx := gz_seti 5 (gz_i (0)) (gz_seti 6 (gz_ib (fun x y => x + y) (gz_li 4) (gz_i (1))) (gz_seti 7 (gz_i (0)) (gz_seq 97 6 (gz_loop 12 8 lb_X0_mostGreen_12) (gz_ri (gz_li 5)))))
noncomputable def se_X0_mostGreen : gz_Me := gz_sem (some .int) 9 sm_X0_mostGreen
abbrev rm_X0_mostGreen : Room := { frames := 4, cells := 0, slots := 0, locals := 91 }
abbrev M_X0_mostGreen : gz_Mi := (cX0_mostGreen, 9, RX0, 4, 91, "mostGreen", none)
theorem de_X0_mostGreen : yX0_mostGreen.cls ≠ "java/lang/invoke/MethodHandle" ∧ yX0_mostGreen.cls ≠ "java/lang/invoke/VarHandle" ∧ (parseMethodDescriptor yX0_mostGreen.desc).map (fun d => d.parameters.length) = some 4 := by decide +kernel
set_option maxRecDepth 100000 in
theorem mt_X0_mostGreen : gz_Mt yX0_mostGreen cX0_mostGreen 9 (some .int) rm_X0_mostGreen se_X0_mostGreen := by
  have q1 : gz_OkE M_X0_mostGreen 0 0 0 0 1 _ := ok_iconst (v := 0) dX0_mostGreen_0 kc_i0
  have q2 : gz_OkE M_X0_mostGreen 0 0 0 3 5 _ := ok_iload (i := 4) dX0_mostGreen_3
  have q3 : gz_OkE M_X0_mostGreen 1 0 0 5 6 _ := ok_iconst (v := 1) dX0_mostGreen_5 kc_i1
  have q4 : gz_OkE M_X0_mostGreen 0 0 0 3 7 _ := ok_iadd q2 q3 dX0_mostGreen_6
  have q5 : gz_OkE M_X0_mostGreen 0 0 0 9 10 _ := ok_iconst (v := 0) dX0_mostGreen_9 kc_i0
  have q6 : gz_OkE M_X0_mostGreen 0 0 0 12 14 _ := ok_iload (i := 7) dX0_mostGreen_12
  have q7 : gz_OkE M_X0_mostGreen 1 0 0 14 16 _ := ok_bipush (v := 90) dX0_mostGreen_14 kc_b90
  have q8 : gz_OkJ M_X0_mostGreen 0 0 0 12 97 19 _ := ok_ic_ge q6 q7 dX0_mostGreen_16 (by decide)
  have q9 : gz_OkE M_X0_mostGreen 0 0 0 19 21 _ := ok_iload (i := 6) dX0_mostGreen_19
  have q10 : gz_OkE M_X0_mostGreen 1 0 0 21 23 _ := ok_iload (i := 5) dX0_mostGreen_21
  have q11 : gz_OkE M_X0_mostGreen 0 0 0 19 24 _ := ok_isub q9 q10 dX0_mostGreen_23
  have q12 : gz_OkE M_X0_mostGreen 1 0 0 24 25 _ := ok_iconst (v := 1) dX0_mostGreen_24 kc_i1
  have q13 : gz_OkJ M_X0_mostGreen 0 0 0 19 97 28 _ := ok_ic_le q11 q12 dX0_mostGreen_25 (by decide)
  have q14 : gz_OkJ M_X0_mostGreen 0 0 0 12 97 28 _ := ok_jo q8 q13
  have q15 : gz_OkS M_X0_mostGreen 0 0 97 _ := ok_at
  have q16 : gz_OkE M_X0_mostGreen 0 0 0 28 30 _ := ok_iload (i := 5) dX0_mostGreen_28
  have q17 : gz_OkE M_X0_mostGreen 1 0 0 30 32 _ := ok_iload (i := 6) dX0_mostGreen_30
  have q18 : gz_OkE M_X0_mostGreen 0 0 0 28 33 _ := ok_iadd q16 q17 dX0_mostGreen_32
  have q19 : gz_OkE M_X0_mostGreen 1 0 0 33 34 _ := ok_iconst (v := 2) dX0_mostGreen_33 kc_i2
  have q20 : gz_OkE M_X0_mostGreen 0 0 0 28 35 _ := ok_idiv q18 q19 dX0_mostGreen_34
  have q21 : gz_OkA M_X0_mostGreen 0 0 0 37 37 0 _ := ok_a0
  have q22 : gz_OkE M_X0_mostGreen 0 0 0 37 38 _ := ok_aload_n (i := 0) dX0_mostGreen_37 rfl
  have q23 : gz_OkA M_X0_mostGreen 0 0 0 37 38 1 _ := ok_a1 q21 q22
  have q24 : gz_OkE M_X0_mostGreen 2 0 0 38 39 _ := ok_aload_n (i := 1) dX0_mostGreen_38 rfl
  have q25 : gz_OkA M_X0_mostGreen 0 0 0 37 39 2 _ := ok_a1 q23 q24
  have q26 : gz_OkE M_X0_mostGreen 4 0 0 39 40 _ := ok_aload_n (i := 2) dX0_mostGreen_39 rfl
  have q27 : gz_OkA M_X0_mostGreen 0 0 0 37 40 3 _ := ok_a1 q25 q26
  have q28 : gz_OkE M_X0_mostGreen 6 0 0 40 41 _ := ok_aload_n (i := 1) dX0_mostGreen_40 rfl
  have q29 : gz_OkE M_X0_mostGreen 6 0 0 40 44 _ := ok_get q28 cl_1 (k := 0) (by decide) in_1 wd_7 dX0_mostGreen_41
  have q30 : gz_OkE M_X0_mostGreen 7 0 0 44 45 _ := ok_iload_n (i := 3) dX0_mostGreen_44 rfl
  have q31 : gz_OkE M_X0_mostGreen 6 0 0 40 46 _ := ok_aald103 q29 q30 dX0_mostGreen_45
  have q32 : gz_OkE M_X0_mostGreen 6 0 0 40 49 _ := ok_get q31 cl_3 (k := 1) (by decide) in_3 wd_8 dX0_mostGreen_46
  have q33 : gz_OkE M_X0_mostGreen 6 0 0 40 50 _ := ok_i2l q32 dX0_mostGreen_49
  have q34 : gz_OkA M_X0_mostGreen 0 0 0 37 50 4 _ := ok_a1 q27 q33
  have q35 : gz_OkE M_X0_mostGreen 8 0 0 50 51 _ := ok_aload_n (i := 1) dX0_mostGreen_50 rfl
  have q36 : gz_OkE M_X0_mostGreen 8 0 0 50 54 _ := ok_get q35 cl_1 (k := 0) (by decide) in_1 wd_7 dX0_mostGreen_51
  have q37 : gz_OkE M_X0_mostGreen 9 0 0 54 55 _ := ok_iload_n (i := 3) dX0_mostGreen_54 rfl
  have q38 : gz_OkE M_X0_mostGreen 8 0 0 50 56 _ := ok_aald103 q36 q37 dX0_mostGreen_55
  have q39 : gz_OkE M_X0_mostGreen 8 0 0 50 59 _ := ok_get q38 cl_3 (k := 2) (by decide) in_3 wd_11 dX0_mostGreen_56
  have q40 : gz_OkE M_X0_mostGreen 8 0 0 50 60 _ := ok_i2l q39 dX0_mostGreen_59
  have q41 : gz_OkE M_X0_mostGreen 10 0 0 60 62 _ := ok_iload (i := 8) dX0_mostGreen_60
  have q42 : gz_OkE M_X0_mostGreen 10 0 0 60 63 _ := ok_i2l q41 dX0_mostGreen_62
  have q43 : gz_OkE M_X0_mostGreen 8 0 0 50 64 _ := ok_lmul q40 q42 dX0_mostGreen_63
  have q44 : gz_OkA M_X0_mostGreen 0 0 0 37 64 5 _ := ok_a1 q34 q43
  have q45 : gz_OkA M_X0_mostGreen 0 0 0 67 67 0 _ := ok_a0
  have q46 : gz_OkE M_X0_mostGreen 0 0 0 67 68 _ := ok_aload_n (i := 0) dX0_mostGreen_67 rfl
  have q47 : gz_OkA M_X0_mostGreen 0 0 0 67 68 1 _ := ok_a1 q45 q46
  have q48 : gz_OkE M_X0_mostGreen 2 0 0 68 70 _ := ok_iload (i := 4) dX0_mostGreen_68
  have q49 : gz_OkA M_X0_mostGreen 0 0 0 67 70 2 _ := ok_a1 q47 q48
  have q50 : gz_OkE M_X0_mostGreen 4 0 0 70 71 _ := ok_aload_n (i := 2) dX0_mostGreen_70 rfl
  have q51 : gz_OkE M_X0_mostGreen 4 0 0 70 74 _ := ok_get q50 cl_2 (k := 2) (by decide) in_2 wd_5 dX0_mostGreen_71
  have q52 : gz_OkA M_X0_mostGreen 0 0 0 67 74 3 _ := ok_a1 q49 q51
  have q53 : gz_OkE M_X0_mostGreen 0 0 0 67 77 _ := ok_cv q52 mt_X0_deals cl_0 wd_440 wd_415 de_X0_deals (by decide) (by decide) wd_441 wd_442 wd_443 dX0_mostGreen_74 (by decide)
  have q54 : gz_OkJ M_X0_mostGreen 0 0 0 67 87 80 _ := ok_if_eq q53 dX0_mostGreen_77 (by decide)
  have q55 : gz_OkE M_X0_mostGreen 0 0 0 87 89 _ := ok_iload (i := 8) dX0_mostGreen_87
  have q56 : gz_OkS M_X0_mostGreen 0 0 91 _ := ok_at
  have q57 : gz_OkS M_X0_mostGreen 0 0 87 _ := ok_seti (k := 6) q55 dX0_mostGreen_89 (by decide) q56
  have q58 : gz_OkE M_X0_mostGreen 0 0 0 80 82 _ := ok_iload (i := 8) dX0_mostGreen_80
  have q59 : gz_OkS M_X0_mostGreen 0 0 84 (gz_sat 91) := ok_goto dX0_mostGreen_84 (by decide)
  have q60 : gz_OkS M_X0_mostGreen 0 0 80 _ := ok_seti (k := 5) q58 dX0_mostGreen_82 (by decide) q59
  have q61 : gz_OkS M_X0_mostGreen 0 0 67 _ := ok_if q54 q57 q60
  have q62 : gz_OkS M_X0_mostGreen 0 0 94 (gz_sat 12) := ok_goto dX0_mostGreen_94 (by decide)
  have q63 : gz_OkS M_X0_mostGreen 0 0 91 _ := ok_inc (v := 1) dX0_mostGreen_91 kc_i1 (by decide) q62
  have q64 : gz_OkS M_X0_mostGreen 0 0 67 _ := ok_seq (L := 91) (k := 8) q61 q63
  have q65 : gz_OkS M_X0_mostGreen 0 0 37 _ := ok_vv q44 mt_X0_askForLoad cl_0 wd_444 wd_415 de_X0_askForLoad (by decide) (by decide) wd_445 wd_446 wd_447 dX0_mostGreen_64 q64
  have q66 : gz_OkS M_X0_mostGreen 0 0 28 _ := ok_seti (k := 8) q20 dX0_mostGreen_35 (by decide) q65
  have q67 : gz_OkS M_X0_mostGreen 0 0 12 _ := ok_if q14 q15 q66
  have q68 : gz_OkS M_X0_mostGreen 0 0 12 lb_X0_mostGreen_12 := q67
  have q69 : gz_OkS M_X0_mostGreen 0 0 12 _ := ok_loop (k := 8) q68 rfl rfl
  have q70 : gz_OkE M_X0_mostGreen 0 0 0 97 99 _ := ok_iload (i := 5) dX0_mostGreen_97
  have q71 : gz_OkS M_X0_mostGreen 0 0 97 _ := ok_ri q70 dX0_mostGreen_99
  have q72 : gz_OkS M_X0_mostGreen 0 0 12 _ := ok_seq (L := 97) (k := 6) q69 q71
  have q73 : gz_OkS M_X0_mostGreen 0 0 9 _ := ok_seti (k := 7) q5 dX0_mostGreen_10 (by decide) q72
  have q74 : gz_OkS M_X0_mostGreen 0 0 3 _ := ok_seti (k := 6) q4 dX0_mostGreen_7 (by decide) q73
  have q75 : gz_OkS M_X0_mostGreen 0 0 0 _ := ok_seti (k := 5) q1 dX0_mostGreen_1 (by decide) q74
  have z : gz_OkS M_X0_mostGreen 0 0 0 sm_X0_mostGreen := q75
  exact gz_met (plainFor_of_name (by decide)) z (by decide) (by decide)
noncomputable def sm_X0_keepIfBetter : gz_Sx := gz_seq 26 0 (gz_if (gz_j1 (fun x => decide (0 ≤ x)) (gz_lc (gz_lb (fun x y => x * y) (gz_ll 1) (gz_get 0 6 5 (gz_la 0))) (gz_lb (fun x y => x * y) (gz_get 0 6 4 (gz_la 0)) (gz_ll 3)))) (gz_sat 26) (gz_put 0 6 4 .long (gz_la 0) (gz_ll 1) (gz_put 0 6 5 .long (gz_la 0) (gz_ll 3) (gz_sat 26)))) (gz_rv)
noncomputable def se_X0_keepIfBetter : gz_Me := gz_sem none 5 sm_X0_keepIfBetter
abbrev rm_X0_keepIfBetter : Room := { frames := 0, cells := 0, slots := 0, locals := 0 }
abbrev M_X0_keepIfBetter : gz_Mi := (cX0_keepIfBetter, 5, RX0, 0, 0, "keepIfBetter", none)
theorem de_X0_keepIfBetter : yX0_keepIfBetter.cls ≠ "java/lang/invoke/MethodHandle" ∧ yX0_keepIfBetter.cls ≠ "java/lang/invoke/VarHandle" ∧ (parseMethodDescriptor yX0_keepIfBetter.desc).map (fun d => d.parameters.length) = some 2 := by decide +kernel
set_option maxRecDepth 100000 in
theorem mt_X0_keepIfBetter : gz_Mt yX0_keepIfBetter cX0_keepIfBetter 5 none rm_X0_keepIfBetter se_X0_keepIfBetter := by
  have q1 : gz_OkE M_X0_keepIfBetter 0 0 0 0 1 _ := ok_lload_n (i := 1) dX0_keepIfBetter_0 rfl
  have q2 : gz_OkE M_X0_keepIfBetter 2 0 0 1 2 _ := ok_aload_n (i := 0) dX0_keepIfBetter_1 rfl
  have q3 : gz_OkE M_X0_keepIfBetter 2 0 0 1 5 _ := ok_get q2 cl_0 (k := 5) (by decide) in_0 wd_10 dX0_keepIfBetter_2
  have q4 : gz_OkE M_X0_keepIfBetter 0 0 0 0 6 _ := ok_lmul q1 q3 dX0_keepIfBetter_5
  have q5 : gz_OkE M_X0_keepIfBetter 2 0 0 6 7 _ := ok_aload_n (i := 0) dX0_keepIfBetter_6 rfl
  have q6 : gz_OkE M_X0_keepIfBetter 2 0 0 6 10 _ := ok_get q5 cl_0 (k := 4) (by decide) in_0 wd_9 dX0_keepIfBetter_7
  have q7 : gz_OkE M_X0_keepIfBetter 4 0 0 10 11 _ := ok_lload_n (i := 3) dX0_keepIfBetter_10 rfl
  have q8 : gz_OkE M_X0_keepIfBetter 2 0 0 6 12 _ := ok_lmul q6 q7 dX0_keepIfBetter_11
  have q9 : gz_OkE M_X0_keepIfBetter 0 0 0 0 13 _ := ok_lcmp q4 q8 dX0_keepIfBetter_12
  have q10 : gz_OkJ M_X0_keepIfBetter 0 0 0 0 26 16 _ := ok_if_ge q9 dX0_keepIfBetter_13 (by decide)
  have q11 : gz_OkS M_X0_keepIfBetter 0 0 26 _ := ok_at
  have q12 : gz_OkE M_X0_keepIfBetter 0 0 0 16 17 _ := ok_aload_n (i := 0) dX0_keepIfBetter_16 rfl
  have q13 : gz_OkE M_X0_keepIfBetter 1 0 0 17 18 _ := ok_lload_n (i := 1) dX0_keepIfBetter_17 rfl
  have q14 : gz_OkE M_X0_keepIfBetter 0 0 0 21 22 _ := ok_aload_n (i := 0) dX0_keepIfBetter_21 rfl
  have q15 : gz_OkE M_X0_keepIfBetter 1 0 0 22 23 _ := ok_lload_n (i := 3) dX0_keepIfBetter_22 rfl
  have q16 : gz_OkS M_X0_keepIfBetter 0 0 26 _ := ok_at
  have q17 : gz_OkS M_X0_keepIfBetter 0 0 21 _ := ok_put (ty := .long) q14 q15 cl_0 (k := 5) (by decide) in_0 wd_10 tyX0 tyX0_ok nmX0 rfl rfl dX0_keepIfBetter_23 q16
  have q18 : gz_OkS M_X0_keepIfBetter 0 0 16 _ := ok_put (ty := .long) q12 q13 cl_0 (k := 4) (by decide) in_0 wd_9 tyX0 tyX0_ok nmX0 rfl rfl dX0_keepIfBetter_18 q17
  have q19 : gz_OkS M_X0_keepIfBetter 0 0 0 _ := ok_if q10 q11 q18
  have q20 : gz_OkS M_X0_keepIfBetter 0 0 26 _ := ok_rv dX0_keepIfBetter_26
  have q21 : gz_OkS M_X0_keepIfBetter 0 0 0 _ := ok_seq (L := 26) (k := 0) q19 q20
  have z : gz_OkS M_X0_keepIfBetter 0 0 0 sm_X0_keepIfBetter := q21
  exact gz_met (plainFor_of_name (by decide)) z (by decide) (by decide)
noncomputable def lb_X0_findFittest_13 : gz_Sx := gz_if (gz_j2 (fun x y => decide (y ≤ x)) (gz_li 4) (gz_get 1 11 5 (gz_la 1))) (gz_sat 85) (gz_seta 5 (gz_ald 103 (gz_get 1 11 0 (gz_la 1)) (gz_li 4)) (gz_seq 79 5 (gz_if (gz_jo (gz_j1 (fun x => decide (x ≤ 0)) (gz_get 3 14 1 (gz_la 5))) (gz_j1 (fun x => decide (x = 0)) (gz_cv 2 9 se_X2_stagesWith (gz_a1 (gz_a1 (gz_a0) (gz_la 2)) (gz_li 4))))) (gz_sat 79) (gz_seti 6 (gz_cv 0 6 se_X0_mostGreen (gz_a1 (gz_a1 (gz_a1 (gz_a1 (gz_a1 (gz_a0) (gz_la 0)) (gz_la 1)) (gz_la 2)) (gz_li 4)) (gz_li 3))) (gz_vv 0 6 se_X0_keepIfBetter (gz_a1 (gz_a1 (gz_a1 (gz_a0) (gz_la 0)) (gz_i2l (gz_get 3 14 1 (gz_la 5)))) (gz_lb (fun x y => x * y) (gz_i2l (gz_get 3 14 2 (gz_la 5))) (gz_i2l (gz_li 6)))) (gz_sat 79)))) (gz_inc 4 (1) (gz_sat 13))))
noncomputable def sm_X0_findFittest : gz_Sx := gz_put 0 6 4 .long (gz_la 0) (gz_l (1)) (gz_put 0 6 5 .long (gz_la 0) (gz_l (0)) (gz_seti 4 (gz_i (0)) (gz_seq 85 4 (gz_loop 13 5 lb_X0_findFittest_13) (gz_vv 0 6 se_X0_askForLoad (gz_a1 (gz_a1 (gz_a1 (gz_a1 (gz_a1 (gz_a0) (gz_la 0)) (gz_la 1)) (gz_la 2)) (gz_get 0 6 4 (gz_la 0))) (gz_get 0 6 5 (gz_la 0))) (gz_pop (gz_cv 0 6 se_X0_deals (gz_a1 (gz_a1 (gz_a1 (gz_a0) (gz_la 0)) (gz_li 3)) (gz_get 2 9 2 (gz_la 2)))) (gz_rv))))))
noncomputable def se_X0_findFittest : gz_Me := gz_sem none 7 sm_X0_findFittest
abbrev rm_X0_findFittest : Room := { frames := 5, cells := 0, slots := 0, locals := 119 }
abbrev M_X0_findFittest : gz_Mi := (cX0_findFittest, 7, RX0, 5, 119, "findFittest", none)
theorem de_X0_findFittest : yX0_findFittest.cls ≠ "java/lang/invoke/MethodHandle" ∧ yX0_findFittest.cls ≠ "java/lang/invoke/VarHandle" ∧ (parseMethodDescriptor yX0_findFittest.desc).map (fun d => d.parameters.length) = some 3 := by decide +kernel
set_option maxRecDepth 100000 in
theorem mt_X0_findFittest : gz_Mt yX0_findFittest cX0_findFittest 7 none rm_X0_findFittest se_X0_findFittest := by
  have q1 : gz_OkE M_X0_findFittest 0 0 0 0 1 _ := ok_aload_n (i := 0) dX0_findFittest_0 rfl
  have q2 : gz_OkE M_X0_findFittest 1 0 0 1 2 _ := ok_lconst (v := 1) dX0_findFittest_1 kc_l1
  have q3 : gz_OkE M_X0_findFittest 0 0 0 5 6 _ := ok_aload_n (i := 0) dX0_findFittest_5 rfl
  have q4 : gz_OkE M_X0_findFittest 1 0 0 6 7 _ := ok_lconst (v := 0) dX0_findFittest_6 kc_l0
  have q5 : gz_OkE M_X0_findFittest 0 0 0 10 11 _ := ok_iconst (v := 0) dX0_findFittest_10 kc_i0
  have q6 : gz_OkE M_X0_findFittest 0 0 0 13 15 _ := ok_iload (i := 4) dX0_findFittest_13
  have q7 : gz_OkE M_X0_findFittest 1 0 0 15 16 _ := ok_aload_n (i := 1) dX0_findFittest_15 rfl
  have q8 : gz_OkE M_X0_findFittest 1 0 0 15 19 _ := ok_get q7 cl_1 (k := 5) (by decide) in_1 wd_6 dX0_findFittest_16
  have q9 : gz_OkJ M_X0_findFittest 0 0 0 13 85 22 _ := ok_ic_ge q6 q8 dX0_findFittest_19 (by decide)
  have q10 : gz_OkS M_X0_findFittest 0 0 85 _ := ok_at
  have q11 : gz_OkE M_X0_findFittest 0 0 0 22 23 _ := ok_aload_n (i := 1) dX0_findFittest_22 rfl
  have q12 : gz_OkE M_X0_findFittest 0 0 0 22 26 _ := ok_get q11 cl_1 (k := 0) (by decide) in_1 wd_7 dX0_findFittest_23
  have q13 : gz_OkE M_X0_findFittest 1 0 0 26 28 _ := ok_iload (i := 4) dX0_findFittest_26
  have q14 : gz_OkE M_X0_findFittest 0 0 0 22 29 _ := ok_aald103 q12 q13 dX0_findFittest_28
  have q15 : gz_OkE M_X0_findFittest 0 0 0 31 33 _ := ok_aload (i := 5) dX0_findFittest_31
  have q16 : gz_OkE M_X0_findFittest 0 0 0 31 36 _ := ok_get q15 cl_3 (k := 1) (by decide) in_3 wd_8 dX0_findFittest_33
  have q17 : gz_OkJ M_X0_findFittest 0 0 0 31 79 39 _ := ok_if_le q16 dX0_findFittest_36 (by decide)
  have q18 : gz_OkA M_X0_findFittest 0 0 0 39 39 0 _ := ok_a0
  have q19 : gz_OkE M_X0_findFittest 0 0 0 39 40 _ := ok_aload_n (i := 2) dX0_findFittest_39 rfl
  have q20 : gz_OkA M_X0_findFittest 0 0 0 39 40 1 _ := ok_a1 q18 q19
  have q21 : gz_OkE M_X0_findFittest 2 0 0 40 42 _ := ok_iload (i := 4) dX0_findFittest_40
  have q22 : gz_OkA M_X0_findFittest 0 0 0 39 42 2 _ := ok_a1 q20 q21
  have q23 : gz_OkE M_X0_findFittest 0 0 0 39 45 _ := ok_cv q22 mt_X2_stagesWith cl_2 wd_405 wd_406 de_X2_stagesWith (by decide) (by decide) wd_407 wd_408 wd_409 dX0_findFittest_42 (by decide)
  have q24 : gz_OkJ M_X0_findFittest 0 0 0 39 79 48 _ := ok_if_eq q23 dX0_findFittest_45 (by decide)
  have q25 : gz_OkJ M_X0_findFittest 0 0 0 31 79 48 _ := ok_jo q17 q24
  have q26 : gz_OkS M_X0_findFittest 0 0 79 _ := ok_at
  have q27 : gz_OkA M_X0_findFittest 0 0 0 48 48 0 _ := ok_a0
  have q28 : gz_OkE M_X0_findFittest 0 0 0 48 49 _ := ok_aload_n (i := 0) dX0_findFittest_48 rfl
  have q29 : gz_OkA M_X0_findFittest 0 0 0 48 49 1 _ := ok_a1 q27 q28
  have q30 : gz_OkE M_X0_findFittest 2 0 0 49 50 _ := ok_aload_n (i := 1) dX0_findFittest_49 rfl
  have q31 : gz_OkA M_X0_findFittest 0 0 0 48 50 2 _ := ok_a1 q29 q30
  have q32 : gz_OkE M_X0_findFittest 4 0 0 50 51 _ := ok_aload_n (i := 2) dX0_findFittest_50 rfl
  have q33 : gz_OkA M_X0_findFittest 0 0 0 48 51 3 _ := ok_a1 q31 q32
  have q34 : gz_OkE M_X0_findFittest 6 0 0 51 53 _ := ok_iload (i := 4) dX0_findFittest_51
  have q35 : gz_OkA M_X0_findFittest 0 0 0 48 53 4 _ := ok_a1 q33 q34
  have q36 : gz_OkE M_X0_findFittest 8 0 0 53 54 _ := ok_iload_n (i := 3) dX0_findFittest_53 rfl
  have q37 : gz_OkA M_X0_findFittest 0 0 0 48 54 5 _ := ok_a1 q35 q36
  have q38 : gz_OkE M_X0_findFittest 0 0 0 48 57 _ := ok_cv q37 mt_X0_mostGreen cl_0 wd_448 wd_415 de_X0_mostGreen (by decide) (by decide) wd_449 wd_450 wd_451 dX0_findFittest_54 (by decide)
  have q39 : gz_OkA M_X0_findFittest 0 0 0 59 59 0 _ := ok_a0
  have q40 : gz_OkE M_X0_findFittest 0 0 0 59 60 _ := ok_aload_n (i := 0) dX0_findFittest_59 rfl
  have q41 : gz_OkA M_X0_findFittest 0 0 0 59 60 1 _ := ok_a1 q39 q40
  have q42 : gz_OkE M_X0_findFittest 2 0 0 60 62 _ := ok_aload (i := 5) dX0_findFittest_60
  have q43 : gz_OkE M_X0_findFittest 2 0 0 60 65 _ := ok_get q42 cl_3 (k := 1) (by decide) in_3 wd_8 dX0_findFittest_62
  have q44 : gz_OkE M_X0_findFittest 2 0 0 60 66 _ := ok_i2l q43 dX0_findFittest_65
  have q45 : gz_OkA M_X0_findFittest 0 0 0 59 66 2 _ := ok_a1 q41 q44
  have q46 : gz_OkE M_X0_findFittest 4 0 0 66 68 _ := ok_aload (i := 5) dX0_findFittest_66
  have q47 : gz_OkE M_X0_findFittest 4 0 0 66 71 _ := ok_get q46 cl_3 (k := 2) (by decide) in_3 wd_11 dX0_findFittest_68
  have q48 : gz_OkE M_X0_findFittest 4 0 0 66 72 _ := ok_i2l q47 dX0_findFittest_71
  have q49 : gz_OkE M_X0_findFittest 6 0 0 72 74 _ := ok_iload (i := 6) dX0_findFittest_72
  have q50 : gz_OkE M_X0_findFittest 6 0 0 72 75 _ := ok_i2l q49 dX0_findFittest_74
  have q51 : gz_OkE M_X0_findFittest 4 0 0 66 76 _ := ok_lmul q48 q50 dX0_findFittest_75
  have q52 : gz_OkA M_X0_findFittest 0 0 0 59 76 3 _ := ok_a1 q45 q51
  have q53 : gz_OkS M_X0_findFittest 0 0 79 _ := ok_at
  have q54 : gz_OkS M_X0_findFittest 0 0 59 _ := ok_vv q52 mt_X0_keepIfBetter cl_0 wd_452 wd_415 de_X0_keepIfBetter (by decide) (by decide) wd_453 wd_454 wd_455 dX0_findFittest_76 q53
  have q55 : gz_OkS M_X0_findFittest 0 0 48 _ := ok_seti (k := 6) q38 dX0_findFittest_57 (by decide) q54
  have q56 : gz_OkS M_X0_findFittest 0 0 31 _ := ok_if q25 q26 q55
  have q57 : gz_OkS M_X0_findFittest 0 0 82 (gz_sat 13) := ok_goto dX0_findFittest_82 (by decide)
  have q58 : gz_OkS M_X0_findFittest 0 0 79 _ := ok_inc (v := 1) dX0_findFittest_79 kc_i1 (by decide) q57
  have q59 : gz_OkS M_X0_findFittest 0 0 31 _ := ok_seq (L := 79) (k := 5) q56 q58
  have q60 : gz_OkS M_X0_findFittest 0 0 22 _ := ok_seta (k := 5) q14 dX0_findFittest_29 (by decide) q59
  have q61 : gz_OkS M_X0_findFittest 0 0 13 _ := ok_if q9 q10 q60
  have q62 : gz_OkS M_X0_findFittest 0 0 13 lb_X0_findFittest_13 := q61
  have q63 : gz_OkS M_X0_findFittest 0 0 13 _ := ok_loop (k := 5) q62 rfl rfl
  have q64 : gz_OkA M_X0_findFittest 0 0 0 85 85 0 _ := ok_a0
  have q65 : gz_OkE M_X0_findFittest 0 0 0 85 86 _ := ok_aload_n (i := 0) dX0_findFittest_85 rfl
  have q66 : gz_OkA M_X0_findFittest 0 0 0 85 86 1 _ := ok_a1 q64 q65
  have q67 : gz_OkE M_X0_findFittest 2 0 0 86 87 _ := ok_aload_n (i := 1) dX0_findFittest_86 rfl
  have q68 : gz_OkA M_X0_findFittest 0 0 0 85 87 2 _ := ok_a1 q66 q67
  have q69 : gz_OkE M_X0_findFittest 4 0 0 87 88 _ := ok_aload_n (i := 2) dX0_findFittest_87 rfl
  have q70 : gz_OkA M_X0_findFittest 0 0 0 85 88 3 _ := ok_a1 q68 q69
  have q71 : gz_OkE M_X0_findFittest 6 0 0 88 89 _ := ok_aload_n (i := 0) dX0_findFittest_88 rfl
  have q72 : gz_OkE M_X0_findFittest 6 0 0 88 92 _ := ok_get q71 cl_0 (k := 4) (by decide) in_0 wd_9 dX0_findFittest_89
  have q73 : gz_OkA M_X0_findFittest 0 0 0 85 92 4 _ := ok_a1 q70 q72
  have q74 : gz_OkE M_X0_findFittest 8 0 0 92 93 _ := ok_aload_n (i := 0) dX0_findFittest_92 rfl
  have q75 : gz_OkE M_X0_findFittest 8 0 0 92 96 _ := ok_get q74 cl_0 (k := 5) (by decide) in_0 wd_10 dX0_findFittest_93
  have q76 : gz_OkA M_X0_findFittest 0 0 0 85 96 5 _ := ok_a1 q73 q75
  have q77 : gz_OkA M_X0_findFittest 0 0 0 99 99 0 _ := ok_a0
  have q78 : gz_OkE M_X0_findFittest 0 0 0 99 100 _ := ok_aload_n (i := 0) dX0_findFittest_99 rfl
  have q79 : gz_OkA M_X0_findFittest 0 0 0 99 100 1 _ := ok_a1 q77 q78
  have q80 : gz_OkE M_X0_findFittest 2 0 0 100 101 _ := ok_iload_n (i := 3) dX0_findFittest_100 rfl
  have q81 : gz_OkA M_X0_findFittest 0 0 0 99 101 2 _ := ok_a1 q79 q80
  have q82 : gz_OkE M_X0_findFittest 4 0 0 101 102 _ := ok_aload_n (i := 2) dX0_findFittest_101 rfl
  have q83 : gz_OkE M_X0_findFittest 4 0 0 101 105 _ := ok_get q82 cl_2 (k := 2) (by decide) in_2 wd_5 dX0_findFittest_102
  have q84 : gz_OkA M_X0_findFittest 0 0 0 99 105 3 _ := ok_a1 q81 q83
  have q85 : gz_OkE M_X0_findFittest 0 0 0 99 108 _ := ok_cv q84 mt_X0_deals cl_0 wd_440 wd_415 de_X0_deals (by decide) (by decide) wd_441 wd_442 wd_443 dX0_findFittest_105 (by decide)
  have q86 : gz_OkS M_X0_findFittest 0 0 109 _ := ok_rv dX0_findFittest_109
  have q87 : gz_OkS M_X0_findFittest 0 0 99 _ := ok_pop q85 dX0_findFittest_108 q86
  have q88 : gz_OkS M_X0_findFittest 0 0 85 _ := ok_vv q76 mt_X0_askForLoad cl_0 wd_444 wd_415 de_X0_askForLoad (by decide) (by decide) wd_445 wd_446 wd_447 dX0_findFittest_96 q87
  have q89 : gz_OkS M_X0_findFittest 0 0 13 _ := ok_seq (L := 85) (k := 4) q63 q88
  have q90 : gz_OkS M_X0_findFittest 0 0 10 _ := ok_seti (k := 4) q5 dX0_findFittest_11 (by decide) q89
  have q91 : gz_OkS M_X0_findFittest 0 0 5 _ := ok_put (ty := .long) q3 q4 cl_0 (k := 5) (by decide) in_0 wd_10 tyX0 tyX0_ok nmX0 rfl rfl dX0_findFittest_7 q90
  have q92 : gz_OkS M_X0_findFittest 0 0 0 _ := ok_put (ty := .long) q1 q2 cl_0 (k := 4) (by decide) in_0 wd_9 tyX0 tyX0_ok nmX0 rfl rfl dX0_findFittest_2 q91
  have z : gz_OkS M_X0_findFittest 0 0 0 sm_X0_findFittest := q92
  exact gz_met (plainFor_of_name (by decide)) z (by decide) (by decide)
noncomputable def sm_X1_init : gz_Sx := gz_sup (gz_la 0) (gz_put 1 11 0 (.array (.object "GreenDesk$Stream")) (gz_la 0) (gz_nar 103 .null (gz_i (8)) 8) (gz_put 1 11 1 (.array .int) (gz_la 0) (gz_nar 100 (.int 0) (gz_i (64)) 64) (gz_put 1 11 2 (.array .int) (gz_la 0) (gz_nar 100 (.int 0) (gz_i (8)) 8) (gz_put 1 11 3 (.array .int) (gz_la 0) (gz_nar 100 (.int 0) (gz_i (8)) 8) (gz_put 1 11 4 (.array .int) (gz_la 0) (gz_nar 100 (.int 0) (gz_i (200)) 200) (gz_rv))))))
noncomputable def se_X1_init : gz_Me := gz_sem none 1 sm_X1_init
abbrev rm_X1_init : Room := { frames := 1, cells := 5, slots := 288, locals := 12 }
abbrev M_X1_init : gz_Mi := (cX1_init, 1, RX1, 1, 12, "<init>", none)
theorem de_X1_init : yX1_init.cls ≠ "java/lang/invoke/MethodHandle" ∧ yX1_init.cls ≠ "java/lang/invoke/VarHandle" ∧ (parseMethodDescriptor yX1_init.desc).map (fun d => d.parameters.length) = some 0 := by decide +kernel
set_option maxRecDepth 100000 in
theorem mt_X1_init : gz_Mt yX1_init cX1_init 1 none rm_X1_init se_X1_init := by
  have q1 : gz_OkE M_X1_init 0 0 0 0 1 _ := ok_aload_n (i := 0) dX1_init_0 rfl
  have q2 : gz_OkE M_X1_init 0 0 0 4 5 _ := ok_aload_n (i := 0) dX1_init_4 rfl
  have q3 : gz_OkE M_X1_init 1 0 0 5 7 _ := ok_bipush (v := 8) dX1_init_5 kc_b8
  have q4 : gz_OkE M_X1_init 1 1 8 5 10 _ := ok_anew103 (n := 8) q3 wd_14 (by decide) dX1_init_7
  have q5 : gz_OkE M_X1_init 0 0 0 13 14 _ := ok_aload_n (i := 0) dX1_init_13 rfl
  have q6 : gz_OkE M_X1_init 1 0 0 14 16 _ := ok_bipush (v := 64) dX1_init_14 kc_b64
  have q7 : gz_OkE M_X1_init 1 1 64 14 18 _ := ok_newI (n := 64) q6 wd_0 (by decide) dX1_init_16
  have q8 : gz_OkE M_X1_init 0 0 0 21 22 _ := ok_aload_n (i := 0) dX1_init_21 rfl
  have q9 : gz_OkE M_X1_init 1 0 0 22 24 _ := ok_bipush (v := 8) dX1_init_22 kc_b8
  have q10 : gz_OkE M_X1_init 1 1 8 22 26 _ := ok_newI (n := 8) q9 wd_0 (by decide) dX1_init_24
  have q11 : gz_OkE M_X1_init 0 0 0 29 30 _ := ok_aload_n (i := 0) dX1_init_29 rfl
  have q12 : gz_OkE M_X1_init 1 0 0 30 32 _ := ok_bipush (v := 8) dX1_init_30 kc_b8
  have q13 : gz_OkE M_X1_init 1 1 8 30 34 _ := ok_newI (n := 8) q12 wd_0 (by decide) dX1_init_32
  have q14 : gz_OkE M_X1_init 0 0 0 37 38 _ := ok_aload_n (i := 0) dX1_init_37 rfl
  have q15 : gz_OkE M_X1_init 1 0 0 38 41 _ := ok_sipush (v := 200) dX1_init_38 kc_s200
  have q16 : gz_OkE M_X1_init 1 1 200 38 43 _ := ok_newI (n := 200) q15 wd_0 (by decide) dX1_init_41
  have q17 : gz_OkS M_X1_init 0 0 46 _ := ok_rv dX1_init_46
  have q18 : gz_OkS M_X1_init 1 200 37 _ := ok_putF (ty := (.array .int)) q14 q16 cl_1 (k := 4) (by decide) in_1 wd_19 tyX1 tyX1_ok nmX1 rfl rfl rfl rfl dX1_init_43 q17
  have q19 : gz_OkS M_X1_init 2 208 29 _ := ok_putF (ty := (.array .int)) q11 q13 cl_1 (k := 3) (by decide) in_1 wd_18 tyX1 tyX1_ok nmX1 rfl rfl rfl rfl dX1_init_34 q18
  have q20 : gz_OkS M_X1_init 3 216 21 _ := ok_putF (ty := (.array .int)) q8 q10 cl_1 (k := 2) (by decide) in_1 wd_17 tyX1 tyX1_ok nmX1 rfl rfl rfl rfl dX1_init_26 q19
  have q21 : gz_OkS M_X1_init 4 280 13 _ := ok_putF (ty := (.array .int)) q5 q7 cl_1 (k := 1) (by decide) in_1 wd_16 tyX1 tyX1_ok nmX1 rfl rfl rfl rfl dX1_init_18 q20
  have q22 : gz_OkS M_X1_init 5 288 4 _ := ok_putF (ty := (.array (.object "GreenDesk$Stream"))) q2 q4 cl_1 (k := 0) (by decide) in_1 wd_15 tyX1 tyX1_ok nmX1 rfl rfl rfl rfl dX1_init_10 q21
  have q23 : gz_OkS M_X1_init 5 288 0 _ := ok_sup q1 wd_456 wd_403 wd_404 (by decide) (by decide) dX1_init_1 q22
  have z : gz_OkS M_X1_init 5 288 0 sm_X1_init := q23
  exact gz_met (plainFor_of_name (by decide)) z (by decide) (by decide)
noncomputable def sm_X1_add : gz_Sx := gz_ast 103 (gz_get 1 11 0 (gz_la 0)) (gz_get 1 11 5 (gz_la 0)) (gz_la 1) (gz_put 1 11 5 .int (gz_la 0) (gz_ib (fun x y => x + y) (gz_get 1 11 5 (gz_dup)) (gz_i (1))) (gz_ri (gz_ib (fun x y => x - y) (gz_get 1 11 5 (gz_la 0)) (gz_i (1)))))
noncomputable def se_X1_add : gz_Me := gz_sem (some .int) 2 sm_X1_add
abbrev rm_X1_add : Room := { frames := 0, cells := 0, slots := 0, locals := 0 }
abbrev M_X1_add : gz_Mi := (cX1_add, 2, RX1, 0, 0, "add", none)
theorem de_X1_add : yX1_add.cls ≠ "java/lang/invoke/MethodHandle" ∧ yX1_add.cls ≠ "java/lang/invoke/VarHandle" ∧ (parseMethodDescriptor yX1_add.desc).map (fun d => d.parameters.length) = some 1 := by decide +kernel
set_option maxRecDepth 100000 in
theorem mt_X1_add : gz_Mt yX1_add cX1_add 2 (some .int) rm_X1_add se_X1_add := by
  have q1 : gz_OkE M_X1_add 0 0 0 0 1 _ := ok_aload_n (i := 0) dX1_add_0 rfl
  have q2 : gz_OkE M_X1_add 0 0 0 0 4 _ := ok_get q1 cl_1 (k := 0) (by decide) in_1 wd_15 dX1_add_1
  have q3 : gz_OkE M_X1_add 1 0 0 4 5 _ := ok_aload_n (i := 0) dX1_add_4 rfl
  have q4 : gz_OkE M_X1_add 1 0 0 4 8 _ := ok_get q3 cl_1 (k := 5) (by decide) in_1 wd_20 dX1_add_5
  have q5 : gz_OkE M_X1_add 2 0 0 8 9 _ := ok_aload_n (i := 1) dX1_add_8 rfl
  have q6 : gz_OkE M_X1_add 0 0 0 10 11 _ := ok_aload_n (i := 0) dX1_add_10 rfl
  have q7 : gz_OkE M_X1_add 1 0 0 11 12 _ := ok_dup dX1_add_11
  have q8 : gz_OkE M_X1_add 1 0 0 11 15 _ := ok_get q7 cl_1 (k := 5) (by decide) in_1 wd_20 dX1_add_12
  have q9 : gz_OkE M_X1_add 2 0 0 15 16 _ := ok_iconst (v := 1) dX1_add_15 kc_i1
  have q10 : gz_OkE M_X1_add 1 0 0 11 17 _ := ok_iadd q8 q9 dX1_add_16
  have q11 : gz_OkE M_X1_add 0 0 0 20 21 _ := ok_aload_n (i := 0) dX1_add_20 rfl
  have q12 : gz_OkE M_X1_add 0 0 0 20 24 _ := ok_get q11 cl_1 (k := 5) (by decide) in_1 wd_20 dX1_add_21
  have q13 : gz_OkE M_X1_add 1 0 0 24 25 _ := ok_iconst (v := 1) dX1_add_24 kc_i1
  have q14 : gz_OkE M_X1_add 0 0 0 20 26 _ := ok_isub q12 q13 dX1_add_25
  have q15 : gz_OkS M_X1_add 0 0 20 _ := ok_ri q14 dX1_add_26
  have q16 : gz_OkS M_X1_add 0 0 10 _ := ok_put (ty := .int) q6 q10 cl_1 (k := 5) (by decide) in_1 wd_20 tyX1 tyX1_ok nmX1 rfl rfl dX1_add_17 q15
  have q17 : gz_OkS M_X1_add 0 0 0 _ := ok_aast103 q2 q4 q5 dX1_add_9 q16
  have z : gz_OkS M_X1_add 0 0 0 sm_X1_add := q17
  exact gz_met (plainFor_of_name (by decide)) z (by decide) (by decide)
noncomputable def sm_X1_member : gz_Sx := gz_ra (gz_te (gz_ja (gz_j1 (fun x => decide (x < 0)) (gz_li 1)) (gz_j2 (fun x y => decide (x < y)) (gz_li 1) (gz_get 1 11 5 (gz_la 0)))) (gz_ald 103 (gz_get 1 11 0 (gz_la 0)) (gz_li 1)) (gz_nu))
noncomputable def se_X1_member : gz_Me := gz_sem (some (.object "GreenDesk$Stream")) 2 sm_X1_member
abbrev rm_X1_member : Room := { frames := 0, cells := 0, slots := 0, locals := 0 }
abbrev M_X1_member : gz_Mi := (cX1_member, 2, RX1, 0, 0, "member", none)
theorem de_X1_member : yX1_member.cls ≠ "java/lang/invoke/MethodHandle" ∧ yX1_member.cls ≠ "java/lang/invoke/VarHandle" ∧ (parseMethodDescriptor yX1_member.desc).map (fun d => d.parameters.length) = some 1 := by decide +kernel
set_option maxRecDepth 100000 in
theorem mt_X1_member : gz_Mt yX1_member cX1_member 2 (some (.object "GreenDesk$Stream")) rm_X1_member se_X1_member := by
  have q1 : gz_OkE M_X1_member 0 0 0 0 1 _ := ok_iload_n (i := 1) dX1_member_0 rfl
  have q2 : gz_OkJ M_X1_member 0 0 0 0 12 4 _ := ok_if_lt q1 dX1_member_1 (by decide)
  have q3 : gz_OkE M_X1_member 0 0 0 4 5 _ := ok_iload_n (i := 1) dX1_member_4 rfl
  have q4 : gz_OkE M_X1_member 1 0 0 5 6 _ := ok_aload_n (i := 0) dX1_member_5 rfl
  have q5 : gz_OkE M_X1_member 1 0 0 5 9 _ := ok_get q4 cl_1 (k := 5) (by decide) in_1 wd_20 dX1_member_6
  have q6 : gz_OkJ M_X1_member 0 0 0 4 16 12 _ := ok_ic_lt q3 q5 dX1_member_9 (by decide)
  have q7 : gz_OkJ M_X1_member 0 0 0 0 16 12 _ := ok_ja q2 q6
  have q8 : gz_OkE M_X1_member 0 0 0 12 13 _ := ok_null dX1_member_12
  have q9 : gz_OkE M_X1_member 0 0 0 12 22 _ := ok_eg q8 dX1_member_13 (by decide)
  have q10 : gz_OkE M_X1_member 0 0 0 16 17 _ := ok_aload_n (i := 0) dX1_member_16 rfl
  have q11 : gz_OkE M_X1_member 0 0 0 16 20 _ := ok_get q10 cl_1 (k := 0) (by decide) in_1 wd_15 dX1_member_17
  have q12 : gz_OkE M_X1_member 1 0 0 20 21 _ := ok_iload_n (i := 1) dX1_member_20 rfl
  have q13 : gz_OkE M_X1_member 0 0 0 16 22 _ := ok_aald103 q11 q12 dX1_member_21
  have q14 : gz_OkE M_X1_member 0 0 0 0 22 _ := ok_te2 q7 q9 q13
  have q15 : gz_OkS M_X1_member 0 0 0 _ := ok_ra q14 dX1_member_22
  have z : gz_OkS M_X1_member 0 0 0 sm_X1_member := q15
  exact gz_met (plainFor_of_name (by decide)) z (by decide) (by decide)
noncomputable def sm_X1_hasPlan : gz_Sx := gz_ri (gz_te (gz_ja (gz_jk (gz_get 1 11 6 (gz_la 0))) (gz_jn (gz_get 1 11 7 (gz_la 0)))) (gz_i (0)) (gz_i (1)))
noncomputable def se_X1_hasPlan : gz_Me := gz_sem (some .boolean) 1 sm_X1_hasPlan
abbrev rm_X1_hasPlan : Room := { frames := 0, cells := 0, slots := 0, locals := 0 }
abbrev M_X1_hasPlan : gz_Mi := (cX1_hasPlan, 1, RX1, 0, 0, "hasPlan", none)
theorem de_X1_hasPlan : yX1_hasPlan.cls ≠ "java/lang/invoke/MethodHandle" ∧ yX1_hasPlan.cls ≠ "java/lang/invoke/VarHandle" ∧ (parseMethodDescriptor yX1_hasPlan.desc).map (fun d => d.parameters.length) = some 0 := by decide +kernel
set_option maxRecDepth 100000 in
theorem mt_X1_hasPlan : gz_Mt yX1_hasPlan cX1_hasPlan 1 (some .boolean) rm_X1_hasPlan se_X1_hasPlan := by
  have q1 : gz_OkE M_X1_hasPlan 0 0 0 0 1 _ := ok_aload_n (i := 0) dX1_hasPlan_0 rfl
  have q2 : gz_OkE M_X1_hasPlan 0 0 0 0 4 _ := ok_get q1 cl_1 (k := 6) (by decide) in_1 wd_21 dX1_hasPlan_1
  have q3 : gz_OkJ M_X1_hasPlan 0 0 0 0 14 7 _ := ok_jk q2 dX1_hasPlan_4 (by decide)
  have q4 : gz_OkE M_X1_hasPlan 0 0 0 7 8 _ := ok_aload_n (i := 0) dX1_hasPlan_7 rfl
  have q5 : gz_OkE M_X1_hasPlan 0 0 0 7 11 _ := ok_get q4 cl_1 (k := 7) (by decide) in_1 wd_22 dX1_hasPlan_8
  have q6 : gz_OkJ M_X1_hasPlan 0 0 0 7 18 14 _ := ok_jn q5 dX1_hasPlan_11 (by decide)
  have q7 : gz_OkJ M_X1_hasPlan 0 0 0 0 18 14 _ := ok_ja q3 q6
  have q8 : gz_OkE M_X1_hasPlan 0 0 0 14 15 _ := ok_iconst (v := 1) dX1_hasPlan_14 kc_i1
  have q9 : gz_OkE M_X1_hasPlan 0 0 0 14 19 _ := ok_eg q8 dX1_hasPlan_15 (by decide)
  have q10 : gz_OkE M_X1_hasPlan 0 0 0 18 19 _ := ok_iconst (v := 0) dX1_hasPlan_18 kc_i0
  have q11 : gz_OkE M_X1_hasPlan 0 0 0 0 19 _ := ok_te2 q7 q9 q10
  have q12 : gz_OkS M_X1_hasPlan 0 0 0 _ := ok_ri q11 dX1_hasPlan_19
  have z : gz_OkS M_X1_hasPlan 0 0 0 sm_X1_hasPlan := q12
  exact gz_met (plainFor_of_name (by decide)) z (by decide) (by decide)
noncomputable def sm_X1_oppose : gz_Sx := gz_ast 100 (gz_get 1 11 1 (gz_la 0)) (gz_ib (fun x y => x + y) (gz_ib (fun x y => x * y) (gz_li 1) (gz_i (8))) (gz_li 2)) (gz_li 3) (gz_ast 100 (gz_get 1 11 1 (gz_la 0)) (gz_ib (fun x y => x + y) (gz_ib (fun x y => x * y) (gz_li 2) (gz_i (8))) (gz_li 1)) (gz_li 4) (gz_seq 75 0 (gz_if (gz_jo (gz_j1 (fun x => decide (¬ x = 0)) (gz_ib (fun x y => x &&& y) (gz_ib (fun x y => x >>> (y &&& 31)) (gz_ald 100 (gz_get 1 11 2 (gz_la 0)) (gz_li 1)) (gz_li 2)) (gz_i (1)))) (gz_j1 (fun x => decide (¬ x = 0)) (gz_ib (fun x y => x &&& y) (gz_ib (fun x y => x >>> (y &&& 31)) (gz_ald 100 (gz_get 1 11 2 (gz_la 0)) (gz_li 2)) (gz_li 1)) (gz_i (1))))) (gz_sat 75) (gz_ast 100 (gz_get 1 11 3 (gz_la 0)) (gz_li 1) (gz_ib (fun x y => x ||| y) (gz_d2 100) (gz_ib (fun x y => x <<< (y &&& 31)) (gz_i (1)) (gz_li 2))) (gz_ast 100 (gz_get 1 11 3 (gz_la 0)) (gz_li 2) (gz_ib (fun x y => x ||| y) (gz_d2 100) (gz_ib (fun x y => x <<< (y &&& 31)) (gz_i (1)) (gz_li 1))) (gz_sat 75)))) (gz_rv)))
noncomputable def se_X1_oppose : gz_Me := gz_sem none 5 sm_X1_oppose
abbrev rm_X1_oppose : Room := { frames := 0, cells := 0, slots := 0, locals := 0 }
abbrev M_X1_oppose : gz_Mi := (cX1_oppose, 5, RX1, 0, 0, "oppose", none)
theorem de_X1_oppose : yX1_oppose.cls ≠ "java/lang/invoke/MethodHandle" ∧ yX1_oppose.cls ≠ "java/lang/invoke/VarHandle" ∧ (parseMethodDescriptor yX1_oppose.desc).map (fun d => d.parameters.length) = some 4 := by decide +kernel
set_option maxRecDepth 100000 in
theorem mt_X1_oppose : gz_Mt yX1_oppose cX1_oppose 5 none rm_X1_oppose se_X1_oppose := by
  have q1 : gz_OkE M_X1_oppose 0 0 0 0 1 _ := ok_aload_n (i := 0) dX1_oppose_0 rfl
  have q2 : gz_OkE M_X1_oppose 0 0 0 0 4 _ := ok_get q1 cl_1 (k := 1) (by decide) in_1 wd_16 dX1_oppose_1
  have q3 : gz_OkE M_X1_oppose 1 0 0 4 5 _ := ok_iload_n (i := 1) dX1_oppose_4 rfl
  have q4 : gz_OkE M_X1_oppose 2 0 0 5 7 _ := ok_bipush (v := 8) dX1_oppose_5 kc_b8
  have q5 : gz_OkE M_X1_oppose 1 0 0 4 8 _ := ok_imul q3 q4 dX1_oppose_7
  have q6 : gz_OkE M_X1_oppose 2 0 0 8 9 _ := ok_iload_n (i := 2) dX1_oppose_8 rfl
  have q7 : gz_OkE M_X1_oppose 1 0 0 4 10 _ := ok_iadd q5 q6 dX1_oppose_9
  have q8 : gz_OkE M_X1_oppose 2 0 0 10 11 _ := ok_iload_n (i := 3) dX1_oppose_10 rfl
  have q9 : gz_OkE M_X1_oppose 0 0 0 12 13 _ := ok_aload_n (i := 0) dX1_oppose_12 rfl
  have q10 : gz_OkE M_X1_oppose 0 0 0 12 16 _ := ok_get q9 cl_1 (k := 1) (by decide) in_1 wd_16 dX1_oppose_13
  have q11 : gz_OkE M_X1_oppose 1 0 0 16 17 _ := ok_iload_n (i := 2) dX1_oppose_16 rfl
  have q12 : gz_OkE M_X1_oppose 2 0 0 17 19 _ := ok_bipush (v := 8) dX1_oppose_17 kc_b8
  have q13 : gz_OkE M_X1_oppose 1 0 0 16 20 _ := ok_imul q11 q12 dX1_oppose_19
  have q14 : gz_OkE M_X1_oppose 2 0 0 20 21 _ := ok_iload_n (i := 1) dX1_oppose_20 rfl
  have q15 : gz_OkE M_X1_oppose 1 0 0 16 22 _ := ok_iadd q13 q14 dX1_oppose_21
  have q16 : gz_OkE M_X1_oppose 2 0 0 22 24 _ := ok_iload (i := 4) dX1_oppose_22
  have q17 : gz_OkE M_X1_oppose 0 0 0 25 26 _ := ok_aload_n (i := 0) dX1_oppose_25 rfl
  have q18 : gz_OkE M_X1_oppose 0 0 0 25 29 _ := ok_get q17 cl_1 (k := 2) (by decide) in_1 wd_17 dX1_oppose_26
  have q19 : gz_OkE M_X1_oppose 1 0 0 29 30 _ := ok_iload_n (i := 1) dX1_oppose_29 rfl
  have q20 : gz_OkE M_X1_oppose 0 0 0 25 31 _ := ok_iald q18 q19 dX1_oppose_30
  have q21 : gz_OkE M_X1_oppose 1 0 0 31 32 _ := ok_iload_n (i := 2) dX1_oppose_31 rfl
  have q22 : gz_OkE M_X1_oppose 0 0 0 25 33 _ := ok_ishr q20 q21 dX1_oppose_32
  have q23 : gz_OkE M_X1_oppose 1 0 0 33 34 _ := ok_iconst (v := 1) dX1_oppose_33 kc_i1
  have q24 : gz_OkE M_X1_oppose 0 0 0 25 35 _ := ok_iand q22 q23 dX1_oppose_34
  have q25 : gz_OkJ M_X1_oppose 0 0 0 25 75 38 _ := ok_if_ne q24 dX1_oppose_35 (by decide)
  have q26 : gz_OkE M_X1_oppose 0 0 0 38 39 _ := ok_aload_n (i := 0) dX1_oppose_38 rfl
  have q27 : gz_OkE M_X1_oppose 0 0 0 38 42 _ := ok_get q26 cl_1 (k := 2) (by decide) in_1 wd_17 dX1_oppose_39
  have q28 : gz_OkE M_X1_oppose 1 0 0 42 43 _ := ok_iload_n (i := 2) dX1_oppose_42 rfl
  have q29 : gz_OkE M_X1_oppose 0 0 0 38 44 _ := ok_iald q27 q28 dX1_oppose_43
  have q30 : gz_OkE M_X1_oppose 1 0 0 44 45 _ := ok_iload_n (i := 1) dX1_oppose_44 rfl
  have q31 : gz_OkE M_X1_oppose 0 0 0 38 46 _ := ok_ishr q29 q30 dX1_oppose_45
  have q32 : gz_OkE M_X1_oppose 1 0 0 46 47 _ := ok_iconst (v := 1) dX1_oppose_46 kc_i1
  have q33 : gz_OkE M_X1_oppose 0 0 0 38 48 _ := ok_iand q31 q32 dX1_oppose_47
  have q34 : gz_OkJ M_X1_oppose 0 0 0 38 75 51 _ := ok_if_ne q33 dX1_oppose_48 (by decide)
  have q35 : gz_OkJ M_X1_oppose 0 0 0 25 75 51 _ := ok_jo q25 q34
  have q36 : gz_OkS M_X1_oppose 0 0 75 _ := ok_at
  have q37 : gz_OkE M_X1_oppose 0 0 0 51 52 _ := ok_aload_n (i := 0) dX1_oppose_51 rfl
  have q38 : gz_OkE M_X1_oppose 0 0 0 51 55 _ := ok_get q37 cl_1 (k := 3) (by decide) in_1 wd_18 dX1_oppose_52
  have q39 : gz_OkE M_X1_oppose 1 0 0 55 56 _ := ok_iload_n (i := 1) dX1_oppose_55 rfl
  have q40 : gz_OkE M_X1_oppose 2 0 0 56 58 _ := ok_d2iald dX1_oppose_56 dX1_oppose_57
  have q41 : gz_OkE M_X1_oppose 3 0 0 58 59 _ := ok_iconst (v := 1) dX1_oppose_58 kc_i1
  have q42 : gz_OkE M_X1_oppose 4 0 0 59 60 _ := ok_iload_n (i := 2) dX1_oppose_59 rfl
  have q43 : gz_OkE M_X1_oppose 3 0 0 58 61 _ := ok_ishl q41 q42 dX1_oppose_60
  have q44 : gz_OkE M_X1_oppose 2 0 0 56 62 _ := ok_ior q40 q43 dX1_oppose_61
  have q45 : gz_OkE M_X1_oppose 0 0 0 63 64 _ := ok_aload_n (i := 0) dX1_oppose_63 rfl
  have q46 : gz_OkE M_X1_oppose 0 0 0 63 67 _ := ok_get q45 cl_1 (k := 3) (by decide) in_1 wd_18 dX1_oppose_64
  have q47 : gz_OkE M_X1_oppose 1 0 0 67 68 _ := ok_iload_n (i := 2) dX1_oppose_67 rfl
  have q48 : gz_OkE M_X1_oppose 2 0 0 68 70 _ := ok_d2iald dX1_oppose_68 dX1_oppose_69
  have q49 : gz_OkE M_X1_oppose 3 0 0 70 71 _ := ok_iconst (v := 1) dX1_oppose_70 kc_i1
  have q50 : gz_OkE M_X1_oppose 4 0 0 71 72 _ := ok_iload_n (i := 1) dX1_oppose_71 rfl
  have q51 : gz_OkE M_X1_oppose 3 0 0 70 73 _ := ok_ishl q49 q50 dX1_oppose_72
  have q52 : gz_OkE M_X1_oppose 2 0 0 68 74 _ := ok_ior q48 q51 dX1_oppose_73
  have q53 : gz_OkS M_X1_oppose 0 0 75 _ := ok_at
  have q54 : gz_OkS M_X1_oppose 0 0 63 _ := ok_iast q46 q47 q52 dX1_oppose_74 q53
  have q55 : gz_OkS M_X1_oppose 0 0 51 _ := ok_iast q38 q39 q44 dX1_oppose_62 q54
  have q56 : gz_OkS M_X1_oppose 0 0 25 _ := ok_if q35 q36 q55
  have q57 : gz_OkS M_X1_oppose 0 0 75 _ := ok_rv dX1_oppose_75
  have q58 : gz_OkS M_X1_oppose 0 0 25 _ := ok_seq (L := 75) (k := 0) q56 q57
  have q59 : gz_OkS M_X1_oppose 0 0 12 _ := ok_iast q10 q15 q16 dX1_oppose_24 q58
  have q60 : gz_OkS M_X1_oppose 0 0 0 _ := ok_iast q2 q7 q8 dX1_oppose_11 q59
  have z : gz_OkS M_X1_oppose 0 0 0 sm_X1_oppose := q60
  exact gz_met (plainFor_of_name (by decide)) z (by decide) (by decide)
noncomputable def sm_X1_mayYield : gz_Sx := gz_seta 3 (gz_cv 1 11 se_X1_member (gz_a1 (gz_a1 (gz_a0) (gz_la 0)) (gz_li 1))) (gz_seta 4 (gz_cv 1 11 se_X1_member (gz_a1 (gz_a1 (gz_a0) (gz_la 0)) (gz_li 2))) (gz_ri (gz_te (gz_jo (gz_jn (gz_la 3)) (gz_jo (gz_jn (gz_la 4)) (gz_jo (gz_j2 (fun x y => decide (¬ x = y)) (gz_get 3 14 0 (gz_la 3)) (gz_i (1))) (gz_jo (gz_j2 (fun x y => decide (x = y)) (gz_get 3 14 0 (gz_la 4)) (gz_i (1))) (gz_jo (gz_j1 (fun x => decide (x = 0)) (gz_ald 100 (gz_get 1 11 1 (gz_la 0)) (gz_ib (fun x y => x + y) (gz_ib (fun x y => x * y) (gz_li 1) (gz_i (8))) (gz_li 2)))) (gz_j1 (fun x => decide (¬ x = 0)) (gz_ib (fun x y => x &&& y) (gz_ib (fun x y => x >>> (y &&& 31)) (gz_ald 100 (gz_get 1 11 2 (gz_la 0)) (gz_li 1)) (gz_li 2)) (gz_i (1))))))))) (gz_i (0)) (gz_i (1)))))
noncomputable def se_X1_mayYield : gz_Me := gz_sem (some .boolean) 5 sm_X1_mayYield
abbrev rm_X1_mayYield : Room := { frames := 1, cells := 0, slots := 0, locals := 21 }
abbrev M_X1_mayYield : gz_Mi := (cX1_mayYield, 5, RX1, 1, 21, "mayYield", none)
theorem de_X1_mayYield : yX1_mayYield.cls ≠ "java/lang/invoke/MethodHandle" ∧ yX1_mayYield.cls ≠ "java/lang/invoke/VarHandle" ∧ (parseMethodDescriptor yX1_mayYield.desc).map (fun d => d.parameters.length) = some 2 := by decide +kernel
set_option maxRecDepth 100000 in
theorem mt_X1_mayYield : gz_Mt yX1_mayYield cX1_mayYield 5 (some .boolean) rm_X1_mayYield se_X1_mayYield := by
  have q1 : gz_OkA M_X1_mayYield 0 0 0 0 0 0 _ := ok_a0
  have q2 : gz_OkE M_X1_mayYield 0 0 0 0 1 _ := ok_aload_n (i := 0) dX1_mayYield_0 rfl
  have q3 : gz_OkA M_X1_mayYield 0 0 0 0 1 1 _ := ok_a1 q1 q2
  have q4 : gz_OkE M_X1_mayYield 2 0 0 1 2 _ := ok_iload_n (i := 1) dX1_mayYield_1 rfl
  have q5 : gz_OkA M_X1_mayYield 0 0 0 0 2 2 _ := ok_a1 q3 q4
  have q6 : gz_OkE M_X1_mayYield 0 0 0 0 5 _ := ok_cv q5 mt_X1_member cl_1 wd_457 wd_458 de_X1_member (by decide) (by decide) wd_459 wd_460 wd_461 dX1_mayYield_2 (by decide)
  have q7 : gz_OkA M_X1_mayYield 0 0 0 6 6 0 _ := ok_a0
  have q8 : gz_OkE M_X1_mayYield 0 0 0 6 7 _ := ok_aload_n (i := 0) dX1_mayYield_6 rfl
  have q9 : gz_OkA M_X1_mayYield 0 0 0 6 7 1 _ := ok_a1 q7 q8
  have q10 : gz_OkE M_X1_mayYield 2 0 0 7 8 _ := ok_iload_n (i := 2) dX1_mayYield_7 rfl
  have q11 : gz_OkA M_X1_mayYield 0 0 0 6 8 2 _ := ok_a1 q9 q10
  have q12 : gz_OkE M_X1_mayYield 0 0 0 6 11 _ := ok_cv q11 mt_X1_member cl_1 wd_457 wd_458 de_X1_member (by decide) (by decide) wd_459 wd_460 wd_461 dX1_mayYield_8 (by decide)
  have q13 : gz_OkE M_X1_mayYield 0 0 0 13 14 _ := ok_aload_n (i := 3) dX1_mayYield_13 rfl
  have q14 : gz_OkJ M_X1_mayYield 0 0 0 13 70 17 _ := ok_jn q13 dX1_mayYield_14 (by decide)
  have q15 : gz_OkE M_X1_mayYield 0 0 0 17 19 _ := ok_aload (i := 4) dX1_mayYield_17
  have q16 : gz_OkJ M_X1_mayYield 0 0 0 17 70 22 _ := ok_jn q15 dX1_mayYield_19 (by decide)
  have q17 : gz_OkE M_X1_mayYield 0 0 0 22 23 _ := ok_aload_n (i := 3) dX1_mayYield_22 rfl
  have q18 : gz_OkE M_X1_mayYield 0 0 0 22 26 _ := ok_get q17 cl_3 (k := 0) (by decide) in_3 wd_23 dX1_mayYield_23
  have q19 : gz_OkE M_X1_mayYield 1 0 0 26 27 _ := ok_iconst (v := 1) dX1_mayYield_26 kc_i1
  have q20 : gz_OkJ M_X1_mayYield 0 0 0 22 70 30 _ := ok_ic_ne q18 q19 dX1_mayYield_27 (by decide)
  have q21 : gz_OkE M_X1_mayYield 0 0 0 30 32 _ := ok_aload (i := 4) dX1_mayYield_30
  have q22 : gz_OkE M_X1_mayYield 0 0 0 30 35 _ := ok_get q21 cl_3 (k := 0) (by decide) in_3 wd_23 dX1_mayYield_32
  have q23 : gz_OkE M_X1_mayYield 1 0 0 35 36 _ := ok_iconst (v := 1) dX1_mayYield_35 kc_i1
  have q24 : gz_OkJ M_X1_mayYield 0 0 0 30 70 39 _ := ok_ic_eq q22 q23 dX1_mayYield_36 (by decide)
  have q25 : gz_OkE M_X1_mayYield 0 0 0 39 40 _ := ok_aload_n (i := 0) dX1_mayYield_39 rfl
  have q26 : gz_OkE M_X1_mayYield 0 0 0 39 43 _ := ok_get q25 cl_1 (k := 1) (by decide) in_1 wd_16 dX1_mayYield_40
  have q27 : gz_OkE M_X1_mayYield 1 0 0 43 44 _ := ok_iload_n (i := 1) dX1_mayYield_43 rfl
  have q28 : gz_OkE M_X1_mayYield 2 0 0 44 46 _ := ok_bipush (v := 8) dX1_mayYield_44 kc_b8
  have q29 : gz_OkE M_X1_mayYield 1 0 0 43 47 _ := ok_imul q27 q28 dX1_mayYield_46
  have q30 : gz_OkE M_X1_mayYield 2 0 0 47 48 _ := ok_iload_n (i := 2) dX1_mayYield_47 rfl
  have q31 : gz_OkE M_X1_mayYield 1 0 0 43 49 _ := ok_iadd q29 q30 dX1_mayYield_48
  have q32 : gz_OkE M_X1_mayYield 0 0 0 39 50 _ := ok_iald q26 q31 dX1_mayYield_49
  have q33 : gz_OkJ M_X1_mayYield 0 0 0 39 70 53 _ := ok_if_eq q32 dX1_mayYield_50 (by decide)
  have q34 : gz_OkE M_X1_mayYield 0 0 0 53 54 _ := ok_aload_n (i := 0) dX1_mayYield_53 rfl
  have q35 : gz_OkE M_X1_mayYield 0 0 0 53 57 _ := ok_get q34 cl_1 (k := 2) (by decide) in_1 wd_17 dX1_mayYield_54
  have q36 : gz_OkE M_X1_mayYield 1 0 0 57 58 _ := ok_iload_n (i := 1) dX1_mayYield_57 rfl
  have q37 : gz_OkE M_X1_mayYield 0 0 0 53 59 _ := ok_iald q35 q36 dX1_mayYield_58
  have q38 : gz_OkE M_X1_mayYield 1 0 0 59 60 _ := ok_iload_n (i := 2) dX1_mayYield_59 rfl
  have q39 : gz_OkE M_X1_mayYield 0 0 0 53 61 _ := ok_ishr q37 q38 dX1_mayYield_60
  have q40 : gz_OkE M_X1_mayYield 1 0 0 61 62 _ := ok_iconst (v := 1) dX1_mayYield_61 kc_i1
  have q41 : gz_OkE M_X1_mayYield 0 0 0 53 63 _ := ok_iand q39 q40 dX1_mayYield_62
  have q42 : gz_OkJ M_X1_mayYield 0 0 0 53 70 66 _ := ok_if_ne q41 dX1_mayYield_63 (by decide)
  have q43 : gz_OkJ M_X1_mayYield 0 0 0 39 70 66 _ := ok_jo q33 q42
  have q44 : gz_OkJ M_X1_mayYield 0 0 0 30 70 66 _ := ok_jo q24 q43
  have q45 : gz_OkJ M_X1_mayYield 0 0 0 22 70 66 _ := ok_jo q20 q44
  have q46 : gz_OkJ M_X1_mayYield 0 0 0 17 70 66 _ := ok_jo q16 q45
  have q47 : gz_OkJ M_X1_mayYield 0 0 0 13 70 66 _ := ok_jo q14 q46
  have q48 : gz_OkE M_X1_mayYield 0 0 0 66 67 _ := ok_iconst (v := 1) dX1_mayYield_66 kc_i1
  have q49 : gz_OkE M_X1_mayYield 0 0 0 66 71 _ := ok_eg q48 dX1_mayYield_67 (by decide)
  have q50 : gz_OkE M_X1_mayYield 0 0 0 70 71 _ := ok_iconst (v := 0) dX1_mayYield_70 kc_i0
  have q51 : gz_OkE M_X1_mayYield 0 0 0 13 71 _ := ok_te2 q47 q49 q50
  have q52 : gz_OkS M_X1_mayYield 0 0 13 _ := ok_ri q51 dX1_mayYield_71
  have q53 : gz_OkS M_X1_mayYield 0 0 6 _ := ok_seta (k := 4) q12 dX1_mayYield_11 (by decide) q52
  have q54 : gz_OkS M_X1_mayYield 0 0 0 _ := ok_seta_n (k := 3) q6 dX1_mayYield_5 rfl (by decide) q53
  have z : gz_OkS M_X1_mayYield 0 0 0 sm_X1_mayYield := q54
  exact gz_met (plainFor_of_name (by decide)) z (by decide) (by decide)
noncomputable def sm_X1_giveWay : gz_Sx := gz_ast 100 (gz_get 1 11 2 (gz_la 0)) (gz_li 1) (gz_ib (fun x y => x ||| y) (gz_d2 100) (gz_ib (fun x y => x <<< (y &&& 31)) (gz_i (1)) (gz_li 2))) (gz_ast 100 (gz_get 1 11 3 (gz_la 0)) (gz_li 1) (gz_ib (fun x y => x &&& y) (gz_d2 100) (gz_ib (fun x y => x ^^^ y) (gz_ib (fun x y => x <<< (y &&& 31)) (gz_i (1)) (gz_li 2)) (gz_i (-1)))) (gz_ast 100 (gz_get 1 11 3 (gz_la 0)) (gz_li 2) (gz_ib (fun x y => x &&& y) (gz_d2 100) (gz_ib (fun x y => x ^^^ y) (gz_ib (fun x y => x <<< (y &&& 31)) (gz_i (1)) (gz_li 1)) (gz_i (-1)))) (gz_rv)))
noncomputable def se_X1_giveWay : gz_Me := gz_sem none 3 sm_X1_giveWay
abbrev rm_X1_giveWay : Room := { frames := 0, cells := 0, slots := 0, locals := 0 }
abbrev M_X1_giveWay : gz_Mi := (cX1_giveWay, 3, RX1, 0, 0, "giveWay", none)
theorem de_X1_giveWay : yX1_giveWay.cls ≠ "java/lang/invoke/MethodHandle" ∧ yX1_giveWay.cls ≠ "java/lang/invoke/VarHandle" ∧ (parseMethodDescriptor yX1_giveWay.desc).map (fun d => d.parameters.length) = some 2 := by decide +kernel
set_option maxRecDepth 100000 in
theorem mt_X1_giveWay : gz_Mt yX1_giveWay cX1_giveWay 3 none rm_X1_giveWay se_X1_giveWay := by
  have q1 : gz_OkE M_X1_giveWay 0 0 0 0 1 _ := ok_aload_n (i := 0) dX1_giveWay_0 rfl
  have q2 : gz_OkE M_X1_giveWay 0 0 0 0 4 _ := ok_get q1 cl_1 (k := 2) (by decide) in_1 wd_17 dX1_giveWay_1
  have q3 : gz_OkE M_X1_giveWay 1 0 0 4 5 _ := ok_iload_n (i := 1) dX1_giveWay_4 rfl
  have q4 : gz_OkE M_X1_giveWay 2 0 0 5 7 _ := ok_d2iald dX1_giveWay_5 dX1_giveWay_6
  have q5 : gz_OkE M_X1_giveWay 3 0 0 7 8 _ := ok_iconst (v := 1) dX1_giveWay_7 kc_i1
  have q6 : gz_OkE M_X1_giveWay 4 0 0 8 9 _ := ok_iload_n (i := 2) dX1_giveWay_8 rfl
  have q7 : gz_OkE M_X1_giveWay 3 0 0 7 10 _ := ok_ishl q5 q6 dX1_giveWay_9
  have q8 : gz_OkE M_X1_giveWay 2 0 0 5 11 _ := ok_ior q4 q7 dX1_giveWay_10
  have q9 : gz_OkE M_X1_giveWay 0 0 0 12 13 _ := ok_aload_n (i := 0) dX1_giveWay_12 rfl
  have q10 : gz_OkE M_X1_giveWay 0 0 0 12 16 _ := ok_get q9 cl_1 (k := 3) (by decide) in_1 wd_18 dX1_giveWay_13
  have q11 : gz_OkE M_X1_giveWay 1 0 0 16 17 _ := ok_iload_n (i := 1) dX1_giveWay_16 rfl
  have q12 : gz_OkE M_X1_giveWay 2 0 0 17 19 _ := ok_d2iald dX1_giveWay_17 dX1_giveWay_18
  have q13 : gz_OkE M_X1_giveWay 3 0 0 19 20 _ := ok_iconst (v := 1) dX1_giveWay_19 kc_i1
  have q14 : gz_OkE M_X1_giveWay 4 0 0 20 21 _ := ok_iload_n (i := 2) dX1_giveWay_20 rfl
  have q15 : gz_OkE M_X1_giveWay 3 0 0 19 22 _ := ok_ishl q13 q14 dX1_giveWay_21
  have q16 : gz_OkE M_X1_giveWay 4 0 0 22 23 _ := ok_iconst (v := -1) dX1_giveWay_22 kc_im1
  have q17 : gz_OkE M_X1_giveWay 3 0 0 19 24 _ := ok_ixor q15 q16 dX1_giveWay_23
  have q18 : gz_OkE M_X1_giveWay 2 0 0 17 25 _ := ok_iand q12 q17 dX1_giveWay_24
  have q19 : gz_OkE M_X1_giveWay 0 0 0 26 27 _ := ok_aload_n (i := 0) dX1_giveWay_26 rfl
  have q20 : gz_OkE M_X1_giveWay 0 0 0 26 30 _ := ok_get q19 cl_1 (k := 3) (by decide) in_1 wd_18 dX1_giveWay_27
  have q21 : gz_OkE M_X1_giveWay 1 0 0 30 31 _ := ok_iload_n (i := 2) dX1_giveWay_30 rfl
  have q22 : gz_OkE M_X1_giveWay 2 0 0 31 33 _ := ok_d2iald dX1_giveWay_31 dX1_giveWay_32
  have q23 : gz_OkE M_X1_giveWay 3 0 0 33 34 _ := ok_iconst (v := 1) dX1_giveWay_33 kc_i1
  have q24 : gz_OkE M_X1_giveWay 4 0 0 34 35 _ := ok_iload_n (i := 1) dX1_giveWay_34 rfl
  have q25 : gz_OkE M_X1_giveWay 3 0 0 33 36 _ := ok_ishl q23 q24 dX1_giveWay_35
  have q26 : gz_OkE M_X1_giveWay 4 0 0 36 37 _ := ok_iconst (v := -1) dX1_giveWay_36 kc_im1
  have q27 : gz_OkE M_X1_giveWay 3 0 0 33 38 _ := ok_ixor q25 q26 dX1_giveWay_37
  have q28 : gz_OkE M_X1_giveWay 2 0 0 31 39 _ := ok_iand q22 q27 dX1_giveWay_38
  have q29 : gz_OkS M_X1_giveWay 0 0 40 _ := ok_rv dX1_giveWay_40
  have q30 : gz_OkS M_X1_giveWay 0 0 26 _ := ok_iast q20 q21 q28 dX1_giveWay_39 q29
  have q31 : gz_OkS M_X1_giveWay 0 0 12 _ := ok_iast q10 q11 q18 dX1_giveWay_25 q30
  have q32 : gz_OkS M_X1_giveWay 0 0 0 _ := ok_iast q2 q3 q8 dX1_giveWay_11 q31
  have z : gz_OkS M_X1_giveWay 0 0 0 sm_X1_giveWay := q32
  exact gz_met (plainFor_of_name (by decide)) z (by decide) (by decide)
noncomputable def lb_X1_isSet_18 : gz_Sx := gz_if (gz_j2 (fun x y => decide (y ≤ x)) (gz_li 2) (gz_get 1 11 5 (gz_la 0))) (gz_sat 53) (gz_if (gz_jo (gz_j1 (fun x => decide (x = 0)) (gz_ib (fun x y => x &&& y) (gz_ib (fun x y => x >>> (y &&& 31)) (gz_li 1) (gz_li 2)) (gz_i (1)))) (gz_j1 (fun x => decide (x = 0)) (gz_ib (fun x y => x &&& y) (gz_ald 100 (gz_get 1 11 3 (gz_la 0)) (gz_li 2)) (gz_li 1)))) (gz_inc 2 (1) (gz_sat 18)) (gz_ri (gz_i (0))))
noncomputable def sm_X1_isSet : gz_Sx := gz_if (gz_ja (gz_j1 (fun x => decide (x < 0)) (gz_li 1)) (gz_j2 (fun x y => decide (x < y)) (gz_li 1) (gz_ib (fun x y => x <<< (y &&& 31)) (gz_i (1)) (gz_get 1 11 5 (gz_la 0))))) (gz_seti 2 (gz_i (0)) (gz_seq 53 0 (gz_loop 18 3 lb_X1_isSet_18) (gz_ri (gz_i (1))))) (gz_ri (gz_i (0)))
noncomputable def se_X1_isSet : gz_Me := gz_sem (some .boolean) 3 sm_X1_isSet
abbrev rm_X1_isSet : Room := { frames := 0, cells := 0, slots := 0, locals := 0 }
abbrev M_X1_isSet : gz_Mi := (cX1_isSet, 3, RX1, 0, 0, "isSet", none)
theorem de_X1_isSet : yX1_isSet.cls ≠ "java/lang/invoke/MethodHandle" ∧ yX1_isSet.cls ≠ "java/lang/invoke/VarHandle" ∧ (parseMethodDescriptor yX1_isSet.desc).map (fun d => d.parameters.length) = some 1 := by decide +kernel
set_option maxRecDepth 100000 in
theorem mt_X1_isSet : gz_Mt yX1_isSet cX1_isSet 3 (some .boolean) rm_X1_isSet se_X1_isSet := by
  have q1 : gz_OkE M_X1_isSet 0 0 0 0 1 _ := ok_iload_n (i := 1) dX1_isSet_0 rfl
  have q2 : gz_OkJ M_X1_isSet 0 0 0 0 14 4 _ := ok_if_lt q1 dX1_isSet_1 (by decide)
  have q3 : gz_OkE M_X1_isSet 0 0 0 4 5 _ := ok_iload_n (i := 1) dX1_isSet_4 rfl
  have q4 : gz_OkE M_X1_isSet 1 0 0 5 6 _ := ok_iconst (v := 1) dX1_isSet_5 kc_i1
  have q5 : gz_OkE M_X1_isSet 2 0 0 6 7 _ := ok_aload_n (i := 0) dX1_isSet_6 rfl
  have q6 : gz_OkE M_X1_isSet 2 0 0 6 10 _ := ok_get q5 cl_1 (k := 5) (by decide) in_1 wd_20 dX1_isSet_7
  have q7 : gz_OkE M_X1_isSet 1 0 0 5 11 _ := ok_ishl q4 q6 dX1_isSet_10
  have q8 : gz_OkJ M_X1_isSet 0 0 0 4 16 14 _ := ok_ic_lt q3 q7 dX1_isSet_11 (by decide)
  have q9 : gz_OkJ M_X1_isSet 0 0 0 0 16 14 _ := ok_ja q2 q8
  have q10 : gz_OkE M_X1_isSet 0 0 0 16 17 _ := ok_iconst (v := 0) dX1_isSet_16 kc_i0
  have q11 : gz_OkE M_X1_isSet 0 0 0 18 19 _ := ok_iload_n (i := 2) dX1_isSet_18 rfl
  have q12 : gz_OkE M_X1_isSet 1 0 0 19 20 _ := ok_aload_n (i := 0) dX1_isSet_19 rfl
  have q13 : gz_OkE M_X1_isSet 1 0 0 19 23 _ := ok_get q12 cl_1 (k := 5) (by decide) in_1 wd_20 dX1_isSet_20
  have q14 : gz_OkJ M_X1_isSet 0 0 0 18 53 26 _ := ok_ic_ge q11 q13 dX1_isSet_23 (by decide)
  have q15 : gz_OkS M_X1_isSet 0 0 53 _ := ok_at
  have q16 : gz_OkE M_X1_isSet 0 0 0 26 27 _ := ok_iload_n (i := 1) dX1_isSet_26 rfl
  have q17 : gz_OkE M_X1_isSet 1 0 0 27 28 _ := ok_iload_n (i := 2) dX1_isSet_27 rfl
  have q18 : gz_OkE M_X1_isSet 0 0 0 26 29 _ := ok_ishr q16 q17 dX1_isSet_28
  have q19 : gz_OkE M_X1_isSet 1 0 0 29 30 _ := ok_iconst (v := 1) dX1_isSet_29 kc_i1
  have q20 : gz_OkE M_X1_isSet 0 0 0 26 31 _ := ok_iand q18 q19 dX1_isSet_30
  have q21 : gz_OkJ M_X1_isSet 0 0 0 26 47 34 _ := ok_if_eq q20 dX1_isSet_31 (by decide)
  have q22 : gz_OkE M_X1_isSet 0 0 0 34 35 _ := ok_aload_n (i := 0) dX1_isSet_34 rfl
  have q23 : gz_OkE M_X1_isSet 0 0 0 34 38 _ := ok_get q22 cl_1 (k := 3) (by decide) in_1 wd_18 dX1_isSet_35
  have q24 : gz_OkE M_X1_isSet 1 0 0 38 39 _ := ok_iload_n (i := 2) dX1_isSet_38 rfl
  have q25 : gz_OkE M_X1_isSet 0 0 0 34 40 _ := ok_iald q23 q24 dX1_isSet_39
  have q26 : gz_OkE M_X1_isSet 1 0 0 40 41 _ := ok_iload_n (i := 1) dX1_isSet_40 rfl
  have q27 : gz_OkE M_X1_isSet 0 0 0 34 42 _ := ok_iand q25 q26 dX1_isSet_41
  have q28 : gz_OkJ M_X1_isSet 0 0 0 34 47 45 _ := ok_if_eq q27 dX1_isSet_42 (by decide)
  have q29 : gz_OkJ M_X1_isSet 0 0 0 26 47 45 _ := ok_jo q21 q28
  have q30 : gz_OkS M_X1_isSet 0 0 50 (gz_sat 18) := ok_goto dX1_isSet_50 (by decide)
  have q31 : gz_OkS M_X1_isSet 0 0 47 _ := ok_inc (v := 1) dX1_isSet_47 kc_i1 (by decide) q30
  have q32 : gz_OkE M_X1_isSet 0 0 0 45 46 _ := ok_iconst (v := 0) dX1_isSet_45 kc_i0
  have q33 : gz_OkS M_X1_isSet 0 0 45 _ := ok_ri q32 dX1_isSet_46
  have q34 : gz_OkS M_X1_isSet 0 0 26 _ := ok_if q29 q31 q33
  have q35 : gz_OkS M_X1_isSet 0 0 18 _ := ok_if q14 q15 q34
  have q36 : gz_OkS M_X1_isSet 0 0 18 lb_X1_isSet_18 := q35
  have q37 : gz_OkS M_X1_isSet 0 0 18 _ := ok_loop (k := 3) q36 rfl rfl
  have q38 : gz_OkE M_X1_isSet 0 0 0 53 54 _ := ok_iconst (v := 1) dX1_isSet_53 kc_i1
  have q39 : gz_OkS M_X1_isSet 0 0 53 _ := ok_ri q38 dX1_isSet_54
  have q40 : gz_OkS M_X1_isSet 0 0 18 _ := ok_seq (L := 53) (k := 0) q37 q39
  have q41 : gz_OkS M_X1_isSet 0 0 16 _ := ok_seti_n (k := 2) q10 dX1_isSet_17 rfl (by decide) q40
  have q42 : gz_OkE M_X1_isSet 0 0 0 14 15 _ := ok_iconst (v := 0) dX1_isSet_14 kc_i0
  have q43 : gz_OkS M_X1_isSet 0 0 14 _ := ok_ri q42 dX1_isSet_15
  have q44 : gz_OkS M_X1_isSet 0 0 0 _ := ok_if q9 q41 q43
  have z : gz_OkS M_X1_isSet 0 0 0 sm_X1_isSet := q44
  exact gz_met (plainFor_of_name (by decide)) z (by decide) (by decide)
noncomputable def lb_X1_isGreatest_2 : gz_Sx := gz_if (gz_j2 (fun x y => decide (y ≤ x)) (gz_li 2) (gz_get 1 11 5 (gz_la 0))) (gz_sat 52) (gz_seti 3 (gz_te (gz_j1 (fun x => decide (x = 0)) (gz_ib (fun x y => x &&& y) (gz_ib (fun x y => x >>> (y &&& 31)) (gz_li 1) (gz_li 2)) (gz_i (1)))) (gz_i (0)) (gz_i (1))) (gz_if (gz_j2 (fun x y => decide (x = y)) (gz_li 3) (gz_te (gz_j1 (fun x => decide (¬ x = 0)) (gz_ib (fun x y => x &&& y) (gz_ald 100 (gz_get 1 11 3 (gz_la 0)) (gz_li 2)) (gz_li 1))) (gz_i (0)) (gz_i (1)))) (gz_inc 2 (1) (gz_sat 2)) (gz_ri (gz_i (0)))))
noncomputable def sm_X1_isGreatest : gz_Sx := gz_seti 2 (gz_i (0)) (gz_seq 52 0 (gz_loop 2 3 lb_X1_isGreatest_2) (gz_ri (gz_i (1))))
noncomputable def se_X1_isGreatest : gz_Me := gz_sem (some .boolean) 4 sm_X1_isGreatest
abbrev rm_X1_isGreatest : Room := { frames := 0, cells := 0, slots := 0, locals := 0 }
abbrev M_X1_isGreatest : gz_Mi := (cX1_isGreatest, 4, RX1, 0, 0, "isGreatest", none)
theorem de_X1_isGreatest : yX1_isGreatest.cls ≠ "java/lang/invoke/MethodHandle" ∧ yX1_isGreatest.cls ≠ "java/lang/invoke/VarHandle" ∧ (parseMethodDescriptor yX1_isGreatest.desc).map (fun d => d.parameters.length) = some 1 := by decide +kernel
set_option maxRecDepth 100000 in
theorem mt_X1_isGreatest : gz_Mt yX1_isGreatest cX1_isGreatest 4 (some .boolean) rm_X1_isGreatest se_X1_isGreatest := by
  have q1 : gz_OkE M_X1_isGreatest 0 0 0 0 1 _ := ok_iconst (v := 0) dX1_isGreatest_0 kc_i0
  have q2 : gz_OkE M_X1_isGreatest 0 0 0 2 3 _ := ok_iload_n (i := 2) dX1_isGreatest_2 rfl
  have q3 : gz_OkE M_X1_isGreatest 1 0 0 3 4 _ := ok_aload_n (i := 0) dX1_isGreatest_3 rfl
  have q4 : gz_OkE M_X1_isGreatest 1 0 0 3 7 _ := ok_get q3 cl_1 (k := 5) (by decide) in_1 wd_20 dX1_isGreatest_4
  have q5 : gz_OkJ M_X1_isGreatest 0 0 0 2 52 10 _ := ok_ic_ge q2 q4 dX1_isGreatest_7 (by decide)
  have q6 : gz_OkS M_X1_isGreatest 0 0 52 _ := ok_at
  have q7 : gz_OkE M_X1_isGreatest 0 0 0 10 11 _ := ok_iload_n (i := 1) dX1_isGreatest_10 rfl
  have q8 : gz_OkE M_X1_isGreatest 1 0 0 11 12 _ := ok_iload_n (i := 2) dX1_isGreatest_11 rfl
  have q9 : gz_OkE M_X1_isGreatest 0 0 0 10 13 _ := ok_ishr q7 q8 dX1_isGreatest_12
  have q10 : gz_OkE M_X1_isGreatest 1 0 0 13 14 _ := ok_iconst (v := 1) dX1_isGreatest_13 kc_i1
  have q11 : gz_OkE M_X1_isGreatest 0 0 0 10 15 _ := ok_iand q9 q10 dX1_isGreatest_14
  have q12 : gz_OkJ M_X1_isGreatest 0 0 0 10 22 18 _ := ok_if_eq q11 dX1_isGreatest_15 (by decide)
  have q13 : gz_OkE M_X1_isGreatest 0 0 0 18 19 _ := ok_iconst (v := 1) dX1_isGreatest_18 kc_i1
  have q14 : gz_OkE M_X1_isGreatest 0 0 0 18 23 _ := ok_eg q13 dX1_isGreatest_19 (by decide)
  have q15 : gz_OkE M_X1_isGreatest 0 0 0 22 23 _ := ok_iconst (v := 0) dX1_isGreatest_22 kc_i0
  have q16 : gz_OkE M_X1_isGreatest 0 0 0 10 23 _ := ok_te2 q12 q14 q15
  have q17 : gz_OkE M_X1_isGreatest 0 0 0 24 25 _ := ok_iload_n (i := 3) dX1_isGreatest_24 rfl
  have q18 : gz_OkE M_X1_isGreatest 1 0 0 25 26 _ := ok_aload_n (i := 0) dX1_isGreatest_25 rfl
  have q19 : gz_OkE M_X1_isGreatest 1 0 0 25 29 _ := ok_get q18 cl_1 (k := 3) (by decide) in_1 wd_18 dX1_isGreatest_26
  have q20 : gz_OkE M_X1_isGreatest 2 0 0 29 30 _ := ok_iload_n (i := 2) dX1_isGreatest_29 rfl
  have q21 : gz_OkE M_X1_isGreatest 1 0 0 25 31 _ := ok_iald q19 q20 dX1_isGreatest_30
  have q22 : gz_OkE M_X1_isGreatest 2 0 0 31 32 _ := ok_iload_n (i := 1) dX1_isGreatest_31 rfl
  have q23 : gz_OkE M_X1_isGreatest 1 0 0 25 33 _ := ok_iand q21 q22 dX1_isGreatest_32
  have q24 : gz_OkJ M_X1_isGreatest 1 0 0 25 40 36 _ := ok_if_ne q23 dX1_isGreatest_33 (by decide)
  have q25 : gz_OkE M_X1_isGreatest 1 0 0 36 37 _ := ok_iconst (v := 1) dX1_isGreatest_36 kc_i1
  have q26 : gz_OkE M_X1_isGreatest 1 0 0 36 41 _ := ok_eg q25 dX1_isGreatest_37 (by decide)
  have q27 : gz_OkE M_X1_isGreatest 1 0 0 40 41 _ := ok_iconst (v := 0) dX1_isGreatest_40 kc_i0
  have q28 : gz_OkE M_X1_isGreatest 1 0 0 25 41 _ := ok_te2 q24 q26 q27
  have q29 : gz_OkJ M_X1_isGreatest 0 0 0 24 46 44 _ := ok_ic_eq q17 q28 dX1_isGreatest_41 (by decide)
  have q30 : gz_OkS M_X1_isGreatest 0 0 49 (gz_sat 2) := ok_goto dX1_isGreatest_49 (by decide)
  have q31 : gz_OkS M_X1_isGreatest 0 0 46 _ := ok_inc (v := 1) dX1_isGreatest_46 kc_i1 (by decide) q30
  have q32 : gz_OkE M_X1_isGreatest 0 0 0 44 45 _ := ok_iconst (v := 0) dX1_isGreatest_44 kc_i0
  have q33 : gz_OkS M_X1_isGreatest 0 0 44 _ := ok_ri q32 dX1_isGreatest_45
  have q34 : gz_OkS M_X1_isGreatest 0 0 24 _ := ok_if q29 q31 q33
  have q35 : gz_OkS M_X1_isGreatest 0 0 10 _ := ok_seti_n (k := 3) q16 dX1_isGreatest_23 rfl (by decide) q34
  have q36 : gz_OkS M_X1_isGreatest 0 0 2 _ := ok_if q5 q6 q35
  have q37 : gz_OkS M_X1_isGreatest 0 0 2 lb_X1_isGreatest_2 := q36
  have q38 : gz_OkS M_X1_isGreatest 0 0 2 _ := ok_loop (k := 3) q37 rfl rfl
  have q39 : gz_OkE M_X1_isGreatest 0 0 0 52 53 _ := ok_iconst (v := 1) dX1_isGreatest_52 kc_i1
  have q40 : gz_OkS M_X1_isGreatest 0 0 52 _ := ok_ri q39 dX1_isGreatest_53
  have q41 : gz_OkS M_X1_isGreatest 0 0 2 _ := ok_seq (L := 52) (k := 0) q38 q40
  have q42 : gz_OkS M_X1_isGreatest 0 0 0 _ := ok_seti_n (k := 2) q1 dX1_isGreatest_1 rfl (by decide) q41
  have z : gz_OkS M_X1_isGreatest 0 0 0 sm_X1_isGreatest := q42
  exact gz_met (plainFor_of_name (by decide)) z (by decide) (by decide)
noncomputable def lb_X1_greatestSets_4 : gz_Sx := gz_if (gz_j2 (fun x y => decide (y ≤ x)) (gz_li 2) (gz_ib (fun x y => x <<< (y &&& 31)) (gz_i (1)) (gz_get 1 11 5 (gz_la 0)))) (gz_sat 31) (gz_seq 25 3 (gz_if (gz_j1 (fun x => decide (x = 0)) (gz_cv 1 11 se_X1_isGreatest (gz_a1 (gz_a1 (gz_a0) (gz_la 0)) (gz_li 2)))) (gz_sat 25) (gz_inc 1 (1) (gz_sat 25))) (gz_inc 2 (1) (gz_sat 4)))
noncomputable def sm_X1_greatestSets : gz_Sx := gz_seti 1 (gz_i (0)) (gz_seti 2 (gz_i (1)) (gz_seq 31 2 (gz_loop 4 3 lb_X1_greatestSets_4) (gz_ri (gz_li 1))))
noncomputable def se_X1_greatestSets : gz_Me := gz_sem (some .int) 3 sm_X1_greatestSets
abbrev rm_X1_greatestSets : Room := { frames := 1, cells := 0, slots := 0, locals := 23 }
abbrev M_X1_greatestSets : gz_Mi := (cX1_greatestSets, 3, RX1, 1, 23, "greatestSets", none)
theorem de_X1_greatestSets : yX1_greatestSets.cls ≠ "java/lang/invoke/MethodHandle" ∧ yX1_greatestSets.cls ≠ "java/lang/invoke/VarHandle" ∧ (parseMethodDescriptor yX1_greatestSets.desc).map (fun d => d.parameters.length) = some 0 := by decide +kernel
set_option maxRecDepth 100000 in
theorem mt_X1_greatestSets : gz_Mt yX1_greatestSets cX1_greatestSets 3 (some .int) rm_X1_greatestSets se_X1_greatestSets := by
  have q1 : gz_OkE M_X1_greatestSets 0 0 0 0 1 _ := ok_iconst (v := 0) dX1_greatestSets_0 kc_i0
  have q2 : gz_OkE M_X1_greatestSets 0 0 0 2 3 _ := ok_iconst (v := 1) dX1_greatestSets_2 kc_i1
  have q3 : gz_OkE M_X1_greatestSets 0 0 0 4 5 _ := ok_iload_n (i := 2) dX1_greatestSets_4 rfl
  have q4 : gz_OkE M_X1_greatestSets 1 0 0 5 6 _ := ok_iconst (v := 1) dX1_greatestSets_5 kc_i1
  have q5 : gz_OkE M_X1_greatestSets 2 0 0 6 7 _ := ok_aload_n (i := 0) dX1_greatestSets_6 rfl
  have q6 : gz_OkE M_X1_greatestSets 2 0 0 6 10 _ := ok_get q5 cl_1 (k := 5) (by decide) in_1 wd_20 dX1_greatestSets_7
  have q7 : gz_OkE M_X1_greatestSets 1 0 0 5 11 _ := ok_ishl q4 q6 dX1_greatestSets_10
  have q8 : gz_OkJ M_X1_greatestSets 0 0 0 4 31 14 _ := ok_ic_ge q3 q7 dX1_greatestSets_11 (by decide)
  have q9 : gz_OkS M_X1_greatestSets 0 0 31 _ := ok_at
  have q10 : gz_OkA M_X1_greatestSets 0 0 0 14 14 0 _ := ok_a0
  have q11 : gz_OkE M_X1_greatestSets 0 0 0 14 15 _ := ok_aload_n (i := 0) dX1_greatestSets_14 rfl
  have q12 : gz_OkA M_X1_greatestSets 0 0 0 14 15 1 _ := ok_a1 q10 q11
  have q13 : gz_OkE M_X1_greatestSets 2 0 0 15 16 _ := ok_iload_n (i := 2) dX1_greatestSets_15 rfl
  have q14 : gz_OkA M_X1_greatestSets 0 0 0 14 16 2 _ := ok_a1 q12 q13
  have q15 : gz_OkE M_X1_greatestSets 0 0 0 14 19 _ := ok_cv q14 mt_X1_isGreatest cl_1 wd_462 wd_458 de_X1_isGreatest (by decide) (by decide) wd_463 wd_464 wd_465 dX1_greatestSets_16 (by decide)
  have q16 : gz_OkJ M_X1_greatestSets 0 0 0 14 25 22 _ := ok_if_eq q15 dX1_greatestSets_19 (by decide)
  have q17 : gz_OkS M_X1_greatestSets 0 0 25 _ := ok_at
  have q18 : gz_OkS M_X1_greatestSets 0 0 25 _ := ok_at
  have q19 : gz_OkS M_X1_greatestSets 0 0 22 _ := ok_inc (v := 1) dX1_greatestSets_22 kc_i1 (by decide) q18
  have q20 : gz_OkS M_X1_greatestSets 0 0 14 _ := ok_if q16 q17 q19
  have q21 : gz_OkS M_X1_greatestSets 0 0 28 (gz_sat 4) := ok_goto dX1_greatestSets_28 (by decide)
  have q22 : gz_OkS M_X1_greatestSets 0 0 25 _ := ok_inc (v := 1) dX1_greatestSets_25 kc_i1 (by decide) q21
  have q23 : gz_OkS M_X1_greatestSets 0 0 14 _ := ok_seq (L := 25) (k := 3) q20 q22
  have q24 : gz_OkS M_X1_greatestSets 0 0 4 _ := ok_if q8 q9 q23
  have q25 : gz_OkS M_X1_greatestSets 0 0 4 lb_X1_greatestSets_4 := q24
  have q26 : gz_OkS M_X1_greatestSets 0 0 4 _ := ok_loop (k := 3) q25 rfl rfl
  have q27 : gz_OkE M_X1_greatestSets 0 0 0 31 32 _ := ok_iload_n (i := 1) dX1_greatestSets_31 rfl
  have q28 : gz_OkS M_X1_greatestSets 0 0 31 _ := ok_ri q27 dX1_greatestSets_32
  have q29 : gz_OkS M_X1_greatestSets 0 0 4 _ := ok_seq (L := 31) (k := 2) q26 q28
  have q30 : gz_OkS M_X1_greatestSets 0 0 2 _ := ok_seti_n (k := 2) q2 dX1_greatestSets_3 rfl (by decide) q29
  have q31 : gz_OkS M_X1_greatestSets 0 0 0 _ := ok_seti_n (k := 1) q1 dX1_greatestSets_1 rfl (by decide) q30
  have z : gz_OkS M_X1_greatestSets 0 0 0 sm_X1_greatestSets := q31
  exact gz_met (plainFor_of_name (by decide)) z (by decide) (by decide)
noncomputable def lb_X1_greatestSet_4 : gz_Sx := gz_if (gz_j2 (fun x y => decide (y ≤ x)) (gz_li 3) (gz_ib (fun x y => x <<< (y &&& 31)) (gz_i (1)) (gz_get 1 11 5 (gz_la 0)))) (gz_sat 38) (gz_seq 32 4 (gz_if (gz_j1 (fun x => decide (x = 0)) (gz_cv 1 11 se_X1_isGreatest (gz_a1 (gz_a1 (gz_a0) (gz_la 0)) (gz_li 3)))) (gz_sat 32) (gz_if (gz_j2 (fun x y => decide (¬ x = y)) (gz_li 2) (gz_li 1)) (gz_inc 2 (1) (gz_sat 32)) (gz_ri (gz_li 3)))) (gz_inc 3 (1) (gz_sat 4)))
noncomputable def sm_X1_greatestSet : gz_Sx := gz_seti 2 (gz_i (0)) (gz_seti 3 (gz_i (1)) (gz_seq 38 0 (gz_loop 4 4 lb_X1_greatestSet_4) (gz_ri (gz_i (-1)))))
noncomputable def se_X1_greatestSet : gz_Me := gz_sem (some .int) 4 sm_X1_greatestSet
abbrev rm_X1_greatestSet : Room := { frames := 1, cells := 0, slots := 0, locals := 23 }
abbrev M_X1_greatestSet : gz_Mi := (cX1_greatestSet, 4, RX1, 1, 23, "greatestSet", none)
theorem de_X1_greatestSet : yX1_greatestSet.cls ≠ "java/lang/invoke/MethodHandle" ∧ yX1_greatestSet.cls ≠ "java/lang/invoke/VarHandle" ∧ (parseMethodDescriptor yX1_greatestSet.desc).map (fun d => d.parameters.length) = some 1 := by decide +kernel
set_option maxRecDepth 100000 in
theorem mt_X1_greatestSet : gz_Mt yX1_greatestSet cX1_greatestSet 4 (some .int) rm_X1_greatestSet se_X1_greatestSet := by
  have q1 : gz_OkE M_X1_greatestSet 0 0 0 0 1 _ := ok_iconst (v := 0) dX1_greatestSet_0 kc_i0
  have q2 : gz_OkE M_X1_greatestSet 0 0 0 2 3 _ := ok_iconst (v := 1) dX1_greatestSet_2 kc_i1
  have q3 : gz_OkE M_X1_greatestSet 0 0 0 4 5 _ := ok_iload_n (i := 3) dX1_greatestSet_4 rfl
  have q4 : gz_OkE M_X1_greatestSet 1 0 0 5 6 _ := ok_iconst (v := 1) dX1_greatestSet_5 kc_i1
  have q5 : gz_OkE M_X1_greatestSet 2 0 0 6 7 _ := ok_aload_n (i := 0) dX1_greatestSet_6 rfl
  have q6 : gz_OkE M_X1_greatestSet 2 0 0 6 10 _ := ok_get q5 cl_1 (k := 5) (by decide) in_1 wd_20 dX1_greatestSet_7
  have q7 : gz_OkE M_X1_greatestSet 1 0 0 5 11 _ := ok_ishl q4 q6 dX1_greatestSet_10
  have q8 : gz_OkJ M_X1_greatestSet 0 0 0 4 38 14 _ := ok_ic_ge q3 q7 dX1_greatestSet_11 (by decide)
  have q9 : gz_OkS M_X1_greatestSet 0 0 38 _ := ok_at
  have q10 : gz_OkA M_X1_greatestSet 0 0 0 14 14 0 _ := ok_a0
  have q11 : gz_OkE M_X1_greatestSet 0 0 0 14 15 _ := ok_aload_n (i := 0) dX1_greatestSet_14 rfl
  have q12 : gz_OkA M_X1_greatestSet 0 0 0 14 15 1 _ := ok_a1 q10 q11
  have q13 : gz_OkE M_X1_greatestSet 2 0 0 15 16 _ := ok_iload_n (i := 3) dX1_greatestSet_15 rfl
  have q14 : gz_OkA M_X1_greatestSet 0 0 0 14 16 2 _ := ok_a1 q12 q13
  have q15 : gz_OkE M_X1_greatestSet 0 0 0 14 19 _ := ok_cv q14 mt_X1_isGreatest cl_1 wd_462 wd_458 de_X1_isGreatest (by decide) (by decide) wd_463 wd_464 wd_465 dX1_greatestSet_16 (by decide)
  have q16 : gz_OkJ M_X1_greatestSet 0 0 0 14 32 22 _ := ok_if_eq q15 dX1_greatestSet_19 (by decide)
  have q17 : gz_OkS M_X1_greatestSet 0 0 32 _ := ok_at
  have q18 : gz_OkE M_X1_greatestSet 0 0 0 22 23 _ := ok_iload_n (i := 2) dX1_greatestSet_22 rfl
  have q19 : gz_OkE M_X1_greatestSet 1 0 0 23 24 _ := ok_iload_n (i := 1) dX1_greatestSet_23 rfl
  have q20 : gz_OkJ M_X1_greatestSet 0 0 0 22 29 27 _ := ok_ic_ne q18 q19 dX1_greatestSet_24 (by decide)
  have q21 : gz_OkS M_X1_greatestSet 0 0 32 _ := ok_at
  have q22 : gz_OkS M_X1_greatestSet 0 0 29 _ := ok_inc (v := 1) dX1_greatestSet_29 kc_i1 (by decide) q21
  have q23 : gz_OkE M_X1_greatestSet 0 0 0 27 28 _ := ok_iload_n (i := 3) dX1_greatestSet_27 rfl
  have q24 : gz_OkS M_X1_greatestSet 0 0 27 _ := ok_ri q23 dX1_greatestSet_28
  have q25 : gz_OkS M_X1_greatestSet 0 0 22 _ := ok_if q20 q22 q24
  have q26 : gz_OkS M_X1_greatestSet 0 0 14 _ := ok_if q16 q17 q25
  have q27 : gz_OkS M_X1_greatestSet 0 0 35 (gz_sat 4) := ok_goto dX1_greatestSet_35 (by decide)
  have q28 : gz_OkS M_X1_greatestSet 0 0 32 _ := ok_inc (v := 1) dX1_greatestSet_32 kc_i1 (by decide) q27
  have q29 : gz_OkS M_X1_greatestSet 0 0 14 _ := ok_seq (L := 32) (k := 4) q26 q28
  have q30 : gz_OkS M_X1_greatestSet 0 0 4 _ := ok_if q8 q9 q29
  have q31 : gz_OkS M_X1_greatestSet 0 0 4 lb_X1_greatestSet_4 := q30
  have q32 : gz_OkS M_X1_greatestSet 0 0 4 _ := ok_loop (k := 4) q31 rfl rfl
  have q33 : gz_OkE M_X1_greatestSet 0 0 0 38 39 _ := ok_iconst (v := -1) dX1_greatestSet_38 kc_im1
  have q34 : gz_OkS M_X1_greatestSet 0 0 38 _ := ok_ri q33 dX1_greatestSet_39
  have q35 : gz_OkS M_X1_greatestSet 0 0 4 _ := ok_seq (L := 38) (k := 0) q32 q34
  have q36 : gz_OkS M_X1_greatestSet 0 0 2 _ := ok_seti_n (k := 3) q2 dX1_greatestSet_3 rfl (by decide) q35
  have q37 : gz_OkS M_X1_greatestSet 0 0 0 _ := ok_seti_n (k := 2) q1 dX1_greatestSet_1 rfl (by decide) q36
  have z : gz_OkS M_X1_greatestSet 0 0 0 sm_X1_greatestSet := q37
  exact gz_met (plainFor_of_name (by decide)) z (by decide) (by decide)
noncomputable def sm_X2_behind : gz_Sx := gz_ri (gz_te (gz_j2 (fun x y => decide (y ≤ x)) (gz_ib (fun x y => x + y) (gz_li 1) (gz_i (1))) (gz_get 2 9 2 (gz_la 0))) (gz_i (0)) (gz_ib (fun x y => x + y) (gz_li 1) (gz_i (1))))
noncomputable def se_X2_behind : gz_Me := gz_sem (some .int) 2 sm_X2_behind
abbrev rm_X2_behind : Room := { frames := 0, cells := 0, slots := 0, locals := 0 }
abbrev M_X2_behind : gz_Mi := (cX2_behind, 2, RX2, 0, 0, "behind", none)
theorem de_X2_behind : yX2_behind.cls ≠ "java/lang/invoke/MethodHandle" ∧ yX2_behind.cls ≠ "java/lang/invoke/VarHandle" ∧ (parseMethodDescriptor yX2_behind.desc).map (fun d => d.parameters.length) = some 1 := by decide +kernel
set_option maxRecDepth 100000 in
theorem mt_X2_behind : gz_Mt yX2_behind cX2_behind 2 (some .int) rm_X2_behind se_X2_behind := by
  have q1 : gz_OkE M_X2_behind 0 0 0 0 1 _ := ok_iload_n (i := 1) dX2_behind_0 rfl
  have q2 : gz_OkE M_X2_behind 1 0 0 1 2 _ := ok_iconst (v := 1) dX2_behind_1 kc_i1
  have q3 : gz_OkE M_X2_behind 0 0 0 0 3 _ := ok_iadd q1 q2 dX2_behind_2
  have q4 : gz_OkE M_X2_behind 1 0 0 3 4 _ := ok_aload_n (i := 0) dX2_behind_3 rfl
  have q5 : gz_OkE M_X2_behind 1 0 0 3 7 _ := ok_get q4 cl_2 (k := 2) (by decide) in_2 wd_41 dX2_behind_4
  have q6 : gz_OkJ M_X2_behind 0 0 0 0 16 10 _ := ok_ic_ge q3 q5 dX2_behind_7 (by decide)
  have q7 : gz_OkE M_X2_behind 0 0 0 10 11 _ := ok_iload_n (i := 1) dX2_behind_10 rfl
  have q8 : gz_OkE M_X2_behind 1 0 0 11 12 _ := ok_iconst (v := 1) dX2_behind_11 kc_i1
  have q9 : gz_OkE M_X2_behind 0 0 0 10 13 _ := ok_iadd q7 q8 dX2_behind_12
  have q10 : gz_OkE M_X2_behind 0 0 0 10 17 _ := ok_eg q9 dX2_behind_13 (by decide)
  have q11 : gz_OkE M_X2_behind 0 0 0 16 17 _ := ok_iconst (v := 0) dX2_behind_16 kc_i0
  have q12 : gz_OkE M_X2_behind 0 0 0 0 17 _ := ok_te2 q6 q10 q11
  have q13 : gz_OkS M_X2_behind 0 0 0 _ := ok_ri q12 dX2_behind_17
  have z : gz_OkS M_X2_behind 0 0 0 sm_X2_behind := q13
  exact gz_met (plainFor_of_name (by decide)) z (by decide) (by decide)
noncomputable def lb_X1_between_41 : gz_Sx := gz_if (gz_jo (gz_j2 (fun x y => decide (y ≤ x)) (gz_li 6) (gz_get 1 11 5 (gz_la 0))) (gz_j1 (fun x => decide (x = 0)) (gz_li 5))) (gz_sat 89) (gz_seq 83 7 (gz_if (gz_j1 (fun x => decide (x = 0)) (gz_ib (fun x y => x &&& y) (gz_ib (fun x y => x >>> (y &&& 31)) (gz_li 5) (gz_li 6)) (gz_i (1)))) (gz_sat 83) (gz_seti 3 (gz_cs se_J9_max_7cf53 (gz_a1 (gz_a1 (gz_a0) (gz_li 3)) (gz_ald 100 (gz_get 1 11 1 (gz_la 0)) (gz_ib (fun x y => x + y) (gz_ib (fun x y => x * y) (gz_li 4) (gz_i (8))) (gz_li 6))))) (gz_sat 83))) (gz_inc 6 (1) (gz_sat 41)))
noncomputable def lb_X1_between_5 : gz_Sx := gz_if (gz_j2 (fun x y => decide (y ≤ x)) (gz_li 4) (gz_get 1 11 5 (gz_la 0))) (gz_sat 95) (gz_seti 5 (gz_te (gz_j1 (fun x => decide (¬ x = 0)) (gz_ib (fun x y => x &&& y) (gz_ib (fun x y => x >>> (y &&& 31)) (gz_li 1) (gz_li 4)) (gz_i (1)))) (gz_ib (fun x y => x &&& y) (gz_ald 100 (gz_get 1 11 3 (gz_la 0)) (gz_li 4)) (gz_li 2)) (gz_i (0))) (gz_seti 6 (gz_i (0)) (gz_seq 89 5 (gz_loop 41 7 lb_X1_between_41) (gz_inc 4 (1) (gz_sat 5)))))
noncomputable def sm_X1_between : gz_Sx := gz_seti 3 (gz_i (0)) (gz_seti 4 (gz_i (0)) (gz_seq 95 4 (gz_loop 5 5 lb_X1_between_5) (gz_ri (gz_li 3))))
noncomputable def se_X1_between : gz_Me := gz_sem (some .int) 7 sm_X1_between
abbrev rm_X1_between : Room := { frames := 1, cells := 0, slots := 0, locals := 21 }
abbrev M_X1_between : gz_Mi := (cX1_between, 7, RX1, 1, 21, "between", none)
theorem de_X1_between : yX1_between.cls ≠ "java/lang/invoke/MethodHandle" ∧ yX1_between.cls ≠ "java/lang/invoke/VarHandle" ∧ (parseMethodDescriptor yX1_between.desc).map (fun d => d.parameters.length) = some 2 := by decide +kernel
set_option maxRecDepth 100000 in
theorem mt_X1_between : gz_Mt yX1_between cX1_between 7 (some .int) rm_X1_between se_X1_between := by
  have q1 : gz_OkE M_X1_between 0 0 0 0 1 _ := ok_iconst (v := 0) dX1_between_0 kc_i0
  have q2 : gz_OkE M_X1_between 0 0 0 2 3 _ := ok_iconst (v := 0) dX1_between_2 kc_i0
  have q3 : gz_OkE M_X1_between 0 0 0 5 7 _ := ok_iload (i := 4) dX1_between_5
  have q4 : gz_OkE M_X1_between 1 0 0 7 8 _ := ok_aload_n (i := 0) dX1_between_7 rfl
  have q5 : gz_OkE M_X1_between 1 0 0 7 11 _ := ok_get q4 cl_1 (k := 5) (by decide) in_1 wd_20 dX1_between_8
  have q6 : gz_OkJ M_X1_between 0 0 0 5 95 14 _ := ok_ic_ge q3 q5 dX1_between_11 (by decide)
  have q7 : gz_OkS M_X1_between 0 0 95 _ := ok_at
  have q8 : gz_OkE M_X1_between 0 0 0 14 15 _ := ok_iload_n (i := 1) dX1_between_14 rfl
  have q9 : gz_OkE M_X1_between 1 0 0 15 17 _ := ok_iload (i := 4) dX1_between_15
  have q10 : gz_OkE M_X1_between 0 0 0 14 18 _ := ok_ishr q8 q9 dX1_between_17
  have q11 : gz_OkE M_X1_between 1 0 0 18 19 _ := ok_iconst (v := 1) dX1_between_18 kc_i1
  have q12 : gz_OkE M_X1_between 0 0 0 14 20 _ := ok_iand q10 q11 dX1_between_19
  have q13 : gz_OkJ M_X1_between 0 0 0 14 27 23 _ := ok_if_ne q12 dX1_between_20 (by decide)
  have q14 : gz_OkE M_X1_between 0 0 0 23 24 _ := ok_iconst (v := 0) dX1_between_23 kc_i0
  have q15 : gz_OkE M_X1_between 0 0 0 23 36 _ := ok_eg q14 dX1_between_24 (by decide)
  have q16 : gz_OkE M_X1_between 0 0 0 27 28 _ := ok_aload_n (i := 0) dX1_between_27 rfl
  have q17 : gz_OkE M_X1_between 0 0 0 27 31 _ := ok_get q16 cl_1 (k := 3) (by decide) in_1 wd_18 dX1_between_28
  have q18 : gz_OkE M_X1_between 1 0 0 31 33 _ := ok_iload (i := 4) dX1_between_31
  have q19 : gz_OkE M_X1_between 0 0 0 27 34 _ := ok_iald q17 q18 dX1_between_33
  have q20 : gz_OkE M_X1_between 1 0 0 34 35 _ := ok_iload_n (i := 2) dX1_between_34 rfl
  have q21 : gz_OkE M_X1_between 0 0 0 27 36 _ := ok_iand q19 q20 dX1_between_35
  have q22 : gz_OkE M_X1_between 0 0 0 14 36 _ := ok_te2 q13 q15 q21
  have q23 : gz_OkE M_X1_between 0 0 0 38 39 _ := ok_iconst (v := 0) dX1_between_38 kc_i0
  have q24 : gz_OkE M_X1_between 0 0 0 41 43 _ := ok_iload (i := 6) dX1_between_41
  have q25 : gz_OkE M_X1_between 1 0 0 43 44 _ := ok_aload_n (i := 0) dX1_between_43 rfl
  have q26 : gz_OkE M_X1_between 1 0 0 43 47 _ := ok_get q25 cl_1 (k := 5) (by decide) in_1 wd_20 dX1_between_44
  have q27 : gz_OkJ M_X1_between 0 0 0 41 89 50 _ := ok_ic_ge q24 q26 dX1_between_47 (by decide)
  have q28 : gz_OkE M_X1_between 0 0 0 50 52 _ := ok_iload (i := 5) dX1_between_50
  have q29 : gz_OkJ M_X1_between 0 0 0 50 89 55 _ := ok_if_eq q28 dX1_between_52 (by decide)
  have q30 : gz_OkJ M_X1_between 0 0 0 41 89 55 _ := ok_jo q27 q29
  have q31 : gz_OkS M_X1_between 0 0 89 _ := ok_at
  have q32 : gz_OkE M_X1_between 0 0 0 55 57 _ := ok_iload (i := 5) dX1_between_55
  have q33 : gz_OkE M_X1_between 1 0 0 57 59 _ := ok_iload (i := 6) dX1_between_57
  have q34 : gz_OkE M_X1_between 0 0 0 55 60 _ := ok_ishr q32 q33 dX1_between_59
  have q35 : gz_OkE M_X1_between 1 0 0 60 61 _ := ok_iconst (v := 1) dX1_between_60 kc_i1
  have q36 : gz_OkE M_X1_between 0 0 0 55 62 _ := ok_iand q34 q35 dX1_between_61
  have q37 : gz_OkJ M_X1_between 0 0 0 55 83 65 _ := ok_if_eq q36 dX1_between_62 (by decide)
  have q38 : gz_OkS M_X1_between 0 0 83 _ := ok_at
  have q39 : gz_OkA M_X1_between 0 0 0 65 65 0 _ := ok_a0
  have q40 : gz_OkE M_X1_between 0 0 0 65 66 _ := ok_iload_n (i := 3) dX1_between_65 rfl
  have q41 : gz_OkA M_X1_between 0 0 0 65 66 1 _ := ok_a1 q39 q40
  have q42 : gz_OkE M_X1_between 2 0 0 66 67 _ := ok_aload_n (i := 0) dX1_between_66 rfl
  have q43 : gz_OkE M_X1_between 2 0 0 66 70 _ := ok_get q42 cl_1 (k := 1) (by decide) in_1 wd_16 dX1_between_67
  have q44 : gz_OkE M_X1_between 3 0 0 70 72 _ := ok_iload (i := 4) dX1_between_70
  have q45 : gz_OkE M_X1_between 4 0 0 72 74 _ := ok_bipush (v := 8) dX1_between_72 kc_b8
  have q46 : gz_OkE M_X1_between 3 0 0 70 75 _ := ok_imul q44 q45 dX1_between_74
  have q47 : gz_OkE M_X1_between 4 0 0 75 77 _ := ok_iload (i := 6) dX1_between_75
  have q48 : gz_OkE M_X1_between 3 0 0 70 78 _ := ok_iadd q46 q47 dX1_between_77
  have q49 : gz_OkE M_X1_between 2 0 0 66 79 _ := ok_iald q43 q48 dX1_between_78
  have q50 : gz_OkA M_X1_between 0 0 0 65 79 2 _ := ok_a1 q41 q49
  have q51 : gz_OkE M_X1_between 0 0 0 65 82 _ := ok_cs q50 mt_J9_max_7cf53 wd_418 wd_411 de_J9_max_7cf53 (by decide) (by decide) wd_466 wd_420 dX1_between_79 (by decide)
  have q52 : gz_OkS M_X1_between 0 0 83 _ := ok_at
  have q53 : gz_OkS M_X1_between 0 0 65 _ := ok_seti_n (k := 3) q51 dX1_between_82 rfl (by decide) q52
  have q54 : gz_OkS M_X1_between 0 0 55 _ := ok_if q37 q38 q53
  have q55 : gz_OkS M_X1_between 0 0 86 (gz_sat 41) := ok_goto dX1_between_86 (by decide)
  have q56 : gz_OkS M_X1_between 0 0 83 _ := ok_inc (v := 1) dX1_between_83 kc_i1 (by decide) q55
  have q57 : gz_OkS M_X1_between 0 0 55 _ := ok_seq (L := 83) (k := 7) q54 q56
  have q58 : gz_OkS M_X1_between 0 0 41 _ := ok_if q30 q31 q57
  have q59 : gz_OkS M_X1_between 0 0 41 lb_X1_between_41 := q58
  have q60 : gz_OkS M_X1_between 0 0 41 _ := ok_loop (k := 7) q59 rfl rfl
  have q61 : gz_OkS M_X1_between 0 0 92 (gz_sat 5) := ok_goto dX1_between_92 (by decide)
  have q62 : gz_OkS M_X1_between 0 0 89 _ := ok_inc (v := 1) dX1_between_89 kc_i1 (by decide) q61
  have q63 : gz_OkS M_X1_between 0 0 41 _ := ok_seq (L := 89) (k := 5) q60 q62
  have q64 : gz_OkS M_X1_between 0 0 38 _ := ok_seti (k := 6) q23 dX1_between_39 (by decide) q63
  have q65 : gz_OkS M_X1_between 0 0 14 _ := ok_seti (k := 5) q22 dX1_between_36 (by decide) q64
  have q66 : gz_OkS M_X1_between 0 0 5 _ := ok_if q6 q7 q65
  have q67 : gz_OkS M_X1_between 0 0 5 lb_X1_between_5 := q66
  have q68 : gz_OkS M_X1_between 0 0 5 _ := ok_loop (k := 5) q67 rfl rfl
  have q69 : gz_OkE M_X1_between 0 0 0 95 96 _ := ok_iload_n (i := 3) dX1_between_95 rfl
  have q70 : gz_OkS M_X1_between 0 0 95 _ := ok_ri q69 dX1_between_96
  have q71 : gz_OkS M_X1_between 0 0 5 _ := ok_seq (L := 95) (k := 4) q68 q70
  have q72 : gz_OkS M_X1_between 0 0 2 _ := ok_seti (k := 4) q2 dX1_between_3 (by decide) q71
  have q73 : gz_OkS M_X1_between 0 0 0 _ := ok_seti_n (k := 3) q1 dX1_between_1 rfl (by decide) q72
  have z : gz_OkS M_X1_between 0 0 0 sm_X1_between := q73
  exact gz_met (plainFor_of_name (by decide)) z (by decide) (by decide)
noncomputable def lb_X1_measureBetweens_2 : gz_Sx := gz_if (gz_j2 (fun x y => decide (y ≤ x)) (gz_li 2) (gz_get 2 9 2 (gz_la 1))) (gz_sat 57) (gz_seti 3 (gz_ald 100 (gz_get 2 9 4 (gz_la 1)) (gz_li 2)) (gz_seti 4 (gz_ald 100 (gz_get 2 9 4 (gz_la 1)) (gz_cv 2 9 se_X2_behind (gz_a1 (gz_a1 (gz_a0) (gz_la 1)) (gz_li 2)))) (gz_ast 100 (gz_get 2 9 6 (gz_la 1)) (gz_li 2) (gz_cv 1 11 se_X1_between (gz_a1 (gz_a1 (gz_a1 (gz_a0) (gz_la 0)) (gz_ib (fun x y => x &&& y) (gz_li 3) (gz_ib (fun x y => x ^^^ y) (gz_li 4) (gz_i (-1))))) (gz_ib (fun x y => x &&& y) (gz_li 4) (gz_ib (fun x y => x ^^^ y) (gz_li 3) (gz_i (-1)))))) (gz_inc 2 (1) (gz_sat 2)))))
noncomputable def sm_X1_measureBetweens : gz_Sx := gz_seti 2 (gz_i (0)) (gz_seq 57 0 (gz_loop 2 3 lb_X1_measureBetweens_2) (gz_rv))
noncomputable def se_X1_measureBetweens : gz_Me := gz_sem none 5 sm_X1_measureBetweens
abbrev rm_X1_measureBetweens : Room := { frames := 2, cells := 0, slots := 0, locals := 47 }
abbrev M_X1_measureBetweens : gz_Mi := (cX1_measureBetweens, 5, RX1, 2, 47, "measureBetweens", none)
theorem de_X1_measureBetweens : yX1_measureBetweens.cls ≠ "java/lang/invoke/MethodHandle" ∧ yX1_measureBetweens.cls ≠ "java/lang/invoke/VarHandle" ∧ (parseMethodDescriptor yX1_measureBetweens.desc).map (fun d => d.parameters.length) = some 1 := by decide +kernel
set_option maxRecDepth 100000 in
theorem mt_X1_measureBetweens : gz_Mt yX1_measureBetweens cX1_measureBetweens 5 none rm_X1_measureBetweens se_X1_measureBetweens := by
  have q1 : gz_OkE M_X1_measureBetweens 0 0 0 0 1 _ := ok_iconst (v := 0) dX1_measureBetweens_0 kc_i0
  have q2 : gz_OkE M_X1_measureBetweens 0 0 0 2 3 _ := ok_iload_n (i := 2) dX1_measureBetweens_2 rfl
  have q3 : gz_OkE M_X1_measureBetweens 1 0 0 3 4 _ := ok_aload_n (i := 1) dX1_measureBetweens_3 rfl
  have q4 : gz_OkE M_X1_measureBetweens 1 0 0 3 7 _ := ok_get q3 cl_2 (k := 2) (by decide) in_2 wd_24 dX1_measureBetweens_4
  have q5 : gz_OkJ M_X1_measureBetweens 0 0 0 2 57 10 _ := ok_ic_ge q2 q4 dX1_measureBetweens_7 (by decide)
  have q6 : gz_OkS M_X1_measureBetweens 0 0 57 _ := ok_at
  have q7 : gz_OkE M_X1_measureBetweens 0 0 0 10 11 _ := ok_aload_n (i := 1) dX1_measureBetweens_10 rfl
  have q8 : gz_OkE M_X1_measureBetweens 0 0 0 10 14 _ := ok_get q7 cl_2 (k := 4) (by decide) in_2 wd_25 dX1_measureBetweens_11
  have q9 : gz_OkE M_X1_measureBetweens 1 0 0 14 15 _ := ok_iload_n (i := 2) dX1_measureBetweens_14 rfl
  have q10 : gz_OkE M_X1_measureBetweens 0 0 0 10 16 _ := ok_iald q8 q9 dX1_measureBetweens_15
  have q11 : gz_OkE M_X1_measureBetweens 0 0 0 17 18 _ := ok_aload_n (i := 1) dX1_measureBetweens_17 rfl
  have q12 : gz_OkE M_X1_measureBetweens 0 0 0 17 21 _ := ok_get q11 cl_2 (k := 4) (by decide) in_2 wd_25 dX1_measureBetweens_18
  have q13 : gz_OkA M_X1_measureBetweens 1 0 0 21 21 0 _ := ok_a0
  have q14 : gz_OkE M_X1_measureBetweens 1 0 0 21 22 _ := ok_aload_n (i := 1) dX1_measureBetweens_21 rfl
  have q15 : gz_OkA M_X1_measureBetweens 1 0 0 21 22 1 _ := ok_a1 q13 q14
  have q16 : gz_OkE M_X1_measureBetweens 3 0 0 22 23 _ := ok_iload_n (i := 2) dX1_measureBetweens_22 rfl
  have q17 : gz_OkA M_X1_measureBetweens 1 0 0 21 23 2 _ := ok_a1 q15 q16
  have q18 : gz_OkE M_X1_measureBetweens 1 0 0 21 26 _ := ok_cv q17 mt_X2_behind cl_2 wd_467 wd_406 de_X2_behind (by decide) (by decide) wd_468 wd_469 wd_470 dX1_measureBetweens_23 (by decide)
  have q19 : gz_OkE M_X1_measureBetweens 0 0 0 17 27 _ := ok_iald q12 q18 dX1_measureBetweens_26
  have q20 : gz_OkE M_X1_measureBetweens 0 0 0 29 30 _ := ok_aload_n (i := 1) dX1_measureBetweens_29 rfl
  have q21 : gz_OkE M_X1_measureBetweens 0 0 0 29 33 _ := ok_get q20 cl_2 (k := 6) (by decide) in_2 wd_26 dX1_measureBetweens_30
  have q22 : gz_OkE M_X1_measureBetweens 1 0 0 33 34 _ := ok_iload_n (i := 2) dX1_measureBetweens_33 rfl
  have q23 : gz_OkA M_X1_measureBetweens 2 0 0 34 34 0 _ := ok_a0
  have q24 : gz_OkE M_X1_measureBetweens 2 0 0 34 35 _ := ok_aload_n (i := 0) dX1_measureBetweens_34 rfl
  have q25 : gz_OkA M_X1_measureBetweens 2 0 0 34 35 1 _ := ok_a1 q23 q24
  have q26 : gz_OkE M_X1_measureBetweens 4 0 0 35 36 _ := ok_iload_n (i := 3) dX1_measureBetweens_35 rfl
  have q27 : gz_OkE M_X1_measureBetweens 5 0 0 36 38 _ := ok_iload (i := 4) dX1_measureBetweens_36
  have q28 : gz_OkE M_X1_measureBetweens 6 0 0 38 39 _ := ok_iconst (v := -1) dX1_measureBetweens_38 kc_im1
  have q29 : gz_OkE M_X1_measureBetweens 5 0 0 36 40 _ := ok_ixor q27 q28 dX1_measureBetweens_39
  have q30 : gz_OkE M_X1_measureBetweens 4 0 0 35 41 _ := ok_iand q26 q29 dX1_measureBetweens_40
  have q31 : gz_OkA M_X1_measureBetweens 2 0 0 34 41 2 _ := ok_a1 q25 q30
  have q32 : gz_OkE M_X1_measureBetweens 6 0 0 41 43 _ := ok_iload (i := 4) dX1_measureBetweens_41
  have q33 : gz_OkE M_X1_measureBetweens 7 0 0 43 44 _ := ok_iload_n (i := 3) dX1_measureBetweens_43 rfl
  have q34 : gz_OkE M_X1_measureBetweens 8 0 0 44 45 _ := ok_iconst (v := -1) dX1_measureBetweens_44 kc_im1
  have q35 : gz_OkE M_X1_measureBetweens 7 0 0 43 46 _ := ok_ixor q33 q34 dX1_measureBetweens_45
  have q36 : gz_OkE M_X1_measureBetweens 6 0 0 41 47 _ := ok_iand q32 q35 dX1_measureBetweens_46
  have q37 : gz_OkA M_X1_measureBetweens 2 0 0 34 47 3 _ := ok_a1 q31 q36
  have q38 : gz_OkE M_X1_measureBetweens 2 0 0 34 50 _ := ok_cv q37 mt_X1_between cl_1 wd_471 wd_458 de_X1_between (by decide) (by decide) wd_472 wd_473 wd_474 dX1_measureBetweens_47 (by decide)
  have q39 : gz_OkS M_X1_measureBetweens 0 0 54 (gz_sat 2) := ok_goto dX1_measureBetweens_54 (by decide)
  have q40 : gz_OkS M_X1_measureBetweens 0 0 51 _ := ok_inc (v := 1) dX1_measureBetweens_51 kc_i1 (by decide) q39
  have q41 : gz_OkS M_X1_measureBetweens 0 0 29 _ := ok_iast q21 q22 q38 dX1_measureBetweens_50 q40
  have q42 : gz_OkS M_X1_measureBetweens 0 0 17 _ := ok_seti (k := 4) q19 dX1_measureBetweens_27 (by decide) q41
  have q43 : gz_OkS M_X1_measureBetweens 0 0 10 _ := ok_seti_n (k := 3) q10 dX1_measureBetweens_16 rfl (by decide) q42
  have q44 : gz_OkS M_X1_measureBetweens 0 0 2 _ := ok_if q5 q6 q43
  have q45 : gz_OkS M_X1_measureBetweens 0 0 2 lb_X1_measureBetweens_2 := q44
  have q46 : gz_OkS M_X1_measureBetweens 0 0 2 _ := ok_loop (k := 3) q45 rfl rfl
  have q47 : gz_OkS M_X1_measureBetweens 0 0 57 _ := ok_rv dX1_measureBetweens_57
  have q48 : gz_OkS M_X1_measureBetweens 0 0 2 _ := ok_seq (L := 57) (k := 0) q46 q47
  have q49 : gz_OkS M_X1_measureBetweens 0 0 0 _ := ok_seti_n (k := 2) q1 dX1_measureBetweens_1 rfl (by decide) q48
  have z : gz_OkS M_X1_measureBetweens 0 0 0 sm_X1_measureBetweens := q49
  exact gz_met (plainFor_of_name (by decide)) z (by decide) (by decide)
noncomputable def lb_X1_endsTooSoon_6 : gz_Sx := gz_if (gz_j2 (fun x y => decide (y ≤ x)) (gz_li 5) (gz_get 3 14 3 (gz_ald 103 (gz_get 1 11 0 (gz_la 0)) (gz_li 2)))) (gz_sat 63) (gz_if (gz_j1 (fun x => decide (¬ x = 0)) (gz_ib (fun x y => x &&& y) (gz_ib (fun x y => x >>> (y &&& 31)) (gz_ald 100 (gz_get 2 9 8 (gz_la 1)) (gz_li 4)) (gz_li 2)) (gz_i (1)))) (gz_seti 4 (gz_te (gz_j2 (fun x y => decide (y ≤ x)) (gz_ib (fun x y => x + y) (gz_li 4) (gz_i (1))) (gz_get 2 9 0 (gz_la 1))) (gz_i (0)) (gz_ib (fun x y => x + y) (gz_li 4) (gz_i (1)))) (gz_inc 5 (1) (gz_sat 6))) (gz_ri (gz_i (1))))
noncomputable def sm_X1_endsTooSoon : gz_Sx := gz_seti 4 (gz_li 3) (gz_seti 5 (gz_i (0)) (gz_seq 63 0 (gz_loop 6 6 lb_X1_endsTooSoon_6) (gz_ri (gz_i (0)))))
noncomputable def se_X1_endsTooSoon : gz_Me := gz_sem (some .boolean) 6 sm_X1_endsTooSoon
abbrev rm_X1_endsTooSoon : Room := { frames := 0, cells := 0, slots := 0, locals := 0 }
abbrev M_X1_endsTooSoon : gz_Mi := (cX1_endsTooSoon, 6, RX1, 0, 0, "endsTooSoon", none)
theorem de_X1_endsTooSoon : yX1_endsTooSoon.cls ≠ "java/lang/invoke/MethodHandle" ∧ yX1_endsTooSoon.cls ≠ "java/lang/invoke/VarHandle" ∧ (parseMethodDescriptor yX1_endsTooSoon.desc).map (fun d => d.parameters.length) = some 3 := by decide +kernel
set_option maxRecDepth 100000 in
theorem mt_X1_endsTooSoon : gz_Mt yX1_endsTooSoon cX1_endsTooSoon 6 (some .boolean) rm_X1_endsTooSoon se_X1_endsTooSoon := by
  have q1 : gz_OkE M_X1_endsTooSoon 0 0 0 0 1 _ := ok_iload_n (i := 3) dX1_endsTooSoon_0 rfl
  have q2 : gz_OkE M_X1_endsTooSoon 0 0 0 3 4 _ := ok_iconst (v := 0) dX1_endsTooSoon_3 kc_i0
  have q3 : gz_OkE M_X1_endsTooSoon 0 0 0 6 8 _ := ok_iload (i := 5) dX1_endsTooSoon_6
  have q4 : gz_OkE M_X1_endsTooSoon 1 0 0 8 9 _ := ok_aload_n (i := 0) dX1_endsTooSoon_8 rfl
  have q5 : gz_OkE M_X1_endsTooSoon 1 0 0 8 12 _ := ok_get q4 cl_1 (k := 0) (by decide) in_1 wd_15 dX1_endsTooSoon_9
  have q6 : gz_OkE M_X1_endsTooSoon 2 0 0 12 13 _ := ok_iload_n (i := 2) dX1_endsTooSoon_12 rfl
  have q7 : gz_OkE M_X1_endsTooSoon 1 0 0 8 14 _ := ok_aald103 q5 q6 dX1_endsTooSoon_13
  have q8 : gz_OkE M_X1_endsTooSoon 1 0 0 8 17 _ := ok_get q7 cl_3 (k := 3) (by decide) in_3 wd_29 dX1_endsTooSoon_14
  have q9 : gz_OkJ M_X1_endsTooSoon 0 0 0 6 63 20 _ := ok_ic_ge q3 q8 dX1_endsTooSoon_17 (by decide)
  have q10 : gz_OkS M_X1_endsTooSoon 0 0 63 _ := ok_at
  have q11 : gz_OkE M_X1_endsTooSoon 0 0 0 20 21 _ := ok_aload_n (i := 1) dX1_endsTooSoon_20 rfl
  have q12 : gz_OkE M_X1_endsTooSoon 0 0 0 20 24 _ := ok_get q11 cl_2 (k := 8) (by decide) in_2 wd_27 dX1_endsTooSoon_21
  have q13 : gz_OkE M_X1_endsTooSoon 1 0 0 24 26 _ := ok_iload (i := 4) dX1_endsTooSoon_24
  have q14 : gz_OkE M_X1_endsTooSoon 0 0 0 20 27 _ := ok_iald q12 q13 dX1_endsTooSoon_26
  have q15 : gz_OkE M_X1_endsTooSoon 1 0 0 27 28 _ := ok_iload_n (i := 2) dX1_endsTooSoon_27 rfl
  have q16 : gz_OkE M_X1_endsTooSoon 0 0 0 20 29 _ := ok_ishr q14 q15 dX1_endsTooSoon_28
  have q17 : gz_OkE M_X1_endsTooSoon 1 0 0 29 30 _ := ok_iconst (v := 1) dX1_endsTooSoon_29 kc_i1
  have q18 : gz_OkE M_X1_endsTooSoon 0 0 0 20 31 _ := ok_iand q16 q17 dX1_endsTooSoon_30
  have q19 : gz_OkJ M_X1_endsTooSoon 0 0 0 20 36 34 _ := ok_if_ne q18 dX1_endsTooSoon_31 (by decide)
  have q20 : gz_OkE M_X1_endsTooSoon 0 0 0 36 38 _ := ok_iload (i := 4) dX1_endsTooSoon_36
  have q21 : gz_OkE M_X1_endsTooSoon 1 0 0 38 39 _ := ok_iconst (v := 1) dX1_endsTooSoon_38 kc_i1
  have q22 : gz_OkE M_X1_endsTooSoon 0 0 0 36 40 _ := ok_iadd q20 q21 dX1_endsTooSoon_39
  have q23 : gz_OkE M_X1_endsTooSoon 1 0 0 40 41 _ := ok_aload_n (i := 1) dX1_endsTooSoon_40 rfl
  have q24 : gz_OkE M_X1_endsTooSoon 1 0 0 40 44 _ := ok_get q23 cl_2 (k := 0) (by decide) in_2 wd_28 dX1_endsTooSoon_41
  have q25 : gz_OkJ M_X1_endsTooSoon 0 0 0 36 54 47 _ := ok_ic_ge q22 q24 dX1_endsTooSoon_44 (by decide)
  have q26 : gz_OkE M_X1_endsTooSoon 0 0 0 47 49 _ := ok_iload (i := 4) dX1_endsTooSoon_47
  have q27 : gz_OkE M_X1_endsTooSoon 1 0 0 49 50 _ := ok_iconst (v := 1) dX1_endsTooSoon_49 kc_i1
  have q28 : gz_OkE M_X1_endsTooSoon 0 0 0 47 51 _ := ok_iadd q26 q27 dX1_endsTooSoon_50
  have q29 : gz_OkE M_X1_endsTooSoon 0 0 0 47 55 _ := ok_eg q28 dX1_endsTooSoon_51 (by decide)
  have q30 : gz_OkE M_X1_endsTooSoon 0 0 0 54 55 _ := ok_iconst (v := 0) dX1_endsTooSoon_54 kc_i0
  have q31 : gz_OkE M_X1_endsTooSoon 0 0 0 36 55 _ := ok_te2 q25 q29 q30
  have q32 : gz_OkS M_X1_endsTooSoon 0 0 60 (gz_sat 6) := ok_goto dX1_endsTooSoon_60 (by decide)
  have q33 : gz_OkS M_X1_endsTooSoon 0 0 57 _ := ok_inc (v := 1) dX1_endsTooSoon_57 kc_i1 (by decide) q32
  have q34 : gz_OkS M_X1_endsTooSoon 0 0 36 _ := ok_seti (k := 4) q31 dX1_endsTooSoon_55 (by decide) q33
  have q35 : gz_OkE M_X1_endsTooSoon 0 0 0 34 35 _ := ok_iconst (v := 1) dX1_endsTooSoon_34 kc_i1
  have q36 : gz_OkS M_X1_endsTooSoon 0 0 34 _ := ok_ri q35 dX1_endsTooSoon_35
  have q37 : gz_OkS M_X1_endsTooSoon 0 0 20 _ := ok_if q19 q34 q36
  have q38 : gz_OkS M_X1_endsTooSoon 0 0 6 _ := ok_if q9 q10 q37
  have q39 : gz_OkS M_X1_endsTooSoon 0 0 6 lb_X1_endsTooSoon_6 := q38
  have q40 : gz_OkS M_X1_endsTooSoon 0 0 6 _ := ok_loop (k := 6) q39 rfl rfl
  have q41 : gz_OkE M_X1_endsTooSoon 0 0 0 63 64 _ := ok_iconst (v := 0) dX1_endsTooSoon_63 kc_i0
  have q42 : gz_OkS M_X1_endsTooSoon 0 0 63 _ := ok_ri q41 dX1_endsTooSoon_64
  have q43 : gz_OkS M_X1_endsTooSoon 0 0 6 _ := ok_seq (L := 63) (k := 0) q40 q42
  have q44 : gz_OkS M_X1_endsTooSoon 0 0 3 _ := ok_seti (k := 5) q2 dX1_endsTooSoon_4 (by decide) q43
  have q45 : gz_OkS M_X1_endsTooSoon 0 0 0 _ := ok_seti (k := 4) q1 dX1_endsTooSoon_1 (by decide) q44
  have z : gz_OkS M_X1_endsTooSoon 0 0 0 sm_X1_endsTooSoon := q45
  exact gz_met (plainFor_of_name (by decide)) z (by decide) (by decide)
noncomputable def lb_X1_firstShortGreen_37 : gz_Sx := gz_if (gz_jo (gz_j2 (fun x y => decide (y ≤ x)) (gz_li 5) (gz_get 1 11 5 (gz_la 0))) (gz_j1 (fun x => decide (x = 0)) (gz_li 4))) (gz_sat 81) (gz_if (gz_jo (gz_j1 (fun x => decide (x = 0)) (gz_ib (fun x y => x &&& y) (gz_ib (fun x y => x >>> (y &&& 31)) (gz_li 4) (gz_li 5)) (gz_i (1)))) (gz_j1 (fun x => decide (x = 0)) (gz_cv 1 11 se_X1_endsTooSoon (gz_a1 (gz_a1 (gz_a1 (gz_a1 (gz_a0) (gz_la 0)) (gz_la 1)) (gz_li 5)) (gz_li 2))))) (gz_inc 5 (1) (gz_sat 37)) (gz_ri (gz_li 5)))
noncomputable def sm_X1_firstShortGreen : gz_Sx := gz_seti 3 (gz_ald 100 (gz_get 2 9 8 (gz_la 1)) (gz_te (gz_j1 (fun x => decide (¬ x = 0)) (gz_li 2)) (gz_ib (fun x y => x - y) (gz_li 2) (gz_i (1))) (gz_ib (fun x y => x - y) (gz_get 2 9 0 (gz_la 1)) (gz_i (1))))) (gz_seti 4 (gz_ib (fun x y => x &&& y) (gz_ald 100 (gz_get 2 9 8 (gz_la 1)) (gz_li 2)) (gz_ib (fun x y => x ^^^ y) (gz_li 3) (gz_i (-1)))) (gz_seti 5 (gz_i (0)) (gz_seq 81 0 (gz_loop 37 6 lb_X1_firstShortGreen_37) (gz_ri (gz_i (-1))))))
noncomputable def se_X1_firstShortGreen : gz_Me := gz_sem (some .int) 6 sm_X1_firstShortGreen
abbrev rm_X1_firstShortGreen : Room := { frames := 1, cells := 0, slots := 0, locals := 25 }
abbrev M_X1_firstShortGreen : gz_Mi := (cX1_firstShortGreen, 6, RX1, 1, 25, "firstShortGreen", none)
theorem de_X1_firstShortGreen : yX1_firstShortGreen.cls ≠ "java/lang/invoke/MethodHandle" ∧ yX1_firstShortGreen.cls ≠ "java/lang/invoke/VarHandle" ∧ (parseMethodDescriptor yX1_firstShortGreen.desc).map (fun d => d.parameters.length) = some 2 := by decide +kernel
set_option maxRecDepth 100000 in
theorem mt_X1_firstShortGreen : gz_Mt yX1_firstShortGreen cX1_firstShortGreen 6 (some .int) rm_X1_firstShortGreen se_X1_firstShortGreen := by
  have q1 : gz_OkE M_X1_firstShortGreen 0 0 0 0 1 _ := ok_aload_n (i := 1) dX1_firstShortGreen_0 rfl
  have q2 : gz_OkE M_X1_firstShortGreen 0 0 0 0 4 _ := ok_get q1 cl_2 (k := 8) (by decide) in_2 wd_27 dX1_firstShortGreen_1
  have q3 : gz_OkE M_X1_firstShortGreen 1 0 0 4 5 _ := ok_iload_n (i := 2) dX1_firstShortGreen_4 rfl
  have q4 : gz_OkJ M_X1_firstShortGreen 1 0 0 4 17 8 _ := ok_if_ne q3 dX1_firstShortGreen_5 (by decide)
  have q5 : gz_OkE M_X1_firstShortGreen 1 0 0 8 9 _ := ok_aload_n (i := 1) dX1_firstShortGreen_8 rfl
  have q6 : gz_OkE M_X1_firstShortGreen 1 0 0 8 12 _ := ok_get q5 cl_2 (k := 0) (by decide) in_2 wd_28 dX1_firstShortGreen_9
  have q7 : gz_OkE M_X1_firstShortGreen 2 0 0 12 13 _ := ok_iconst (v := 1) dX1_firstShortGreen_12 kc_i1
  have q8 : gz_OkE M_X1_firstShortGreen 1 0 0 8 14 _ := ok_isub q6 q7 dX1_firstShortGreen_13
  have q9 : gz_OkE M_X1_firstShortGreen 1 0 0 8 20 _ := ok_eg q8 dX1_firstShortGreen_14 (by decide)
  have q10 : gz_OkE M_X1_firstShortGreen 1 0 0 17 18 _ := ok_iload_n (i := 2) dX1_firstShortGreen_17 rfl
  have q11 : gz_OkE M_X1_firstShortGreen 2 0 0 18 19 _ := ok_iconst (v := 1) dX1_firstShortGreen_18 kc_i1
  have q12 : gz_OkE M_X1_firstShortGreen 1 0 0 17 20 _ := ok_isub q10 q11 dX1_firstShortGreen_19
  have q13 : gz_OkE M_X1_firstShortGreen 1 0 0 4 20 _ := ok_te2 q4 q9 q12
  have q14 : gz_OkE M_X1_firstShortGreen 0 0 0 0 21 _ := ok_iald q2 q13 dX1_firstShortGreen_20
  have q15 : gz_OkE M_X1_firstShortGreen 0 0 0 22 23 _ := ok_aload_n (i := 1) dX1_firstShortGreen_22 rfl
  have q16 : gz_OkE M_X1_firstShortGreen 0 0 0 22 26 _ := ok_get q15 cl_2 (k := 8) (by decide) in_2 wd_27 dX1_firstShortGreen_23
  have q17 : gz_OkE M_X1_firstShortGreen 1 0 0 26 27 _ := ok_iload_n (i := 2) dX1_firstShortGreen_26 rfl
  have q18 : gz_OkE M_X1_firstShortGreen 0 0 0 22 28 _ := ok_iald q16 q17 dX1_firstShortGreen_27
  have q19 : gz_OkE M_X1_firstShortGreen 1 0 0 28 29 _ := ok_iload_n (i := 3) dX1_firstShortGreen_28 rfl
  have q20 : gz_OkE M_X1_firstShortGreen 2 0 0 29 30 _ := ok_iconst (v := -1) dX1_firstShortGreen_29 kc_im1
  have q21 : gz_OkE M_X1_firstShortGreen 1 0 0 28 31 _ := ok_ixor q19 q20 dX1_firstShortGreen_30
  have q22 : gz_OkE M_X1_firstShortGreen 0 0 0 22 32 _ := ok_iand q18 q21 dX1_firstShortGreen_31
  have q23 : gz_OkE M_X1_firstShortGreen 0 0 0 34 35 _ := ok_iconst (v := 0) dX1_firstShortGreen_34 kc_i0
  have q24 : gz_OkE M_X1_firstShortGreen 0 0 0 37 39 _ := ok_iload (i := 5) dX1_firstShortGreen_37
  have q25 : gz_OkE M_X1_firstShortGreen 1 0 0 39 40 _ := ok_aload_n (i := 0) dX1_firstShortGreen_39 rfl
  have q26 : gz_OkE M_X1_firstShortGreen 1 0 0 39 43 _ := ok_get q25 cl_1 (k := 5) (by decide) in_1 wd_20 dX1_firstShortGreen_40
  have q27 : gz_OkJ M_X1_firstShortGreen 0 0 0 37 81 46 _ := ok_ic_ge q24 q26 dX1_firstShortGreen_43 (by decide)
  have q28 : gz_OkE M_X1_firstShortGreen 0 0 0 46 48 _ := ok_iload (i := 4) dX1_firstShortGreen_46
  have q29 : gz_OkJ M_X1_firstShortGreen 0 0 0 46 81 51 _ := ok_if_eq q28 dX1_firstShortGreen_48 (by decide)
  have q30 : gz_OkJ M_X1_firstShortGreen 0 0 0 37 81 51 _ := ok_jo q27 q29
  have q31 : gz_OkS M_X1_firstShortGreen 0 0 81 _ := ok_at
  have q32 : gz_OkE M_X1_firstShortGreen 0 0 0 51 53 _ := ok_iload (i := 4) dX1_firstShortGreen_51
  have q33 : gz_OkE M_X1_firstShortGreen 1 0 0 53 55 _ := ok_iload (i := 5) dX1_firstShortGreen_53
  have q34 : gz_OkE M_X1_firstShortGreen 0 0 0 51 56 _ := ok_ishr q32 q33 dX1_firstShortGreen_55
  have q35 : gz_OkE M_X1_firstShortGreen 1 0 0 56 57 _ := ok_iconst (v := 1) dX1_firstShortGreen_56 kc_i1
  have q36 : gz_OkE M_X1_firstShortGreen 0 0 0 51 58 _ := ok_iand q34 q35 dX1_firstShortGreen_57
  have q37 : gz_OkJ M_X1_firstShortGreen 0 0 0 51 75 61 _ := ok_if_eq q36 dX1_firstShortGreen_58 (by decide)
  have q38 : gz_OkA M_X1_firstShortGreen 0 0 0 61 61 0 _ := ok_a0
  have q39 : gz_OkE M_X1_firstShortGreen 0 0 0 61 62 _ := ok_aload_n (i := 0) dX1_firstShortGreen_61 rfl
  have q40 : gz_OkA M_X1_firstShortGreen 0 0 0 61 62 1 _ := ok_a1 q38 q39
  have q41 : gz_OkE M_X1_firstShortGreen 2 0 0 62 63 _ := ok_aload_n (i := 1) dX1_firstShortGreen_62 rfl
  have q42 : gz_OkA M_X1_firstShortGreen 0 0 0 61 63 2 _ := ok_a1 q40 q41
  have q43 : gz_OkE M_X1_firstShortGreen 4 0 0 63 65 _ := ok_iload (i := 5) dX1_firstShortGreen_63
  have q44 : gz_OkA M_X1_firstShortGreen 0 0 0 61 65 3 _ := ok_a1 q42 q43
  have q45 : gz_OkE M_X1_firstShortGreen 6 0 0 65 66 _ := ok_iload_n (i := 2) dX1_firstShortGreen_65 rfl
  have q46 : gz_OkA M_X1_firstShortGreen 0 0 0 61 66 4 _ := ok_a1 q44 q45
  have q47 : gz_OkE M_X1_firstShortGreen 0 0 0 61 69 _ := ok_cv q46 mt_X1_endsTooSoon cl_1 wd_475 wd_458 de_X1_endsTooSoon (by decide) (by decide) wd_476 wd_477 wd_478 dX1_firstShortGreen_66 (by decide)
  have q48 : gz_OkJ M_X1_firstShortGreen 0 0 0 61 75 72 _ := ok_if_eq q47 dX1_firstShortGreen_69 (by decide)
  have q49 : gz_OkJ M_X1_firstShortGreen 0 0 0 51 75 72 _ := ok_jo q37 q48
  have q50 : gz_OkS M_X1_firstShortGreen 0 0 78 (gz_sat 37) := ok_goto dX1_firstShortGreen_78 (by decide)
  have q51 : gz_OkS M_X1_firstShortGreen 0 0 75 _ := ok_inc (v := 1) dX1_firstShortGreen_75 kc_i1 (by decide) q50
  have q52 : gz_OkE M_X1_firstShortGreen 0 0 0 72 74 _ := ok_iload (i := 5) dX1_firstShortGreen_72
  have q53 : gz_OkS M_X1_firstShortGreen 0 0 72 _ := ok_ri q52 dX1_firstShortGreen_74
  have q54 : gz_OkS M_X1_firstShortGreen 0 0 51 _ := ok_if q49 q51 q53
  have q55 : gz_OkS M_X1_firstShortGreen 0 0 37 _ := ok_if q30 q31 q54
  have q56 : gz_OkS M_X1_firstShortGreen 0 0 37 lb_X1_firstShortGreen_37 := q55
  have q57 : gz_OkS M_X1_firstShortGreen 0 0 37 _ := ok_loop (k := 6) q56 rfl rfl
  have q58 : gz_OkE M_X1_firstShortGreen 0 0 0 81 82 _ := ok_iconst (v := -1) dX1_firstShortGreen_81 kc_im1
  have q59 : gz_OkS M_X1_firstShortGreen 0 0 81 _ := ok_ri q58 dX1_firstShortGreen_82
  have q60 : gz_OkS M_X1_firstShortGreen 0 0 37 _ := ok_seq (L := 81) (k := 0) q57 q59
  have q61 : gz_OkS M_X1_firstShortGreen 0 0 34 _ := ok_seti (k := 5) q23 dX1_firstShortGreen_35 (by decide) q60
  have q62 : gz_OkS M_X1_firstShortGreen 0 0 22 _ := ok_seti (k := 4) q22 dX1_firstShortGreen_32 (by decide) q61
  have q63 : gz_OkS M_X1_firstShortGreen 0 0 0 _ := ok_seti_n (k := 3) q14 dX1_firstShortGreen_21 rfl (by decide) q62
  have z : gz_OkS M_X1_firstShortGreen 0 0 0 sm_X1_firstShortGreen := q63
  exact gz_met (plainFor_of_name (by decide)) z (by decide) (by decide)
noncomputable def sm_X1_clear : gz_Sx := gz_seq 12 0 (gz_if (gz_j1 (fun x => decide (x ≤ 0)) (gz_li 1)) (gz_sat 12) (gz_put 1 11 9 .int (gz_la 0) (gz_ib (fun x y => x + y) (gz_li 1) (gz_i (20))) (gz_sat 12))) (gz_rv)
noncomputable def se_X1_clear : gz_Me := gz_sem none 2 sm_X1_clear
abbrev rm_X1_clear : Room := { frames := 0, cells := 0, slots := 0, locals := 0 }
abbrev M_X1_clear : gz_Mi := (cX1_clear, 2, RX1, 0, 0, "clear", none)
theorem de_X1_clear : yX1_clear.cls ≠ "java/lang/invoke/MethodHandle" ∧ yX1_clear.cls ≠ "java/lang/invoke/VarHandle" ∧ (parseMethodDescriptor yX1_clear.desc).map (fun d => d.parameters.length) = some 1 := by decide +kernel
set_option maxRecDepth 100000 in
theorem mt_X1_clear : gz_Mt yX1_clear cX1_clear 2 none rm_X1_clear se_X1_clear := by
  have q1 : gz_OkE M_X1_clear 0 0 0 0 1 _ := ok_iload_n (i := 1) dX1_clear_0 rfl
  have q2 : gz_OkJ M_X1_clear 0 0 0 0 12 4 _ := ok_if_le q1 dX1_clear_1 (by decide)
  have q3 : gz_OkS M_X1_clear 0 0 12 _ := ok_at
  have q4 : gz_OkE M_X1_clear 0 0 0 4 5 _ := ok_aload_n (i := 0) dX1_clear_4 rfl
  have q5 : gz_OkE M_X1_clear 1 0 0 5 6 _ := ok_iload_n (i := 1) dX1_clear_5 rfl
  have q6 : gz_OkE M_X1_clear 2 0 0 6 8 _ := ok_bipush (v := 20) dX1_clear_6 kc_b20
  have q7 : gz_OkE M_X1_clear 1 0 0 5 9 _ := ok_iadd q5 q6 dX1_clear_8
  have q8 : gz_OkS M_X1_clear 0 0 12 _ := ok_at
  have q9 : gz_OkS M_X1_clear 0 0 4 _ := ok_put (ty := .int) q4 q7 cl_1 (k := 9) (by decide) in_1 wd_33 tyX1 tyX1_ok nmX1 rfl rfl dX1_clear_9 q8
  have q10 : gz_OkS M_X1_clear 0 0 0 _ := ok_if q2 q3 q9
  have q11 : gz_OkS M_X1_clear 0 0 12 _ := ok_rv dX1_clear_12
  have q12 : gz_OkS M_X1_clear 0 0 0 _ := ok_seq (L := 12) (k := 0) q10 q11
  have z : gz_OkS M_X1_clear 0 0 0 sm_X1_clear := q12
  exact gz_met (plainFor_of_name (by decide)) z (by decide) (by decide)
noncomputable def sm_X1_adopt : gz_Sx := gz_put 1 11 7 (.object "GreenDesk$Plan") (gz_la 0) (gz_get 1 11 6 (gz_la 0)) (gz_put 1 11 6 (.object "GreenDesk$Plan") (gz_la 0) (gz_nu) (gz_put 2 9 1 .int (gz_get 1 11 7 (gz_la 0)) (gz_li 1) (gz_put 2 9 3 .int (gz_get 1 11 7 (gz_la 0)) (gz_get 2 9 2 (gz_get 1 11 7 (gz_la 0))) (gz_put 1 11 8 .boolean (gz_la 0) (gz_i (0)) (gz_vv 1 11 se_X1_clear (gz_a1 (gz_a1 (gz_a0) (gz_la 0)) (gz_li 2)) (gz_rv))))))
noncomputable def se_X1_adopt : gz_Me := gz_sem none 3 sm_X1_adopt
abbrev rm_X1_adopt : Room := { frames := 1, cells := 0, slots := 0, locals := 21 }
abbrev M_X1_adopt : gz_Mi := (cX1_adopt, 3, RX1, 1, 21, "adopt", none)
theorem de_X1_adopt : yX1_adopt.cls ≠ "java/lang/invoke/MethodHandle" ∧ yX1_adopt.cls ≠ "java/lang/invoke/VarHandle" ∧ (parseMethodDescriptor yX1_adopt.desc).map (fun d => d.parameters.length) = some 2 := by decide +kernel
set_option maxRecDepth 100000 in
theorem mt_X1_adopt : gz_Mt yX1_adopt cX1_adopt 3 none rm_X1_adopt se_X1_adopt := by
  have q1 : gz_OkE M_X1_adopt 0 0 0 0 1 _ := ok_aload_n (i := 0) dX1_adopt_0 rfl
  have q2 : gz_OkE M_X1_adopt 1 0 0 1 2 _ := ok_aload_n (i := 0) dX1_adopt_1 rfl
  have q3 : gz_OkE M_X1_adopt 1 0 0 1 5 _ := ok_get q2 cl_1 (k := 6) (by decide) in_1 wd_21 dX1_adopt_2
  have q4 : gz_OkE M_X1_adopt 0 0 0 8 9 _ := ok_aload_n (i := 0) dX1_adopt_8 rfl
  have q5 : gz_OkE M_X1_adopt 1 0 0 9 10 _ := ok_null dX1_adopt_9
  have q6 : gz_OkE M_X1_adopt 0 0 0 13 14 _ := ok_aload_n (i := 0) dX1_adopt_13 rfl
  have q7 : gz_OkE M_X1_adopt 0 0 0 13 17 _ := ok_get q6 cl_1 (k := 7) (by decide) in_1 wd_22 dX1_adopt_14
  have q8 : gz_OkE M_X1_adopt 1 0 0 17 18 _ := ok_iload_n (i := 1) dX1_adopt_17 rfl
  have q9 : gz_OkE M_X1_adopt 0 0 0 21 22 _ := ok_aload_n (i := 0) dX1_adopt_21 rfl
  have q10 : gz_OkE M_X1_adopt 0 0 0 21 25 _ := ok_get q9 cl_1 (k := 7) (by decide) in_1 wd_22 dX1_adopt_22
  have q11 : gz_OkE M_X1_adopt 1 0 0 25 26 _ := ok_aload_n (i := 0) dX1_adopt_25 rfl
  have q12 : gz_OkE M_X1_adopt 1 0 0 25 29 _ := ok_get q11 cl_1 (k := 7) (by decide) in_1 wd_22 dX1_adopt_26
  have q13 : gz_OkE M_X1_adopt 1 0 0 25 32 _ := ok_get q12 cl_2 (k := 2) (by decide) in_2 wd_24 dX1_adopt_29
  have q14 : gz_OkE M_X1_adopt 0 0 0 35 36 _ := ok_aload_n (i := 0) dX1_adopt_35 rfl
  have q15 : gz_OkE M_X1_adopt 1 0 0 36 37 _ := ok_iconst (v := 0) dX1_adopt_36 kc_i0
  have q16 : gz_OkA M_X1_adopt 0 0 0 40 40 0 _ := ok_a0
  have q17 : gz_OkE M_X1_adopt 0 0 0 40 41 _ := ok_aload_n (i := 0) dX1_adopt_40 rfl
  have q18 : gz_OkA M_X1_adopt 0 0 0 40 41 1 _ := ok_a1 q16 q17
  have q19 : gz_OkE M_X1_adopt 2 0 0 41 42 _ := ok_iload_n (i := 2) dX1_adopt_41 rfl
  have q20 : gz_OkA M_X1_adopt 0 0 0 40 42 2 _ := ok_a1 q18 q19
  have q21 : gz_OkS M_X1_adopt 0 0 45 _ := ok_rv dX1_adopt_45
  have q22 : gz_OkS M_X1_adopt 0 0 40 _ := ok_vv q20 mt_X1_clear cl_1 wd_479 wd_458 de_X1_clear (by decide) (by decide) wd_480 wd_481 wd_482 dX1_adopt_42 q21
  have q23 : gz_OkS M_X1_adopt 0 0 35 _ := ok_put (ty := .boolean) q14 q15 cl_1 (k := 8) (by decide) in_1 wd_32 tyX1 tyX1_ok nmX1 rfl rfl dX1_adopt_37 q22
  have q24 : gz_OkS M_X1_adopt 0 0 21 _ := ok_put (ty := .int) q10 q13 cl_2 (k := 3) (by decide) in_2 wd_31 tyX2 tyX2_ok nmX2 rfl rfl dX1_adopt_32 q23
  have q25 : gz_OkS M_X1_adopt 0 0 13 _ := ok_put (ty := .int) q7 q8 cl_2 (k := 1) (by decide) in_2 wd_30 tyX2 tyX2_ok nmX2 rfl rfl dX1_adopt_18 q24
  have q26 : gz_OkS M_X1_adopt 0 0 8 _ := ok_put (ty := (.object "GreenDesk$Plan")) q4 q5 cl_1 (k := 6) (by decide) in_1 wd_21 tyX1 tyX1_ok nmX1 rfl rfl dX1_adopt_10 q25
  have q27 : gz_OkS M_X1_adopt 0 0 0 _ := ok_put (ty := (.object "GreenDesk$Plan")) q1 q3 cl_1 (k := 7) (by decide) in_1 wd_22 tyX1 tyX1_ok nmX1 rfl rfl dX1_adopt_5 q26
  have z : gz_OkS M_X1_adopt 0 0 0 sm_X1_adopt := q27
  exact gz_met (plainFor_of_name (by decide)) z (by decide) (by decide)
noncomputable def sm_J9_floorMod_7cf53 : gz_Sx := gz_seti 2 (gz_iz (fun x y => x - x / y * y) (gz_li 0) (gz_li 1)) (gz_if (gz_jo (gz_j1 (fun x => decide (0 ≤ x)) (gz_ib (fun x y => x ^^^ y) (gz_li 0) (gz_li 1))) (gz_j1 (fun x => decide (x = 0)) (gz_li 2))) (gz_ri (gz_li 2)) (gz_ri (gz_ib (fun x y => x + y) (gz_li 2) (gz_li 1))))
noncomputable def se_J9_floorMod_7cf53 : gz_Me := gz_sem (some .int) 3 sm_J9_floorMod_7cf53
abbrev rm_J9_floorMod_7cf53 : Room := { frames := 0, cells := 0, slots := 0, locals := 0 }
abbrev M_J9_floorMod_7cf53 : gz_Mi := (cJ9_floorMod_7cf53, 3, RJ9, 0, 0, "floorMod", none)
theorem de_J9_floorMod_7cf53 : yJ9_floorMod_7cf53.cls ≠ "java/lang/invoke/MethodHandle" ∧ yJ9_floorMod_7cf53.cls ≠ "java/lang/invoke/VarHandle" ∧ (parseMethodDescriptor yJ9_floorMod_7cf53.desc).map (fun d => d.parameters.length) = some 2 := by decide +kernel
set_option maxRecDepth 100000 in
theorem mt_J9_floorMod_7cf53 : gz_Mt yJ9_floorMod_7cf53 cJ9_floorMod_7cf53 3 (some .int) rm_J9_floorMod_7cf53 se_J9_floorMod_7cf53 := by
  have q1 : gz_OkE M_J9_floorMod_7cf53 0 0 0 0 1 _ := ok_iload_n (i := 0) dJ9_floorMod_7cf53_0 rfl
  have q2 : gz_OkE M_J9_floorMod_7cf53 1 0 0 1 2 _ := ok_iload_n (i := 1) dJ9_floorMod_7cf53_1 rfl
  have q3 : gz_OkE M_J9_floorMod_7cf53 0 0 0 0 3 _ := ok_irem q1 q2 dJ9_floorMod_7cf53_2
  have q4 : gz_OkE M_J9_floorMod_7cf53 0 0 0 4 5 _ := ok_iload_n (i := 0) dJ9_floorMod_7cf53_4 rfl
  have q5 : gz_OkE M_J9_floorMod_7cf53 1 0 0 5 6 _ := ok_iload_n (i := 1) dJ9_floorMod_7cf53_5 rfl
  have q6 : gz_OkE M_J9_floorMod_7cf53 0 0 0 4 7 _ := ok_ixor q4 q5 dJ9_floorMod_7cf53_6
  have q7 : gz_OkJ M_J9_floorMod_7cf53 0 0 0 4 18 10 _ := ok_if_ge q6 dJ9_floorMod_7cf53_7 (by decide)
  have q8 : gz_OkE M_J9_floorMod_7cf53 0 0 0 10 11 _ := ok_iload_n (i := 2) dJ9_floorMod_7cf53_10 rfl
  have q9 : gz_OkJ M_J9_floorMod_7cf53 0 0 0 10 18 14 _ := ok_if_eq q8 dJ9_floorMod_7cf53_11 (by decide)
  have q10 : gz_OkJ M_J9_floorMod_7cf53 0 0 0 4 18 14 _ := ok_jo q7 q9
  have q11 : gz_OkE M_J9_floorMod_7cf53 0 0 0 18 19 _ := ok_iload_n (i := 2) dJ9_floorMod_7cf53_18 rfl
  have q12 : gz_OkS M_J9_floorMod_7cf53 0 0 18 _ := ok_ri q11 dJ9_floorMod_7cf53_19
  have q13 : gz_OkE M_J9_floorMod_7cf53 0 0 0 14 15 _ := ok_iload_n (i := 2) dJ9_floorMod_7cf53_14 rfl
  have q14 : gz_OkE M_J9_floorMod_7cf53 1 0 0 15 16 _ := ok_iload_n (i := 1) dJ9_floorMod_7cf53_15 rfl
  have q15 : gz_OkE M_J9_floorMod_7cf53 0 0 0 14 17 _ := ok_iadd q13 q14 dJ9_floorMod_7cf53_16
  have q16 : gz_OkS M_J9_floorMod_7cf53 0 0 14 _ := ok_ri q15 dJ9_floorMod_7cf53_17
  have q17 : gz_OkS M_J9_floorMod_7cf53 0 0 4 _ := ok_if q10 q12 q16
  have q18 : gz_OkS M_J9_floorMod_7cf53 0 0 0 _ := ok_seti_n (k := 2) q3 dJ9_floorMod_7cf53_3 rfl (by decide) q17
  have z : gz_OkS M_J9_floorMod_7cf53 0 0 0 sm_J9_floorMod_7cf53 := q18
  exact gz_met (by decide +kernel) z (by decide) (by decide)
noncomputable def sm_X2_placeAt : gz_Sx := gz_ri (gz_cs se_J9_floorMod_7cf53 (gz_a1 (gz_a1 (gz_a0) (gz_ib (fun x y => x - y) (gz_li 1) (gz_get 2 9 1 (gz_la 0)))) (gz_get 2 9 0 (gz_la 0))))
noncomputable def se_X2_placeAt : gz_Me := gz_sem (some .int) 2 sm_X2_placeAt
abbrev rm_X2_placeAt : Room := { frames := 1, cells := 0, slots := 0, locals := 22 }
abbrev M_X2_placeAt : gz_Mi := (cX2_placeAt, 2, RX2, 1, 22, "placeAt", none)
theorem de_X2_placeAt : yX2_placeAt.cls ≠ "java/lang/invoke/MethodHandle" ∧ yX2_placeAt.cls ≠ "java/lang/invoke/VarHandle" ∧ (parseMethodDescriptor yX2_placeAt.desc).map (fun d => d.parameters.length) = some 1 := by decide +kernel
set_option maxRecDepth 100000 in
theorem mt_X2_placeAt : gz_Mt yX2_placeAt cX2_placeAt 2 (some .int) rm_X2_placeAt se_X2_placeAt := by
  have q1 : gz_OkA M_X2_placeAt 0 0 0 0 0 0 _ := ok_a0
  have q2 : gz_OkE M_X2_placeAt 0 0 0 0 1 _ := ok_iload_n (i := 1) dX2_placeAt_0 rfl
  have q3 : gz_OkE M_X2_placeAt 1 0 0 1 2 _ := ok_aload_n (i := 0) dX2_placeAt_1 rfl
  have q4 : gz_OkE M_X2_placeAt 1 0 0 1 5 _ := ok_get q3 cl_2 (k := 1) (by decide) in_2 wd_43 dX2_placeAt_2
  have q5 : gz_OkE M_X2_placeAt 0 0 0 0 6 _ := ok_isub q2 q4 dX2_placeAt_5
  have q6 : gz_OkA M_X2_placeAt 0 0 0 0 6 1 _ := ok_a1 q1 q5
  have q7 : gz_OkE M_X2_placeAt 2 0 0 6 7 _ := ok_aload_n (i := 0) dX2_placeAt_6 rfl
  have q8 : gz_OkE M_X2_placeAt 2 0 0 6 10 _ := ok_get q7 cl_2 (k := 0) (by decide) in_2 wd_35 dX2_placeAt_7
  have q9 : gz_OkA M_X2_placeAt 0 0 0 0 10 2 _ := ok_a1 q6 q8
  have q10 : gz_OkE M_X2_placeAt 0 0 0 0 13 _ := ok_cs q9 mt_J9_floorMod_7cf53 wd_483 wd_411 de_J9_floorMod_7cf53 (by decide) (by decide) wd_484 wd_485 dX2_placeAt_10 (by decide)
  have q11 : gz_OkS M_X2_placeAt 0 0 0 _ := ok_ri q10 dX2_placeAt_13
  have z : gz_OkS M_X2_placeAt 0 0 0 sm_X2_placeAt := q11
  exact gz_met (plainFor_of_name (by decide)) z (by decide) (by decide)
noncomputable def lb_X2_stageOf_2 : gz_Sx := gz_if (gz_j2 (fun x y => decide (y ≤ x)) (gz_li 2) (gz_get 2 9 2 (gz_la 0))) (gz_sat 28) (gz_if (gz_j2 (fun x y => decide (y ≤ x)) (gz_li 1) (gz_ald 100 (gz_get 2 9 7 (gz_la 0)) (gz_li 2))) (gz_inc 2 (1) (gz_sat 2)) (gz_ri (gz_li 2)))
noncomputable def sm_X2_stageOf : gz_Sx := gz_seti 2 (gz_i (0)) (gz_seq 28 1 (gz_loop 2 3 lb_X2_stageOf_2) (gz_ri (gz_ib (fun x y => x - y) (gz_get 2 9 2 (gz_la 0)) (gz_i (1)))))
noncomputable def se_X2_stageOf : gz_Me := gz_sem (some .int) 3 sm_X2_stageOf
abbrev rm_X2_stageOf : Room := { frames := 0, cells := 0, slots := 0, locals := 0 }
abbrev M_X2_stageOf : gz_Mi := (cX2_stageOf, 3, RX2, 0, 0, "stageOf", none)
theorem de_X2_stageOf : yX2_stageOf.cls ≠ "java/lang/invoke/MethodHandle" ∧ yX2_stageOf.cls ≠ "java/lang/invoke/VarHandle" ∧ (parseMethodDescriptor yX2_stageOf.desc).map (fun d => d.parameters.length) = some 1 := by decide +kernel
set_option maxRecDepth 100000 in
theorem mt_X2_stageOf : gz_Mt yX2_stageOf cX2_stageOf 3 (some .int) rm_X2_stageOf se_X2_stageOf := by
  have q1 : gz_OkE M_X2_stageOf 0 0 0 0 1 _ := ok_iconst (v := 0) dX2_stageOf_0 kc_i0
  have q2 : gz_OkE M_X2_stageOf 0 0 0 2 3 _ := ok_iload_n (i := 2) dX2_stageOf_2 rfl
  have q3 : gz_OkE M_X2_stageOf 1 0 0 3 4 _ := ok_aload_n (i := 0) dX2_stageOf_3 rfl
  have q4 : gz_OkE M_X2_stageOf 1 0 0 3 7 _ := ok_get q3 cl_2 (k := 2) (by decide) in_2 wd_41 dX2_stageOf_4
  have q5 : gz_OkJ M_X2_stageOf 0 0 0 2 28 10 _ := ok_ic_ge q2 q4 dX2_stageOf_7 (by decide)
  have q6 : gz_OkS M_X2_stageOf 0 0 28 _ := ok_at
  have q7 : gz_OkE M_X2_stageOf 0 0 0 10 11 _ := ok_iload_n (i := 1) dX2_stageOf_10 rfl
  have q8 : gz_OkE M_X2_stageOf 1 0 0 11 12 _ := ok_aload_n (i := 0) dX2_stageOf_11 rfl
  have q9 : gz_OkE M_X2_stageOf 1 0 0 11 15 _ := ok_get q8 cl_2 (k := 7) (by decide) in_2 wd_39 dX2_stageOf_12
  have q10 : gz_OkE M_X2_stageOf 2 0 0 15 16 _ := ok_iload_n (i := 2) dX2_stageOf_15 rfl
  have q11 : gz_OkE M_X2_stageOf 1 0 0 11 17 _ := ok_iald q9 q10 dX2_stageOf_16
  have q12 : gz_OkJ M_X2_stageOf 0 0 0 10 22 20 _ := ok_ic_ge q7 q11 dX2_stageOf_17 (by decide)
  have q13 : gz_OkS M_X2_stageOf 0 0 25 (gz_sat 2) := ok_goto dX2_stageOf_25 (by decide)
  have q14 : gz_OkS M_X2_stageOf 0 0 22 _ := ok_inc (v := 1) dX2_stageOf_22 kc_i1 (by decide) q13
  have q15 : gz_OkE M_X2_stageOf 0 0 0 20 21 _ := ok_iload_n (i := 2) dX2_stageOf_20 rfl
  have q16 : gz_OkS M_X2_stageOf 0 0 20 _ := ok_ri q15 dX2_stageOf_21
  have q17 : gz_OkS M_X2_stageOf 0 0 10 _ := ok_if q12 q14 q16
  have q18 : gz_OkS M_X2_stageOf 0 0 2 _ := ok_if q5 q6 q17
  have q19 : gz_OkS M_X2_stageOf 0 0 2 lb_X2_stageOf_2 := q18
  have q20 : gz_OkS M_X2_stageOf 0 0 2 _ := ok_loop (k := 3) q19 rfl rfl
  have q21 : gz_OkE M_X2_stageOf 0 0 0 28 29 _ := ok_aload_n (i := 0) dX2_stageOf_28 rfl
  have q22 : gz_OkE M_X2_stageOf 0 0 0 28 32 _ := ok_get q21 cl_2 (k := 2) (by decide) in_2 wd_41 dX2_stageOf_29
  have q23 : gz_OkE M_X2_stageOf 1 0 0 32 33 _ := ok_iconst (v := 1) dX2_stageOf_32 kc_i1
  have q24 : gz_OkE M_X2_stageOf 0 0 0 28 34 _ := ok_isub q22 q23 dX2_stageOf_33
  have q25 : gz_OkS M_X2_stageOf 0 0 28 _ := ok_ri q24 dX2_stageOf_34
  have q26 : gz_OkS M_X2_stageOf 0 0 2 _ := ok_seq (L := 28) (k := 1) q20 q25
  have q27 : gz_OkS M_X2_stageOf 0 0 0 _ := ok_seti_n (k := 2) q1 dX2_stageOf_1 rfl (by decide) q26
  have z : gz_OkS M_X2_stageOf 0 0 0 sm_X2_stageOf := q27
  exact gz_met (plainFor_of_name (by decide)) z (by decide) (by decide)
noncomputable def sm_X1_lampsAt : gz_Sx := gz_if (gz_jk (gz_get 1 11 7 (gz_la 0))) (gz_seti 2 (gz_cv 2 9 se_X2_placeAt (gz_a1 (gz_a1 (gz_a0) (gz_get 1 11 7 (gz_la 0))) (gz_li 1))) (gz_seq 58 3 (gz_if (gz_jo (gz_j2 (fun x y => decide (y ≤ x)) (gz_get 2 9 3 (gz_get 1 11 7 (gz_la 0))) (gz_get 2 9 2 (gz_get 1 11 7 (gz_la 0)))) (gz_j2 (fun x y => decide (x < y)) (gz_cv 2 9 se_X2_stageOf (gz_a1 (gz_a1 (gz_a0) (gz_get 1 11 7 (gz_la 0))) (gz_li 2))) (gz_get 2 9 3 (gz_get 1 11 7 (gz_la 0))))) (gz_sat 58) (gz_put 1 11 8 .boolean (gz_la 0) (gz_i (1)) (gz_sat 58))) (gz_ri (gz_te (gz_ja (gz_j1 (fun x => decide (¬ x = 0)) (gz_get 1 11 8 (gz_la 0))) (gz_j2 (fun x y => decide (y ≤ x)) (gz_li 1) (gz_get 1 11 9 (gz_la 0)))) (gz_ald 100 (gz_get 2 9 8 (gz_get 1 11 7 (gz_la 0))) (gz_li 2)) (gz_i (0)))))) (gz_ri (gz_i (0)))
noncomputable def se_X1_lampsAt : gz_Me := gz_sem (some .int) 3 sm_X1_lampsAt
abbrev rm_X1_lampsAt : Room := { frames := 2, cells := 0, slots := 0, locals := 43 }
abbrev M_X1_lampsAt : gz_Mi := (cX1_lampsAt, 3, RX1, 2, 43, "lampsAt", none)
theorem de_X1_lampsAt : yX1_lampsAt.cls ≠ "java/lang/invoke/MethodHandle" ∧ yX1_lampsAt.cls ≠ "java/lang/invoke/VarHandle" ∧ (parseMethodDescriptor yX1_lampsAt.desc).map (fun d => d.parameters.length) = some 1 := by decide +kernel
set_option maxRecDepth 100000 in
theorem mt_X1_lampsAt : gz_Mt yX1_lampsAt cX1_lampsAt 3 (some .int) rm_X1_lampsAt se_X1_lampsAt := by
  have q1 : gz_OkE M_X1_lampsAt 0 0 0 0 1 _ := ok_aload_n (i := 0) dX1_lampsAt_0 rfl
  have q2 : gz_OkE M_X1_lampsAt 0 0 0 0 4 _ := ok_get q1 cl_1 (k := 7) (by decide) in_1 wd_22 dX1_lampsAt_1
  have q3 : gz_OkJ M_X1_lampsAt 0 0 0 0 9 7 _ := ok_jk q2 dX1_lampsAt_4 (by decide)
  have q4 : gz_OkA M_X1_lampsAt 0 0 0 9 9 0 _ := ok_a0
  have q5 : gz_OkE M_X1_lampsAt 0 0 0 9 10 _ := ok_aload_n (i := 0) dX1_lampsAt_9 rfl
  have q6 : gz_OkE M_X1_lampsAt 0 0 0 9 13 _ := ok_get q5 cl_1 (k := 7) (by decide) in_1 wd_22 dX1_lampsAt_10
  have q7 : gz_OkA M_X1_lampsAt 0 0 0 9 13 1 _ := ok_a1 q4 q6
  have q8 : gz_OkE M_X1_lampsAt 2 0 0 13 14 _ := ok_iload_n (i := 1) dX1_lampsAt_13 rfl
  have q9 : gz_OkA M_X1_lampsAt 0 0 0 9 14 2 _ := ok_a1 q7 q8
  have q10 : gz_OkE M_X1_lampsAt 0 0 0 9 17 _ := ok_cv q9 mt_X2_placeAt cl_2 wd_486 wd_406 de_X2_placeAt (by decide) (by decide) wd_487 wd_488 wd_489 dX1_lampsAt_14 (by decide)
  have q11 : gz_OkE M_X1_lampsAt 0 0 0 18 19 _ := ok_aload_n (i := 0) dX1_lampsAt_18 rfl
  have q12 : gz_OkE M_X1_lampsAt 0 0 0 18 22 _ := ok_get q11 cl_1 (k := 7) (by decide) in_1 wd_22 dX1_lampsAt_19
  have q13 : gz_OkE M_X1_lampsAt 0 0 0 18 25 _ := ok_get q12 cl_2 (k := 3) (by decide) in_2 wd_31 dX1_lampsAt_22
  have q14 : gz_OkE M_X1_lampsAt 1 0 0 25 26 _ := ok_aload_n (i := 0) dX1_lampsAt_25 rfl
  have q15 : gz_OkE M_X1_lampsAt 1 0 0 25 29 _ := ok_get q14 cl_1 (k := 7) (by decide) in_1 wd_22 dX1_lampsAt_26
  have q16 : gz_OkE M_X1_lampsAt 1 0 0 25 32 _ := ok_get q15 cl_2 (k := 2) (by decide) in_2 wd_24 dX1_lampsAt_29
  have q17 : gz_OkJ M_X1_lampsAt 0 0 0 18 58 35 _ := ok_ic_ge q13 q16 dX1_lampsAt_32 (by decide)
  have q18 : gz_OkA M_X1_lampsAt 0 0 0 35 35 0 _ := ok_a0
  have q19 : gz_OkE M_X1_lampsAt 0 0 0 35 36 _ := ok_aload_n (i := 0) dX1_lampsAt_35 rfl
  have q20 : gz_OkE M_X1_lampsAt 0 0 0 35 39 _ := ok_get q19 cl_1 (k := 7) (by decide) in_1 wd_22 dX1_lampsAt_36
  have q21 : gz_OkA M_X1_lampsAt 0 0 0 35 39 1 _ := ok_a1 q18 q20
  have q22 : gz_OkE M_X1_lampsAt 2 0 0 39 40 _ := ok_iload_n (i := 2) dX1_lampsAt_39 rfl
  have q23 : gz_OkA M_X1_lampsAt 0 0 0 35 40 2 _ := ok_a1 q21 q22
  have q24 : gz_OkE M_X1_lampsAt 0 0 0 35 43 _ := ok_cv q23 mt_X2_stageOf cl_2 wd_490 wd_406 de_X2_stageOf (by decide) (by decide) wd_491 wd_492 wd_493 dX1_lampsAt_40 (by decide)
  have q25 : gz_OkE M_X1_lampsAt 1 0 0 43 44 _ := ok_aload_n (i := 0) dX1_lampsAt_43 rfl
  have q26 : gz_OkE M_X1_lampsAt 1 0 0 43 47 _ := ok_get q25 cl_1 (k := 7) (by decide) in_1 wd_22 dX1_lampsAt_44
  have q27 : gz_OkE M_X1_lampsAt 1 0 0 43 50 _ := ok_get q26 cl_2 (k := 3) (by decide) in_2 wd_31 dX1_lampsAt_47
  have q28 : gz_OkJ M_X1_lampsAt 0 0 0 35 58 53 _ := ok_ic_lt q24 q27 dX1_lampsAt_50 (by decide)
  have q29 : gz_OkJ M_X1_lampsAt 0 0 0 18 58 53 _ := ok_jo q17 q28
  have q30 : gz_OkS M_X1_lampsAt 0 0 58 _ := ok_at
  have q31 : gz_OkE M_X1_lampsAt 0 0 0 53 54 _ := ok_aload_n (i := 0) dX1_lampsAt_53 rfl
  have q32 : gz_OkE M_X1_lampsAt 1 0 0 54 55 _ := ok_iconst (v := 1) dX1_lampsAt_54 kc_i1
  have q33 : gz_OkS M_X1_lampsAt 0 0 58 _ := ok_at
  have q34 : gz_OkS M_X1_lampsAt 0 0 53 _ := ok_put (ty := .boolean) q31 q32 cl_1 (k := 8) (by decide) in_1 wd_32 tyX1 tyX1_ok nmX1 rfl rfl dX1_lampsAt_55 q33
  have q35 : gz_OkS M_X1_lampsAt 0 0 18 _ := ok_if q29 q30 q34
  have q36 : gz_OkE M_X1_lampsAt 0 0 0 58 59 _ := ok_aload_n (i := 0) dX1_lampsAt_58 rfl
  have q37 : gz_OkE M_X1_lampsAt 0 0 0 58 62 _ := ok_get q36 cl_1 (k := 8) (by decide) in_1 wd_32 dX1_lampsAt_59
  have q38 : gz_OkJ M_X1_lampsAt 0 0 0 58 73 65 _ := ok_if_ne q37 dX1_lampsAt_62 (by decide)
  have q39 : gz_OkE M_X1_lampsAt 0 0 0 65 66 _ := ok_iload_n (i := 1) dX1_lampsAt_65 rfl
  have q40 : gz_OkE M_X1_lampsAt 1 0 0 66 67 _ := ok_aload_n (i := 0) dX1_lampsAt_66 rfl
  have q41 : gz_OkE M_X1_lampsAt 1 0 0 66 70 _ := ok_get q40 cl_1 (k := 9) (by decide) in_1 wd_33 dX1_lampsAt_67
  have q42 : gz_OkJ M_X1_lampsAt 0 0 0 65 77 73 _ := ok_ic_ge q39 q41 dX1_lampsAt_70 (by decide)
  have q43 : gz_OkJ M_X1_lampsAt 0 0 0 58 77 73 _ := ok_ja q38 q42
  have q44 : gz_OkE M_X1_lampsAt 0 0 0 73 74 _ := ok_iconst (v := 0) dX1_lampsAt_73 kc_i0
  have q45 : gz_OkE M_X1_lampsAt 0 0 0 73 86 _ := ok_eg q44 dX1_lampsAt_74 (by decide)
  have q46 : gz_OkE M_X1_lampsAt 0 0 0 77 78 _ := ok_aload_n (i := 0) dX1_lampsAt_77 rfl
  have q47 : gz_OkE M_X1_lampsAt 0 0 0 77 81 _ := ok_get q46 cl_1 (k := 7) (by decide) in_1 wd_22 dX1_lampsAt_78
  have q48 : gz_OkE M_X1_lampsAt 0 0 0 77 84 _ := ok_get q47 cl_2 (k := 8) (by decide) in_2 wd_27 dX1_lampsAt_81
  have q49 : gz_OkE M_X1_lampsAt 1 0 0 84 85 _ := ok_iload_n (i := 2) dX1_lampsAt_84 rfl
  have q50 : gz_OkE M_X1_lampsAt 0 0 0 77 86 _ := ok_iald q48 q49 dX1_lampsAt_85
  have q51 : gz_OkE M_X1_lampsAt 0 0 0 58 86 _ := ok_te2 q43 q45 q50
  have q52 : gz_OkS M_X1_lampsAt 0 0 58 _ := ok_ri q51 dX1_lampsAt_86
  have q53 : gz_OkS M_X1_lampsAt 0 0 18 _ := ok_seq (L := 58) (k := 3) q35 q52
  have q54 : gz_OkS M_X1_lampsAt 0 0 9 _ := ok_seti_n (k := 2) q10 dX1_lampsAt_17 rfl (by decide) q53
  have q55 : gz_OkE M_X1_lampsAt 0 0 0 7 8 _ := ok_iconst (v := 0) dX1_lampsAt_7 kc_i0
  have q56 : gz_OkS M_X1_lampsAt 0 0 7 _ := ok_ri q55 dX1_lampsAt_8
  have q57 : gz_OkS M_X1_lampsAt 0 0 0 _ := ok_if q3 q54 q56
  have z : gz_OkS M_X1_lampsAt 0 0 0 sm_X1_lampsAt := q57
  exact gz_met (plainFor_of_name (by decide)) z (by decide) (by decide)
noncomputable def sm_X3_come : gz_Sx := gz_seq 21 1 (gz_if (gz_ja (gz_j1 (fun x => decide (x = 0)) (gz_li 1)) (gz_j1 (fun x => decide (x ≤ 0)) (gz_get 3 14 8 (gz_la 0)))) (gz_sat 21) (gz_put 3 14 11 .int (gz_la 0) (gz_ib (fun x y => x + y) (gz_get 3 14 11 (gz_dup)) (gz_i (1))) (gz_sat 21))) (gz_put 3 14 9 .int (gz_la 0) (gz_ib (fun x y => x + y) (gz_get 3 14 9 (gz_dup)) (gz_i (1))) (gz_put 3 14 8 .int (gz_la 0) (gz_ib (fun x y => x + y) (gz_get 3 14 8 (gz_dup)) (gz_i (1))) (gz_rv)))
noncomputable def se_X3_come : gz_Me := gz_sem none 2 sm_X3_come
abbrev rm_X3_come : Room := { frames := 0, cells := 0, slots := 0, locals := 0 }
abbrev M_X3_come : gz_Mi := (cX3_come, 2, RX3, 0, 0, "come", none)
theorem de_X3_come : yX3_come.cls ≠ "java/lang/invoke/MethodHandle" ∧ yX3_come.cls ≠ "java/lang/invoke/VarHandle" ∧ (parseMethodDescriptor yX3_come.desc).map (fun d => d.parameters.length) = some 1 := by decide +kernel
set_option maxRecDepth 100000 in
theorem mt_X3_come : gz_Mt yX3_come cX3_come 2 none rm_X3_come se_X3_come := by
  have q1 : gz_OkE M_X3_come 0 0 0 0 1 _ := ok_iload_n (i := 1) dX3_come_0 rfl
  have q2 : gz_OkJ M_X3_come 0 0 0 0 11 4 _ := ok_if_eq q1 dX3_come_1 (by decide)
  have q3 : gz_OkE M_X3_come 0 0 0 4 5 _ := ok_aload_n (i := 0) dX3_come_4 rfl
  have q4 : gz_OkE M_X3_come 0 0 0 4 8 _ := ok_get q3 cl_3 (k := 8) (by decide) in_3 wd_52 dX3_come_5
  have q5 : gz_OkJ M_X3_come 0 0 0 4 21 11 _ := ok_if_le q4 dX3_come_8 (by decide)
  have q6 : gz_OkJ M_X3_come 0 0 0 0 21 11 _ := ok_ja q2 q5
  have q7 : gz_OkS M_X3_come 0 0 21 _ := ok_at
  have q8 : gz_OkE M_X3_come 0 0 0 11 12 _ := ok_aload_n (i := 0) dX3_come_11 rfl
  have q9 : gz_OkE M_X3_come 1 0 0 12 13 _ := ok_dup dX3_come_12
  have q10 : gz_OkE M_X3_come 1 0 0 12 16 _ := ok_get q9 cl_3 (k := 11) (by decide) in_3 wd_54 dX3_come_13
  have q11 : gz_OkE M_X3_come 2 0 0 16 17 _ := ok_iconst (v := 1) dX3_come_16 kc_i1
  have q12 : gz_OkE M_X3_come 1 0 0 12 18 _ := ok_iadd q10 q11 dX3_come_17
  have q13 : gz_OkS M_X3_come 0 0 21 _ := ok_at
  have q14 : gz_OkS M_X3_come 0 0 11 _ := ok_put (ty := .int) q8 q12 cl_3 (k := 11) (by decide) in_3 wd_54 tyX3 tyX3_ok nmX3 rfl rfl dX3_come_18 q13
  have q15 : gz_OkS M_X3_come 0 0 0 _ := ok_if q6 q7 q14
  have q16 : gz_OkE M_X3_come 0 0 0 21 22 _ := ok_aload_n (i := 0) dX3_come_21 rfl
  have q17 : gz_OkE M_X3_come 1 0 0 22 23 _ := ok_dup dX3_come_22
  have q18 : gz_OkE M_X3_come 1 0 0 22 26 _ := ok_get q17 cl_3 (k := 9) (by decide) in_3 wd_55 dX3_come_23
  have q19 : gz_OkE M_X3_come 2 0 0 26 27 _ := ok_iconst (v := 1) dX3_come_26 kc_i1
  have q20 : gz_OkE M_X3_come 1 0 0 22 28 _ := ok_iadd q18 q19 dX3_come_27
  have q21 : gz_OkE M_X3_come 0 0 0 31 32 _ := ok_aload_n (i := 0) dX3_come_31 rfl
  have q22 : gz_OkE M_X3_come 1 0 0 32 33 _ := ok_dup dX3_come_32
  have q23 : gz_OkE M_X3_come 1 0 0 32 36 _ := ok_get q22 cl_3 (k := 8) (by decide) in_3 wd_52 dX3_come_33
  have q24 : gz_OkE M_X3_come 2 0 0 36 37 _ := ok_iconst (v := 1) dX3_come_36 kc_i1
  have q25 : gz_OkE M_X3_come 1 0 0 32 38 _ := ok_iadd q23 q24 dX3_come_37
  have q26 : gz_OkS M_X3_come 0 0 41 _ := ok_rv dX3_come_41
  have q27 : gz_OkS M_X3_come 0 0 31 _ := ok_put (ty := .int) q21 q25 cl_3 (k := 8) (by decide) in_3 wd_52 tyX3 tyX3_ok nmX3 rfl rfl dX3_come_38 q26
  have q28 : gz_OkS M_X3_come 0 0 21 _ := ok_put (ty := .int) q16 q20 cl_3 (k := 9) (by decide) in_3 wd_55 tyX3 tyX3_ok nmX3 rfl rfl dX3_come_28 q27
  have q29 : gz_OkS M_X3_come 0 0 0 _ := ok_seq (L := 21) (k := 1) q15 q28
  have z : gz_OkS M_X3_come 0 0 0 sm_X3_come := q29
  exact gz_met (plainFor_of_name (by decide)) z (by decide) (by decide)
noncomputable def sm_X4_brings : gz_Sx := gz_seti 2 (gz_iz (fun x y => x - x / y * y) (gz_li 1) (gz_i (61))) (gz_if (gz_j1 (fun x => decide (¬ x = 0)) (gz_ald 101 (gz_get 4 6 4 (gz_la 0)) (gz_li 2))) (gz_ast 101 (gz_get 4 6 4 (gz_la 0)) (gz_li 2) (gz_i (0)) (gz_put 4 6 5 .int (gz_la 0) (gz_ib (fun x y => x - y) (gz_get 4 6 5 (gz_dup)) (gz_i (1))) (gz_ri (gz_i (1))))) (gz_ri (gz_i (0))))
noncomputable def se_X4_brings : gz_Me := gz_sem (some .boolean) 3 sm_X4_brings
abbrev rm_X4_brings : Room := { frames := 0, cells := 0, slots := 0, locals := 0 }
abbrev M_X4_brings : gz_Mi := (cX4_brings, 3, RX4, 0, 0, "brings", none)
theorem de_X4_brings : yX4_brings.cls ≠ "java/lang/invoke/MethodHandle" ∧ yX4_brings.cls ≠ "java/lang/invoke/VarHandle" ∧ (parseMethodDescriptor yX4_brings.desc).map (fun d => d.parameters.length) = some 1 := by decide +kernel
set_option maxRecDepth 100000 in
theorem mt_X4_brings : gz_Mt yX4_brings cX4_brings 3 (some .boolean) rm_X4_brings se_X4_brings := by
  have q1 : gz_OkE M_X4_brings 0 0 0 0 1 _ := ok_iload_n (i := 1) dX4_brings_0 rfl
  have q2 : gz_OkE M_X4_brings 1 0 0 1 3 _ := ok_bipush (v := 61) dX4_brings_1 kc_b61
  have q3 : gz_OkE M_X4_brings 0 0 0 0 4 _ := ok_irem q1 q2 dX4_brings_3
  have q4 : gz_OkE M_X4_brings 0 0 0 5 6 _ := ok_aload_n (i := 0) dX4_brings_5 rfl
  have q5 : gz_OkE M_X4_brings 0 0 0 5 9 _ := ok_get q4 cl_4 (k := 4) (by decide) in_4 wd_62 dX4_brings_6
  have q6 : gz_OkE M_X4_brings 1 0 0 9 10 _ := ok_iload_n (i := 2) dX4_brings_9 rfl
  have q7 : gz_OkE M_X4_brings 0 0 0 5 11 _ := ok_zald q5 q6 dX4_brings_10
  have q8 : gz_OkJ M_X4_brings 0 0 0 5 16 14 _ := ok_if_ne q7 dX4_brings_11 (by decide)
  have q9 : gz_OkE M_X4_brings 0 0 0 16 17 _ := ok_aload_n (i := 0) dX4_brings_16 rfl
  have q10 : gz_OkE M_X4_brings 0 0 0 16 20 _ := ok_get q9 cl_4 (k := 4) (by decide) in_4 wd_62 dX4_brings_17
  have q11 : gz_OkE M_X4_brings 1 0 0 20 21 _ := ok_iload_n (i := 2) dX4_brings_20 rfl
  have q12 : gz_OkE M_X4_brings 2 0 0 21 22 _ := ok_iconst (v := 0) dX4_brings_21 kc_i0
  have q13 : gz_OkE M_X4_brings 0 0 0 23 24 _ := ok_aload_n (i := 0) dX4_brings_23 rfl
  have q14 : gz_OkE M_X4_brings 1 0 0 24 25 _ := ok_dup dX4_brings_24
  have q15 : gz_OkE M_X4_brings 1 0 0 24 28 _ := ok_get q14 cl_4 (k := 5) (by decide) in_4 wd_68 dX4_brings_25
  have q16 : gz_OkE M_X4_brings 2 0 0 28 29 _ := ok_iconst (v := 1) dX4_brings_28 kc_i1
  have q17 : gz_OkE M_X4_brings 1 0 0 24 30 _ := ok_isub q15 q16 dX4_brings_29
  have q18 : gz_OkE M_X4_brings 0 0 0 33 34 _ := ok_iconst (v := 1) dX4_brings_33 kc_i1
  have q19 : gz_OkS M_X4_brings 0 0 33 _ := ok_ri q18 dX4_brings_34
  have q20 : gz_OkS M_X4_brings 0 0 23 _ := ok_put (ty := .int) q13 q17 cl_4 (k := 5) (by decide) in_4 wd_68 tyX4 tyX4_ok nmX4 rfl rfl dX4_brings_30 q19
  have q21 : gz_OkS M_X4_brings 0 0 16 _ := ok_zast q10 q11 q12 dX4_brings_22 q20
  have q22 : gz_OkE M_X4_brings 0 0 0 14 15 _ := ok_iconst (v := 0) dX4_brings_14 kc_i0
  have q23 : gz_OkS M_X4_brings 0 0 14 _ := ok_ri q22 dX4_brings_15
  have q24 : gz_OkS M_X4_brings 0 0 5 _ := ok_if q8 q21 q23
  have q25 : gz_OkS M_X4_brings 0 0 0 _ := ok_seti_n (k := 2) q3 dX4_brings_4 rfl (by decide) q24
  have z : gz_OkS M_X4_brings 0 0 0 sm_X4_brings := q25
  exact gz_met (plainFor_of_name (by decide)) z (by decide) (by decide)
noncomputable def sm_X4_isFull : gz_Sx := gz_ri (gz_te (gz_j2 (fun x y => decide (x < y)) (gz_ib (fun x y => x + y) (gz_get 4 6 5 (gz_la 0)) (gz_get 3 14 8 (gz_get 4 6 0 (gz_la 0)))) (gz_get 4 6 3 (gz_la 0))) (gz_i (0)) (gz_i (1)))
noncomputable def se_X4_isFull : gz_Me := gz_sem (some .boolean) 1 sm_X4_isFull
abbrev rm_X4_isFull : Room := { frames := 0, cells := 0, slots := 0, locals := 0 }
abbrev M_X4_isFull : gz_Mi := (cX4_isFull, 1, RX4, 0, 0, "isFull", none)
theorem de_X4_isFull : yX4_isFull.cls ≠ "java/lang/invoke/MethodHandle" ∧ yX4_isFull.cls ≠ "java/lang/invoke/VarHandle" ∧ (parseMethodDescriptor yX4_isFull.desc).map (fun d => d.parameters.length) = some 0 := by decide +kernel
set_option maxRecDepth 100000 in
theorem mt_X4_isFull : gz_Mt yX4_isFull cX4_isFull 1 (some .boolean) rm_X4_isFull se_X4_isFull := by
  have q1 : gz_OkE M_X4_isFull 0 0 0 0 1 _ := ok_aload_n (i := 0) dX4_isFull_0 rfl
  have q2 : gz_OkE M_X4_isFull 0 0 0 0 4 _ := ok_get q1 cl_4 (k := 5) (by decide) in_4 wd_68 dX4_isFull_1
  have q3 : gz_OkE M_X4_isFull 1 0 0 4 5 _ := ok_aload_n (i := 0) dX4_isFull_4 rfl
  have q4 : gz_OkE M_X4_isFull 1 0 0 4 8 _ := ok_get q3 cl_4 (k := 0) (by decide) in_4 wd_63 dX4_isFull_5
  have q5 : gz_OkE M_X4_isFull 1 0 0 4 11 _ := ok_get q4 cl_3 (k := 8) (by decide) in_3 wd_69 dX4_isFull_8
  have q6 : gz_OkE M_X4_isFull 0 0 0 0 12 _ := ok_iadd q2 q5 dX4_isFull_11
  have q7 : gz_OkE M_X4_isFull 1 0 0 12 13 _ := ok_aload_n (i := 0) dX4_isFull_12 rfl
  have q8 : gz_OkE M_X4_isFull 1 0 0 12 16 _ := ok_get q7 cl_4 (k := 3) (by decide) in_4 wd_67 dX4_isFull_13
  have q9 : gz_OkJ M_X4_isFull 0 0 0 0 23 19 _ := ok_ic_lt q6 q8 dX4_isFull_16 (by decide)
  have q10 : gz_OkE M_X4_isFull 0 0 0 19 20 _ := ok_iconst (v := 1) dX4_isFull_19 kc_i1
  have q11 : gz_OkE M_X4_isFull 0 0 0 19 24 _ := ok_eg q10 dX4_isFull_20 (by decide)
  have q12 : gz_OkE M_X4_isFull 0 0 0 23 24 _ := ok_iconst (v := 0) dX4_isFull_23 kc_i0
  have q13 : gz_OkE M_X4_isFull 0 0 0 0 24 _ := ok_te2 q9 q11 q12
  have q14 : gz_OkS M_X4_isFull 0 0 0 _ := ok_ri q13 dX4_isFull_24
  have z : gz_OkS M_X4_isFull 0 0 0 sm_X4_isFull := q14
  exact gz_met (plainFor_of_name (by decide)) z (by decide) (by decide)
noncomputable def sm_X4_send : gz_Sx := gz_ast 101 (gz_get 4 6 4 (gz_la 0)) (gz_iz (fun x y => x - x / y * y) (gz_ib (fun x y => x + y) (gz_li 1) (gz_get 4 6 2 (gz_la 0))) (gz_i (61))) (gz_i (1)) (gz_put 4 6 5 .int (gz_la 0) (gz_ib (fun x y => x + y) (gz_get 4 6 5 (gz_dup)) (gz_i (1))) (gz_rv))
noncomputable def se_X4_send : gz_Me := gz_sem none 2 sm_X4_send
abbrev rm_X4_send : Room := { frames := 0, cells := 0, slots := 0, locals := 0 }
abbrev M_X4_send : gz_Mi := (cX4_send, 2, RX4, 0, 0, "send", none)
theorem de_X4_send : yX4_send.cls ≠ "java/lang/invoke/MethodHandle" ∧ yX4_send.cls ≠ "java/lang/invoke/VarHandle" ∧ (parseMethodDescriptor yX4_send.desc).map (fun d => d.parameters.length) = some 1 := by decide +kernel
set_option maxRecDepth 100000 in
theorem mt_X4_send : gz_Mt yX4_send cX4_send 2 none rm_X4_send se_X4_send := by
  have q1 : gz_OkE M_X4_send 0 0 0 0 1 _ := ok_aload_n (i := 0) dX4_send_0 rfl
  have q2 : gz_OkE M_X4_send 0 0 0 0 4 _ := ok_get q1 cl_4 (k := 4) (by decide) in_4 wd_62 dX4_send_1
  have q3 : gz_OkE M_X4_send 1 0 0 4 5 _ := ok_iload_n (i := 1) dX4_send_4 rfl
  have q4 : gz_OkE M_X4_send 2 0 0 5 6 _ := ok_aload_n (i := 0) dX4_send_5 rfl
  have q5 : gz_OkE M_X4_send 2 0 0 5 9 _ := ok_get q4 cl_4 (k := 2) (by decide) in_4 wd_66 dX4_send_6
  have q6 : gz_OkE M_X4_send 1 0 0 4 10 _ := ok_iadd q3 q5 dX4_send_9
  have q7 : gz_OkE M_X4_send 2 0 0 10 12 _ := ok_bipush (v := 61) dX4_send_10 kc_b61
  have q8 : gz_OkE M_X4_send 1 0 0 4 13 _ := ok_irem q6 q7 dX4_send_12
  have q9 : gz_OkE M_X4_send 2 0 0 13 14 _ := ok_iconst (v := 1) dX4_send_13 kc_i1
  have q10 : gz_OkE M_X4_send 0 0 0 15 16 _ := ok_aload_n (i := 0) dX4_send_15 rfl
  have q11 : gz_OkE M_X4_send 1 0 0 16 17 _ := ok_dup dX4_send_16
  have q12 : gz_OkE M_X4_send 1 0 0 16 20 _ := ok_get q11 cl_4 (k := 5) (by decide) in_4 wd_68 dX4_send_17
  have q13 : gz_OkE M_X4_send 2 0 0 20 21 _ := ok_iconst (v := 1) dX4_send_20 kc_i1
  have q14 : gz_OkE M_X4_send 1 0 0 16 22 _ := ok_iadd q12 q13 dX4_send_21
  have q15 : gz_OkS M_X4_send 0 0 25 _ := ok_rv dX4_send_25
  have q16 : gz_OkS M_X4_send 0 0 15 _ := ok_put (ty := .int) q10 q14 cl_4 (k := 5) (by decide) in_4 wd_68 tyX4 tyX4_ok nmX4 rfl rfl dX4_send_22 q15
  have q17 : gz_OkS M_X4_send 0 0 0 _ := ok_zast q2 q8 q9 dX4_send_14 q16
  have z : gz_OkS M_X4_send 0 0 0 sm_X4_send := q17
  exact gz_met (plainFor_of_name (by decide)) z (by decide) (by decide)
noncomputable def sm_X3_leave : gz_Sx := gz_put 3 14 7 .int (gz_la 0) (gz_te (gz_j1 (fun x => decide (x = 0)) (gz_li 2)) (gz_i (0)) (gz_ib (fun x y => x + y) (gz_get 3 14 7 (gz_la 0)) (gz_get 3 14 2 (gz_la 0)))) (gz_seq 102 1 (gz_if (gz_jo (gz_j2 (fun x y => decide (x < y)) (gz_get 3 14 7 (gz_la 0)) (gz_i (3600))) (gz_jo (gz_j1 (fun x => decide (x ≤ 0)) (gz_get 3 14 8 (gz_la 0))) (gz_ja (gz_jn (gz_get 3 14 4 (gz_la 0))) (gz_j1 (fun x => decide (¬ x = 0)) (gz_cv 4 6 se_X4_isFull (gz_a1 (gz_a0) (gz_get 3 14 4 (gz_la 0)))))))) (gz_sat 102) (gz_put 3 14 7 .int (gz_la 0) (gz_ib (fun x y => x - y) (gz_get 3 14 7 (gz_dup)) (gz_i (3600))) (gz_put 3 14 8 .int (gz_la 0) (gz_ib (fun x y => x - y) (gz_get 3 14 8 (gz_dup)) (gz_i (1))) (gz_put 3 14 10 .int (gz_la 0) (gz_ib (fun x y => x + y) (gz_get 3 14 10 (gz_dup)) (gz_i (1))) (gz_if (gz_jn (gz_get 3 14 4 (gz_la 0))) (gz_sat 102) (gz_vv 4 6 se_X4_send (gz_a1 (gz_a1 (gz_a0) (gz_get 3 14 4 (gz_la 0))) (gz_li 1)) (gz_sat 102))))))) (gz_put 3 14 7 .int (gz_la 0) (gz_cs se_J9_min_7cf53 (gz_a1 (gz_a1 (gz_a0) (gz_get 3 14 7 (gz_la 0))) (gz_i (3600)))) (gz_rv)))
noncomputable def se_X3_leave : gz_Me := gz_sem none 3 sm_X3_leave
abbrev rm_X3_leave : Room := { frames := 1, cells := 0, slots := 0, locals := 21 }
abbrev M_X3_leave : gz_Mi := (cX3_leave, 3, RX3, 1, 21, "leave", none)
theorem de_X3_leave : yX3_leave.cls ≠ "java/lang/invoke/MethodHandle" ∧ yX3_leave.cls ≠ "java/lang/invoke/VarHandle" ∧ (parseMethodDescriptor yX3_leave.desc).map (fun d => d.parameters.length) = some 2 := by decide +kernel
set_option maxRecDepth 100000 in
theorem mt_X3_leave : gz_Mt yX3_leave cX3_leave 3 none rm_X3_leave se_X3_leave := by
  have q1 : gz_OkE M_X3_leave 0 0 0 0 1 _ := ok_aload_n (i := 0) dX3_leave_0 rfl
  have q2 : gz_OkE M_X3_leave 1 0 0 1 2 _ := ok_iload_n (i := 2) dX3_leave_1 rfl
  have q3 : gz_OkJ M_X3_leave 1 0 0 1 17 5 _ := ok_if_eq q2 dX3_leave_2 (by decide)
  have q4 : gz_OkE M_X3_leave 1 0 0 5 6 _ := ok_aload_n (i := 0) dX3_leave_5 rfl
  have q5 : gz_OkE M_X3_leave 1 0 0 5 9 _ := ok_get q4 cl_3 (k := 7) (by decide) in_3 wd_56 dX3_leave_6
  have q6 : gz_OkE M_X3_leave 2 0 0 9 10 _ := ok_aload_n (i := 0) dX3_leave_9 rfl
  have q7 : gz_OkE M_X3_leave 2 0 0 9 13 _ := ok_get q6 cl_3 (k := 2) (by decide) in_3 wd_46 dX3_leave_10
  have q8 : gz_OkE M_X3_leave 1 0 0 5 14 _ := ok_iadd q5 q7 dX3_leave_13
  have q9 : gz_OkE M_X3_leave 1 0 0 5 18 _ := ok_eg q8 dX3_leave_14 (by decide)
  have q10 : gz_OkE M_X3_leave 1 0 0 17 18 _ := ok_iconst (v := 0) dX3_leave_17 kc_i0
  have q11 : gz_OkE M_X3_leave 1 0 0 1 18 _ := ok_te2 q3 q9 q10
  have q12 : gz_OkE M_X3_leave 0 0 0 21 22 _ := ok_aload_n (i := 0) dX3_leave_21 rfl
  have q13 : gz_OkE M_X3_leave 0 0 0 21 25 _ := ok_get q12 cl_3 (k := 7) (by decide) in_3 wd_56 dX3_leave_22
  have q14 : gz_OkE M_X3_leave 1 0 0 25 28 _ := ok_sipush (v := 3600) dX3_leave_25 kc_s3600
  have q15 : gz_OkJ M_X3_leave 0 0 0 21 102 31 _ := ok_ic_lt q13 q14 dX3_leave_28 (by decide)
  have q16 : gz_OkE M_X3_leave 0 0 0 31 32 _ := ok_aload_n (i := 0) dX3_leave_31 rfl
  have q17 : gz_OkE M_X3_leave 0 0 0 31 35 _ := ok_get q16 cl_3 (k := 8) (by decide) in_3 wd_52 dX3_leave_32
  have q18 : gz_OkJ M_X3_leave 0 0 0 31 102 38 _ := ok_if_le q17 dX3_leave_35 (by decide)
  have q19 : gz_OkE M_X3_leave 0 0 0 38 39 _ := ok_aload_n (i := 0) dX3_leave_38 rfl
  have q20 : gz_OkE M_X3_leave 0 0 0 38 42 _ := ok_get q19 cl_3 (k := 4) (by decide) in_3 wd_57 dX3_leave_39
  have q21 : gz_OkJ M_X3_leave 0 0 0 38 55 45 _ := ok_jn q20 dX3_leave_42 (by decide)
  have q22 : gz_OkA M_X3_leave 0 0 0 45 45 0 _ := ok_a0
  have q23 : gz_OkE M_X3_leave 0 0 0 45 46 _ := ok_aload_n (i := 0) dX3_leave_45 rfl
  have q24 : gz_OkE M_X3_leave 0 0 0 45 49 _ := ok_get q23 cl_3 (k := 4) (by decide) in_3 wd_57 dX3_leave_46
  have q25 : gz_OkA M_X3_leave 0 0 0 45 49 1 _ := ok_a1 q22 q24
  have q26 : gz_OkE M_X3_leave 0 0 0 45 52 _ := ok_cv q25 mt_X4_isFull cl_4 wd_494 wd_495 de_X4_isFull (by decide) (by decide) wd_496 wd_497 wd_498 dX3_leave_49 (by decide)
  have q27 : gz_OkJ M_X3_leave 0 0 0 45 102 55 _ := ok_if_ne q26 dX3_leave_52 (by decide)
  have q28 : gz_OkJ M_X3_leave 0 0 0 38 102 55 _ := ok_ja q21 q27
  have q29 : gz_OkJ M_X3_leave 0 0 0 31 102 55 _ := ok_jo q18 q28
  have q30 : gz_OkJ M_X3_leave 0 0 0 21 102 55 _ := ok_jo q15 q29
  have q31 : gz_OkS M_X3_leave 0 0 102 _ := ok_at
  have q32 : gz_OkE M_X3_leave 0 0 0 55 56 _ := ok_aload_n (i := 0) dX3_leave_55 rfl
  have q33 : gz_OkE M_X3_leave 1 0 0 56 57 _ := ok_dup dX3_leave_56
  have q34 : gz_OkE M_X3_leave 1 0 0 56 60 _ := ok_get q33 cl_3 (k := 7) (by decide) in_3 wd_56 dX3_leave_57
  have q35 : gz_OkE M_X3_leave 2 0 0 60 63 _ := ok_sipush (v := 3600) dX3_leave_60 kc_s3600
  have q36 : gz_OkE M_X3_leave 1 0 0 56 64 _ := ok_isub q34 q35 dX3_leave_63
  have q37 : gz_OkE M_X3_leave 0 0 0 67 68 _ := ok_aload_n (i := 0) dX3_leave_67 rfl
  have q38 : gz_OkE M_X3_leave 1 0 0 68 69 _ := ok_dup dX3_leave_68
  have q39 : gz_OkE M_X3_leave 1 0 0 68 72 _ := ok_get q38 cl_3 (k := 8) (by decide) in_3 wd_52 dX3_leave_69
  have q40 : gz_OkE M_X3_leave 2 0 0 72 73 _ := ok_iconst (v := 1) dX3_leave_72 kc_i1
  have q41 : gz_OkE M_X3_leave 1 0 0 68 74 _ := ok_isub q39 q40 dX3_leave_73
  have q42 : gz_OkE M_X3_leave 0 0 0 77 78 _ := ok_aload_n (i := 0) dX3_leave_77 rfl
  have q43 : gz_OkE M_X3_leave 1 0 0 78 79 _ := ok_dup dX3_leave_78
  have q44 : gz_OkE M_X3_leave 1 0 0 78 82 _ := ok_get q43 cl_3 (k := 10) (by decide) in_3 wd_58 dX3_leave_79
  have q45 : gz_OkE M_X3_leave 2 0 0 82 83 _ := ok_iconst (v := 1) dX3_leave_82 kc_i1
  have q46 : gz_OkE M_X3_leave 1 0 0 78 84 _ := ok_iadd q44 q45 dX3_leave_83
  have q47 : gz_OkE M_X3_leave 0 0 0 87 88 _ := ok_aload_n (i := 0) dX3_leave_87 rfl
  have q48 : gz_OkE M_X3_leave 0 0 0 87 91 _ := ok_get q47 cl_3 (k := 4) (by decide) in_3 wd_57 dX3_leave_88
  have q49 : gz_OkJ M_X3_leave 0 0 0 87 102 94 _ := ok_jn q48 dX3_leave_91 (by decide)
  have q50 : gz_OkS M_X3_leave 0 0 102 _ := ok_at
  have q51 : gz_OkA M_X3_leave 0 0 0 94 94 0 _ := ok_a0
  have q52 : gz_OkE M_X3_leave 0 0 0 94 95 _ := ok_aload_n (i := 0) dX3_leave_94 rfl
  have q53 : gz_OkE M_X3_leave 0 0 0 94 98 _ := ok_get q52 cl_3 (k := 4) (by decide) in_3 wd_57 dX3_leave_95
  have q54 : gz_OkA M_X3_leave 0 0 0 94 98 1 _ := ok_a1 q51 q53
  have q55 : gz_OkE M_X3_leave 2 0 0 98 99 _ := ok_iload_n (i := 1) dX3_leave_98 rfl
  have q56 : gz_OkA M_X3_leave 0 0 0 94 99 2 _ := ok_a1 q54 q55
  have q57 : gz_OkS M_X3_leave 0 0 102 _ := ok_at
  have q58 : gz_OkS M_X3_leave 0 0 94 _ := ok_vv q56 mt_X4_send cl_4 wd_499 wd_495 de_X4_send (by decide) (by decide) wd_500 wd_501 wd_502 dX3_leave_99 q57
  have q59 : gz_OkS M_X3_leave 0 0 87 _ := ok_if q49 q50 q58
  have q60 : gz_OkS M_X3_leave 0 0 77 _ := ok_put (ty := .int) q42 q46 cl_3 (k := 10) (by decide) in_3 wd_58 tyX3 tyX3_ok nmX3 rfl rfl dX3_leave_84 q59
  have q61 : gz_OkS M_X3_leave 0 0 67 _ := ok_put (ty := .int) q37 q41 cl_3 (k := 8) (by decide) in_3 wd_52 tyX3 tyX3_ok nmX3 rfl rfl dX3_leave_74 q60
  have q62 : gz_OkS M_X3_leave 0 0 55 _ := ok_put (ty := .int) q32 q36 cl_3 (k := 7) (by decide) in_3 wd_56 tyX3 tyX3_ok nmX3 rfl rfl dX3_leave_64 q61
  have q63 : gz_OkS M_X3_leave 0 0 21 _ := ok_if q30 q31 q62
  have q64 : gz_OkE M_X3_leave 0 0 0 102 103 _ := ok_aload_n (i := 0) dX3_leave_102 rfl
  have q65 : gz_OkA M_X3_leave 1 0 0 103 103 0 _ := ok_a0
  have q66 : gz_OkE M_X3_leave 1 0 0 103 104 _ := ok_aload_n (i := 0) dX3_leave_103 rfl
  have q67 : gz_OkE M_X3_leave 1 0 0 103 107 _ := ok_get q66 cl_3 (k := 7) (by decide) in_3 wd_56 dX3_leave_104
  have q68 : gz_OkA M_X3_leave 1 0 0 103 107 1 _ := ok_a1 q65 q67
  have q69 : gz_OkE M_X3_leave 3 0 0 107 110 _ := ok_sipush (v := 3600) dX3_leave_107 kc_s3600
  have q70 : gz_OkA M_X3_leave 1 0 0 103 110 2 _ := ok_a1 q68 q69
  have q71 : gz_OkE M_X3_leave 1 0 0 103 113 _ := ok_cs q70 mt_J9_min_7cf53 wd_425 wd_411 de_J9_min_7cf53 (by decide) (by decide) wd_503 wd_427 dX3_leave_110 (by decide)
  have q72 : gz_OkS M_X3_leave 0 0 116 _ := ok_rv dX3_leave_116
  have q73 : gz_OkS M_X3_leave 0 0 102 _ := ok_put (ty := .int) q64 q71 cl_3 (k := 7) (by decide) in_3 wd_56 tyX3 tyX3_ok nmX3 rfl rfl dX3_leave_113 q72
  have q74 : gz_OkS M_X3_leave 0 0 21 _ := ok_seq (L := 102) (k := 1) q63 q73
  have q75 : gz_OkS M_X3_leave 0 0 0 _ := ok_put (ty := .int) q1 q11 cl_3 (k := 7) (by decide) in_3 wd_56 tyX3 tyX3_ok nmX3 rfl rfl dX3_leave_18 q74
  have z : gz_OkS M_X3_leave 0 0 0 sm_X3_leave := q75
  exact gz_met (plainFor_of_name (by decide)) z (by decide) (by decide)
