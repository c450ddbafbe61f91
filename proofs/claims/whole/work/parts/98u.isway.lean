def RF (hr h : gz_H) (K : Nat) (J : Nat → Nat) : Prop := gz_I h 15 47 = nI K ∧ ∀ k, k < K → gz_I h 53 k = nI (J k) ∧ gz_I h 54 k = gz_I hr 28 (8 + J k)
set_option maxHeartbeats 16000000 in
theorem rw8 {g : gz_G} {T : Nat} {P : Nat → Nat} {hc hr : gz_H} (H : IV g T P hc hr) (a b c x y p q : Int32) : (∃ hr', se_X8_isWay [.ref 15, .int a, .int b, .int c, .int x, .int y, .int p, .int q] hr = some (some (.int 0), hr') ∧ RW hr hr' ∧ ¬ ∃ K xn yn pn qn J, GD g hr a b c x y p q K xn yn pn qn J) ∨ (∃ hr' K xn yn pn qn J, se_X8_isWay [.ref 15, .int a, .int b, .int c, .int x, .int y, .int p, .int q] hr = some (some (.int 1), hr') ∧ RW hr hr' ∧ GD g hr a b c x y p q K xn yn pn qn J ∧ RF hr hr' K J) := by
  have m := IV_md H
  have h8 := IV_8 H
  have e120 : nI 120 = (120 : Int32) := rfl
  have e0 : nI 0 = (0 : Int32) := rfl
  have W0 : RW hr hr := ⟨m, fr7_rf _, fun _ _ _ _ _ => rfl⟩
  have nm1 : ∀ j : Nat, j < 8 → ¬ nI j = -1 := fun j hj z => by
    have := nI_pos (n := j) (by omega)
    rw [z] at this
    exact this (by decide)
  have x32 : ((3 : Int32) = 2) = False := by decide
  have x23 : ((2 : Int32) = 3) = False := by decide
  have l00 : ¬ (0 : Int32) < 0 := by decide
  have l10 : ¬ (1 : Int32) < 0 := by decide
  have l20 : ¬ (2 : Int32) < 0 := by decide
  have c00 : (0 : Int32).toNatClampNeg = 0 := rfl
  have c10 : (1 : Int32).toNatClampNeg = 1 := rfl
  have c20 : (2 : Int32).toNatClampNeg = 2 := rfl
  have q03 : 0 < 3 := by decide
  have q13 : 1 < 3 := by decide
  have q23 : 2 < 3 := by decide
  by_cases cm : c = -1
  · subst cm
    have W1 : RW hr (gz_set (gz_set (gz_set (gz_set hr 15 47 (.int 2)) 53 0 (.int a)) 53 1 (.int b)) 53 2 (.int (-1))) := RW_53 (RW_53 (RW_53 (RW_47 W0 2) 0 a) 1 b) 2 (-1)
    have m1 := (RW_47 W0 2).1
    have m2 := (RW_53 (RW_47 W0 2) 0 a).1
    have m3 := (RW_53 (RW_53 (RW_47 W0 2) 0 a) 1 b).1
    have m4 := W1.1
    have e47 : gz_I (gz_set (gz_set (gz_set (gz_set hr 15 47 (.int 2)) 53 0 (.int a)) 53 1 (.int b)) 53 2 (.int (-1))) 15 47 = 2 := by
      rw [I_seto _ _ _ _ _ _ (by omega), I_seto _ _ _ _ _ _ (by omega), I_seto _ _ _ _ _ _ (by omega), I_set, if_pos ⟨rfl, rfl⟩]
    have e530 : gz_I (gz_set (gz_set (gz_set (gz_set hr 15 47 (.int 2)) 53 0 (.int a)) 53 1 (.int b)) 53 2 (.int (-1))) 53 0 = a := by
      rw [I_seto _ _ _ _ _ _ (by omega), I_seto _ _ _ _ _ _ (by omega), I_set, if_pos ⟨rfl, rfl⟩]
    have e531 : gz_I (gz_set (gz_set (gz_set (gz_set hr 15 47 (.int 2)) 53 0 (.int a)) 53 1 (.int b)) 53 2 (.int (-1))) 53 1 = b := by
      rw [I_seto _ _ _ _ _ _ (by omega), I_set, if_pos ⟨rfl, rfl⟩]
    have e532 : gz_I (gz_set (gz_set (gz_set (gz_set hr 15 47 (.int 2)) 53 0 (.int a)) 53 1 (.int b)) 53 2 (.int (-1))) 53 2 = (-1) := by
      rw [I_set, if_pos ⟨rfl, rfl⟩]
    generalize hR : gz_set (gz_set (gz_set (gz_set hr 15 47 (.int 2)) 53 0 (.int a)) 53 1 (.int b)) 53 2 (.int (-1)) = R0 at *
    have KK : ∀ K xn yn pn qn J, GD g hr a b (-1) x y p q K xn yn pn qn J → K = 2 ∧ qn = 0 ∧ xn < 100 ∧ yn < 100 := fun K xn yn pn qn J gd => by
      rcases gd.1 with ⟨z1, z2, z3, z4, z5⟩ | ⟨z1, z2, z3, z4, z5, z6⟩
      · exact ⟨z1, z5, z3, z4⟩
      · exact absurd rfl z2
    by_cases x0 : x < 0
    · skip
      refine Or.inl ⟨R0, ?_, W1, fun ⟨K, xn, yn, pn, qn, J, gd⟩ => ?_⟩
      · simp only [se_X8_isWay, sm_X8_isWay, gz_sem, gz_ae, Value.category, gz_i, gz_l, gz_nu, gz_li, gz_ll, gz_la, gz_ib, gz_iz, gz_lb, gz_lz, gz_ls, gz_lc, gz_i2l, gz_l2i, gz_get, gz_ald, gz_len, gz_dup, gz_d2, gz_nar, gz_a0, gz_a1, gz_cs, gz_cv, gz_mk, gz_te, gz_j1, gz_j2, gz_jn, gz_jk, gz_jo, gz_ja, gz_sat, gz_seti, gz_seta, gz_set2, gz_inc, gz_put, gz_ast, gz_pop, gz_vs, gz_vv, gz_sup, gz_rv, gz_ri, gz_rl, gz_ra, gz_if, gz_seq, gz_sw, gz_st, gz_st2, rok_I, rok_J, rok_V, rok_Z0, rok_Z1, rok_Zi, rok_R, rok_N, bi_rok, bi_0, bi_1, fit_I, fit_J, fit_Z0, fit_Z1, fit_Zi, fit_R, fit_N, fit_aR, aty_I, aty_Z0, aty_Z1, aty_Zi, aty_J, gz_ix, List.getElem?_cons_zero, List.getElem?_cons_succ, List.getElem?_nil, List.reverse_cons, List.reverse_nil, List.nil_append, List.cons_append, List.take_succ_cons, List.take_zero, List.take_nil, List.length_cons, List.length_nil, decide_true, decide_false, decide_not, Bool.not_true, Bool.not_false, gz_nle, if_true, if_false, and_true, true_and, and_self, and_false, false_and, or_true, true_or, or_false, false_or, Bool.false_eq_true, not_true, not_false_iff, Decidable.not_not, Nat.reduceLeDiff, Nat.reduceAdd, Nat.reduceEqDiff, Nat.reduceSub, Nat.reduceLT, Nat.zero_add, reduceCtorEq, reduceIte, eq_self, i32_10, i32_01, Nat.zero_le, Nat.one_ne_zero, m, m1, m2, m3, m4, md_k, l00, l10, l20, c00, c10, c20, q03, q13, q23, hR, e47, x32, x23, x0]
      · rw [gd.2.2.1] at x0; exact nI_pos (by have := KK _ _ _ _ _ _ gd; omega) x0
    by_cases y0 : y < 0
    · skip
      refine Or.inl ⟨R0, ?_, W1, fun ⟨K, xn, yn, pn, qn, J, gd⟩ => ?_⟩
      · simp only [se_X8_isWay, sm_X8_isWay, gz_sem, gz_ae, Value.category, gz_i, gz_l, gz_nu, gz_li, gz_ll, gz_la, gz_ib, gz_iz, gz_lb, gz_lz, gz_ls, gz_lc, gz_i2l, gz_l2i, gz_get, gz_ald, gz_len, gz_dup, gz_d2, gz_nar, gz_a0, gz_a1, gz_cs, gz_cv, gz_mk, gz_te, gz_j1, gz_j2, gz_jn, gz_jk, gz_jo, gz_ja, gz_sat, gz_seti, gz_seta, gz_set2, gz_inc, gz_put, gz_ast, gz_pop, gz_vs, gz_vv, gz_sup, gz_rv, gz_ri, gz_rl, gz_ra, gz_if, gz_seq, gz_sw, gz_st, gz_st2, rok_I, rok_J, rok_V, rok_Z0, rok_Z1, rok_Zi, rok_R, rok_N, bi_rok, bi_0, bi_1, fit_I, fit_J, fit_Z0, fit_Z1, fit_Zi, fit_R, fit_N, fit_aR, aty_I, aty_Z0, aty_Z1, aty_Zi, aty_J, gz_ix, List.getElem?_cons_zero, List.getElem?_cons_succ, List.getElem?_nil, List.reverse_cons, List.reverse_nil, List.nil_append, List.cons_append, List.take_succ_cons, List.take_zero, List.take_nil, List.length_cons, List.length_nil, decide_true, decide_false, decide_not, Bool.not_true, Bool.not_false, gz_nle, if_true, if_false, and_true, true_and, and_self, and_false, false_and, or_true, true_or, or_false, false_or, Bool.false_eq_true, not_true, not_false_iff, Decidable.not_not, Nat.reduceLeDiff, Nat.reduceAdd, Nat.reduceEqDiff, Nat.reduceSub, Nat.reduceLT, Nat.zero_add, reduceCtorEq, reduceIte, eq_self, i32_10, i32_01, Nat.zero_le, Nat.one_ne_zero, m, m1, m2, m3, m4, md_k, l00, l10, l20, c00, c10, c20, q03, q13, q23, hR, e47, x32, x23, x0, y0]
      · rw [gd.2.2.2.1] at y0; exact nI_pos (by have := KK _ _ _ _ _ _ gd; omega) y0
    rcases in_cs 0 120 (by decide) (by decide) p with o | ⟨pn, -, pb, rfl⟩
    · have o1 := (io_no o hc R0).2
      rw [e0, e120] at o1
      refine Or.inl ⟨R0, ?_, W1, fun ⟨K, xn, yn, pn, qn, J, gd⟩ => ?_⟩
      · simp only [se_X8_isWay, sm_X8_isWay, gz_sem, gz_ae, Value.category, gz_i, gz_l, gz_nu, gz_li, gz_ll, gz_la, gz_ib, gz_iz, gz_lb, gz_lz, gz_ls, gz_lc, gz_i2l, gz_l2i, gz_get, gz_ald, gz_len, gz_dup, gz_d2, gz_nar, gz_a0, gz_a1, gz_cs, gz_cv, gz_mk, gz_te, gz_j1, gz_j2, gz_jn, gz_jk, gz_jo, gz_ja, gz_sat, gz_seti, gz_seta, gz_set2, gz_inc, gz_put, gz_ast, gz_pop, gz_vs, gz_vv, gz_sup, gz_rv, gz_ri, gz_rl, gz_ra, gz_if, gz_seq, gz_sw, gz_st, gz_st2, rok_I, rok_J, rok_V, rok_Z0, rok_Z1, rok_Zi, rok_R, rok_N, bi_rok, bi_0, bi_1, fit_I, fit_J, fit_Z0, fit_Z1, fit_Zi, fit_R, fit_N, fit_aR, aty_I, aty_Z0, aty_Z1, aty_Zi, aty_J, gz_ix, List.getElem?_cons_zero, List.getElem?_cons_succ, List.getElem?_nil, List.reverse_cons, List.reverse_nil, List.nil_append, List.cons_append, List.take_succ_cons, List.take_zero, List.take_nil, List.length_cons, List.length_nil, decide_true, decide_false, decide_not, Bool.not_true, Bool.not_false, gz_nle, if_true, if_false, and_true, true_and, and_self, and_false, false_and, or_true, true_or, or_false, false_or, Bool.false_eq_true, not_true, not_false_iff, Decidable.not_not, Nat.reduceLeDiff, Nat.reduceAdd, Nat.reduceEqDiff, Nat.reduceSub, Nat.reduceLT, Nat.zero_add, reduceCtorEq, reduceIte, eq_self, i32_10, i32_01, Nat.zero_le, Nat.one_ne_zero, m, m1, m2, m3, m4, md_k, l00, l10, l20, c00, c10, c20, q03, q13, q23, hR, e47, x32, x23, x0, y0, o1]
      · rw [gd.2.2.2.2.1] at o; exact o.elim (nI_nlt (by omega) (by have := gd.2.2.2.2.2.1; omega)) (nI_nlt gd.2.2.2.2.2.1 (by omega))
    have op := (io_yes (Nat.zero_le pn) pb (by decide) hc R0).2
    rw [e0, e120] at op
    rcases in_cs 0 120 (by decide) (by decide) q with o | ⟨qn, -, qb, rfl⟩
    · have o1 := (io_no o hc R0).2
      rw [e0, e120] at o1
      refine Or.inl ⟨R0, ?_, W1, fun ⟨K, xn, yn, pn, qn, J, gd⟩ => ?_⟩
      · simp only [se_X8_isWay, sm_X8_isWay, gz_sem, gz_ae, Value.category, gz_i, gz_l, gz_nu, gz_li, gz_ll, gz_la, gz_ib, gz_iz, gz_lb, gz_lz, gz_ls, gz_lc, gz_i2l, gz_l2i, gz_get, gz_ald, gz_len, gz_dup, gz_d2, gz_nar, gz_a0, gz_a1, gz_cs, gz_cv, gz_mk, gz_te, gz_j1, gz_j2, gz_jn, gz_jk, gz_jo, gz_ja, gz_sat, gz_seti, gz_seta, gz_set2, gz_inc, gz_put, gz_ast, gz_pop, gz_vs, gz_vv, gz_sup, gz_rv, gz_ri, gz_rl, gz_ra, gz_if, gz_seq, gz_sw, gz_st, gz_st2, rok_I, rok_J, rok_V, rok_Z0, rok_Z1, rok_Zi, rok_R, rok_N, bi_rok, bi_0, bi_1, fit_I, fit_J, fit_Z0, fit_Z1, fit_Zi, fit_R, fit_N, fit_aR, aty_I, aty_Z0, aty_Z1, aty_Zi, aty_J, gz_ix, List.getElem?_cons_zero, List.getElem?_cons_succ, List.getElem?_nil, List.reverse_cons, List.reverse_nil, List.nil_append, List.cons_append, List.take_succ_cons, List.take_zero, List.take_nil, List.length_cons, List.length_nil, decide_true, decide_false, decide_not, Bool.not_true, Bool.not_false, gz_nle, if_true, if_false, and_true, true_and, and_self, and_false, false_and, or_true, true_or, or_false, false_or, Bool.false_eq_true, not_true, not_false_iff, Decidable.not_not, Nat.reduceLeDiff, Nat.reduceAdd, Nat.reduceEqDiff, Nat.reduceSub, Nat.reduceLT, Nat.zero_add, reduceCtorEq, reduceIte, eq_self, i32_10, i32_01, Nat.zero_le, Nat.one_ne_zero, m, m1, m2, m3, m4, md_k, l00, l10, l20, c00, c10, c20, q03, q13, q23, hR, e47, x32, x23, x0, y0, op, o1]
      · rw [gd.2.2.2.2.2.2.1] at o; exact o.elim (nI_nlt (by omega) (by have := gd.2.2.2.2.2.2.2.1; omega)) (nI_nlt gd.2.2.2.2.2.2.2.1 (by omega))
    have oq := (io_yes (Nat.zero_le qn) qb (by decide) hc R0).2
    rw [e0, e120] at oq
    by_cases q0 : qn = 0
    case neg =>
      have q0' : ¬ nI qn = 0 := nI_ne0 (by omega) (by omega)
      refine Or.inl ⟨R0, ?_, W1, fun ⟨K, xn, yn, pn, qn, J, gd⟩ => ?_⟩
      · simp only [se_X8_isWay, sm_X8_isWay, gz_sem, gz_ae, Value.category, gz_i, gz_l, gz_nu, gz_li, gz_ll, gz_la, gz_ib, gz_iz, gz_lb, gz_lz, gz_ls, gz_lc, gz_i2l, gz_l2i, gz_get, gz_ald, gz_len, gz_dup, gz_d2, gz_nar, gz_a0, gz_a1, gz_cs, gz_cv, gz_mk, gz_te, gz_j1, gz_j2, gz_jn, gz_jk, gz_jo, gz_ja, gz_sat, gz_seti, gz_seta, gz_set2, gz_inc, gz_put, gz_ast, gz_pop, gz_vs, gz_vv, gz_sup, gz_rv, gz_ri, gz_rl, gz_ra, gz_if, gz_seq, gz_sw, gz_st, gz_st2, rok_I, rok_J, rok_V, rok_Z0, rok_Z1, rok_Zi, rok_R, rok_N, bi_rok, bi_0, bi_1, fit_I, fit_J, fit_Z0, fit_Z1, fit_Zi, fit_R, fit_N, fit_aR, aty_I, aty_Z0, aty_Z1, aty_Zi, aty_J, gz_ix, List.getElem?_cons_zero, List.getElem?_cons_succ, List.getElem?_nil, List.reverse_cons, List.reverse_nil, List.nil_append, List.cons_append, List.take_succ_cons, List.take_zero, List.take_nil, List.length_cons, List.length_nil, decide_true, decide_false, decide_not, Bool.not_true, Bool.not_false, gz_nle, if_true, if_false, and_true, true_and, and_self, and_false, false_and, or_true, true_or, or_false, false_or, Bool.false_eq_true, not_true, not_false_iff, Decidable.not_not, Nat.reduceLeDiff, Nat.reduceAdd, Nat.reduceEqDiff, Nat.reduceSub, Nat.reduceLT, Nat.zero_add, reduceCtorEq, reduceIte, eq_self, i32_10, i32_01, Nat.zero_le, Nat.one_ne_zero, m, m1, m2, m3, m4, md_k, l00, l10, l20, c00, c10, c20, q03, q13, q23, hR, e47, x32, x23, x0, y0, op, oq, q0']
      · have z1 := KK _ _ _ _ _ _ gd
        have z2 := gd.2.2.2.2.2.2.1
        have := (nI_eq (by omega) (by omega)).mp z2
        omega
    subst q0
    rw [e0] at oq
    by_cases ab : a = b
    · subst ab
      refine Or.inl ⟨R0, ?_, W1, fun ⟨K, xn, yn, pn, qn, J, gd⟩ => ?_⟩
      · simp only [se_X8_isWay, sm_X8_isWay, gz_sem, gz_ae, Value.category, gz_i, gz_l, gz_nu, gz_li, gz_ll, gz_la, gz_ib, gz_iz, gz_lb, gz_lz, gz_ls, gz_lc, gz_i2l, gz_l2i, gz_get, gz_ald, gz_len, gz_dup, gz_d2, gz_nar, gz_a0, gz_a1, gz_cs, gz_cv, gz_mk, gz_te, gz_j1, gz_j2, gz_jn, gz_jk, gz_jo, gz_ja, gz_sat, gz_seti, gz_seta, gz_set2, gz_inc, gz_put, gz_ast, gz_pop, gz_vs, gz_vv, gz_sup, gz_rv, gz_ri, gz_rl, gz_ra, gz_if, gz_seq, gz_sw, gz_st, gz_st2, rok_I, rok_J, rok_V, rok_Z0, rok_Z1, rok_Zi, rok_R, rok_N, bi_rok, bi_0, bi_1, fit_I, fit_J, fit_Z0, fit_Z1, fit_Zi, fit_R, fit_N, fit_aR, aty_I, aty_Z0, aty_Z1, aty_Zi, aty_J, gz_ix, List.getElem?_cons_zero, List.getElem?_cons_succ, List.getElem?_nil, List.reverse_cons, List.reverse_nil, List.nil_append, List.cons_append, List.take_succ_cons, List.take_zero, List.take_nil, List.length_cons, List.length_nil, decide_true, decide_false, decide_not, Bool.not_true, Bool.not_false, gz_nle, if_true, if_false, and_true, true_and, and_self, and_false, false_and, or_true, true_or, or_false, false_or, Bool.false_eq_true, not_true, not_false_iff, Decidable.not_not, Nat.reduceLeDiff, Nat.reduceAdd, Nat.reduceEqDiff, Nat.reduceSub, Nat.reduceLT, Nat.zero_add, reduceCtorEq, reduceIte, eq_self, i32_10, i32_01, Nat.zero_le, Nat.one_ne_zero, m, m1, m2, m3, m4, md_k, l00, l10, l20, c00, c10, c20, q03, q13, q23, hR, e47, x32, x23, x0, y0, op, oq, e0]
      · exact gd.2.1 rfl
    obtain ⟨xn, xb, rfl⟩ := nI_of x0
    obtain ⟨yn, yb, rfl⟩ := nI_of y0
    have gdd : ∀ K xn' yn' pn' qn' J, GD g hr a b (-1) (nI xn) (nI yn) (nI pn) (nI 0) K xn' yn' pn' qn' J → K = 2 ∧ xn' = xn ∧ yn' = yn := fun K xn' yn' pn' qn' J gd => by
      have b1 := KK _ _ _ _ _ _ gd
      exact ⟨b1.1, ((nI_eq xb (by omega)).mp gd.2.2.1).symm, ((nI_eq yb (by omega)).mp gd.2.2.2.1).symm⟩
    obtain ⟨j0, hj0⟩ : ∃ j0, (a = a ∧ ∀ j, a = nI j → j < g 7 0 → j0 = j) := by
      rcases ja_cs h8 a with hx | ⟨j, hj, ej⟩
      · exact ⟨0, rfl, fun j ej hj => by rw [ej] at hx; exact (hx.elim (nI_pos (by omega)) (fun u => u (nI_lt hj (by omega)))).elim⟩
      · exact ⟨j, rfl, fun j' ej' hj' => (nI_eq (by omega) (by omega)).mp (ej.symm.trans ej')⟩
    have n3 : nI 2 = (2 : Int32) := rfl
    have w47 : gz_I R0 15 47 = nI 2 := e47
    rcases wstep H W1 2 0 (by omega) (by omega) w47 a a e530 b (-1) (nI xn) (nI yn) (nI pn) (nI 0) xn yn xb yb j0 (Or.inl hj0) with ⟨n0, s0⟩ | ⟨ja, g0, s0⟩
    · have lp := gz_loop_ret (L := 118) (k := 11) s0
      rw [e0] at lp
      refine Or.inl ⟨R0, ?_, W1, fun ⟨K, xn', yn', pn', qn', J, gd⟩ => n0 ?_⟩
      · simp only [se_X8_isWay, sm_X8_isWay, gz_sem, gz_ae, Value.category, gz_i, gz_l, gz_nu, gz_li, gz_ll, gz_la, gz_ib, gz_iz, gz_lb, gz_lz, gz_ls, gz_lc, gz_i2l, gz_l2i, gz_get, gz_ald, gz_len, gz_dup, gz_d2, gz_nar, gz_a0, gz_a1, gz_cs, gz_cv, gz_mk, gz_te, gz_j1, gz_j2, gz_jn, gz_jk, gz_jo, gz_ja, gz_sat, gz_seti, gz_seta, gz_set2, gz_inc, gz_put, gz_ast, gz_pop, gz_vs, gz_vv, gz_sup, gz_rv, gz_ri, gz_rl, gz_ra, gz_if, gz_seq, gz_sw, gz_st, gz_st2, rok_I, rok_J, rok_V, rok_Z0, rok_Z1, rok_Zi, rok_R, rok_N, bi_rok, bi_0, bi_1, fit_I, fit_J, fit_Z0, fit_Z1, fit_Zi, fit_R, fit_N, fit_aR, aty_I, aty_Z0, aty_Z1, aty_Zi, aty_J, gz_ix, List.getElem?_cons_zero, List.getElem?_cons_succ, List.getElem?_nil, List.reverse_cons, List.reverse_nil, List.nil_append, List.cons_append, List.take_succ_cons, List.take_zero, List.take_nil, List.length_cons, List.length_nil, decide_true, decide_false, decide_not, Bool.not_true, Bool.not_false, gz_nle, if_true, if_false, and_true, true_and, and_self, and_false, false_and, or_true, true_or, or_false, false_or, Bool.false_eq_true, not_true, not_false_iff, Decidable.not_not, Nat.reduceLeDiff, Nat.reduceAdd, Nat.reduceEqDiff, Nat.reduceSub, Nat.reduceLT, Nat.zero_add, reduceCtorEq, reduceIte, eq_self, i32_10, i32_01, Nat.zero_le, Nat.one_ne_zero, m, m1, m2, m3, m4, md_k, l00, l10, l20, c00, c10, c20, q03, q13, q23, hR, e47, x32, x23, x0, y0, op, oq, e0, ab, lp]
      · obtain ⟨k1, rfl, rfl⟩ := gdd _ _ _ _ _ _ gd
        obtain ⟨w1, w2, w3, w4, w5, w6⟩ := gd.2.2.2.2.2.2.2.2 0 (by omega)
        have e := hj0.2 (J 0) w1 w2
        exact ⟨J 0, w1, w2, w3, w4, w5, by rw [e]⟩
    have ea : j0 = ja := hj0.2 ja g0.1 g0.2.1
    subst ea
    have W2 := RW_54 W1 0 (gz_I hr 28 (8 + j0))
    have i47 : gz_I (gz_set R0 54 0 (.int (gz_I hr 28 (8 + j0)))) 15 47 = nI 2 := by rw [I_seto _ _ _ _ _ _ (by omega)]; exact w47
    rcases wstep H W2 2 1 (by omega) (by omega) i47 a b (by rw [I_seto _ _ _ _ _ _ (by omega)]; exact e531) b (-1) (nI xn) (nI yn) (nI pn) (nI 0) (xn / 10) (yn / 10) (by omega) (by omega) j0 (Or.inr ⟨g0.1, g0.2.1⟩) with ⟨n1, s1⟩ | ⟨jb, g1, s1⟩
    · have lp := gz_loop_next (L := 118) (k := 11) s0 (gz_loop_ret s1)
      rw [e0] at lp
      refine Or.inl ⟨_, ?_, W2, fun ⟨K, xn', yn', pn', qn', J, gd⟩ => n1 ?_⟩
      · simp only [se_X8_isWay, sm_X8_isWay, gz_sem, gz_ae, Value.category, gz_i, gz_l, gz_nu, gz_li, gz_ll, gz_la, gz_ib, gz_iz, gz_lb, gz_lz, gz_ls, gz_lc, gz_i2l, gz_l2i, gz_get, gz_ald, gz_len, gz_dup, gz_d2, gz_nar, gz_a0, gz_a1, gz_cs, gz_cv, gz_mk, gz_te, gz_j1, gz_j2, gz_jn, gz_jk, gz_jo, gz_ja, gz_sat, gz_seti, gz_seta, gz_set2, gz_inc, gz_put, gz_ast, gz_pop, gz_vs, gz_vv, gz_sup, gz_rv, gz_ri, gz_rl, gz_ra, gz_if, gz_seq, gz_sw, gz_st, gz_st2, rok_I, rok_J, rok_V, rok_Z0, rok_Z1, rok_Zi, rok_R, rok_N, bi_rok, bi_0, bi_1, fit_I, fit_J, fit_Z0, fit_Z1, fit_Zi, fit_R, fit_N, fit_aR, aty_I, aty_Z0, aty_Z1, aty_Zi, aty_J, gz_ix, List.getElem?_cons_zero, List.getElem?_cons_succ, List.getElem?_nil, List.reverse_cons, List.reverse_nil, List.nil_append, List.cons_append, List.take_succ_cons, List.take_zero, List.take_nil, List.length_cons, List.length_nil, decide_true, decide_false, decide_not, Bool.not_true, Bool.not_false, gz_nle, if_true, if_false, and_true, true_and, and_self, and_false, false_and, or_true, true_or, or_false, false_or, Bool.false_eq_true, not_true, not_false_iff, Decidable.not_not, Nat.reduceLeDiff, Nat.reduceAdd, Nat.reduceEqDiff, Nat.reduceSub, Nat.reduceLT, Nat.zero_add, reduceCtorEq, reduceIte, eq_self, i32_10, i32_01, Nat.zero_le, Nat.one_ne_zero, m, m1, m2, m3, m4, md_k, l00, l10, l20, c00, c10, c20, q03, q13, q23, hR, e47, x32, x23, x0, y0, op, oq, e0, ab, lp]
      · obtain ⟨k1, rfl, rfl⟩ := gdd _ _ _ _ _ _ gd
        obtain ⟨w1, w2, w3, w4, w5, w6⟩ := gd.2.2.2.2.2.2.2.2 1 (by omega)
        obtain ⟨u1, u2, -⟩ := gd.2.2.2.2.2.2.2.2 0 (by omega)
        have e := hj0.2 (J 0) u1 u2
        exact ⟨J 1, w1, w2, w3, w4, w5, by rw [w6, e]⟩
    have W3 := RW_54 W2 1 (gz_I hr 28 (8 + jb))
    have j47 : gz_I (gz_set (gz_set R0 54 0 (.int (gz_I hr 28 (8 + j0)))) 54 1 (.int (gz_I hr 28 (8 + jb)))) 15 47 = nI 2 := by rw [I_seto _ _ _ _ _ _ (by omega)]; exact i47
    have k2 : ¬ nI 2 < nI 2 := by decide
    have m5 := W3.1
    have ex : lb_X8_isWay_118 ([Value.ref 15, .int a, .int b, .int (-1), .int (nI xn), .int (nI yn), .int (nI pn), .int (nI 0), .int (nI (xn / 10 / 10)), .int (nI (yn / 10 / 10)), .int (nI 2)].take 11) (gz_set (gz_set R0 54 0 (.int (gz_I hr 28 (8 + j0)))) 54 1 (.int (gz_I hr 28 (8 + jb)))) = some (.inl (254, [.ref 15, .int a, .int b, .int (-1), .int (nI xn), .int (nI yn), .int (nI pn), .int (nI 0), .int (nI (xn / 10 / 10)), .int (nI (yn / 10 / 10)), .int (nI 2)], gz_set (gz_set R0 54 0 (.int (gz_I hr 28 (8 + j0)))) 54 1 (.int (gz_I hr 28 (8 + jb))))) := by
      simp only [lb_X8_isWay_118, gz_sem, gz_ae, Value.category, gz_i, gz_l, gz_nu, gz_li, gz_ll, gz_la, gz_ib, gz_iz, gz_lb, gz_lz, gz_ls, gz_lc, gz_i2l, gz_l2i, gz_get, gz_ald, gz_len, gz_dup, gz_d2, gz_nar, gz_a0, gz_a1, gz_cs, gz_cv, gz_mk, gz_te, gz_j1, gz_j2, gz_jn, gz_jk, gz_jo, gz_ja, gz_sat, gz_seti, gz_seta, gz_set2, gz_inc, gz_put, gz_ast, gz_pop, gz_vs, gz_vv, gz_sup, gz_rv, gz_ri, gz_rl, gz_ra, gz_if, gz_seq, gz_sw, gz_st, gz_st2, rok_I, rok_J, rok_V, rok_Z0, rok_Z1, rok_Zi, rok_R, rok_N, bi_rok, bi_0, bi_1, fit_I, fit_J, fit_Z0, fit_Z1, fit_Zi, fit_R, fit_N, fit_aR, aty_I, aty_Z0, aty_Z1, aty_Zi, aty_J, gz_ix, List.getElem?_cons_zero, List.getElem?_cons_succ, List.getElem?_nil, List.reverse_cons, List.reverse_nil, List.nil_append, List.cons_append, List.take_succ_cons, List.take_zero, List.take_nil, List.length_cons, List.length_nil, decide_true, decide_false, decide_not, Bool.not_true, Bool.not_false, gz_nle, if_true, if_false, and_true, true_and, and_self, and_false, false_and, or_true, true_or, or_false, false_or, Bool.false_eq_true, not_true, not_false_iff, Decidable.not_not, Nat.reduceLeDiff, Nat.reduceAdd, Nat.reduceEqDiff, Nat.reduceSub, Nat.reduceLT, Nat.zero_add, reduceCtorEq, reduceIte, eq_self, i32_10, i32_01, Nat.zero_le, Nat.one_ne_zero, m5, md_k, j47, k2]
    have lp := gz_loop_next (L := 118) (k := 11) s0 (gz_loop_next s1 (gz_loop_exit ex (by decide)))
    rw [e0] at lp
    have RFf : RF hr (gz_set (gz_set R0 54 0 (.int (gz_I hr 28 (8 + j0)))) 54 1 (.int (gz_I hr 28 (8 + jb)))) 2 (fun i => if i = 1 then jb else j0) := by
      refine ⟨j47, fun k hk => ?_⟩
      have : k = 0 ∨ k = 1 := by omega
      rcases this with rfl | rfl
      · refine ⟨?_, ?_⟩
        · rw [I_seto _ _ _ _ _ _ (by omega), I_seto _ _ _ _ _ _ (by omega), e530]; exact g0.1
        · rw [I_seto _ _ _ _ _ _ (by omega), I_set, if_pos ⟨rfl, rfl⟩]; rfl
      · refine ⟨?_, ?_⟩
        · rw [I_seto _ _ _ _ _ _ (by omega), I_seto _ _ _ _ _ _ (by omega), e531]; exact g1.1
        · rw [I_set, if_pos ⟨rfl, rfl⟩]; rfl
    by_cases zx : xn / 10 / 10 = 0
    case neg =>
      have zx' : ¬ nI (xn / 10 / 10) = 0 := nI_ne0 (by omega) (by omega)
      refine Or.inl ⟨_, ?_, W3, fun ⟨K, xn', yn', pn', qn', J, gd⟩ => ?_⟩
      · simp only [se_X8_isWay, sm_X8_isWay, gz_sem, gz_ae, Value.category, gz_i, gz_l, gz_nu, gz_li, gz_ll, gz_la, gz_ib, gz_iz, gz_lb, gz_lz, gz_ls, gz_lc, gz_i2l, gz_l2i, gz_get, gz_ald, gz_len, gz_dup, gz_d2, gz_nar, gz_a0, gz_a1, gz_cs, gz_cv, gz_mk, gz_te, gz_j1, gz_j2, gz_jn, gz_jk, gz_jo, gz_ja, gz_sat, gz_seti, gz_seta, gz_set2, gz_inc, gz_put, gz_ast, gz_pop, gz_vs, gz_vv, gz_sup, gz_rv, gz_ri, gz_rl, gz_ra, gz_if, gz_seq, gz_sw, gz_st, gz_st2, rok_I, rok_J, rok_V, rok_Z0, rok_Z1, rok_Zi, rok_R, rok_N, bi_rok, bi_0, bi_1, fit_I, fit_J, fit_Z0, fit_Z1, fit_Zi, fit_R, fit_N, fit_aR, aty_I, aty_Z0, aty_Z1, aty_Zi, aty_J, gz_ix, List.getElem?_cons_zero, List.getElem?_cons_succ, List.getElem?_nil, List.reverse_cons, List.reverse_nil, List.nil_append, List.cons_append, List.take_succ_cons, List.take_zero, List.take_nil, List.length_cons, List.length_nil, decide_true, decide_false, decide_not, Bool.not_true, Bool.not_false, gz_nle, if_true, if_false, and_true, true_and, and_self, and_false, false_and, or_true, true_or, or_false, false_or, Bool.false_eq_true, not_true, not_false_iff, Decidable.not_not, Nat.reduceLeDiff, Nat.reduceAdd, Nat.reduceEqDiff, Nat.reduceSub, Nat.reduceLT, Nat.zero_add, reduceCtorEq, reduceIte, eq_self, i32_10, i32_01, Nat.zero_le, Nat.one_ne_zero, m, m1, m2, m3, m4, md_k, l00, l10, l20, c00, c10, c20, q03, q13, q23, hR, e47, x32, x23, x0, y0, op, oq, e0, ab, lp, zx']
      · obtain ⟨k1, rfl, rfl⟩ := gdd _ _ _ _ _ _ gd
        have := KK _ _ _ _ _ _ gd
        omega
    by_cases zy : yn / 10 / 10 = 0
    case neg =>
      have zy' : ¬ nI (yn / 10 / 10) = 0 := nI_ne0 (by omega) (by omega)
      refine Or.inl ⟨_, ?_, W3, fun ⟨K, xn', yn', pn', qn', J, gd⟩ => ?_⟩
      · rw [zx] at lp
        simp only [se_X8_isWay, sm_X8_isWay, gz_sem, gz_ae, Value.category, gz_i, gz_l, gz_nu, gz_li, gz_ll, gz_la, gz_ib, gz_iz, gz_lb, gz_lz, gz_ls, gz_lc, gz_i2l, gz_l2i, gz_get, gz_ald, gz_len, gz_dup, gz_d2, gz_nar, gz_a0, gz_a1, gz_cs, gz_cv, gz_mk, gz_te, gz_j1, gz_j2, gz_jn, gz_jk, gz_jo, gz_ja, gz_sat, gz_seti, gz_seta, gz_set2, gz_inc, gz_put, gz_ast, gz_pop, gz_vs, gz_vv, gz_sup, gz_rv, gz_ri, gz_rl, gz_ra, gz_if, gz_seq, gz_sw, gz_st, gz_st2, rok_I, rok_J, rok_V, rok_Z0, rok_Z1, rok_Zi, rok_R, rok_N, bi_rok, bi_0, bi_1, fit_I, fit_J, fit_Z0, fit_Z1, fit_Zi, fit_R, fit_N, fit_aR, aty_I, aty_Z0, aty_Z1, aty_Zi, aty_J, gz_ix, List.getElem?_cons_zero, List.getElem?_cons_succ, List.getElem?_nil, List.reverse_cons, List.reverse_nil, List.nil_append, List.cons_append, List.take_succ_cons, List.take_zero, List.take_nil, List.length_cons, List.length_nil, decide_true, decide_false, decide_not, Bool.not_true, Bool.not_false, gz_nle, if_true, if_false, and_true, true_and, and_self, and_false, false_and, or_true, true_or, or_false, false_or, Bool.false_eq_true, not_true, not_false_iff, Decidable.not_not, Nat.reduceLeDiff, Nat.reduceAdd, Nat.reduceEqDiff, Nat.reduceSub, Nat.reduceLT, Nat.zero_add, reduceCtorEq, reduceIte, eq_self, i32_10, i32_01, Nat.zero_le, Nat.one_ne_zero, m, m1, m2, m3, m4, md_k, l00, l10, l20, c00, c10, c20, q03, q13, q23, hR, e47, x32, x23, x0, y0, op, oq, e0, ab, lp, zy']
      · obtain ⟨k1, rfl, rfl⟩ := gdd _ _ _ _ _ _ gd
        have := KK _ _ _ _ _ _ gd
        omega
    refine Or.inr ⟨_, 2, xn, yn, pn, 0, (fun i => if i = 1 then jb else j0), ?_, W3, ⟨Or.inl ⟨rfl, rfl, by omega, by omega, rfl⟩, ab, rfl, rfl, rfl, pb, rfl, by omega, fun k hk => ?_⟩, RFf⟩
    · rw [zx, zy] at lp
      simp only [se_X8_isWay, sm_X8_isWay, gz_sem, gz_ae, Value.category, gz_i, gz_l, gz_nu, gz_li, gz_ll, gz_la, gz_ib, gz_iz, gz_lb, gz_lz, gz_ls, gz_lc, gz_i2l, gz_l2i, gz_get, gz_ald, gz_len, gz_dup, gz_d2, gz_nar, gz_a0, gz_a1, gz_cs, gz_cv, gz_mk, gz_te, gz_j1, gz_j2, gz_jn, gz_jk, gz_jo, gz_ja, gz_sat, gz_seti, gz_seta, gz_set2, gz_inc, gz_put, gz_ast, gz_pop, gz_vs, gz_vv, gz_sup, gz_rv, gz_ri, gz_rl, gz_ra, gz_if, gz_seq, gz_sw, gz_st, gz_st2, rok_I, rok_J, rok_V, rok_Z0, rok_Z1, rok_Zi, rok_R, rok_N, bi_rok, bi_0, bi_1, fit_I, fit_J, fit_Z0, fit_Z1, fit_Zi, fit_R, fit_N, fit_aR, aty_I, aty_Z0, aty_Z1, aty_Zi, aty_J, gz_ix, List.getElem?_cons_zero, List.getElem?_cons_succ, List.getElem?_nil, List.reverse_cons, List.reverse_nil, List.nil_append, List.cons_append, List.take_succ_cons, List.take_zero, List.take_nil, List.length_cons, List.length_nil, decide_true, decide_false, decide_not, Bool.not_true, Bool.not_false, gz_nle, if_true, if_false, and_true, true_and, and_self, and_false, false_and, or_true, true_or, or_false, false_or, Bool.false_eq_true, not_true, not_false_iff, Decidable.not_not, Nat.reduceLeDiff, Nat.reduceAdd, Nat.reduceEqDiff, Nat.reduceSub, Nat.reduceLT, Nat.zero_add, reduceCtorEq, reduceIte, eq_self, i32_10, i32_01, Nat.zero_le, Nat.one_ne_zero, m, m1, m2, m3, m4, md_k, l00, l10, l20, c00, c10, c20, q03, q13, q23, hR, e47, x32, x23, x0, y0, op, oq, e0, ab, lp]
    · have : k = 0 ∨ k = 1 := by omega
      rcases this with rfl | rfl
      · exact ⟨g0.1, g0.2.1, g0.2.2.1, g0.2.2.2.1, g0.2.2.2.2.1, rfl⟩
      · exact ⟨g1.1, g1.2.1, g1.2.2.1, g1.2.2.2.1, g1.2.2.2.2.1, g1.2.2.2.2.2⟩
  · have W1 : RW hr (gz_set (gz_set (gz_set (gz_set hr 15 47 (.int 3)) 53 0 (.int a)) 53 1 (.int b)) 53 2 (.int c)) := RW_53 (RW_53 (RW_53 (RW_47 W0 3) 0 a) 1 b) 2 c
    have m1 := (RW_47 W0 3).1
    have m2 := (RW_53 (RW_47 W0 3) 0 a).1
    have m3 := (RW_53 (RW_53 (RW_47 W0 3) 0 a) 1 b).1
    have m4 := W1.1
    have e47 : gz_I (gz_set (gz_set (gz_set (gz_set hr 15 47 (.int 3)) 53 0 (.int a)) 53 1 (.int b)) 53 2 (.int c)) 15 47 = 3 := by
      rw [I_seto _ _ _ _ _ _ (by omega), I_seto _ _ _ _ _ _ (by omega), I_seto _ _ _ _ _ _ (by omega), I_set, if_pos ⟨rfl, rfl⟩]
    have e530 : gz_I (gz_set (gz_set (gz_set (gz_set hr 15 47 (.int 3)) 53 0 (.int a)) 53 1 (.int b)) 53 2 (.int c)) 53 0 = a := by
      rw [I_seto _ _ _ _ _ _ (by omega), I_seto _ _ _ _ _ _ (by omega), I_set, if_pos ⟨rfl, rfl⟩]
    have e531 : gz_I (gz_set (gz_set (gz_set (gz_set hr 15 47 (.int 3)) 53 0 (.int a)) 53 1 (.int b)) 53 2 (.int c)) 53 1 = b := by
      rw [I_seto _ _ _ _ _ _ (by omega), I_set, if_pos ⟨rfl, rfl⟩]
    have e532 : gz_I (gz_set (gz_set (gz_set (gz_set hr 15 47 (.int 3)) 53 0 (.int a)) 53 1 (.int b)) 53 2 (.int c)) 53 2 = c := by
      rw [I_set, if_pos ⟨rfl, rfl⟩]
    generalize hR : gz_set (gz_set (gz_set (gz_set hr 15 47 (.int 3)) 53 0 (.int a)) 53 1 (.int b)) 53 2 (.int c) = R0 at *
    have KK : ∀ K xn yn pn qn J, GD g hr a b c x y p q K xn yn pn qn J → K = 3 ∧ ¬ a = c ∧ ¬ b = c ∧ xn < 1000 ∧ yn < 1000 := fun K xn yn pn qn J gd => by
      rcases gd.1 with ⟨z1, z2, z3, z4, z5⟩ | ⟨z1, z2, z3, z4, z5, z6⟩
      · exact absurd z2 cm
      · exact ⟨z1, z3, z4, z5, z6⟩
    by_cases x0 : x < 0
    · skip
      refine Or.inl ⟨R0, ?_, W1, fun ⟨K, xn, yn, pn, qn, J, gd⟩ => ?_⟩
      · simp only [se_X8_isWay, sm_X8_isWay, gz_sem, gz_ae, Value.category, gz_i, gz_l, gz_nu, gz_li, gz_ll, gz_la, gz_ib, gz_iz, gz_lb, gz_lz, gz_ls, gz_lc, gz_i2l, gz_l2i, gz_get, gz_ald, gz_len, gz_dup, gz_d2, gz_nar, gz_a0, gz_a1, gz_cs, gz_cv, gz_mk, gz_te, gz_j1, gz_j2, gz_jn, gz_jk, gz_jo, gz_ja, gz_sat, gz_seti, gz_seta, gz_set2, gz_inc, gz_put, gz_ast, gz_pop, gz_vs, gz_vv, gz_sup, gz_rv, gz_ri, gz_rl, gz_ra, gz_if, gz_seq, gz_sw, gz_st, gz_st2, rok_I, rok_J, rok_V, rok_Z0, rok_Z1, rok_Zi, rok_R, rok_N, bi_rok, bi_0, bi_1, fit_I, fit_J, fit_Z0, fit_Z1, fit_Zi, fit_R, fit_N, fit_aR, aty_I, aty_Z0, aty_Z1, aty_Zi, aty_J, gz_ix, List.getElem?_cons_zero, List.getElem?_cons_succ, List.getElem?_nil, List.reverse_cons, List.reverse_nil, List.nil_append, List.cons_append, List.take_succ_cons, List.take_zero, List.take_nil, List.length_cons, List.length_nil, decide_true, decide_false, decide_not, Bool.not_true, Bool.not_false, gz_nle, if_true, if_false, and_true, true_and, and_self, and_false, false_and, or_true, true_or, or_false, false_or, Bool.false_eq_true, not_true, not_false_iff, Decidable.not_not, Nat.reduceLeDiff, Nat.reduceAdd, Nat.reduceEqDiff, Nat.reduceSub, Nat.reduceLT, Nat.zero_add, reduceCtorEq, reduceIte, eq_self, i32_10, i32_01, Nat.zero_le, Nat.one_ne_zero, cm, m, m1, m2, m3, m4, md_k, l00, l10, l20, c00, c10, c20, q03, q13, q23, hR, e47, x32, x23, x0]
      · rw [gd.2.2.1] at x0; exact nI_pos (by have := KK _ _ _ _ _ _ gd; omega) x0
    by_cases y0 : y < 0
    · skip
      refine Or.inl ⟨R0, ?_, W1, fun ⟨K, xn, yn, pn, qn, J, gd⟩ => ?_⟩
      · simp only [se_X8_isWay, sm_X8_isWay, gz_sem, gz_ae, Value.category, gz_i, gz_l, gz_nu, gz_li, gz_ll, gz_la, gz_ib, gz_iz, gz_lb, gz_lz, gz_ls, gz_lc, gz_i2l, gz_l2i, gz_get, gz_ald, gz_len, gz_dup, gz_d2, gz_nar, gz_a0, gz_a1, gz_cs, gz_cv, gz_mk, gz_te, gz_j1, gz_j2, gz_jn, gz_jk, gz_jo, gz_ja, gz_sat, gz_seti, gz_seta, gz_set2, gz_inc, gz_put, gz_ast, gz_pop, gz_vs, gz_vv, gz_sup, gz_rv, gz_ri, gz_rl, gz_ra, gz_if, gz_seq, gz_sw, gz_st, gz_st2, rok_I, rok_J, rok_V, rok_Z0, rok_Z1, rok_Zi, rok_R, rok_N, bi_rok, bi_0, bi_1, fit_I, fit_J, fit_Z0, fit_Z1, fit_Zi, fit_R, fit_N, fit_aR, aty_I, aty_Z0, aty_Z1, aty_Zi, aty_J, gz_ix, List.getElem?_cons_zero, List.getElem?_cons_succ, List.getElem?_nil, List.reverse_cons, List.reverse_nil, List.nil_append, List.cons_append, List.take_succ_cons, List.take_zero, List.take_nil, List.length_cons, List.length_nil, decide_true, decide_false, decide_not, Bool.not_true, Bool.not_false, gz_nle, if_true, if_false, and_true, true_and, and_self, and_false, false_and, or_true, true_or, or_false, false_or, Bool.false_eq_true, not_true, not_false_iff, Decidable.not_not, Nat.reduceLeDiff, Nat.reduceAdd, Nat.reduceEqDiff, Nat.reduceSub, Nat.reduceLT, Nat.zero_add, reduceCtorEq, reduceIte, eq_self, i32_10, i32_01, Nat.zero_le, Nat.one_ne_zero, cm, m, m1, m2, m3, m4, md_k, l00, l10, l20, c00, c10, c20, q03, q13, q23, hR, e47, x32, x23, x0, y0]
      · rw [gd.2.2.2.1] at y0; exact nI_pos (by have := KK _ _ _ _ _ _ gd; omega) y0
    rcases in_cs 0 120 (by decide) (by decide) p with o | ⟨pn, -, pb, rfl⟩
    · have o1 := (io_no o hc R0).2
      rw [e0, e120] at o1
      refine Or.inl ⟨R0, ?_, W1, fun ⟨K, xn, yn, pn, qn, J, gd⟩ => ?_⟩
      · simp only [se_X8_isWay, sm_X8_isWay, gz_sem, gz_ae, Value.category, gz_i, gz_l, gz_nu, gz_li, gz_ll, gz_la, gz_ib, gz_iz, gz_lb, gz_lz, gz_ls, gz_lc, gz_i2l, gz_l2i, gz_get, gz_ald, gz_len, gz_dup, gz_d2, gz_nar, gz_a0, gz_a1, gz_cs, gz_cv, gz_mk, gz_te, gz_j1, gz_j2, gz_jn, gz_jk, gz_jo, gz_ja, gz_sat, gz_seti, gz_seta, gz_set2, gz_inc, gz_put, gz_ast, gz_pop, gz_vs, gz_vv, gz_sup, gz_rv, gz_ri, gz_rl, gz_ra, gz_if, gz_seq, gz_sw, gz_st, gz_st2, rok_I, rok_J, rok_V, rok_Z0, rok_Z1, rok_Zi, rok_R, rok_N, bi_rok, bi_0, bi_1, fit_I, fit_J, fit_Z0, fit_Z1, fit_Zi, fit_R, fit_N, fit_aR, aty_I, aty_Z0, aty_Z1, aty_Zi, aty_J, gz_ix, List.getElem?_cons_zero, List.getElem?_cons_succ, List.getElem?_nil, List.reverse_cons, List.reverse_nil, List.nil_append, List.cons_append, List.take_succ_cons, List.take_zero, List.take_nil, List.length_cons, List.length_nil, decide_true, decide_false, decide_not, Bool.not_true, Bool.not_false, gz_nle, if_true, if_false, and_true, true_and, and_self, and_false, false_and, or_true, true_or, or_false, false_or, Bool.false_eq_true, not_true, not_false_iff, Decidable.not_not, Nat.reduceLeDiff, Nat.reduceAdd, Nat.reduceEqDiff, Nat.reduceSub, Nat.reduceLT, Nat.zero_add, reduceCtorEq, reduceIte, eq_self, i32_10, i32_01, Nat.zero_le, Nat.one_ne_zero, cm, m, m1, m2, m3, m4, md_k, l00, l10, l20, c00, c10, c20, q03, q13, q23, hR, e47, x32, x23, x0, y0, o1]
      · rw [gd.2.2.2.2.1] at o; exact o.elim (nI_nlt (by omega) (by have := gd.2.2.2.2.2.1; omega)) (nI_nlt gd.2.2.2.2.2.1 (by omega))
    have op := (io_yes (Nat.zero_le pn) pb (by decide) hc R0).2
    rw [e0, e120] at op
    rcases in_cs 0 120 (by decide) (by decide) q with o | ⟨qn, -, qb, rfl⟩
    · have o1 := (io_no o hc R0).2
      rw [e0, e120] at o1
      refine Or.inl ⟨R0, ?_, W1, fun ⟨K, xn, yn, pn, qn, J, gd⟩ => ?_⟩
      · simp only [se_X8_isWay, sm_X8_isWay, gz_sem, gz_ae, Value.category, gz_i, gz_l, gz_nu, gz_li, gz_ll, gz_la, gz_ib, gz_iz, gz_lb, gz_lz, gz_ls, gz_lc, gz_i2l, gz_l2i, gz_get, gz_ald, gz_len, gz_dup, gz_d2, gz_nar, gz_a0, gz_a1, gz_cs, gz_cv, gz_mk, gz_te, gz_j1, gz_j2, gz_jn, gz_jk, gz_jo, gz_ja, gz_sat, gz_seti, gz_seta, gz_set2, gz_inc, gz_put, gz_ast, gz_pop, gz_vs, gz_vv, gz_sup, gz_rv, gz_ri, gz_rl, gz_ra, gz_if, gz_seq, gz_sw, gz_st, gz_st2, rok_I, rok_J, rok_V, rok_Z0, rok_Z1, rok_Zi, rok_R, rok_N, bi_rok, bi_0, bi_1, fit_I, fit_J, fit_Z0, fit_Z1, fit_Zi, fit_R, fit_N, fit_aR, aty_I, aty_Z0, aty_Z1, aty_Zi, aty_J, gz_ix, List.getElem?_cons_zero, List.getElem?_cons_succ, List.getElem?_nil, List.reverse_cons, List.reverse_nil, List.nil_append, List.cons_append, List.take_succ_cons, List.take_zero, List.take_nil, List.length_cons, List.length_nil, decide_true, decide_false, decide_not, Bool.not_true, Bool.not_false, gz_nle, if_true, if_false, and_true, true_and, and_self, and_false, false_and, or_true, true_or, or_false, false_or, Bool.false_eq_true, not_true, not_false_iff, Decidable.not_not, Nat.reduceLeDiff, Nat.reduceAdd, Nat.reduceEqDiff, Nat.reduceSub, Nat.reduceLT, Nat.zero_add, reduceCtorEq, reduceIte, eq_self, i32_10, i32_01, Nat.zero_le, Nat.one_ne_zero, cm, m, m1, m2, m3, m4, md_k, l00, l10, l20, c00, c10, c20, q03, q13, q23, hR, e47, x32, x23, x0, y0, op, o1]
      · rw [gd.2.2.2.2.2.2.1] at o; exact o.elim (nI_nlt (by omega) (by have := gd.2.2.2.2.2.2.2.1; omega)) (nI_nlt gd.2.2.2.2.2.2.2.1 (by omega))
    have oq := (io_yes (Nat.zero_le qn) qb (by decide) hc R0).2
    rw [e0, e120] at oq
    by_cases ab : a = b
    · subst ab
      refine Or.inl ⟨R0, ?_, W1, fun ⟨K, xn, yn, pn, qn, J, gd⟩ => ?_⟩
      · simp only [se_X8_isWay, sm_X8_isWay, gz_sem, gz_ae, Value.category, gz_i, gz_l, gz_nu, gz_li, gz_ll, gz_la, gz_ib, gz_iz, gz_lb, gz_lz, gz_ls, gz_lc, gz_i2l, gz_l2i, gz_get, gz_ald, gz_len, gz_dup, gz_d2, gz_nar, gz_a0, gz_a1, gz_cs, gz_cv, gz_mk, gz_te, gz_j1, gz_j2, gz_jn, gz_jk, gz_jo, gz_ja, gz_sat, gz_seti, gz_seta, gz_set2, gz_inc, gz_put, gz_ast, gz_pop, gz_vs, gz_vv, gz_sup, gz_rv, gz_ri, gz_rl, gz_ra, gz_if, gz_seq, gz_sw, gz_st, gz_st2, rok_I, rok_J, rok_V, rok_Z0, rok_Z1, rok_Zi, rok_R, rok_N, bi_rok, bi_0, bi_1, fit_I, fit_J, fit_Z0, fit_Z1, fit_Zi, fit_R, fit_N, fit_aR, aty_I, aty_Z0, aty_Z1, aty_Zi, aty_J, gz_ix, List.getElem?_cons_zero, List.getElem?_cons_succ, List.getElem?_nil, List.reverse_cons, List.reverse_nil, List.nil_append, List.cons_append, List.take_succ_cons, List.take_zero, List.take_nil, List.length_cons, List.length_nil, decide_true, decide_false, decide_not, Bool.not_true, Bool.not_false, gz_nle, if_true, if_false, and_true, true_and, and_self, and_false, false_and, or_true, true_or, or_false, false_or, Bool.false_eq_true, not_true, not_false_iff, Decidable.not_not, Nat.reduceLeDiff, Nat.reduceAdd, Nat.reduceEqDiff, Nat.reduceSub, Nat.reduceLT, Nat.zero_add, reduceCtorEq, reduceIte, eq_self, i32_10, i32_01, Nat.zero_le, Nat.one_ne_zero, cm, m, m1, m2, m3, m4, md_k, l00, l10, l20, c00, c10, c20, q03, q13, q23, hR, e47, x32, x23, x0, y0, op, oq]
      · exact gd.2.1 rfl
    by_cases ac : a = c
    · subst ac
      refine Or.inl ⟨R0, ?_, W1, fun ⟨K, xn, yn, pn, qn, J, gd⟩ => ?_⟩
      · simp only [se_X8_isWay, sm_X8_isWay, gz_sem, gz_ae, Value.category, gz_i, gz_l, gz_nu, gz_li, gz_ll, gz_la, gz_ib, gz_iz, gz_lb, gz_lz, gz_ls, gz_lc, gz_i2l, gz_l2i, gz_get, gz_ald, gz_len, gz_dup, gz_d2, gz_nar, gz_a0, gz_a1, gz_cs, gz_cv, gz_mk, gz_te, gz_j1, gz_j2, gz_jn, gz_jk, gz_jo, gz_ja, gz_sat, gz_seti, gz_seta, gz_set2, gz_inc, gz_put, gz_ast, gz_pop, gz_vs, gz_vv, gz_sup, gz_rv, gz_ri, gz_rl, gz_ra, gz_if, gz_seq, gz_sw, gz_st, gz_st2, rok_I, rok_J, rok_V, rok_Z0, rok_Z1, rok_Zi, rok_R, rok_N, bi_rok, bi_0, bi_1, fit_I, fit_J, fit_Z0, fit_Z1, fit_Zi, fit_R, fit_N, fit_aR, aty_I, aty_Z0, aty_Z1, aty_Zi, aty_J, gz_ix, List.getElem?_cons_zero, List.getElem?_cons_succ, List.getElem?_nil, List.reverse_cons, List.reverse_nil, List.nil_append, List.cons_append, List.take_succ_cons, List.take_zero, List.take_nil, List.length_cons, List.length_nil, decide_true, decide_false, decide_not, Bool.not_true, Bool.not_false, gz_nle, if_true, if_false, and_true, true_and, and_self, and_false, false_and, or_true, true_or, or_false, false_or, Bool.false_eq_true, not_true, not_false_iff, Decidable.not_not, Nat.reduceLeDiff, Nat.reduceAdd, Nat.reduceEqDiff, Nat.reduceSub, Nat.reduceLT, Nat.zero_add, reduceCtorEq, reduceIte, eq_self, i32_10, i32_01, Nat.zero_le, Nat.one_ne_zero, cm, m, m1, m2, m3, m4, md_k, l00, l10, l20, c00, c10, c20, q03, q13, q23, hR, e47, x32, x23, x0, y0, op, oq, ab]
      · exact (KK _ _ _ _ _ _ gd).2.1 rfl
    by_cases bc : b = c
    · subst bc
      refine Or.inl ⟨R0, ?_, W1, fun ⟨K, xn, yn, pn, qn, J, gd⟩ => ?_⟩
      · simp only [se_X8_isWay, sm_X8_isWay, gz_sem, gz_ae, Value.category, gz_i, gz_l, gz_nu, gz_li, gz_ll, gz_la, gz_ib, gz_iz, gz_lb, gz_lz, gz_ls, gz_lc, gz_i2l, gz_l2i, gz_get, gz_ald, gz_len, gz_dup, gz_d2, gz_nar, gz_a0, gz_a1, gz_cs, gz_cv, gz_mk, gz_te, gz_j1, gz_j2, gz_jn, gz_jk, gz_jo, gz_ja, gz_sat, gz_seti, gz_seta, gz_set2, gz_inc, gz_put, gz_ast, gz_pop, gz_vs, gz_vv, gz_sup, gz_rv, gz_ri, gz_rl, gz_ra, gz_if, gz_seq, gz_sw, gz_st, gz_st2, rok_I, rok_J, rok_V, rok_Z0, rok_Z1, rok_Zi, rok_R, rok_N, bi_rok, bi_0, bi_1, fit_I, fit_J, fit_Z0, fit_Z1, fit_Zi, fit_R, fit_N, fit_aR, aty_I, aty_Z0, aty_Z1, aty_Zi, aty_J, gz_ix, List.getElem?_cons_zero, List.getElem?_cons_succ, List.getElem?_nil, List.reverse_cons, List.reverse_nil, List.nil_append, List.cons_append, List.take_succ_cons, List.take_zero, List.take_nil, List.length_cons, List.length_nil, decide_true, decide_false, decide_not, Bool.not_true, Bool.not_false, gz_nle, if_true, if_false, and_true, true_and, and_self, and_false, false_and, or_true, true_or, or_false, false_or, Bool.false_eq_true, not_true, not_false_iff, Decidable.not_not, Nat.reduceLeDiff, Nat.reduceAdd, Nat.reduceEqDiff, Nat.reduceSub, Nat.reduceLT, Nat.zero_add, reduceCtorEq, reduceIte, eq_self, i32_10, i32_01, Nat.zero_le, Nat.one_ne_zero, cm, m, m1, m2, m3, m4, md_k, l00, l10, l20, c00, c10, c20, q03, q13, q23, hR, e47, x32, x23, x0, y0, op, oq, ab, ac]
      · exact (KK _ _ _ _ _ _ gd).2.2.1 rfl
    obtain ⟨xn, xb, rfl⟩ := nI_of x0
    obtain ⟨yn, yb, rfl⟩ := nI_of y0
    have gdd : ∀ K xn' yn' pn' qn' J, GD g hr a b c (nI xn) (nI yn) (nI pn) (nI qn) K xn' yn' pn' qn' J → K = 3 ∧ xn' = xn ∧ yn' = yn := fun K xn' yn' pn' qn' J gd => by
      have b1 := KK _ _ _ _ _ _ gd
      exact ⟨b1.1, ((nI_eq xb (by omega)).mp gd.2.2.1).symm, ((nI_eq yb (by omega)).mp gd.2.2.2.1).symm⟩
    obtain ⟨j0, hj0⟩ : ∃ j0, (a = a ∧ ∀ j, a = nI j → j < g 7 0 → j0 = j) := by
      rcases ja_cs h8 a with hx | ⟨j, hj, ej⟩
      · exact ⟨0, rfl, fun j ej hj => by rw [ej] at hx; exact (hx.elim (nI_pos (by omega)) (fun u => u (nI_lt hj (by omega)))).elim⟩
      · exact ⟨j, rfl, fun j' ej' hj' => (nI_eq (by omega) (by omega)).mp (ej.symm.trans ej')⟩
    have n3 : nI 3 = (3 : Int32) := rfl
    have w47 : gz_I R0 15 47 = nI 3 := e47
    rcases wstep H W1 3 0 (by omega) (by omega) w47 a a e530 b c (nI xn) (nI yn) (nI pn) (nI qn) xn yn xb yb j0 (Or.inl hj0) with ⟨n0, s0⟩ | ⟨ja, g0, s0⟩
    · have lp := gz_loop_ret (L := 118) (k := 11) s0
      rw [e0] at lp
      refine Or.inl ⟨R0, ?_, W1, fun ⟨K, xn', yn', pn', qn', J, gd⟩ => n0 ?_⟩
      · simp only [se_X8_isWay, sm_X8_isWay, gz_sem, gz_ae, Value.category, gz_i, gz_l, gz_nu, gz_li, gz_ll, gz_la, gz_ib, gz_iz, gz_lb, gz_lz, gz_ls, gz_lc, gz_i2l, gz_l2i, gz_get, gz_ald, gz_len, gz_dup, gz_d2, gz_nar, gz_a0, gz_a1, gz_cs, gz_cv, gz_mk, gz_te, gz_j1, gz_j2, gz_jn, gz_jk, gz_jo, gz_ja, gz_sat, gz_seti, gz_seta, gz_set2, gz_inc, gz_put, gz_ast, gz_pop, gz_vs, gz_vv, gz_sup, gz_rv, gz_ri, gz_rl, gz_ra, gz_if, gz_seq, gz_sw, gz_st, gz_st2, rok_I, rok_J, rok_V, rok_Z0, rok_Z1, rok_Zi, rok_R, rok_N, bi_rok, bi_0, bi_1, fit_I, fit_J, fit_Z0, fit_Z1, fit_Zi, fit_R, fit_N, fit_aR, aty_I, aty_Z0, aty_Z1, aty_Zi, aty_J, gz_ix, List.getElem?_cons_zero, List.getElem?_cons_succ, List.getElem?_nil, List.reverse_cons, List.reverse_nil, List.nil_append, List.cons_append, List.take_succ_cons, List.take_zero, List.take_nil, List.length_cons, List.length_nil, decide_true, decide_false, decide_not, Bool.not_true, Bool.not_false, gz_nle, if_true, if_false, and_true, true_and, and_self, and_false, false_and, or_true, true_or, or_false, false_or, Bool.false_eq_true, not_true, not_false_iff, Decidable.not_not, Nat.reduceLeDiff, Nat.reduceAdd, Nat.reduceEqDiff, Nat.reduceSub, Nat.reduceLT, Nat.zero_add, reduceCtorEq, reduceIte, eq_self, i32_10, i32_01, Nat.zero_le, Nat.one_ne_zero, cm, m, m1, m2, m3, m4, md_k, l00, l10, l20, c00, c10, c20, q03, q13, q23, hR, e47, x32, x23, x0, y0, op, oq, ab, ac, bc, lp]
      · obtain ⟨k1, rfl, rfl⟩ := gdd _ _ _ _ _ _ gd
        obtain ⟨w1, w2, w3, w4, w5, w6⟩ := gd.2.2.2.2.2.2.2.2 0 (by omega)
        have e := hj0.2 (J 0) w1 w2
        exact ⟨J 0, w1, w2, w3, w4, w5, by rw [e]⟩
    have ea : j0 = ja := hj0.2 ja g0.1 g0.2.1
    subst ea
    have W2 := RW_54 W1 0 (gz_I hr 28 (8 + j0))
    have i47 : gz_I (gz_set R0 54 0 (.int (gz_I hr 28 (8 + j0)))) 15 47 = nI 3 := by rw [I_seto _ _ _ _ _ _ (by omega)]; exact w47
    rcases wstep H W2 3 1 (by omega) (by omega) i47 a b (by rw [I_seto _ _ _ _ _ _ (by omega)]; exact e531) b c (nI xn) (nI yn) (nI pn) (nI qn) (xn / 10) (yn / 10) (by omega) (by omega) j0 (Or.inr ⟨g0.1, g0.2.1⟩) with ⟨n1, s1⟩ | ⟨jb, g1, s1⟩
    · have lp := gz_loop_next (L := 118) (k := 11) s0 (gz_loop_ret s1)
      rw [e0] at lp
      refine Or.inl ⟨_, ?_, W2, fun ⟨K, xn', yn', pn', qn', J, gd⟩ => n1 ?_⟩
      · simp only [se_X8_isWay, sm_X8_isWay, gz_sem, gz_ae, Value.category, gz_i, gz_l, gz_nu, gz_li, gz_ll, gz_la, gz_ib, gz_iz, gz_lb, gz_lz, gz_ls, gz_lc, gz_i2l, gz_l2i, gz_get, gz_ald, gz_len, gz_dup, gz_d2, gz_nar, gz_a0, gz_a1, gz_cs, gz_cv, gz_mk, gz_te, gz_j1, gz_j2, gz_jn, gz_jk, gz_jo, gz_ja, gz_sat, gz_seti, gz_seta, gz_set2, gz_inc, gz_put, gz_ast, gz_pop, gz_vs, gz_vv, gz_sup, gz_rv, gz_ri, gz_rl, gz_ra, gz_if, gz_seq, gz_sw, gz_st, gz_st2, rok_I, rok_J, rok_V, rok_Z0, rok_Z1, rok_Zi, rok_R, rok_N, bi_rok, bi_0, bi_1, fit_I, fit_J, fit_Z0, fit_Z1, fit_Zi, fit_R, fit_N, fit_aR, aty_I, aty_Z0, aty_Z1, aty_Zi, aty_J, gz_ix, List.getElem?_cons_zero, List.getElem?_cons_succ, List.getElem?_nil, List.reverse_cons, List.reverse_nil, List.nil_append, List.cons_append, List.take_succ_cons, List.take_zero, List.take_nil, List.length_cons, List.length_nil, decide_true, decide_false, decide_not, Bool.not_true, Bool.not_false, gz_nle, if_true, if_false, and_true, true_and, and_self, and_false, false_and, or_true, true_or, or_false, false_or, Bool.false_eq_true, not_true, not_false_iff, Decidable.not_not, Nat.reduceLeDiff, Nat.reduceAdd, Nat.reduceEqDiff, Nat.reduceSub, Nat.reduceLT, Nat.zero_add, reduceCtorEq, reduceIte, eq_self, i32_10, i32_01, Nat.zero_le, Nat.one_ne_zero, cm, m, m1, m2, m3, m4, md_k, l00, l10, l20, c00, c10, c20, q03, q13, q23, hR, e47, x32, x23, x0, y0, op, oq, ab, ac, bc, lp]
      · obtain ⟨k1, rfl, rfl⟩ := gdd _ _ _ _ _ _ gd
        obtain ⟨w1, w2, w3, w4, w5, w6⟩ := gd.2.2.2.2.2.2.2.2 1 (by omega)
        obtain ⟨u1, u2, -⟩ := gd.2.2.2.2.2.2.2.2 0 (by omega)
        have e := hj0.2 (J 0) u1 u2
        exact ⟨J 1, w1, w2, w3, w4, w5, by rw [w6, e]⟩
    have W3 := RW_54 W2 1 (gz_I hr 28 (8 + jb))
    have j47 : gz_I (gz_set (gz_set R0 54 0 (.int (gz_I hr 28 (8 + j0)))) 54 1 (.int (gz_I hr 28 (8 + jb)))) 15 47 = nI 3 := by rw [I_seto _ _ _ _ _ _ (by omega)]; exact i47
    rcases wstep H W3 3 2 (by omega) (by omega) j47 a c (by rw [I_seto _ _ _ _ _ _ (by omega), I_seto _ _ _ _ _ _ (by omega)]; exact e532) b c (nI xn) (nI yn) (nI pn) (nI qn) (xn / 10 / 10) (yn / 10 / 10) (by omega) (by omega) j0 (Or.inr ⟨g0.1, g0.2.1⟩) with ⟨n2, s2⟩ | ⟨jd, g2, s2⟩
    · have lp := gz_loop_next (L := 118) (k := 11) s0 (gz_loop_next s1 (gz_loop_ret s2))
      rw [e0] at lp
      refine Or.inl ⟨_, ?_, W3, fun ⟨K, xn', yn', pn', qn', J, gd⟩ => n2 ?_⟩
      · simp only [se_X8_isWay, sm_X8_isWay, gz_sem, gz_ae, Value.category, gz_i, gz_l, gz_nu, gz_li, gz_ll, gz_la, gz_ib, gz_iz, gz_lb, gz_lz, gz_ls, gz_lc, gz_i2l, gz_l2i, gz_get, gz_ald, gz_len, gz_dup, gz_d2, gz_nar, gz_a0, gz_a1, gz_cs, gz_cv, gz_mk, gz_te, gz_j1, gz_j2, gz_jn, gz_jk, gz_jo, gz_ja, gz_sat, gz_seti, gz_seta, gz_set2, gz_inc, gz_put, gz_ast, gz_pop, gz_vs, gz_vv, gz_sup, gz_rv, gz_ri, gz_rl, gz_ra, gz_if, gz_seq, gz_sw, gz_st, gz_st2, rok_I, rok_J, rok_V, rok_Z0, rok_Z1, rok_Zi, rok_R, rok_N, bi_rok, bi_0, bi_1, fit_I, fit_J, fit_Z0, fit_Z1, fit_Zi, fit_R, fit_N, fit_aR, aty_I, aty_Z0, aty_Z1, aty_Zi, aty_J, gz_ix, List.getElem?_cons_zero, List.getElem?_cons_succ, List.getElem?_nil, List.reverse_cons, List.reverse_nil, List.nil_append, List.cons_append, List.take_succ_cons, List.take_zero, List.take_nil, List.length_cons, List.length_nil, decide_true, decide_false, decide_not, Bool.not_true, Bool.not_false, gz_nle, if_true, if_false, and_true, true_and, and_self, and_false, false_and, or_true, true_or, or_false, false_or, Bool.false_eq_true, not_true, not_false_iff, Decidable.not_not, Nat.reduceLeDiff, Nat.reduceAdd, Nat.reduceEqDiff, Nat.reduceSub, Nat.reduceLT, Nat.zero_add, reduceCtorEq, reduceIte, eq_self, i32_10, i32_01, Nat.zero_le, Nat.one_ne_zero, cm, m, m1, m2, m3, m4, md_k, l00, l10, l20, c00, c10, c20, q03, q13, q23, hR, e47, x32, x23, x0, y0, op, oq, ab, ac, bc, lp]
      · obtain ⟨k1, rfl, rfl⟩ := gdd _ _ _ _ _ _ gd
        have kk := KK _ _ _ _ _ _ gd
        obtain ⟨w1, w2, w3, w4, w5, w6⟩ := gd.2.2.2.2.2.2.2.2 2 (by omega)
        obtain ⟨u1, u2, -⟩ := gd.2.2.2.2.2.2.2.2 0 (by omega)
        have e := hj0.2 (J 0) u1 u2
        have w3 : xn' / 100 < g 6 (J 2) := w3
        have w4 : yn' / 100 < g 6 (J 2) := w4
        exact ⟨J 2, w1, w2, by omega, by omega, w5, by rw [w6, e]⟩
    have W4 := RW_54 W3 2 (gz_I hr 28 (8 + jd))
    have l47 : gz_I (gz_set (gz_set (gz_set R0 54 0 (.int (gz_I hr 28 (8 + j0)))) 54 1 (.int (gz_I hr 28 (8 + jb)))) 54 2 (.int (gz_I hr 28 (8 + jd)))) 15 47 = nI 3 := by rw [I_seto _ _ _ _ _ _ (by omega)]; exact j47
    have k3 : ¬ nI 3 < nI 3 := by decide
    have m5 := W4.1
    have ex : lb_X8_isWay_118 ([Value.ref 15, .int a, .int b, .int c, .int (nI xn), .int (nI yn), .int (nI pn), .int (nI qn), .int (nI (xn / 10 / 10 / 10)), .int (nI (yn / 10 / 10 / 10)), .int (nI 3)].take 11) (gz_set (gz_set (gz_set R0 54 0 (.int (gz_I hr 28 (8 + j0)))) 54 1 (.int (gz_I hr 28 (8 + jb)))) 54 2 (.int (gz_I hr 28 (8 + jd)))) = some (.inl (254, [.ref 15, .int a, .int b, .int c, .int (nI xn), .int (nI yn), .int (nI pn), .int (nI qn), .int (nI (xn / 10 / 10 / 10)), .int (nI (yn / 10 / 10 / 10)), .int (nI 3)], gz_set (gz_set (gz_set R0 54 0 (.int (gz_I hr 28 (8 + j0)))) 54 1 (.int (gz_I hr 28 (8 + jb)))) 54 2 (.int (gz_I hr 28 (8 + jd))))) := by
      simp only [lb_X8_isWay_118, gz_sem, gz_ae, Value.category, gz_i, gz_l, gz_nu, gz_li, gz_ll, gz_la, gz_ib, gz_iz, gz_lb, gz_lz, gz_ls, gz_lc, gz_i2l, gz_l2i, gz_get, gz_ald, gz_len, gz_dup, gz_d2, gz_nar, gz_a0, gz_a1, gz_cs, gz_cv, gz_mk, gz_te, gz_j1, gz_j2, gz_jn, gz_jk, gz_jo, gz_ja, gz_sat, gz_seti, gz_seta, gz_set2, gz_inc, gz_put, gz_ast, gz_pop, gz_vs, gz_vv, gz_sup, gz_rv, gz_ri, gz_rl, gz_ra, gz_if, gz_seq, gz_sw, gz_st, gz_st2, rok_I, rok_J, rok_V, rok_Z0, rok_Z1, rok_Zi, rok_R, rok_N, bi_rok, bi_0, bi_1, fit_I, fit_J, fit_Z0, fit_Z1, fit_Zi, fit_R, fit_N, fit_aR, aty_I, aty_Z0, aty_Z1, aty_Zi, aty_J, gz_ix, List.getElem?_cons_zero, List.getElem?_cons_succ, List.getElem?_nil, List.reverse_cons, List.reverse_nil, List.nil_append, List.cons_append, List.take_succ_cons, List.take_zero, List.take_nil, List.length_cons, List.length_nil, decide_true, decide_false, decide_not, Bool.not_true, Bool.not_false, gz_nle, if_true, if_false, and_true, true_and, and_self, and_false, false_and, or_true, true_or, or_false, false_or, Bool.false_eq_true, not_true, not_false_iff, Decidable.not_not, Nat.reduceLeDiff, Nat.reduceAdd, Nat.reduceEqDiff, Nat.reduceSub, Nat.reduceLT, Nat.zero_add, reduceCtorEq, reduceIte, eq_self, i32_10, i32_01, Nat.zero_le, Nat.one_ne_zero, m5, md_k, l47, k3]
    have lp := gz_loop_next (L := 118) (k := 11) s0 (gz_loop_next s1 (gz_loop_next s2 (gz_loop_exit ex (by decide))))
    rw [e0] at lp
    have RFf : RF hr (gz_set (gz_set (gz_set R0 54 0 (.int (gz_I hr 28 (8 + j0)))) 54 1 (.int (gz_I hr 28 (8 + jb)))) 54 2 (.int (gz_I hr 28 (8 + jd)))) 3 (fun i => if i = 2 then jd else if i = 1 then jb else j0) := by
      refine ⟨l47, fun k hk => ?_⟩
      have : k = 0 ∨ k = 1 ∨ k = 2 := by omega
      rcases this with rfl | rfl | rfl
      · refine ⟨?_, ?_⟩
        · rw [I_seto _ _ _ _ _ _ (by omega), I_seto _ _ _ _ _ _ (by omega), I_seto _ _ _ _ _ _ (by omega), e530]; exact g0.1
        · rw [I_seto _ _ _ _ _ _ (by omega), I_seto _ _ _ _ _ _ (by omega), I_set, if_pos ⟨rfl, rfl⟩]; rfl
      · refine ⟨?_, ?_⟩
        · rw [I_seto _ _ _ _ _ _ (by omega), I_seto _ _ _ _ _ _ (by omega), I_seto _ _ _ _ _ _ (by omega), e531]; exact g1.1
        · rw [I_seto _ _ _ _ _ _ (by omega), I_set, if_pos ⟨rfl, rfl⟩]; rfl
      · refine ⟨?_, ?_⟩
        · rw [I_seto _ _ _ _ _ _ (by omega), I_seto _ _ _ _ _ _ (by omega), I_seto _ _ _ _ _ _ (by omega), e532]; exact g2.1
        · rw [I_set, if_pos ⟨rfl, rfl⟩]; rfl
    by_cases zx : xn / 10 / 10 / 10 = 0
    case neg =>
      have zx' : ¬ nI (xn / 10 / 10 / 10) = 0 := nI_ne0 (by omega) (by omega)
      refine Or.inl ⟨_, ?_, W4, fun ⟨K, xn', yn', pn', qn', J, gd⟩ => ?_⟩
      · simp only [se_X8_isWay, sm_X8_isWay, gz_sem, gz_ae, Value.category, gz_i, gz_l, gz_nu, gz_li, gz_ll, gz_la, gz_ib, gz_iz, gz_lb, gz_lz, gz_ls, gz_lc, gz_i2l, gz_l2i, gz_get, gz_ald, gz_len, gz_dup, gz_d2, gz_nar, gz_a0, gz_a1, gz_cs, gz_cv, gz_mk, gz_te, gz_j1, gz_j2, gz_jn, gz_jk, gz_jo, gz_ja, gz_sat, gz_seti, gz_seta, gz_set2, gz_inc, gz_put, gz_ast, gz_pop, gz_vs, gz_vv, gz_sup, gz_rv, gz_ri, gz_rl, gz_ra, gz_if, gz_seq, gz_sw, gz_st, gz_st2, rok_I, rok_J, rok_V, rok_Z0, rok_Z1, rok_Zi, rok_R, rok_N, bi_rok, bi_0, bi_1, fit_I, fit_J, fit_Z0, fit_Z1, fit_Zi, fit_R, fit_N, fit_aR, aty_I, aty_Z0, aty_Z1, aty_Zi, aty_J, gz_ix, List.getElem?_cons_zero, List.getElem?_cons_succ, List.getElem?_nil, List.reverse_cons, List.reverse_nil, List.nil_append, List.cons_append, List.take_succ_cons, List.take_zero, List.take_nil, List.length_cons, List.length_nil, decide_true, decide_false, decide_not, Bool.not_true, Bool.not_false, gz_nle, if_true, if_false, and_true, true_and, and_self, and_false, false_and, or_true, true_or, or_false, false_or, Bool.false_eq_true, not_true, not_false_iff, Decidable.not_not, Nat.reduceLeDiff, Nat.reduceAdd, Nat.reduceEqDiff, Nat.reduceSub, Nat.reduceLT, Nat.zero_add, reduceCtorEq, reduceIte, eq_self, i32_10, i32_01, Nat.zero_le, Nat.one_ne_zero, cm, m, m1, m2, m3, m4, md_k, l00, l10, l20, c00, c10, c20, q03, q13, q23, hR, e47, x32, x23, x0, y0, op, oq, ab, ac, bc, lp, zx']
      · obtain ⟨k1, rfl, rfl⟩ := gdd _ _ _ _ _ _ gd
        have := KK _ _ _ _ _ _ gd
        omega
    by_cases zy : yn / 10 / 10 / 10 = 0
    case neg =>
      have zy' : ¬ nI (yn / 10 / 10 / 10) = 0 := nI_ne0 (by omega) (by omega)
      refine Or.inl ⟨_, ?_, W4, fun ⟨K, xn', yn', pn', qn', J, gd⟩ => ?_⟩
      · rw [zx] at lp
        simp only [se_X8_isWay, sm_X8_isWay, gz_sem, gz_ae, Value.category, gz_i, gz_l, gz_nu, gz_li, gz_ll, gz_la, gz_ib, gz_iz, gz_lb, gz_lz, gz_ls, gz_lc, gz_i2l, gz_l2i, gz_get, gz_ald, gz_len, gz_dup, gz_d2, gz_nar, gz_a0, gz_a1, gz_cs, gz_cv, gz_mk, gz_te, gz_j1, gz_j2, gz_jn, gz_jk, gz_jo, gz_ja, gz_sat, gz_seti, gz_seta, gz_set2, gz_inc, gz_put, gz_ast, gz_pop, gz_vs, gz_vv, gz_sup, gz_rv, gz_ri, gz_rl, gz_ra, gz_if, gz_seq, gz_sw, gz_st, gz_st2, rok_I, rok_J, rok_V, rok_Z0, rok_Z1, rok_Zi, rok_R, rok_N, bi_rok, bi_0, bi_1, fit_I, fit_J, fit_Z0, fit_Z1, fit_Zi, fit_R, fit_N, fit_aR, aty_I, aty_Z0, aty_Z1, aty_Zi, aty_J, gz_ix, List.getElem?_cons_zero, List.getElem?_cons_succ, List.getElem?_nil, List.reverse_cons, List.reverse_nil, List.nil_append, List.cons_append, List.take_succ_cons, List.take_zero, List.take_nil, List.length_cons, List.length_nil, decide_true, decide_false, decide_not, Bool.not_true, Bool.not_false, gz_nle, if_true, if_false, and_true, true_and, and_self, and_false, false_and, or_true, true_or, or_false, false_or, Bool.false_eq_true, not_true, not_false_iff, Decidable.not_not, Nat.reduceLeDiff, Nat.reduceAdd, Nat.reduceEqDiff, Nat.reduceSub, Nat.reduceLT, Nat.zero_add, reduceCtorEq, reduceIte, eq_self, i32_10, i32_01, Nat.zero_le, Nat.one_ne_zero, cm, m, m1, m2, m3, m4, md_k, l00, l10, l20, c00, c10, c20, q03, q13, q23, hR, e47, x32, x23, x0, y0, op, oq, ab, ac, bc, lp, e0, zy']
      · obtain ⟨k1, rfl, rfl⟩ := gdd _ _ _ _ _ _ gd
        have := KK _ _ _ _ _ _ gd
        omega
    refine Or.inr ⟨_, 3, xn, yn, pn, qn, (fun i => if i = 2 then jd else if i = 1 then jb else j0), ?_, W4, ⟨Or.inr ⟨rfl, cm, ac, bc, by omega, by omega⟩, ab, rfl, rfl, rfl, pb, rfl, qb, fun k hk => ?_⟩, RFf⟩
    · rw [zx, zy] at lp
      simp only [se_X8_isWay, sm_X8_isWay, gz_sem, gz_ae, Value.category, gz_i, gz_l, gz_nu, gz_li, gz_ll, gz_la, gz_ib, gz_iz, gz_lb, gz_lz, gz_ls, gz_lc, gz_i2l, gz_l2i, gz_get, gz_ald, gz_len, gz_dup, gz_d2, gz_nar, gz_a0, gz_a1, gz_cs, gz_cv, gz_mk, gz_te, gz_j1, gz_j2, gz_jn, gz_jk, gz_jo, gz_ja, gz_sat, gz_seti, gz_seta, gz_set2, gz_inc, gz_put, gz_ast, gz_pop, gz_vs, gz_vv, gz_sup, gz_rv, gz_ri, gz_rl, gz_ra, gz_if, gz_seq, gz_sw, gz_st, gz_st2, rok_I, rok_J, rok_V, rok_Z0, rok_Z1, rok_Zi, rok_R, rok_N, bi_rok, bi_0, bi_1, fit_I, fit_J, fit_Z0, fit_Z1, fit_Zi, fit_R, fit_N, fit_aR, aty_I, aty_Z0, aty_Z1, aty_Zi, aty_J, gz_ix, List.getElem?_cons_zero, List.getElem?_cons_succ, List.getElem?_nil, List.reverse_cons, List.reverse_nil, List.nil_append, List.cons_append, List.take_succ_cons, List.take_zero, List.take_nil, List.length_cons, List.length_nil, decide_true, decide_false, decide_not, Bool.not_true, Bool.not_false, gz_nle, if_true, if_false, and_true, true_and, and_self, and_false, false_and, or_true, true_or, or_false, false_or, Bool.false_eq_true, not_true, not_false_iff, Decidable.not_not, Nat.reduceLeDiff, Nat.reduceAdd, Nat.reduceEqDiff, Nat.reduceSub, Nat.reduceLT, Nat.zero_add, reduceCtorEq, reduceIte, eq_self, i32_10, i32_01, Nat.zero_le, Nat.one_ne_zero, cm, m, m1, m2, m3, m4, md_k, l00, l10, l20, c00, c10, c20, q03, q13, q23, hR, e47, x32, x23, x0, y0, op, oq, ab, ac, bc, lp, e0]
    · have : k = 0 ∨ k = 1 ∨ k = 2 := by omega
      rcases this with rfl | rfl | rfl
      · exact ⟨g0.1, g0.2.1, g0.2.2.1, g0.2.2.2.1, g0.2.2.2.2.1, rfl⟩
      · exact ⟨g1.1, g1.2.1, g1.2.2.1, g1.2.2.2.1, g1.2.2.2.2.1, g1.2.2.2.2.2⟩
      · refine ⟨g2.1, g2.2.1, ?_, ?_, g2.2.2.2.2.1, g2.2.2.2.2.2⟩
        · show xn / 100 < g 6 jd
          have := g2.2.2.1
          omega
        · show yn / 100 < g 6 jd
          have := g2.2.2.2.1
          omega
