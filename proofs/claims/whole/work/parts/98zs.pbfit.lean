set_option maxHeartbeats 8000000 in
theorem pb_fit (x y : Int32) : PB se_X7_fit se_X8_fit [.int x, .int y] := by
  intro g T hc hr H
  have c := IV_cs H
  have m := IV_md H
  have h8 := IV_8 H
  have e20 : nI 20 = (20 : Int32) := rfl
  have e90 : nI 90 = (90 : Int32) := rfl
  rcases ja_cs h8 x with hx | ⟨j, hj, rfl⟩
  · obtain ⟨j1, j2⟩ := ja_no H hx
    have b := bg_no H hx
    refine ⟨.int 0, hc, hr, g, T, ?_, ?_, fr8_rf _, fr7_rf _, H⟩
    · simp only [se_X7_fit, sm_X7_fit, gz_sem, gz_ae, Value.category, gz_i, gz_l, gz_nu, gz_li, gz_ll, gz_la, gz_ib, gz_iz, gz_lb, gz_lz, gz_ls, gz_lc, gz_i2l, gz_l2i, gz_get, gz_ald, gz_len, gz_dup, gz_d2, gz_nar, gz_a0, gz_a1, gz_cs, gz_cv, gz_mk, gz_te, gz_j1, gz_j2, gz_jn, gz_jk, gz_jo, gz_ja, gz_sat, gz_seti, gz_seta, gz_set2, gz_inc, gz_put, gz_ast, gz_pop, gz_vs, gz_vv, gz_sup, gz_rv, gz_ri, gz_rl, gz_ra, gz_if, gz_seq, gz_sw, gz_st, gz_st2, rok_I, rok_J, rok_V, rok_Z0, rok_Z1, rok_Zi, rok_R, rok_N, bi_rok, bi_0, bi_1, fit_I, fit_J, fit_Z0, fit_Z1, fit_Zi, fit_R, fit_N, fit_aR, aty_I, aty_Z0, aty_Z1, aty_Zi, aty_J, gz_ix, List.getElem?_cons_zero, List.getElem?_cons_succ, List.getElem?_nil, List.reverse_cons, List.reverse_nil, List.nil_append, List.cons_append, List.take_succ_cons, List.take_zero, List.take_nil, List.length_cons, List.length_nil, decide_true, decide_false, decide_not, Bool.not_true, Bool.not_false, gz_nle, if_true, if_false, and_true, true_and, and_self, and_false, false_and, or_true, true_or, or_false, false_or, Bool.false_eq_true, not_true, not_false_iff, Decidable.not_not, Nat.reduceLeDiff, Nat.reduceAdd, Nat.reduceEqDiff, Nat.reduceSub, Nat.reduceLT, Nat.zero_add, reduceCtorEq, reduceIte, eq_self, i32_10, i32_01, Nat.zero_le, Nat.one_ne_zero, c, j1, b]
    · simp only [se_X8_fit, sm_X8_fit, se_X8_isBegun, sm_X8_isBegun, gz_sem, gz_ae, Value.category, gz_i, gz_l, gz_nu, gz_li, gz_ll, gz_la, gz_ib, gz_iz, gz_lb, gz_lz, gz_ls, gz_lc, gz_i2l, gz_l2i, gz_get, gz_ald, gz_len, gz_dup, gz_d2, gz_nar, gz_a0, gz_a1, gz_cs, gz_cv, gz_mk, gz_te, gz_j1, gz_j2, gz_jn, gz_jk, gz_jo, gz_ja, gz_sat, gz_seti, gz_seta, gz_set2, gz_inc, gz_put, gz_ast, gz_pop, gz_vs, gz_vv, gz_sup, gz_rv, gz_ri, gz_rl, gz_ra, gz_if, gz_seq, gz_sw, gz_st, gz_st2, rok_I, rok_J, rok_V, rok_Z0, rok_Z1, rok_Zi, rok_R, rok_N, bi_rok, bi_0, bi_1, fit_I, fit_J, fit_Z0, fit_Z1, fit_Zi, fit_R, fit_N, fit_aR, aty_I, aty_Z0, aty_Z1, aty_Zi, aty_J, gz_ix, List.getElem?_cons_zero, List.getElem?_cons_succ, List.getElem?_nil, List.reverse_cons, List.reverse_nil, List.nil_append, List.cons_append, List.take_succ_cons, List.take_zero, List.take_nil, List.length_cons, List.length_nil, decide_true, decide_false, decide_not, Bool.not_true, Bool.not_false, gz_nle, if_true, if_false, and_true, true_and, and_self, and_false, false_and, or_true, true_or, or_false, false_or, Bool.false_eq_true, not_true, not_false_iff, Decidable.not_not, Nat.reduceLeDiff, Nat.reduceAdd, Nat.reduceEqDiff, Nat.reduceSub, Nat.reduceLT, Nat.zero_add, reduceCtorEq, reduceIte, eq_self, i32_10, i32_01, Nat.zero_le, Nat.one_ne_zero, m, md_k, j2]
  obtain ⟨j1, j2⟩ := ja_yes H hj
  have d2 : ¬ nI j < 0 := nI_pos (by omega)
  have d3 : (nI j).toNatClampNeg = j := nI_clamp (by omega)
  have d4 : j < 16 := by omega
  rcases bg_cs H hj with ⟨q1, q2, b⟩ | ⟨q1, q2, b, po, n, cy0, pv⟩
  · refine ⟨.int 0, hc, hr, g, T, ?_, ?_, fr8_rf _, fr7_rf _, H⟩
    · simp only [se_X7_fit, sm_X7_fit, gz_sem, gz_ae, Value.category, gz_i, gz_l, gz_nu, gz_li, gz_ll, gz_la, gz_ib, gz_iz, gz_lb, gz_lz, gz_ls, gz_lc, gz_i2l, gz_l2i, gz_get, gz_ald, gz_len, gz_dup, gz_d2, gz_nar, gz_a0, gz_a1, gz_cs, gz_cv, gz_mk, gz_te, gz_j1, gz_j2, gz_jn, gz_jk, gz_jo, gz_ja, gz_sat, gz_seti, gz_seta, gz_set2, gz_inc, gz_put, gz_ast, gz_pop, gz_vs, gz_vv, gz_sup, gz_rv, gz_ri, gz_rl, gz_ra, gz_if, gz_seq, gz_sw, gz_st, gz_st2, rok_I, rok_J, rok_V, rok_Z0, rok_Z1, rok_Zi, rok_R, rok_N, bi_rok, bi_0, bi_1, fit_I, fit_J, fit_Z0, fit_Z1, fit_Zi, fit_R, fit_N, fit_aR, aty_I, aty_Z0, aty_Z1, aty_Zi, aty_J, gz_ix, List.getElem?_cons_zero, List.getElem?_cons_succ, List.getElem?_nil, List.reverse_cons, List.reverse_nil, List.nil_append, List.cons_append, List.take_succ_cons, List.take_zero, List.take_nil, List.length_cons, List.length_nil, decide_true, decide_false, decide_not, Bool.not_true, Bool.not_false, gz_nle, if_true, if_false, and_true, true_and, and_self, and_false, false_and, or_true, true_or, or_false, false_or, Bool.false_eq_true, not_true, not_false_iff, Decidable.not_not, Nat.reduceLeDiff, Nat.reduceAdd, Nat.reduceEqDiff, Nat.reduceSub, Nat.reduceLT, Nat.zero_add, reduceCtorEq, reduceIte, eq_self, i32_10, i32_01, Nat.zero_le, Nat.one_ne_zero, c, j1, b]
    · simp only [se_X8_fit, sm_X8_fit, se_X8_isBegun, sm_X8_isBegun, gz_sem, gz_ae, Value.category, gz_i, gz_l, gz_nu, gz_li, gz_ll, gz_la, gz_ib, gz_iz, gz_lb, gz_lz, gz_ls, gz_lc, gz_i2l, gz_l2i, gz_get, gz_ald, gz_len, gz_dup, gz_d2, gz_nar, gz_a0, gz_a1, gz_cs, gz_cv, gz_mk, gz_te, gz_j1, gz_j2, gz_jn, gz_jk, gz_jo, gz_ja, gz_sat, gz_seti, gz_seta, gz_set2, gz_inc, gz_put, gz_ast, gz_pop, gz_vs, gz_vv, gz_sup, gz_rv, gz_ri, gz_rl, gz_ra, gz_if, gz_seq, gz_sw, gz_st, gz_st2, rok_I, rok_J, rok_V, rok_Z0, rok_Z1, rok_Zi, rok_R, rok_N, bi_rok, bi_0, bi_1, fit_I, fit_J, fit_Z0, fit_Z1, fit_Zi, fit_R, fit_N, fit_aR, aty_I, aty_Z0, aty_Z1, aty_Zi, aty_J, gz_ix, List.getElem?_cons_zero, List.getElem?_cons_succ, List.getElem?_nil, List.reverse_cons, List.reverse_nil, List.nil_append, List.cons_append, List.take_succ_cons, List.take_zero, List.take_nil, List.length_cons, List.length_nil, decide_true, decide_false, decide_not, Bool.not_true, Bool.not_false, gz_nle, if_true, if_false, and_true, true_and, and_self, and_false, false_and, or_true, true_or, or_false, false_or, Bool.false_eq_true, not_true, not_false_iff, Decidable.not_not, Nat.reduceLeDiff, Nat.reduceAdd, Nat.reduceEqDiff, Nat.reduceSub, Nat.reduceLT, Nat.zero_add, reduceCtorEq, reduceIte, eq_self, i32_10, i32_01, Nat.zero_le, Nat.one_ne_zero, m, md_k, j2, d2, d3, d4, q1]
  have pv' := pv
  obtain ⟨v1, v2, v3, k, v5, v6, v7, v8⟩ := pv
  by_cases n2 : n < 2
  · have t1 : nI n < 2 := nI_lt (b := 2) n2 (by decide)
    have t2 : ¬ (1 : Int32) < nI n := nI_nlt (a := 1) (b := n) (by omega) (by omega)
    refine ⟨.int 0, hc, hr, g, T, ?_, ?_, fr8_rf _, fr7_rf _, H⟩
    · simp only [se_X7_fit, sm_X7_fit, gz_sem, gz_ae, Value.category, gz_i, gz_l, gz_nu, gz_li, gz_ll, gz_la, gz_ib, gz_iz, gz_lb, gz_lz, gz_ls, gz_lc, gz_i2l, gz_l2i, gz_get, gz_ald, gz_len, gz_dup, gz_d2, gz_nar, gz_a0, gz_a1, gz_cs, gz_cv, gz_mk, gz_te, gz_j1, gz_j2, gz_jn, gz_jk, gz_jo, gz_ja, gz_sat, gz_seti, gz_seta, gz_set2, gz_inc, gz_put, gz_ast, gz_pop, gz_vs, gz_vv, gz_sup, gz_rv, gz_ri, gz_rl, gz_ra, gz_if, gz_seq, gz_sw, gz_st, gz_st2, rok_I, rok_J, rok_V, rok_Z0, rok_Z1, rok_Zi, rok_R, rok_N, bi_rok, bi_0, bi_1, fit_I, fit_J, fit_Z0, fit_Z1, fit_Zi, fit_R, fit_N, fit_aR, aty_I, aty_Z0, aty_Z1, aty_Zi, aty_J, gz_ix, List.getElem?_cons_zero, List.getElem?_cons_succ, List.getElem?_nil, List.reverse_cons, List.reverse_nil, List.nil_append, List.cons_append, List.take_succ_cons, List.take_zero, List.take_nil, List.length_cons, List.length_nil, decide_true, decide_false, decide_not, Bool.not_true, Bool.not_false, gz_nle, if_true, if_false, and_true, true_and, and_self, and_false, false_and, or_true, true_or, or_false, false_or, Bool.false_eq_true, not_true, not_false_iff, Decidable.not_not, Nat.reduceLeDiff, Nat.reduceAdd, Nat.reduceEqDiff, Nat.reduceSub, Nat.reduceLT, Nat.zero_add, reduceCtorEq, reduceIte, eq_self, i32_10, i32_01, Nat.zero_le, Nat.one_ne_zero, c, j1, b, k, t1]
    · simp only [se_X8_fit, sm_X8_fit, se_X8_isBegun, sm_X8_isBegun, gz_sem, gz_ae, Value.category, gz_i, gz_l, gz_nu, gz_li, gz_ll, gz_la, gz_ib, gz_iz, gz_lb, gz_lz, gz_ls, gz_lc, gz_i2l, gz_l2i, gz_get, gz_ald, gz_len, gz_dup, gz_d2, gz_nar, gz_a0, gz_a1, gz_cs, gz_cv, gz_mk, gz_te, gz_j1, gz_j2, gz_jn, gz_jk, gz_jo, gz_ja, gz_sat, gz_seti, gz_seta, gz_set2, gz_inc, gz_put, gz_ast, gz_pop, gz_vs, gz_vv, gz_sup, gz_rv, gz_ri, gz_rl, gz_ra, gz_if, gz_seq, gz_sw, gz_st, gz_st2, rok_I, rok_J, rok_V, rok_Z0, rok_Z1, rok_Zi, rok_R, rok_N, bi_rok, bi_0, bi_1, fit_I, fit_J, fit_Z0, fit_Z1, fit_Zi, fit_R, fit_N, fit_aR, aty_I, aty_Z0, aty_Z1, aty_Zi, aty_J, gz_ix, List.getElem?_cons_zero, List.getElem?_cons_succ, List.getElem?_nil, List.reverse_cons, List.reverse_nil, List.nil_append, List.cons_append, List.take_succ_cons, List.take_zero, List.take_nil, List.length_cons, List.length_nil, decide_true, decide_false, decide_not, Bool.not_true, Bool.not_false, gz_nle, if_true, if_false, and_true, true_and, and_self, and_false, false_and, or_true, true_or, or_false, false_or, Bool.false_eq_true, not_true, not_false_iff, Decidable.not_not, Nat.reduceLeDiff, Nat.reduceAdd, Nat.reduceEqDiff, Nat.reduceSub, Nat.reduceLT, Nat.zero_add, reduceCtorEq, reduceIte, eq_self, i32_10, i32_01, Nat.zero_le, Nat.one_ne_zero, m, md_k, j2, d2, d3, d4, q1, v7, t2]
  have t1 : ¬ nI n < 2 := nI_nlt (b := 2) (by omega) (by omega)
  have t2 : (1 : Int32) < nI n := nI_lt (a := 1) (by omega) (by omega)
  rcases in_cs 20 90 (by decide) (by decide) y with o | ⟨cy, cy20, cy90, rfl⟩
  · obtain ⟨o1, o2⟩ := io_no o hc hr
    rw [e20, e90] at o1 o2
    refine ⟨.int 0, hc, hr, g, T, ?_, ?_, fr8_rf _, fr7_rf _, H⟩
    · simp only [se_X7_fit, sm_X7_fit, gz_sem, gz_ae, Value.category, gz_i, gz_l, gz_nu, gz_li, gz_ll, gz_la, gz_ib, gz_iz, gz_lb, gz_lz, gz_ls, gz_lc, gz_i2l, gz_l2i, gz_get, gz_ald, gz_len, gz_dup, gz_d2, gz_nar, gz_a0, gz_a1, gz_cs, gz_cv, gz_mk, gz_te, gz_j1, gz_j2, gz_jn, gz_jk, gz_jo, gz_ja, gz_sat, gz_seti, gz_seta, gz_set2, gz_inc, gz_put, gz_ast, gz_pop, gz_vs, gz_vv, gz_sup, gz_rv, gz_ri, gz_rl, gz_ra, gz_if, gz_seq, gz_sw, gz_st, gz_st2, rok_I, rok_J, rok_V, rok_Z0, rok_Z1, rok_Zi, rok_R, rok_N, bi_rok, bi_0, bi_1, fit_I, fit_J, fit_Z0, fit_Z1, fit_Zi, fit_R, fit_N, fit_aR, aty_I, aty_Z0, aty_Z1, aty_Zi, aty_J, gz_ix, List.getElem?_cons_zero, List.getElem?_cons_succ, List.getElem?_nil, List.reverse_cons, List.reverse_nil, List.nil_append, List.cons_append, List.take_succ_cons, List.take_zero, List.take_nil, List.length_cons, List.length_nil, decide_true, decide_false, decide_not, Bool.not_true, Bool.not_false, gz_nle, if_true, if_false, and_true, true_and, and_self, and_false, false_and, or_true, true_or, or_false, false_or, Bool.false_eq_true, not_true, not_false_iff, Decidable.not_not, Nat.reduceLeDiff, Nat.reduceAdd, Nat.reduceEqDiff, Nat.reduceSub, Nat.reduceLT, Nat.zero_add, reduceCtorEq, reduceIte, eq_self, i32_10, i32_01, Nat.zero_le, Nat.one_ne_zero, c, j1, b, k, t1, o1]
    · simp only [se_X8_fit, sm_X8_fit, se_X8_isBegun, sm_X8_isBegun, gz_sem, gz_ae, Value.category, gz_i, gz_l, gz_nu, gz_li, gz_ll, gz_la, gz_ib, gz_iz, gz_lb, gz_lz, gz_ls, gz_lc, gz_i2l, gz_l2i, gz_get, gz_ald, gz_len, gz_dup, gz_d2, gz_nar, gz_a0, gz_a1, gz_cs, gz_cv, gz_mk, gz_te, gz_j1, gz_j2, gz_jn, gz_jk, gz_jo, gz_ja, gz_sat, gz_seti, gz_seta, gz_set2, gz_inc, gz_put, gz_ast, gz_pop, gz_vs, gz_vv, gz_sup, gz_rv, gz_ri, gz_rl, gz_ra, gz_if, gz_seq, gz_sw, gz_st, gz_st2, rok_I, rok_J, rok_V, rok_Z0, rok_Z1, rok_Zi, rok_R, rok_N, bi_rok, bi_0, bi_1, fit_I, fit_J, fit_Z0, fit_Z1, fit_Zi, fit_R, fit_N, fit_aR, aty_I, aty_Z0, aty_Z1, aty_Zi, aty_J, gz_ix, List.getElem?_cons_zero, List.getElem?_cons_succ, List.getElem?_nil, List.reverse_cons, List.reverse_nil, List.nil_append, List.cons_append, List.take_succ_cons, List.take_zero, List.take_nil, List.length_cons, List.length_nil, decide_true, decide_false, decide_not, Bool.not_true, Bool.not_false, gz_nle, if_true, if_false, and_true, true_and, and_self, and_false, false_and, or_true, true_or, or_false, false_or, Bool.false_eq_true, not_true, not_false_iff, Decidable.not_not, Nat.reduceLeDiff, Nat.reduceAdd, Nat.reduceEqDiff, Nat.reduceSub, Nat.reduceLT, Nat.zero_add, reduceCtorEq, reduceIte, eq_self, i32_10, i32_01, Nat.zero_le, Nat.one_ne_zero, m, md_k, j2, d2, d3, d4, q1, v7, t2, o2]
  obtain ⟨o1, o2⟩ := io_yes cy20 cy90 (by decide) hc hr
  rw [e20, e90] at o1 o2
  obtain ⟨B, hB, sB, mB⟩ := bs_of H hj pv'
  have ab := st_X2_allBetweens hc (g 3 j) n k v1
  rw [sB] at ab
  have bt8 := st_X8_betweens hr m j n d4 v1 v7
  rw [mB] at bt8
  by_cases le : B + n ≤ cy
  case neg =>
    have t3 : nI cy - nI B < nI n := by
      by_cases q : B ≤ cy
      · rw [pk_sub q]; exact nI_lt (by omega) (by omega)
      · exact pk_nle (by omega) (by omega) (nI_pos (by omega)) (by omega)
    refine ⟨.int 0, hc, hr, g, T, ?_, ?_, fr8_rf _, fr7_rf _, H⟩
    · simp only [se_X7_fit, sm_X7_fit, gz_sem, gz_ae, Value.category, gz_i, gz_l, gz_nu, gz_li, gz_ll, gz_la, gz_ib, gz_iz, gz_lb, gz_lz, gz_ls, gz_lc, gz_i2l, gz_l2i, gz_get, gz_ald, gz_len, gz_dup, gz_d2, gz_nar, gz_a0, gz_a1, gz_cs, gz_cv, gz_mk, gz_te, gz_j1, gz_j2, gz_jn, gz_jk, gz_jo, gz_ja, gz_sat, gz_seti, gz_seta, gz_set2, gz_inc, gz_put, gz_ast, gz_pop, gz_vs, gz_vv, gz_sup, gz_rv, gz_ri, gz_rl, gz_ra, gz_if, gz_seq, gz_sw, gz_st, gz_st2, rok_I, rok_J, rok_V, rok_Z0, rok_Z1, rok_Zi, rok_R, rok_N, bi_rok, bi_0, bi_1, fit_I, fit_J, fit_Z0, fit_Z1, fit_Zi, fit_R, fit_N, fit_aR, aty_I, aty_Z0, aty_Z1, aty_Zi, aty_J, gz_ix, List.getElem?_cons_zero, List.getElem?_cons_succ, List.getElem?_nil, List.reverse_cons, List.reverse_nil, List.nil_append, List.cons_append, List.take_succ_cons, List.take_zero, List.take_nil, List.length_cons, List.length_nil, decide_true, decide_false, decide_not, Bool.not_true, Bool.not_false, gz_nle, if_true, if_false, and_true, true_and, and_self, and_false, false_and, or_true, true_or, or_false, false_or, Bool.false_eq_true, not_true, not_false_iff, Decidable.not_not, Nat.reduceLeDiff, Nat.reduceAdd, Nat.reduceEqDiff, Nat.reduceSub, Nat.reduceLT, Nat.zero_add, reduceCtorEq, reduceIte, eq_self, i32_10, i32_01, Nat.zero_le, Nat.one_ne_zero, c, j1, b, k, t1, o1, ab, t3]
    · simp only [se_X8_fit, sm_X8_fit, se_X8_isBegun, sm_X8_isBegun, gz_sem, gz_ae, Value.category, gz_i, gz_l, gz_nu, gz_li, gz_ll, gz_la, gz_ib, gz_iz, gz_lb, gz_lz, gz_ls, gz_lc, gz_i2l, gz_l2i, gz_get, gz_ald, gz_len, gz_dup, gz_d2, gz_nar, gz_a0, gz_a1, gz_cs, gz_cv, gz_mk, gz_te, gz_j1, gz_j2, gz_jn, gz_jk, gz_jo, gz_ja, gz_sat, gz_seti, gz_seta, gz_set2, gz_inc, gz_put, gz_ast, gz_pop, gz_vs, gz_vv, gz_sup, gz_rv, gz_ri, gz_rl, gz_ra, gz_if, gz_seq, gz_sw, gz_st, gz_st2, rok_I, rok_J, rok_V, rok_Z0, rok_Z1, rok_Zi, rok_R, rok_N, bi_rok, bi_0, bi_1, fit_I, fit_J, fit_Z0, fit_Z1, fit_Zi, fit_R, fit_N, fit_aR, aty_I, aty_Z0, aty_Z1, aty_Zi, aty_J, gz_ix, List.getElem?_cons_zero, List.getElem?_cons_succ, List.getElem?_nil, List.reverse_cons, List.reverse_nil, List.nil_append, List.cons_append, List.take_succ_cons, List.take_zero, List.take_nil, List.length_cons, List.length_nil, decide_true, decide_false, decide_not, Bool.not_true, Bool.not_false, gz_nle, if_true, if_false, and_true, true_and, and_self, and_false, false_and, or_true, true_or, or_false, false_or, Bool.false_eq_true, not_true, not_false_iff, Decidable.not_not, Nat.reduceLeDiff, Nat.reduceAdd, Nat.reduceEqDiff, Nat.reduceSub, Nat.reduceLT, Nat.zero_add, reduceCtorEq, reduceIte, eq_self, i32_10, i32_01, Nat.zero_le, Nat.one_ne_zero, m, md_k, j2, d2, d3, d4, q1, v7, t2, o2, bt8, t3]
  have sb : nI cy - nI B = nI (cy - B) := pk_sub (by omega)
  have t3 : ¬ nI (cy - B) < nI n := nI_nlt (by omega) (by omega)
  obtain ⟨AXh, RXh⟩ := AX_of H hj po pv' (by omega)
  obtain ⟨hc1, C, V, a', b', c', d', f1, f2, f3, f4, f5, f6⟩ := st_ff AXh (T := cy - B) (by omega) (by omega)
  -- the reference
  have w0 := QW_15 (QW_rf m) 28 0 (Or.inr rfl)
  obtain ⟨e8, hr1, r1, r2, r3, r4⟩ := fit_a w0 RXh cy90 (T := cy - B) (by omega) (by omega) (by rw [J_set, if_pos ⟨rfl, rfl⟩]; rfl) (.int (nI j)) rfl
  rcases r4 with ⟨-, r4⟩ | ⟨fa, fb, fc, fd, g1, -, -, g4, g5⟩
  · exact absurd f5.1.1 (r4 a' b' c' d')
  have hX : ∀ i, i < g 6 j → (gz_I hr 18 (8 * j + i)).toNatClampNeg ≤ 3600 ∧ 0 < (gz_I hr 19 (8 * j + i)).toNatClampNeg ∧ (gz_I hr 19 (8 * j + i)).toNatClampNeg ≤ 3600 := fun i hi => by
    have := RXh.2.2.2.2.2.2.1 i hi
    exact ⟨this.2.1, Nat.lt_of_lt_of_le (by decide) this.2.2.2.1, this.2.2.2.2⟩
  obtain ⟨x1, x2, x3, x4⟩ := fit_eq v1 hX (by omega) cy90 (by omega) f3 f4 f5 g1 (fun x y z w gg => g5 x y z w gg)
  subst x1 x2 x3 x4
  have H1 := IV_qw (IV_aw H f2) r3
  have c1 := IV_cs H1
  have m1 := IV_md H1
  have ax1 := H1.1.2.2.2.1
  have V1 := H1.2.2.1 j hj
  rcases bg_cs H1 hj with ⟨z, -⟩ | ⟨p1, p2, -, -, n', cz, pv1⟩
  · exact absurd ((QW_I r3 (by omega) (by omega) j).symm.trans z) (by rw [q1]; decide)
  have en : n' = n := by
    have e := pv1.2.2.2.2.2.2.1
    rw [QW_I r3 (by omega) (by omega), v7] at e
    exact ((nI_eq (by omega) (by have := pv1.1; omega)).mp e).symm
  subst en
  obtain ⟨u1, u2, u3, k1, u5, u6, u7, u8⟩ := pv1
  have F8 : ∀ s, s < n' → gz_I hc1 8 s = nI (gf a' b' c' d' s) := fun s hs => by
    have : s = 0 ∨ s = 1 ∨ s = 2 ∨ s = 3 := by omega
    rcases this with rfl | rfl | rfl | rfl
    · exact f6.1
    · exact f6.2.1
    · exact f6.2.2.1
    · exact f6.2.2.2
  have gfb : ∀ s, s < n' → gf a' b' c' d' s ≤ 90 := fun s hs => by
    have z := g1.2.2.2.2.2.2
    have : s = 0 ∨ s = 1 ∨ s = 2 ∨ s = 3 := by omega
    rcases this with rfl | rfl | rfl | rfl
    · show a' ≤ 90; omega
    · show b' ≤ 90; omega
    · show c' ≤ 90; omega
    · show d' ≤ 90; omega
  have hq55 := po.1
  have pcode : ∀ u, u ≤ 5 → g 5 (g 3 j + u) = 300 + j := po.2
  have p0 := pcode 0 (by omega)
  rw [Nat.add_zero] at p0
  -- the class writes the greens
  obtain ⟨e2, hc2, s1, s2, s3, s4, s5, s6, s7⟩ := gz_forI (L := 79) (k := 6) (X := 113) (a := lb_X7_fit_79) n' (fun s e h => e = [.ref 0, .int (nI j), .int (nI cy), .ref (g 0 j), .ref (g 3 j), .int (nI s)] ∧ h.1 = hc1.1 ∧ pc h (g 3 j) n' ∧ (∀ x, gz_k h x = gz_k hc1 x) ∧ (∀ b i, ¬ (b = g 3 j + 2 ∧ i < n') → gz_v h b i = gz_v hc1 b i) ∧ ∀ t, t < s → gz_I h (g 3 j + 2) t = nI (gf a' b' c' d' t)) (fun e h => e = [.ref 0, .int (nI j), .int (nI cy), .ref (g 0 j), .ref (g 3 j), .int (nI n')] ∧ h.1 = hc1.1 ∧ pc h (g 3 j) n' ∧ (∀ x, gz_k h x = gz_k hc1 x) ∧ (∀ b i, ¬ (b = g 3 j + 2 ∧ i < n') → gz_v h b i = gz_v hc1 b i) ∧ ∀ t, t < n' → gz_I h (g 3 j + 2) t = nI (gf a' b' c' d' t)) (by decide) (by
    intro s e h hs ⟨ee, hn, pk, hk, ho, hr'⟩
    subst ee
    have l1 : nI s < nI n' := nI_lt hs (by omega)
    have l2 : ¬ nI s < 0 := nI_pos (by omega)
    have l3 : (nI s).toNatClampNeg = s := nI_clamp (by omega)
    have l4 : s < 4 := by omega
    have z0 : gz_v h 0 2 = .ref 4 := by rw [ho 0 2 (by omega)]; exact c1.2.2.2.2.2.2.2.2.2.2.2.2.2.2.2.2.2.2.1
    have z4 : gz_v h 4 3 = .ref 8 := by rw [ho 4 3 (by omega)]; exact ax1.2.2.2.1
    have z8 : gz_v h 8 s = .int (nI (gf a' b' c' d' s)) := by rw [ho 8 s (by omega), ax1.2.2.2.2.2.2 8 s (by omega) (by omega), F8 s hs]
    have k0 : gz_k h 0 = (7, 9) := by rw [hk]; exact c1.2.1
    have k4 : gz_k h 4 = (0, 6) := by rw [hk]; exact c1.2.2.2.2.2.1
    have k8 : gz_k h 8 = (100, 4) := by rw [hk]; exact c1.2.2.2.2.2.2.2.2.2.1
    have n0 : 0 < h.1 := by rw [hn]; exact c1.1 0 (by omega)
    have n4 : 4 < h.1 := by rw [hn]; exact c1.1 4 (by omega)
    have n8 : 8 < h.1 := by rw [hn]; exact c1.1 8 (by omega)
    refine ⟨[.ref 0, .int (nI j), .int (nI cy), .ref (g 0 j), .ref (g 3 j), .int (nI (s + 1))], gz_set h (g 3 j + 2) s (.int (nI (gf a' b' c' d' s))), ?_, rfl, hn, pc_setI pk _ _ _ (by omega), hk, fun b i nn => ?_, fun t ht => ?_⟩
    · simp only [lb_X7_fit_79, gz_sem, gz_ae, Value.category, gz_i, gz_l, gz_nu, gz_li, gz_ll, gz_la, gz_ib, gz_iz, gz_lb, gz_lz, gz_ls, gz_lc, gz_i2l, gz_l2i, gz_get, gz_ald, gz_len, gz_dup, gz_d2, gz_nar, gz_a0, gz_a1, gz_cs, gz_cv, gz_mk, gz_te, gz_j1, gz_j2, gz_jn, gz_jk, gz_jo, gz_ja, gz_sat, gz_seti, gz_seta, gz_set2, gz_inc, gz_put, gz_ast, gz_pop, gz_vs, gz_vv, gz_sup, gz_rv, gz_ri, gz_rl, gz_ra, gz_if, gz_seq, gz_sw, gz_st, gz_st2, rok_I, rok_J, rok_V, rok_Z0, rok_Z1, rok_Zi, rok_R, rok_N, bi_rok, bi_0, bi_1, fit_I, fit_J, fit_Z0, fit_Z1, fit_Zi, fit_R, fit_N, fit_aR, aty_I, aty_Z0, aty_Z1, aty_Zi, aty_J, gz_ix, List.getElem?_cons_zero, List.getElem?_cons_succ, List.getElem?_nil, List.reverse_cons, List.reverse_nil, List.nil_append, List.cons_append, List.take_succ_cons, List.take_zero, List.take_nil, List.length_cons, List.length_nil, decide_true, decide_false, decide_not, Bool.not_true, Bool.not_false, gz_nle, if_true, if_false, and_true, true_and, and_self, and_false, false_and, or_true, true_or, or_false, false_or, Bool.false_eq_true, not_true, not_false_iff, Decidable.not_not, Nat.reduceLeDiff, Nat.reduceAdd, Nat.reduceEqDiff, Nat.reduceSub, Nat.reduceLT, Nat.zero_add, reduceCtorEq, reduceIte, eq_self, i32_10, i32_01, Nat.zero_le, Nat.one_ne_zero, pk, l1, l2, l3, l4, z0, z4, z8, k0, k4, k8, n0, n4, n8, nI_1]
    · rw [gz_v_set, if_neg (fun z => nn ⟨z.1, by rw [z.2]; exact hs⟩)]; exact ho b i nn
    · rw [I_set]
      by_cases z : t = s
      · rw [if_pos ⟨rfl, z⟩, z]
      · rw [if_neg (fun y => z y.2)]; exact hr' t (by omega)) (by
    intro e h ⟨ee, hn, pk, hk, ho, hr'⟩
    subst ee
    have l1 : ¬ nI n' < nI n' := nI_nlt (Nat.le_refl _) (by omega)
    refine ⟨_, h, ?_, rfl, hn, pk, hk, ho, hr'⟩
    simp only [lb_X7_fit_79, gz_sem, gz_ae, Value.category, gz_i, gz_l, gz_nu, gz_li, gz_ll, gz_la, gz_ib, gz_iz, gz_lb, gz_lz, gz_ls, gz_lc, gz_i2l, gz_l2i, gz_get, gz_ald, gz_len, gz_dup, gz_d2, gz_nar, gz_a0, gz_a1, gz_cs, gz_cv, gz_mk, gz_te, gz_j1, gz_j2, gz_jn, gz_jk, gz_jo, gz_ja, gz_sat, gz_seti, gz_seta, gz_set2, gz_inc, gz_put, gz_ast, gz_pop, gz_vs, gz_vv, gz_sup, gz_rv, gz_ri, gz_rl, gz_ra, gz_if, gz_seq, gz_sw, gz_st, gz_st2, rok_I, rok_J, rok_V, rok_Z0, rok_Z1, rok_Zi, rok_R, rok_N, bi_rok, bi_0, bi_1, fit_I, fit_J, fit_Z0, fit_Z1, fit_Zi, fit_R, fit_N, fit_aR, aty_I, aty_Z0, aty_Z1, aty_Zi, aty_J, gz_ix, List.getElem?_cons_zero, List.getElem?_cons_succ, List.getElem?_nil, List.reverse_cons, List.reverse_nil, List.nil_append, List.cons_append, List.take_succ_cons, List.take_zero, List.take_nil, List.length_cons, List.length_nil, decide_true, decide_false, decide_not, Bool.not_true, Bool.not_false, gz_nle, if_true, if_false, and_true, true_and, and_self, and_false, false_and, or_true, true_or, or_false, false_or, Bool.false_eq_true, not_true, not_false_iff, Decidable.not_not, Nat.reduceLeDiff, Nat.reduceAdd, Nat.reduceEqDiff, Nat.reduceSub, Nat.reduceLT, Nat.zero_add, reduceCtorEq, reduceIte, eq_self, i32_10, i32_01, Nat.zero_le, Nat.one_ne_zero, pk, l1]) n' 0 [.ref 0, .int (nI j), .int (nI cy), .ref (g 0 j), .ref (g 3 j), .int (nI 0)] hc1 (by omega) ⟨rfl, rfl, k1, fun _ => rfl, fun _ _ _ => rfl, fun t ht => by omega⟩
  subst s2
  rw [nI_0] at s1
  -- the reference writes them
  obtain ⟨e3, hr2, w1, w2, w3, w4, w5, w6, w7⟩ := gz_forI (L := 235) (k := 7) (X := 266) (a := lb_X8_fit_235) n' (fun s e h => e = [.ref 15, .int (nI j), .int (nI cy), .int (nI j), .int (nI n'), .double 0, .int (nI s)] ∧ md h ∧ fr7 hr1 h ∧ (∀ b i, b ≠ 24 → ¬ (b = 27 ∧ 4 * j ≤ i ∧ i < 4 * j + n') → gz_v h b i = gz_v hr1 b i) ∧ (∀ i, i ≠ j → gz_v h 24 i = gz_v hr1 24 i) ∧ gz_I h 24 j = nI cy ∧ ∀ t, t < s → gz_I h 27 (4 * j + t) = nI (gf a' b' c' d' t)) (fun e h => True ∧ md h ∧ fr7 hr1 h ∧ (∀ b i, b ≠ 24 → ¬ (b = 27 ∧ 4 * j ≤ i ∧ i < 4 * j + n') → gz_v h b i = gz_v hr1 b i) ∧ (∀ i, i ≠ j → gz_v h 24 i = gz_v hr1 24 i) ∧ gz_I h 24 j = nI cy ∧ ∀ t, t < n' → gz_I h 27 (4 * j + t) = nI (gf a' b' c' d' t)) (by decide) (by
    intro s e h hs ⟨ee, mm, ff, ho, h24, h24j, hr'⟩
    subst ee
    have l1 : nI s < nI n' := nI_lt hs (by omega)
    have l2 : ¬ nI s < 0 := nI_pos (by omega)
    have l3 : (nI s).toNatClampNeg = s := nI_clamp (by omega)
    have l4 : s < 4 := by omega
    have i1 : 4 * nI j + nI s = nI (4 * j + s) := by rw [show (4 : Int32) = nI 4 from rfl, pk_mul, nI_add]
    have i2 : ¬ nI (4 * j + s) < 0 := nI_pos (by omega)
    have i3 : (nI (4 * j + s)).toNatClampNeg = 4 * j + s := nI_clamp (by omega)
    have i4 : 4 * j + s < 64 := by omega
    have z36 : gz_I h 36 s = nI (gf a' b' c' d' s) := by rw [vI (ho 36 s (by omega) (by omega))]; exact g4 s hs
    refine ⟨[.ref 15, .int (nI j), .int (nI cy), .int (nI j), .int (nI n'), .double 0, .int (nI (s + 1))], gz_set h 27 (4 * j + s) (.int (nI (gf a' b' c' d' s))), ?_, rfl, md_setI mm _ _ _ (by omega), fr7_set ff (by omega), fun b i n1 n2 => ?_, fun i hi => ?_, ?_, fun t ht => ?_⟩
    · simp only [lb_X8_fit_235, gz_sem, gz_ae, Value.category, gz_i, gz_l, gz_nu, gz_li, gz_ll, gz_la, gz_ib, gz_iz, gz_lb, gz_lz, gz_ls, gz_lc, gz_i2l, gz_l2i, gz_get, gz_ald, gz_len, gz_dup, gz_d2, gz_nar, gz_a0, gz_a1, gz_cs, gz_cv, gz_mk, gz_te, gz_j1, gz_j2, gz_jn, gz_jk, gz_jo, gz_ja, gz_sat, gz_seti, gz_seta, gz_set2, gz_inc, gz_put, gz_ast, gz_pop, gz_vs, gz_vv, gz_sup, gz_rv, gz_ri, gz_rl, gz_ra, gz_if, gz_seq, gz_sw, gz_st, gz_st2, rok_I, rok_J, rok_V, rok_Z0, rok_Z1, rok_Zi, rok_R, rok_N, bi_rok, bi_0, bi_1, fit_I, fit_J, fit_Z0, fit_Z1, fit_Zi, fit_R, fit_N, fit_aR, aty_I, aty_Z0, aty_Z1, aty_Zi, aty_J, gz_ix, List.getElem?_cons_zero, List.getElem?_cons_succ, List.getElem?_nil, List.reverse_cons, List.reverse_nil, List.nil_append, List.cons_append, List.take_succ_cons, List.take_zero, List.take_nil, List.length_cons, List.length_nil, decide_true, decide_false, decide_not, Bool.not_true, Bool.not_false, gz_nle, if_true, if_false, and_true, true_and, and_self, and_false, false_and, or_true, true_or, or_false, false_or, Bool.false_eq_true, not_true, not_false_iff, Decidable.not_not, Nat.reduceLeDiff, Nat.reduceAdd, Nat.reduceEqDiff, Nat.reduceSub, Nat.reduceLT, Nat.zero_add, reduceCtorEq, reduceIte, eq_self, i32_10, i32_01, Nat.zero_le, Nat.one_ne_zero, mm, md_k, l1, l2, l3, l4, i1, i2, i3, i4, z36, nI_1]
    · rw [gz_v_set, if_neg (fun z => n2 ⟨z.1, by omega, by omega⟩)]; exact ho b i n1 n2
    · rw [gz_v_set, if_neg (by omega)]; exact h24 i hi
    · rw [I_seto _ _ _ _ _ _ (by omega)]; exact h24j
    · rw [I_set]
      by_cases z : t = s
      · rw [if_pos ⟨rfl, by omega⟩, z]
      · rw [if_neg (by omega)]; exact hr' t (by omega)) (by
    intro e h ⟨ee, mm, ff, ho, h24, h24j, hr'⟩
    subst ee
    have l1 : ¬ nI n' < nI n' := nI_nlt (Nat.le_refl _) (by omega)
    refine ⟨[.ref 15, .int (nI j), .int (nI cy), .int (nI j), .int (nI n'), .double 0, .int (nI n')], h, ?_, trivial, mm, ff, ho, h24, h24j, hr'⟩
    simp only [lb_X8_fit_235, gz_sem, gz_ae, Value.category, gz_i, gz_l, gz_nu, gz_li, gz_ll, gz_la, gz_ib, gz_iz, gz_lb, gz_lz, gz_ls, gz_lc, gz_i2l, gz_l2i, gz_get, gz_ald, gz_len, gz_dup, gz_d2, gz_nar, gz_a0, gz_a1, gz_cs, gz_cv, gz_mk, gz_te, gz_j1, gz_j2, gz_jn, gz_jk, gz_jo, gz_ja, gz_sat, gz_seti, gz_seta, gz_set2, gz_inc, gz_put, gz_ast, gz_pop, gz_vs, gz_vv, gz_sup, gz_rv, gz_ri, gz_rl, gz_ra, gz_if, gz_seq, gz_sw, gz_st, gz_st2, rok_I, rok_J, rok_V, rok_Z0, rok_Z1, rok_Zi, rok_R, rok_N, bi_rok, bi_0, bi_1, fit_I, fit_J, fit_Z0, fit_Z1, fit_Zi, fit_R, fit_N, fit_aR, aty_I, aty_Z0, aty_Z1, aty_Zi, aty_J, gz_ix, List.getElem?_cons_zero, List.getElem?_cons_succ, List.getElem?_nil, List.reverse_cons, List.reverse_nil, List.nil_append, List.cons_append, List.take_succ_cons, List.take_zero, List.take_nil, List.length_cons, List.length_nil, decide_true, decide_false, decide_not, Bool.not_true, Bool.not_false, gz_nle, if_true, if_false, and_true, true_and, and_self, and_false, false_and, or_true, true_or, or_false, false_or, Bool.false_eq_true, not_true, not_false_iff, Decidable.not_not, Nat.reduceLeDiff, Nat.reduceAdd, Nat.reduceEqDiff, Nat.reduceSub, Nat.reduceLT, Nat.zero_add, reduceCtorEq, reduceIte, eq_self, i32_10, i32_01, Nat.zero_le, Nat.one_ne_zero, l1]) n' 0 [.ref 15, .int (nI j), .int (nI cy), .int (nI j), .int (nI n'), .double 0, .int (nI 0)] (gz_set hr1 24 j (.int (nI cy))) (by omega) ⟨rfl, md_setI m1 _ _ _ (by omega), fr7_set (fr7_rf _) (by omega), fun b i n1 n2 => by rw [gz_v_set, if_neg (fun z => n1 z.1)], fun i hi => by rw [gz_v_set, if_neg (fun z => hi z.2)], by rw [I_set, if_pos ⟨rfl, rfl⟩], fun t ht => by omega⟩
  rw [nI_0] at w1
  have f16 := H.1.2.2.2.2.2.2.2.2.2.2.2.2.2.2.2
  have kq := k1.2.2.2.2.2.2.1
  have nq : g 3 j < hc1.1 := k1.1
  have smc : ∀ x, g 5 x ≠ 300 + j → sm hc1 (gz_set hc2 (g 3 j) 0 (.int (nI cy))) x := fun x hx => by
    refine sm_set ⟨funext (fun i => s6 x i (fun z => hx (by rw [z.1]; exact pcode 2 (by omega)))), s5 x⟩ (fun z => hx (by rw [z]; exact p0))
  have fr81 : fr8 hc (gz_set hc2 (g 3 j) 0 (.int (nI cy))) := by
    refine ⟨by show hc.1 ≤ hc2.1; rw [s3, f2.1]; exact Nat.le_refl _, fun x h1 h2 => ?_⟩
    have e1 := f2.2.2.1 x (by omega)
    have e2 := smc x (by rw [f16 x h1 h2]; omega)
    exact ⟨e2.1.trans e1.1, e2.2.trans e1.2⟩
  have fr71 : fr7 hr hr2 := ⟨w4.1.trans r3.2.1.1, fun x hx => ⟨(w4.2 x hx).1.trans (r3.2.1.2 x hx).1, (w4.2 x hx).2.trans (r3.2.1.2 x hx).2⟩⟩
  have roj : ∀ i, i < 8 → i ≠ j → ro hr1 hr2 i := fun i hi hij b y hb => by
    by_cases z : b = 24
    · subst z
      refine w6 y (fun yj => ?_)
      rw [yj] at hb
      simp [rj] at hb
      omega
    · refine w5 b y z (fun yy => ?_)
      obtain ⟨rfl, y1, y2⟩ := yy
      simp [rj] at hb
      omega
  have soj : ∀ s, s < 64 → so hr1 hr2 s := fun s hs b y hb => by
    have := rt_c (b := b) (i := y) (by omega)
    exact w5 b y (by omega) (by omega)
  have raj : ∀ dd, dd ≠ 8 * j + 2 → ra hr1 hr2 dd := fun dd hd b y hb => by
    by_cases z : b = 24
    · subst z
      refine w6 y (fun yj => ?_)
      rw [yj] at hb
      simp [rq] at hb
      omega
    · refine w5 b y z (fun yy => ?_)
      obtain ⟨rfl, y1, y2⟩ := yy
      simp [rq] at hb
      omega
  refine ⟨.int 1, gz_set hc2 (g 3 j) 0 (.int (nI cy)), hr2, g, T, ?_, ?_, fr81, fr71, ?_⟩
  · have n2' : g 3 j < hc2.1 := by rw [s3]; exact nq
    have k2' : gz_k hc2 (g 3 j) = (2, 9) := by rw [s5]; exact kq
    simp only [se_X7_fit, sm_X7_fit, gz_sem, gz_ae, Value.category, gz_i, gz_l, gz_nu, gz_li, gz_ll, gz_la, gz_ib, gz_iz, gz_lb, gz_lz, gz_ls, gz_lc, gz_i2l, gz_l2i, gz_get, gz_ald, gz_len, gz_dup, gz_d2, gz_nar, gz_a0, gz_a1, gz_cs, gz_cv, gz_mk, gz_te, gz_j1, gz_j2, gz_jn, gz_jk, gz_jo, gz_ja, gz_sat, gz_seti, gz_seta, gz_set2, gz_inc, gz_put, gz_ast, gz_pop, gz_vs, gz_vv, gz_sup, gz_rv, gz_ri, gz_rl, gz_ra, gz_if, gz_seq, gz_sw, gz_st, gz_st2, rok_I, rok_J, rok_V, rok_Z0, rok_Z1, rok_Zi, rok_R, rok_N, bi_rok, bi_0, bi_1, fit_I, fit_J, fit_Z0, fit_Z1, fit_Zi, fit_R, fit_N, fit_aR, aty_I, aty_Z0, aty_Z1, aty_Zi, aty_J, gz_ix, List.getElem?_cons_zero, List.getElem?_cons_succ, List.getElem?_nil, List.reverse_cons, List.reverse_nil, List.nil_append, List.cons_append, List.take_succ_cons, List.take_zero, List.take_nil, List.length_cons, List.length_nil, decide_true, decide_false, decide_not, Bool.not_true, Bool.not_false, gz_nle, if_true, if_false, and_true, true_and, and_self, and_false, false_and, or_true, true_or, or_false, false_or, Bool.false_eq_true, not_true, not_false_iff, Decidable.not_not, Nat.reduceLeDiff, Nat.reduceAdd, Nat.reduceEqDiff, Nat.reduceSub, Nat.reduceLT, Nat.zero_add, reduceCtorEq, reduceIte, eq_self, i32_10, i32_01, Nat.zero_le, Nat.one_ne_zero, c, j1, b, k, t1, o1, ab, sb, t3, f1, s1, n2', k2']
  · have mw := w0.1
    simp only [se_X8_fit, sm_X8_fit, se_X8_isBegun, sm_X8_isBegun, gz_sem, gz_ae, Value.category, gz_i, gz_l, gz_nu, gz_li, gz_ll, gz_la, gz_ib, gz_iz, gz_lb, gz_lz, gz_ls, gz_lc, gz_i2l, gz_l2i, gz_get, gz_ald, gz_len, gz_dup, gz_d2, gz_nar, gz_a0, gz_a1, gz_cs, gz_cv, gz_mk, gz_te, gz_j1, gz_j2, gz_jn, gz_jk, gz_jo, gz_ja, gz_sat, gz_seti, gz_seta, gz_set2, gz_inc, gz_put, gz_ast, gz_pop, gz_vs, gz_vv, gz_sup, gz_rv, gz_ri, gz_rl, gz_ra, gz_if, gz_seq, gz_sw, gz_st, gz_st2, rok_I, rok_J, rok_V, rok_Z0, rok_Z1, rok_Zi, rok_R, rok_N, bi_rok, bi_0, bi_1, fit_I, fit_J, fit_Z0, fit_Z1, fit_Zi, fit_R, fit_N, fit_aR, aty_I, aty_Z0, aty_Z1, aty_Zi, aty_J, gz_ix, List.getElem?_cons_zero, List.getElem?_cons_succ, List.getElem?_nil, List.reverse_cons, List.reverse_nil, List.nil_append, List.cons_append, List.take_succ_cons, List.take_zero, List.take_nil, List.length_cons, List.length_nil, decide_true, decide_false, decide_not, Bool.not_true, Bool.not_false, gz_nle, if_true, if_false, and_true, true_and, and_self, and_false, false_and, or_true, true_or, or_false, false_or, Bool.false_eq_true, not_true, not_false_iff, Decidable.not_not, Nat.reduceLeDiff, Nat.reduceAdd, Nat.reduceEqDiff, Nat.reduceSub, Nat.reduceLT, Nat.zero_add, reduceCtorEq, reduceIte, eq_self, i32_10, i32_01, Nat.zero_le, Nat.one_ne_zero, m, md_k, j2, d2, d3, d4, q1, v7, t2, o2, bt8, sb, t3, r1, r2, m1, w1]
  · have pcx := pc_f s4 0 (nI cy) (by omega)
    refine IV_bg H1 hj (by show hc1.1 ≤ hc2.1; rw [s3]; exact Nat.le_refl _) (fun x _ hx => smc x hx) w3 (fun i => w5 _ _ (by omega) (by omega)) (fun i => w5 _ _ (by omega) (by omega)) roj soj (raj _ (by omega)) (raj _ (by omega)) (raj _ (by omega)) (raj _ (by omega)) (Or.inr ⟨?_, ?_, po, n', cy, u1, cy20, cy90, pcx, ?_, w7.1, ?_, fun s hs => ?_⟩)
    · rw [vI (w5 23 j (by omega) (by omega))]; exact p1
    · have := smc (g 0 j) (by have := V1.1.2.2.2.1 0 (by omega); rw [Nat.add_zero] at this; omega)
      rw [this.1]; exact p2
    · rw [I_set, if_pos ⟨rfl, rfl⟩]
    · rw [vI (w5 25 j (by omega) (by omega))]; exact u7
    · obtain ⟨x1, x2, x3, x4, x5, x6⟩ := u8 s hs
      have e26 : ∀ i, gz_I hr2 26 i = gz_I hr1 26 i := fun i => vI (w5 26 i (by omega) (by omega))
      have i1 : ∀ f i, 1 ≤ f → f ≠ 2 → gz_I (gz_set hc2 (g 3 j) 0 (.int (nI cy))) (g 3 j + f) i = gz_I hc1 (g 3 j + f) i := fun f i h1 h2 => by
        rw [I_seto _ _ _ _ _ _ (by omega), vI (s6 _ _ (by omega))]
      have i2 : gz_I (gz_set hc2 (g 3 j) 0 (.int (nI cy))) (g 3 j + 2) s = nI (gf a' b' c' d' s) := by
        rw [I_seto _ _ _ _ _ _ (by omega)]; exact s7 s hs
      rw [i1 1 s (by omega) (by omega), i1 3 s (by omega) (by omega), i2, e26, w7.2 s hs]
      refine ⟨x1, x2, x3, rfl, ⟨_, gfb s hs, rfl⟩, ?_⟩
      rw [x6]
      unfold bw
      rw [e26, e26]
      have ap : ∀ i k, md_ap hr2 (j % 8) i k = md_ap hr1 (j % 8) i k := fun i k => by
        unfold md_ap
        rw [vI (w5 22 _ (by omega) (by omega)), vI (w5 22 _ (by omega) (by omega)), vI (w5 21 _ (by omega) (by omega))]
      unfold md_bw
      simp only [ap]
