theorem nx_mod {n s : Nat} (h : s < n) : gz_nx n s = (s + 1) % n := by
  unfold gz_nx
  by_cases q : s + 1 < n
  · rw [if_pos q, Nat.mod_eq_of_lt q]
  · rw [if_neg q, show s + 1 = n by omega, Nat.mod_self]
theorem jc_bw_c {h h' : gz_H} {a S : Nat} (e2 : ∀ i, gz_I h' (a + 2) i = gz_I h (a + 2) i) (e4 : ∀ i, gz_I h' (a + 4) i = gz_I h (a + 4) i) (x y : Int32) : jc_bw h' a S x y = jc_bw h a S x y := by
  have f2 : gz_I h' (a + 2) = gz_I h (a + 2) := funext e2
  have f4 : gz_I h' (a + 4) = gz_I h (a + 4) := funext e4
  unfold jc_bw jc_af
  rw [f2, f4]
set_option maxHeartbeats 4000000 in
theorem st_X1_measureBetweens (h : gz_H) (a S q n : Nat) (c : jc h a S) (h8 : S ≤ 8) (k : pc h q n) (hn : n ≤ 4) (d : ∀ u, u ≤ 5 → q + 3 ≠ a + u) : se_X1_measureBetweens [.ref a, .ref q] h = some (none, gz_wr h (q + 3) 0 n (fun s => jc_bw h a S (gz_I h (q + 1) s &&& (gz_I h (q + 1) (gz_nx n s) ^^^ -1)) (gz_I h (q + 1) (gz_nx n s) &&& (gz_I h (q + 1) s ^^^ -1)))) := by
  generalize hf : (fun s => jc_bw h a S (gz_I h (q + 1) s &&& (gz_I h (q + 1) (gz_nx n s) ^^^ -1)) (gz_I h (q + 1) (gz_nx n s) &&& (gz_I h (q + 1) s ^^^ -1))) = f
  have d0 := d 0 (by omega)
  have l := gz_forF (L := 2) (k := 3) (X := 57) (a := lb_X1_measureBetweens_2) n (fun s => [.ref a, .ref q, .int (nI s)]) (fun s => [.ref a, .ref q, .int (nI (s + 1)), .int (gz_I h (q + 1) s), .int (gz_I h (q + 1) (gz_nx n s))]) (fun s => gz_wr h (q + 3) 0 s f) (env' := [.ref a, .ref q, .int (nI n)]) (h' := gz_wr h (q + 3) 0 n f) (by decide) (fun s => rfl) (fun s hs => by
    have k1 : nI s < nI n := nI_lt hs (by omega)
    have d2 : ¬ nI s < 0 := nI_pos (by omega)
    have d3 : (nI s).toNatClampNeg = s := nI_clamp (by omega)
    have d4 : s < 4 := by omega
    have hx := nx_lt hs
    have x2 : ¬ nI (gz_nx n s) < 0 := nI_pos (by omega)
    have x3 : (nI (gz_nx n s)).toNatClampNeg = gz_nx n s := nI_clamp (by omega)
    have x4 : gz_nx n s < 4 := by omega
    have cw := jc_wr c (q + 3) 0 s f (by omega)
    have kw := pc_wr k (q + 3) 0 s f (by omega)
    have bh := st_X2_behind q (nI s) (nI n) (gz_wr h (q + 3) 0 s f) kw.1 kw.2.2.2.2.2.2.1 kw.2.2.2.2.2.2.2.2.2.2.2.2.2.2.1
    rw [nx_nI hs hn] at bh
    have i1 : ∀ u, gz_I (gz_wr h (q + 3) 0 s f) (q + 1) u = gz_I h (q + 1) u := fun u => wr_Io (by omega)
    have bw := st_X1_between (gz_wr h (q + 3) 0 s f) a S cw h8 (gz_I h (q + 1) s &&& (gz_I h (q + 1) (gz_nx n s) ^^^ -1)) (gz_I h (q + 1) (gz_nx n s) &&& (gz_I h (q + 1) s ^^^ -1))
    rw [jc_bw_c (fun i => wr_Io (Ne.symm (d 2 (by omega)))) (fun i => wr_Io (Ne.symm (d 4 (by omega))))] at bw
    have ef : jc_bw h a S (gz_I h (q + 1) s &&& (gz_I h (q + 1) (gz_nx n s) ^^^ -1)) (gz_I h (q + 1) (gz_nx n s) &&& (gz_I h (q + 1) s ^^^ -1)) = f s := by rw [← hf]
    rw [ef] at bw
    have ws := wr_s (h := h) (a := q + 3) (lo := 0) (hi := s) (f := f) (by omega)
    simp only [lb_X1_measureBetweens_2, gz_sem, gz_ae, Value.category, gz_i, gz_l, gz_nu, gz_li, gz_ll, gz_la, gz_ib, gz_iz, gz_lb, gz_lz, gz_ls, gz_lc, gz_i2l, gz_l2i, gz_get, gz_ald, gz_len, gz_dup, gz_d2, gz_nar, gz_a0, gz_a1, gz_cs, gz_cv, gz_mk, gz_te, gz_j1, gz_j2, gz_jn, gz_jk, gz_jo, gz_ja, gz_sat, gz_seti, gz_seta, gz_set2, gz_inc, gz_put, gz_ast, gz_pop, gz_vs, gz_vv, gz_sup, gz_rv, gz_ri, gz_rl, gz_ra, gz_if, gz_seq, gz_sw, gz_st, gz_st2, rok_I, rok_J, rok_V, rok_Z0, rok_Z1, rok_Zi, rok_R, rok_N, bi_rok, bi_0, bi_1, fit_I, fit_J, fit_Z0, fit_Z1, fit_Zi, fit_R, fit_N, fit_aR, aty_I, aty_Z0, aty_Z1, aty_Zi, aty_J, gz_ix, List.getElem?_cons_zero, List.getElem?_cons_succ, List.getElem?_nil, List.reverse_cons, List.reverse_nil, List.nil_append, List.cons_append, List.take_succ_cons, List.take_zero, List.take_nil, List.length_cons, List.length_nil, decide_true, decide_false, decide_not, Bool.not_true, Bool.not_false, gz_nle, if_true, if_false, and_true, true_and, and_self, and_false, false_and, or_true, true_or, or_false, false_or, Bool.false_eq_true, not_true, not_false_iff, Decidable.not_not, Nat.reduceLeDiff, Nat.reduceAdd, Nat.reduceEqDiff, Nat.reduceSub, Nat.reduceLT, Nat.zero_add, reduceCtorEq, reduceIte, eq_self, i32_10, i32_01, Nat.zero_le, Nat.one_ne_zero, cw, kw, k1, d2, d3, d4, x2, x3, x4, bh, i1, bw, ws, nI_1]) (by
    have kw := pc_wr k (q + 3) 0 n f (by omega)
    have k1 : ¬ nI n < nI n := nI_nlt (Nat.le_refl _) (by omega)
    simp only [lb_X1_measureBetweens_2, gz_sem, gz_ae, Value.category, gz_i, gz_l, gz_nu, gz_li, gz_ll, gz_la, gz_ib, gz_iz, gz_lb, gz_lz, gz_ls, gz_lc, gz_i2l, gz_l2i, gz_get, gz_ald, gz_len, gz_dup, gz_d2, gz_nar, gz_a0, gz_a1, gz_cs, gz_cv, gz_mk, gz_te, gz_j1, gz_j2, gz_jn, gz_jk, gz_jo, gz_ja, gz_sat, gz_seti, gz_seta, gz_set2, gz_inc, gz_put, gz_ast, gz_pop, gz_vs, gz_vv, gz_sup, gz_rv, gz_ri, gz_rl, gz_ra, gz_if, gz_seq, gz_sw, gz_st, gz_st2, rok_I, rok_J, rok_V, rok_Z0, rok_Z1, rok_Zi, rok_R, rok_N, bi_rok, bi_0, bi_1, fit_I, fit_J, fit_Z0, fit_Z1, fit_Zi, fit_R, fit_N, fit_aR, aty_I, aty_Z0, aty_Z1, aty_Zi, aty_J, gz_ix, List.getElem?_cons_zero, List.getElem?_cons_succ, List.getElem?_nil, List.reverse_cons, List.reverse_nil, List.nil_append, List.cons_append, List.take_succ_cons, List.take_zero, List.take_nil, List.length_cons, List.length_nil, decide_true, decide_false, decide_not, Bool.not_true, Bool.not_false, gz_nle, if_true, if_false, and_true, true_and, and_self, and_false, false_and, or_true, true_or, or_false, false_or, Bool.false_eq_true, not_true, not_false_iff, Decidable.not_not, Nat.reduceLeDiff, Nat.reduceAdd, Nat.reduceEqDiff, Nat.reduceSub, Nat.reduceLT, Nat.zero_add, reduceCtorEq, reduceIte, eq_self, i32_10, i32_01, Nat.zero_le, Nat.one_ne_zero, kw, k1]) n 0 (by omega)
  rw [wr_0, nI_0] at l
  simp only [se_X1_measureBetweens, sm_X1_measureBetweens, gz_sem, gz_ae, Value.category, gz_i, gz_l, gz_nu, gz_li, gz_ll, gz_la, gz_ib, gz_iz, gz_lb, gz_lz, gz_ls, gz_lc, gz_i2l, gz_l2i, gz_get, gz_ald, gz_len, gz_dup, gz_d2, gz_nar, gz_a0, gz_a1, gz_cs, gz_cv, gz_mk, gz_te, gz_j1, gz_j2, gz_jn, gz_jk, gz_jo, gz_ja, gz_sat, gz_seti, gz_seta, gz_set2, gz_inc, gz_put, gz_ast, gz_pop, gz_vs, gz_vv, gz_sup, gz_rv, gz_ri, gz_rl, gz_ra, gz_if, gz_seq, gz_sw, gz_st, gz_st2, rok_I, rok_J, rok_V, rok_Z0, rok_Z1, rok_Zi, rok_R, rok_N, bi_rok, bi_0, bi_1, fit_I, fit_J, fit_Z0, fit_Z1, fit_Zi, fit_R, fit_N, fit_aR, aty_I, aty_Z0, aty_Z1, aty_Zi, aty_J, gz_ix, List.getElem?_cons_zero, List.getElem?_cons_succ, List.getElem?_nil, List.reverse_cons, List.reverse_nil, List.nil_append, List.cons_append, List.take_succ_cons, List.take_zero, List.take_nil, List.length_cons, List.length_nil, decide_true, decide_false, decide_not, Bool.not_true, Bool.not_false, gz_nle, if_true, if_false, and_true, true_and, and_self, and_false, false_and, or_true, true_or, or_false, false_or, Bool.false_eq_true, not_true, not_false_iff, Decidable.not_not, Nat.reduceLeDiff, Nat.reduceAdd, Nat.reduceEqDiff, Nat.reduceSub, Nat.reduceLT, Nat.zero_add, reduceCtorEq, reduceIte, eq_self, i32_10, i32_01, Nat.zero_le, Nat.one_ne_zero, l]
theorem gap_ap {hc hr : gz_H} {a j : Nat} (H : J2 hc hr a j) : ∀ i k, i < 8 → k < 8 → 0 < md_ap hr j i k → gz_I hc (a + 2) (8 * i + k) = md_ap hr j i k := by
  intro i k hi hk h
  unfold md_ap at *
  by_cases z : gz_I hr 22 (64 * j + 8 * i + k) = 0 ∧ gz_I hr 22 (64 * j + 8 * k + i) = 0
  · rw [if_pos z]; exact H.1 i k hi hk
  · rw [if_neg z] at h; exact (lt_irr _ h).elim
set_option maxHeartbeats 8000000 in
theorem pb_stage (x y z : Int32) : PB se_X7_stage se_X8_stage [.int x, .int y, .int z] := by
  intro g T hc hr H
  have c := IV_cs H
  have m := IV_md H
  have h8 := IV_8 H
  rcases ja_cs h8 x with hx | ⟨j, hj, rfl⟩
  · obtain ⟨j1, j2⟩ := ja_no H hx
    have b := bg_no H hx
    refine ⟨.int (-1), hc, hr, g, T, ?_, ?_, fr8_rf _, fr7_rf _, H⟩
    · simp only [se_X7_stage, sm_X7_stage, gz_sem, gz_ae, Value.category, gz_i, gz_l, gz_nu, gz_li, gz_ll, gz_la, gz_ib, gz_iz, gz_lb, gz_lz, gz_ls, gz_lc, gz_i2l, gz_l2i, gz_get, gz_ald, gz_len, gz_dup, gz_d2, gz_nar, gz_a0, gz_a1, gz_cs, gz_cv, gz_mk, gz_te, gz_j1, gz_j2, gz_jn, gz_jk, gz_jo, gz_ja, gz_sat, gz_seti, gz_seta, gz_set2, gz_inc, gz_put, gz_ast, gz_pop, gz_vs, gz_vv, gz_sup, gz_rv, gz_ri, gz_rl, gz_ra, gz_if, gz_seq, gz_sw, gz_st, gz_st2, rok_I, rok_J, rok_V, rok_Z0, rok_Z1, rok_Zi, rok_R, rok_N, bi_rok, bi_0, bi_1, fit_I, fit_J, fit_Z0, fit_Z1, fit_Zi, fit_R, fit_N, fit_aR, aty_I, aty_Z0, aty_Z1, aty_Zi, aty_J, gz_ix, List.getElem?_cons_zero, List.getElem?_cons_succ, List.getElem?_nil, List.reverse_cons, List.reverse_nil, List.nil_append, List.cons_append, List.take_succ_cons, List.take_zero, List.take_nil, List.length_cons, List.length_nil, decide_true, decide_false, decide_not, Bool.not_true, Bool.not_false, gz_nle, if_true, if_false, and_true, true_and, and_self, and_false, false_and, or_true, true_or, or_false, false_or, Bool.false_eq_true, not_true, not_false_iff, Decidable.not_not, Nat.reduceLeDiff, Nat.reduceAdd, Nat.reduceEqDiff, Nat.reduceSub, Nat.reduceLT, Nat.zero_add, reduceCtorEq, reduceIte, eq_self, i32_10, i32_01, Nat.zero_le, Nat.one_ne_zero, c, j1, b]
    · simp only [se_X8_stage, sm_X8_stage, gz_sem, gz_ae, Value.category, gz_i, gz_l, gz_nu, gz_li, gz_ll, gz_la, gz_ib, gz_iz, gz_lb, gz_lz, gz_ls, gz_lc, gz_i2l, gz_l2i, gz_get, gz_ald, gz_len, gz_dup, gz_d2, gz_nar, gz_a0, gz_a1, gz_cs, gz_cv, gz_mk, gz_te, gz_j1, gz_j2, gz_jn, gz_jk, gz_jo, gz_ja, gz_sat, gz_seti, gz_seta, gz_set2, gz_inc, gz_put, gz_ast, gz_pop, gz_vs, gz_vv, gz_sup, gz_rv, gz_ri, gz_rl, gz_ra, gz_if, gz_seq, gz_sw, gz_st, gz_st2, rok_I, rok_J, rok_V, rok_Z0, rok_Z1, rok_Zi, rok_R, rok_N, bi_rok, bi_0, bi_1, fit_I, fit_J, fit_Z0, fit_Z1, fit_Zi, fit_R, fit_N, fit_aR, aty_I, aty_Z0, aty_Z1, aty_Zi, aty_J, gz_ix, List.getElem?_cons_zero, List.getElem?_cons_succ, List.getElem?_nil, List.reverse_cons, List.reverse_nil, List.nil_append, List.cons_append, List.take_succ_cons, List.take_zero, List.take_nil, List.length_cons, List.length_nil, decide_true, decide_false, decide_not, Bool.not_true, Bool.not_false, gz_nle, if_true, if_false, and_true, true_and, and_self, and_false, false_and, or_true, true_or, or_false, false_or, Bool.false_eq_true, not_true, not_false_iff, Decidable.not_not, Nat.reduceLeDiff, Nat.reduceAdd, Nat.reduceEqDiff, Nat.reduceSub, Nat.reduceLT, Nat.zero_add, reduceCtorEq, reduceIte, eq_self, i32_10, i32_01, Nat.zero_le, Nat.one_ne_zero, m, md_k, j2]
  obtain ⟨j1, j2⟩ := ja_yes H hj
  have jk := IV_jc H hj
  have hS := IV_S H j
  have d2 : ¬ nI j < 0 := nI_pos (by omega)
  have d3 : (nI j).toNatClampNeg = j := nI_clamp (by omega)
  have d4 : j < 16 := by omega
  rcases bg_cs H hj with ⟨q1, q2, b⟩ | ⟨q1, q2, b, po, n, cy, pv⟩
  · refine ⟨.int (-1), hc, hr, g, T, ?_, ?_, fr8_rf _, fr7_rf _, H⟩
    · simp only [se_X7_stage, sm_X7_stage, gz_sem, gz_ae, Value.category, gz_i, gz_l, gz_nu, gz_li, gz_ll, gz_la, gz_ib, gz_iz, gz_lb, gz_lz, gz_ls, gz_lc, gz_i2l, gz_l2i, gz_get, gz_ald, gz_len, gz_dup, gz_d2, gz_nar, gz_a0, gz_a1, gz_cs, gz_cv, gz_mk, gz_te, gz_j1, gz_j2, gz_jn, gz_jk, gz_jo, gz_ja, gz_sat, gz_seti, gz_seta, gz_set2, gz_inc, gz_put, gz_ast, gz_pop, gz_vs, gz_vv, gz_sup, gz_rv, gz_ri, gz_rl, gz_ra, gz_if, gz_seq, gz_sw, gz_st, gz_st2, rok_I, rok_J, rok_V, rok_Z0, rok_Z1, rok_Zi, rok_R, rok_N, bi_rok, bi_0, bi_1, fit_I, fit_J, fit_Z0, fit_Z1, fit_Zi, fit_R, fit_N, fit_aR, aty_I, aty_Z0, aty_Z1, aty_Zi, aty_J, gz_ix, List.getElem?_cons_zero, List.getElem?_cons_succ, List.getElem?_nil, List.reverse_cons, List.reverse_nil, List.nil_append, List.cons_append, List.take_succ_cons, List.take_zero, List.take_nil, List.length_cons, List.length_nil, decide_true, decide_false, decide_not, Bool.not_true, Bool.not_false, gz_nle, if_true, if_false, and_true, true_and, and_self, and_false, false_and, or_true, true_or, or_false, false_or, Bool.false_eq_true, not_true, not_false_iff, Decidable.not_not, Nat.reduceLeDiff, Nat.reduceAdd, Nat.reduceEqDiff, Nat.reduceSub, Nat.reduceLT, Nat.zero_add, reduceCtorEq, reduceIte, eq_self, i32_10, i32_01, Nat.zero_le, Nat.one_ne_zero, c, j1, b]
    · simp only [se_X8_stage, sm_X8_stage, gz_sem, gz_ae, Value.category, gz_i, gz_l, gz_nu, gz_li, gz_ll, gz_la, gz_ib, gz_iz, gz_lb, gz_lz, gz_ls, gz_lc, gz_i2l, gz_l2i, gz_get, gz_ald, gz_len, gz_dup, gz_d2, gz_nar, gz_a0, gz_a1, gz_cs, gz_cv, gz_mk, gz_te, gz_j1, gz_j2, gz_jn, gz_jk, gz_jo, gz_ja, gz_sat, gz_seti, gz_seta, gz_set2, gz_inc, gz_put, gz_ast, gz_pop, gz_vs, gz_vv, gz_sup, gz_rv, gz_ri, gz_rl, gz_ra, gz_if, gz_seq, gz_sw, gz_st, gz_st2, rok_I, rok_J, rok_V, rok_Z0, rok_Z1, rok_Zi, rok_R, rok_N, bi_rok, bi_0, bi_1, fit_I, fit_J, fit_Z0, fit_Z1, fit_Zi, fit_R, fit_N, fit_aR, aty_I, aty_Z0, aty_Z1, aty_Zi, aty_J, gz_ix, List.getElem?_cons_zero, List.getElem?_cons_succ, List.getElem?_nil, List.reverse_cons, List.reverse_nil, List.nil_append, List.cons_append, List.take_succ_cons, List.take_zero, List.take_nil, List.length_cons, List.length_nil, decide_true, decide_false, decide_not, Bool.not_true, Bool.not_false, gz_nle, if_true, if_false, and_true, true_and, and_self, and_false, false_and, or_true, true_or, or_false, false_or, Bool.false_eq_true, not_true, not_false_iff, Decidable.not_not, Nat.reduceLeDiff, Nat.reduceAdd, Nat.reduceEqDiff, Nat.reduceSub, Nat.reduceLT, Nat.zero_add, reduceCtorEq, reduceIte, eq_self, i32_10, i32_01, Nat.zero_le, Nat.one_ne_zero, m, md_k, j2, d2, d3, d4, q1]
  obtain ⟨v1, v2, v3, k, v5, v6, v7, v8⟩ := pv
  have e4 : nI 4 = (4 : Int32) := rfl
  have e90 : nI 90 = (90 : Int32) := rfl
  have V := H.2.2.1 j hj
  have es := eq_set (S := g 6 j) V.2.1.2.2.2.2.2 hS y
  have s1 := st_X1_isSet hc (g 0 j) (g 6 j) jk hS y
  have s2 := st_X8_isSet hr m j (g 6 j) (by omega) (IV_16 H (by omega)) hS y
  rw [bi_c es] at s1
  by_cases y0 : y = 0
  · subst y0
    refine ⟨.int (-1), hc, hr, g, T, ?_, ?_, fr8_rf _, fr7_rf _, H⟩
    · by_cases n4 : nI n < 4 <;> simp only [se_X7_stage, sm_X7_stage, gz_sem, gz_ae, Value.category, gz_i, gz_l, gz_nu, gz_li, gz_ll, gz_la, gz_ib, gz_iz, gz_lb, gz_lz, gz_ls, gz_lc, gz_i2l, gz_l2i, gz_get, gz_ald, gz_len, gz_dup, gz_d2, gz_nar, gz_a0, gz_a1, gz_cs, gz_cv, gz_mk, gz_te, gz_j1, gz_j2, gz_jn, gz_jk, gz_jo, gz_ja, gz_sat, gz_seti, gz_seta, gz_set2, gz_inc, gz_put, gz_ast, gz_pop, gz_vs, gz_vv, gz_sup, gz_rv, gz_ri, gz_rl, gz_ra, gz_if, gz_seq, gz_sw, gz_st, gz_st2, rok_I, rok_J, rok_V, rok_Z0, rok_Z1, rok_Zi, rok_R, rok_N, bi_rok, bi_0, bi_1, fit_I, fit_J, fit_Z0, fit_Z1, fit_Zi, fit_R, fit_N, fit_aR, aty_I, aty_Z0, aty_Z1, aty_Zi, aty_J, gz_ix, List.getElem?_cons_zero, List.getElem?_cons_succ, List.getElem?_nil, List.reverse_cons, List.reverse_nil, List.nil_append, List.cons_append, List.take_succ_cons, List.take_zero, List.take_nil, List.length_cons, List.length_nil, decide_true, decide_false, decide_not, Bool.not_true, Bool.not_false, gz_nle, if_true, if_false, and_true, true_and, and_self, and_false, false_and, or_true, true_or, or_false, false_or, Bool.false_eq_true, not_true, not_false_iff, Decidable.not_not, Nat.reduceLeDiff, Nat.reduceAdd, Nat.reduceEqDiff, Nat.reduceSub, Nat.reduceLT, Nat.zero_add, reduceCtorEq, reduceIte, eq_self, i32_10, i32_01, Nat.zero_le, Nat.one_ne_zero, c, j1, b, k, n4]
    · simp only [se_X8_stage, sm_X8_stage, gz_sem, gz_ae, Value.category, gz_i, gz_l, gz_nu, gz_li, gz_ll, gz_la, gz_ib, gz_iz, gz_lb, gz_lz, gz_ls, gz_lc, gz_i2l, gz_l2i, gz_get, gz_ald, gz_len, gz_dup, gz_d2, gz_nar, gz_a0, gz_a1, gz_cs, gz_cv, gz_mk, gz_te, gz_j1, gz_j2, gz_jn, gz_jk, gz_jo, gz_ja, gz_sat, gz_seti, gz_seta, gz_set2, gz_inc, gz_put, gz_ast, gz_pop, gz_vs, gz_vv, gz_sup, gz_rv, gz_ri, gz_rl, gz_ra, gz_if, gz_seq, gz_sw, gz_st, gz_st2, rok_I, rok_J, rok_V, rok_Z0, rok_Z1, rok_Zi, rok_R, rok_N, bi_rok, bi_0, bi_1, fit_I, fit_J, fit_Z0, fit_Z1, fit_Zi, fit_R, fit_N, fit_aR, aty_I, aty_Z0, aty_Z1, aty_Zi, aty_J, gz_ix, List.getElem?_cons_zero, List.getElem?_cons_succ, List.getElem?_nil, List.reverse_cons, List.reverse_nil, List.nil_append, List.cons_append, List.take_succ_cons, List.take_zero, List.take_nil, List.length_cons, List.length_nil, decide_true, decide_false, decide_not, Bool.not_true, Bool.not_false, gz_nle, if_true, if_false, and_true, true_and, and_self, and_false, false_and, or_true, true_or, or_false, false_or, Bool.false_eq_true, not_true, not_false_iff, Decidable.not_not, Nat.reduceLeDiff, Nat.reduceAdd, Nat.reduceEqDiff, Nat.reduceSub, Nat.reduceLT, Nat.zero_add, reduceCtorEq, reduceIte, eq_self, i32_10, i32_01, Nat.zero_le, Nat.one_ne_zero, m, md_k, j2, d2, d3, d4, q1]
  by_cases ys : md_set hr j (g 6 j) y
  case neg =>
    rw [bi_f ys] at s1 s2
    refine ⟨.int (-1), hc, hr, g, T, ?_, ?_, fr8_rf _, fr7_rf _, H⟩
    · by_cases n4 : nI n < 4 <;> simp only [se_X7_stage, sm_X7_stage, gz_sem, gz_ae, Value.category, gz_i, gz_l, gz_nu, gz_li, gz_ll, gz_la, gz_ib, gz_iz, gz_lb, gz_lz, gz_ls, gz_lc, gz_i2l, gz_l2i, gz_get, gz_ald, gz_len, gz_dup, gz_d2, gz_nar, gz_a0, gz_a1, gz_cs, gz_cv, gz_mk, gz_te, gz_j1, gz_j2, gz_jn, gz_jk, gz_jo, gz_ja, gz_sat, gz_seti, gz_seta, gz_set2, gz_inc, gz_put, gz_ast, gz_pop, gz_vs, gz_vv, gz_sup, gz_rv, gz_ri, gz_rl, gz_ra, gz_if, gz_seq, gz_sw, gz_st, gz_st2, rok_I, rok_J, rok_V, rok_Z0, rok_Z1, rok_Zi, rok_R, rok_N, bi_rok, bi_0, bi_1, fit_I, fit_J, fit_Z0, fit_Z1, fit_Zi, fit_R, fit_N, fit_aR, aty_I, aty_Z0, aty_Z1, aty_Zi, aty_J, gz_ix, List.getElem?_cons_zero, List.getElem?_cons_succ, List.getElem?_nil, List.reverse_cons, List.reverse_nil, List.nil_append, List.cons_append, List.take_succ_cons, List.take_zero, List.take_nil, List.length_cons, List.length_nil, decide_true, decide_false, decide_not, Bool.not_true, Bool.not_false, gz_nle, if_true, if_false, and_true, true_and, and_self, and_false, false_and, or_true, true_or, or_false, false_or, Bool.false_eq_true, not_true, not_false_iff, Decidable.not_not, Nat.reduceLeDiff, Nat.reduceAdd, Nat.reduceEqDiff, Nat.reduceSub, Nat.reduceLT, Nat.zero_add, reduceCtorEq, reduceIte, eq_self, i32_10, i32_01, Nat.zero_le, Nat.one_ne_zero, c, j1, b, k, jk, n4, y0, s1]
    · simp only [se_X8_stage, sm_X8_stage, gz_sem, gz_ae, Value.category, gz_i, gz_l, gz_nu, gz_li, gz_ll, gz_la, gz_ib, gz_iz, gz_lb, gz_lz, gz_ls, gz_lc, gz_i2l, gz_l2i, gz_get, gz_ald, gz_len, gz_dup, gz_d2, gz_nar, gz_a0, gz_a1, gz_cs, gz_cv, gz_mk, gz_te, gz_j1, gz_j2, gz_jn, gz_jk, gz_jo, gz_ja, gz_sat, gz_seti, gz_seta, gz_set2, gz_inc, gz_put, gz_ast, gz_pop, gz_vs, gz_vv, gz_sup, gz_rv, gz_ri, gz_rl, gz_ra, gz_if, gz_seq, gz_sw, gz_st, gz_st2, rok_I, rok_J, rok_V, rok_Z0, rok_Z1, rok_Zi, rok_R, rok_N, bi_rok, bi_0, bi_1, fit_I, fit_J, fit_Z0, fit_Z1, fit_Zi, fit_R, fit_N, fit_aR, aty_I, aty_Z0, aty_Z1, aty_Zi, aty_J, gz_ix, List.getElem?_cons_zero, List.getElem?_cons_succ, List.getElem?_nil, List.reverse_cons, List.reverse_nil, List.nil_append, List.cons_append, List.take_succ_cons, List.take_zero, List.take_nil, List.length_cons, List.length_nil, decide_true, decide_false, decide_not, Bool.not_true, Bool.not_false, gz_nle, if_true, if_false, and_true, true_and, and_self, and_false, false_and, or_true, true_or, or_false, false_or, Bool.false_eq_true, not_true, not_false_iff, Decidable.not_not, Nat.reduceLeDiff, Nat.reduceAdd, Nat.reduceEqDiff, Nat.reduceSub, Nat.reduceLT, Nat.zero_add, reduceCtorEq, reduceIte, eq_self, i32_10, i32_01, Nat.zero_le, Nat.one_ne_zero, m, md_k, j2, d2, d3, d4, q1, y0, s2]
  rw [bi_t ys] at s1 s2
  rcases in_cs 0 90 (by decide) (by decide) z with o | ⟨u, u0, u1, rfl⟩
  · obtain ⟨o1, o2⟩ := io_no o hc hr
    rw [nI_0, e90] at o1 o2
    refine ⟨.int (-1), hc, hr, g, T, ?_, ?_, fr8_rf _, fr7_rf _, H⟩
    · by_cases n4 : nI n < 4 <;> simp only [se_X7_stage, sm_X7_stage, gz_sem, gz_ae, Value.category, gz_i, gz_l, gz_nu, gz_li, gz_ll, gz_la, gz_ib, gz_iz, gz_lb, gz_lz, gz_ls, gz_lc, gz_i2l, gz_l2i, gz_get, gz_ald, gz_len, gz_dup, gz_d2, gz_nar, gz_a0, gz_a1, gz_cs, gz_cv, gz_mk, gz_te, gz_j1, gz_j2, gz_jn, gz_jk, gz_jo, gz_ja, gz_sat, gz_seti, gz_seta, gz_set2, gz_inc, gz_put, gz_ast, gz_pop, gz_vs, gz_vv, gz_sup, gz_rv, gz_ri, gz_rl, gz_ra, gz_if, gz_seq, gz_sw, gz_st, gz_st2, rok_I, rok_J, rok_V, rok_Z0, rok_Z1, rok_Zi, rok_R, rok_N, bi_rok, bi_0, bi_1, fit_I, fit_J, fit_Z0, fit_Z1, fit_Zi, fit_R, fit_N, fit_aR, aty_I, aty_Z0, aty_Z1, aty_Zi, aty_J, gz_ix, List.getElem?_cons_zero, List.getElem?_cons_succ, List.getElem?_nil, List.reverse_cons, List.reverse_nil, List.nil_append, List.cons_append, List.take_succ_cons, List.take_zero, List.take_nil, List.length_cons, List.length_nil, decide_true, decide_false, decide_not, Bool.not_true, Bool.not_false, gz_nle, if_true, if_false, and_true, true_and, and_self, and_false, false_and, or_true, true_or, or_false, false_or, Bool.false_eq_true, not_true, not_false_iff, Decidable.not_not, Nat.reduceLeDiff, Nat.reduceAdd, Nat.reduceEqDiff, Nat.reduceSub, Nat.reduceLT, Nat.zero_add, reduceCtorEq, reduceIte, eq_self, i32_10, i32_01, Nat.zero_le, Nat.one_ne_zero, c, j1, b, k, jk, n4, y0, s1, o1]
    · simp only [se_X8_stage, sm_X8_stage, gz_sem, gz_ae, Value.category, gz_i, gz_l, gz_nu, gz_li, gz_ll, gz_la, gz_ib, gz_iz, gz_lb, gz_lz, gz_ls, gz_lc, gz_i2l, gz_l2i, gz_get, gz_ald, gz_len, gz_dup, gz_d2, gz_nar, gz_a0, gz_a1, gz_cs, gz_cv, gz_mk, gz_te, gz_j1, gz_j2, gz_jn, gz_jk, gz_jo, gz_ja, gz_sat, gz_seti, gz_seta, gz_set2, gz_inc, gz_put, gz_ast, gz_pop, gz_vs, gz_vv, gz_sup, gz_rv, gz_ri, gz_rl, gz_ra, gz_if, gz_seq, gz_sw, gz_st, gz_st2, rok_I, rok_J, rok_V, rok_Z0, rok_Z1, rok_Zi, rok_R, rok_N, bi_rok, bi_0, bi_1, fit_I, fit_J, fit_Z0, fit_Z1, fit_Zi, fit_R, fit_N, fit_aR, aty_I, aty_Z0, aty_Z1, aty_Zi, aty_J, gz_ix, List.getElem?_cons_zero, List.getElem?_cons_succ, List.getElem?_nil, List.reverse_cons, List.reverse_nil, List.nil_append, List.cons_append, List.take_succ_cons, List.take_zero, List.take_nil, List.length_cons, List.length_nil, decide_true, decide_false, decide_not, Bool.not_true, Bool.not_false, gz_nle, if_true, if_false, and_true, true_and, and_self, and_false, false_and, or_true, true_or, or_false, false_or, Bool.false_eq_true, not_true, not_false_iff, Decidable.not_not, Nat.reduceLeDiff, Nat.reduceAdd, Nat.reduceEqDiff, Nat.reduceSub, Nat.reduceLT, Nat.zero_add, reduceCtorEq, reduceIte, eq_self, i32_10, i32_01, Nat.zero_le, Nat.one_ne_zero, m, md_k, j2, d2, d3, d4, q1, y0, s2, o2]
  obtain ⟨o1, o2⟩ := io_yes u0 u1 (by decide) hc hr
  rw [nI_0, e90] at o1 o2
  by_cases n4 : n = 4
  · subst n4
    have n4 : ¬ nI 4 < (4 : Int32) := by decide
    refine ⟨.int (-1), hc, hr, g, T, ?_, ?_, fr8_rf _, fr7_rf _, H⟩
    · simp only [se_X7_stage, sm_X7_stage, gz_sem, gz_ae, Value.category, gz_i, gz_l, gz_nu, gz_li, gz_ll, gz_la, gz_ib, gz_iz, gz_lb, gz_lz, gz_ls, gz_lc, gz_i2l, gz_l2i, gz_get, gz_ald, gz_len, gz_dup, gz_d2, gz_nar, gz_a0, gz_a1, gz_cs, gz_cv, gz_mk, gz_te, gz_j1, gz_j2, gz_jn, gz_jk, gz_jo, gz_ja, gz_sat, gz_seti, gz_seta, gz_set2, gz_inc, gz_put, gz_ast, gz_pop, gz_vs, gz_vv, gz_sup, gz_rv, gz_ri, gz_rl, gz_ra, gz_if, gz_seq, gz_sw, gz_st, gz_st2, rok_I, rok_J, rok_V, rok_Z0, rok_Z1, rok_Zi, rok_R, rok_N, bi_rok, bi_0, bi_1, fit_I, fit_J, fit_Z0, fit_Z1, fit_Zi, fit_R, fit_N, fit_aR, aty_I, aty_Z0, aty_Z1, aty_Zi, aty_J, gz_ix, List.getElem?_cons_zero, List.getElem?_cons_succ, List.getElem?_nil, List.reverse_cons, List.reverse_nil, List.nil_append, List.cons_append, List.take_succ_cons, List.take_zero, List.take_nil, List.length_cons, List.length_nil, decide_true, decide_false, decide_not, Bool.not_true, Bool.not_false, gz_nle, if_true, if_false, and_true, true_and, and_self, and_false, false_and, or_true, true_or, or_false, false_or, Bool.false_eq_true, not_true, not_false_iff, Decidable.not_not, Nat.reduceLeDiff, Nat.reduceAdd, Nat.reduceEqDiff, Nat.reduceSub, Nat.reduceLT, Nat.zero_add, reduceCtorEq, reduceIte, eq_self, i32_10, i32_01, Nat.zero_le, Nat.one_ne_zero, c, j1, b, k, n4]
    · simp only [se_X8_stage, sm_X8_stage, gz_sem, gz_ae, Value.category, gz_i, gz_l, gz_nu, gz_li, gz_ll, gz_la, gz_ib, gz_iz, gz_lb, gz_lz, gz_ls, gz_lc, gz_i2l, gz_l2i, gz_get, gz_ald, gz_len, gz_dup, gz_d2, gz_nar, gz_a0, gz_a1, gz_cs, gz_cv, gz_mk, gz_te, gz_j1, gz_j2, gz_jn, gz_jk, gz_jo, gz_ja, gz_sat, gz_seti, gz_seta, gz_set2, gz_inc, gz_put, gz_ast, gz_pop, gz_vs, gz_vv, gz_sup, gz_rv, gz_ri, gz_rl, gz_ra, gz_if, gz_seq, gz_sw, gz_st, gz_st2, rok_I, rok_J, rok_V, rok_Z0, rok_Z1, rok_Zi, rok_R, rok_N, bi_rok, bi_0, bi_1, fit_I, fit_J, fit_Z0, fit_Z1, fit_Zi, fit_R, fit_N, fit_aR, aty_I, aty_Z0, aty_Z1, aty_Zi, aty_J, gz_ix, List.getElem?_cons_zero, List.getElem?_cons_succ, List.getElem?_nil, List.reverse_cons, List.reverse_nil, List.nil_append, List.cons_append, List.take_succ_cons, List.take_zero, List.take_nil, List.length_cons, List.length_nil, decide_true, decide_false, decide_not, Bool.not_true, Bool.not_false, gz_nle, if_true, if_false, and_true, true_and, and_self, and_false, false_and, or_true, true_or, or_false, false_or, Bool.false_eq_true, not_true, not_false_iff, Decidable.not_not, Nat.reduceLeDiff, Nat.reduceAdd, Nat.reduceEqDiff, Nat.reduceSub, Nat.reduceLT, Nat.zero_add, reduceCtorEq, reduceIte, eq_self, i32_10, i32_01, Nat.zero_le, Nat.one_ne_zero, m, md_k, j2, d2, d3, d4, q1, y0, s2, o2, v7, e4]
  have n4' : n < 4 := by omega
  have c4 : nI n < 4 := nI_lt (b := 4) n4' (by decide)
  have c4' : ¬ nI n = 4 := fun q => n4 ((nI_eq (b := 4) (by omega) (by decide)).mp q)
  have w1 : 4 * nI j + nI n = nI (4 * j + n) := by
    rw [show (4 : Int32) = nI 4 from rfl, pk_mul, nI_add]
  have w2 : ¬ nI (4 * j + n) < 0 := nI_pos (by omega)
  have w3 : (nI (4 * j + n)).toNatClampNeg = 4 * j + n := nI_clamp (by omega)
  have w4 : 4 * j + n < 64 := by omega
  have m1 := md_setI m 25 j (nI (n + 1)) (by omega)
  have m2 := md_setI m1 26 (4 * j + n) y (by omega)
  have M := md_setI m2 27 (4 * j + n) (nI u) (by omega)
  have r8 : se_X8_stage [.ref 15, .int (nI j), .int y, .int (nI u)] hr = some (some (.int (nI n)), gz_set (gz_set (gz_set hr 25 j (.int (nI (n + 1)))) 26 (4 * j + n) (.int y)) 27 (4 * j + n) (.int (nI u))) := by
    simp only [se_X8_stage, sm_X8_stage, gz_sem, gz_ae, Value.category, gz_i, gz_l, gz_nu, gz_li, gz_ll, gz_la, gz_ib, gz_iz, gz_lb, gz_lz, gz_ls, gz_lc, gz_i2l, gz_l2i, gz_get, gz_ald, gz_len, gz_dup, gz_d2, gz_nar, gz_a0, gz_a1, gz_cs, gz_cv, gz_mk, gz_te, gz_j1, gz_j2, gz_jn, gz_jk, gz_jo, gz_ja, gz_sat, gz_seti, gz_seta, gz_set2, gz_inc, gz_put, gz_ast, gz_pop, gz_vs, gz_vv, gz_sup, gz_rv, gz_ri, gz_rl, gz_ra, gz_if, gz_seq, gz_sw, gz_st, gz_st2, rok_I, rok_J, rok_V, rok_Z0, rok_Z1, rok_Zi, rok_R, rok_N, bi_rok, bi_0, bi_1, fit_I, fit_J, fit_Z0, fit_Z1, fit_Zi, fit_R, fit_N, fit_aR, aty_I, aty_Z0, aty_Z1, aty_Zi, aty_J, gz_ix, List.getElem?_cons_zero, List.getElem?_cons_succ, List.getElem?_nil, List.reverse_cons, List.reverse_nil, List.nil_append, List.cons_append, List.take_succ_cons, List.take_zero, List.take_nil, List.length_cons, List.length_nil, decide_true, decide_false, decide_not, Bool.not_true, Bool.not_false, gz_nle, if_true, if_false, and_true, true_and, and_self, and_false, false_and, or_true, true_or, or_false, false_or, Bool.false_eq_true, not_true, not_false_iff, Decidable.not_not, Nat.reduceLeDiff, Nat.reduceAdd, Nat.reduceEqDiff, Nat.reduceSub, Nat.reduceLT, Nat.zero_add, reduceCtorEq, reduceIte, eq_self, i32_10, i32_01, Nat.zero_le, Nat.one_ne_zero, m, m1, m2, md_k, j2, d2, d3, d4, q1, y0, s2, o2, v7, c4', w1, w2, w3, w4, nI_1]
  generalize hR : gz_set (gz_set (gz_set hr 25 j (.int (nI (n + 1)))) 26 (4 * j + n) (.int y)) 27 (4 * j + n) (.int (nI u)) = hr' at *
  have rr : ∀ b i, b ≠ 25 → b ≠ 26 → b ≠ 27 → gz_v hr' b i = gz_v hr b i := fun b i h1 h2 h3 => by rw [← hR, gz_v_set, if_neg (fun z => h3 z.1), gz_v_set, if_neg (fun z => h2 z.1), gz_v_set, if_neg (fun z => h1 z.1)]
  have e25 : gz_I hr' 25 j = nI (n + 1) := by
    rw [← hR, I_seto _ _ _ _ _ _ (by omega), I_seto _ _ _ _ _ _ (by omega), I_set, if_pos ⟨rfl, rfl⟩]
  have e26 : ∀ s, gz_I hr' 26 (4 * j + s) = if s = n then y else gz_I hr 26 (4 * j + s) := fun s => by
    rw [← hR, I_seto _ _ _ _ _ _ (by omega), I_set, I_seto _ _ _ _ _ _ (by omega)]
    by_cases q : s = n
    · rw [if_pos ⟨rfl, by omega⟩, if_pos q]
    · rw [if_neg (by omega), if_neg q]
  have e27 : ∀ s, gz_I hr' 27 (4 * j + s) = if s = n then nI u else gz_I hr 27 (4 * j + s) := fun s => by
    rw [← hR, I_set, I_seto _ _ _ _ _ _ (by omega), I_seto _ _ _ _ _ _ (by omega)]
    by_cases q : s = n
    · rw [if_pos ⟨rfl, by omega⟩, if_pos q]
    · rw [if_neg (by omega), if_neg q]
  have ro3 : ∀ i, i < 8 → i ≠ j → ro hr hr' i := fun i h1 h2 => by rw [← hR]; exact ro_set (ro_set (ro_set (ro_rf _ _) (by simp [rj] <;> omega)) (by simp [rj] <;> omega)) (by simp [rj] <;> omega)
  have so3 : ∀ s, s < 64 → so hr hr' s := fun s hs => by rw [← hR]; exact so_set (so_set (so_set (so_rf _ _) (by simp [rt] <;> omega)) (by simp [rt] <;> omega)) (by simp [rt] <;> omega)
  have ra3 : ∀ d, d ≠ 8 * j + 2 → ra hr hr' d := fun d hd => by rw [← hR]; exact ra_set (ra_set (ra_set (ra_rf _ _) (by simp [rq] <;> omega)) (by simp [rq] <;> omega)) (by simp [rq] <;> omega)
  have f7 : fr7 hr hr' := by rw [← hR]; exact fr7_set (fr7_set (fr7_set (fr7_rf _) (by omega)) (by omega)) (by omega)
  have pcode : ∀ u, u ≤ 5 → g 5 (g 3 j + u) = 300 + j := po.2
  have acode : ∀ u, u ≤ 5 → g 5 (g 0 j + u) = 1 + j := V.1.2.2.2.1
  have dj : ∀ u w, u ≤ 5 → w ≤ 5 → g 3 j + u ≠ g 0 j + w := fun u w h1 h2 q => by
    have a1 := pcode u h1
    rw [q, acode w h2] at a1
    omega
  have ad := st_X2_add hc (g 3 j) n k n4' y (nI u)
  have x1 := pc_setI k (g 3 j + 1) n y (by omega)
  have x2 := pc_setI x1 (g 3 j + 2) n (nI u) (by omega)
  have x3 := pc_n x2 (n + 1)
  have sx : ∀ x, g 5 x ≠ 300 + j → sm hc (gz_set (gz_set (gz_set hc (g 3 j + 1) n (.int y)) (g 3 j + 2) n (.int (nI u))) (g 3 j) 2 (.int (nI (n + 1)))) x := fun x hx => by
    have p0 := pcode 0 (by omega)
    rw [Nat.add_zero] at p0
    exact sm_set (sm_set (sm_set (sm_rf _ _) (fun z => hx (by rw [z]; exact pcode 1 (by omega)))) (fun z => hx (by rw [z]; exact pcode 2 (by omega)))) (fun z => hx (by rw [z]; exact p0))
  have c1 : ∀ s, gz_I (gz_set (gz_set (gz_set hc (g 3 j + 1) n (.int y)) (g 3 j + 2) n (.int (nI u))) (g 3 j) 2 (.int (nI (n + 1)))) (g 3 j + 1) s = if s = n then y else gz_I hc (g 3 j + 1) s := fun s => by
    rw [I_seto _ _ _ _ _ _ (by omega), I_seto _ _ _ _ _ _ (by omega), I_set]
    by_cases q : s = n
    · rw [if_pos ⟨rfl, q⟩, if_pos q]
    · rw [if_neg (fun z => q z.2), if_neg q]
  have c2 : ∀ s, gz_I (gz_set (gz_set (gz_set hc (g 3 j + 1) n (.int y)) (g 3 j + 2) n (.int (nI u))) (g 3 j) 2 (.int (nI (n + 1)))) (g 3 j + 2) s = if s = n then nI u else gz_I hc (g 3 j + 2) s := fun s => by
    rw [I_seto _ _ _ _ _ _ (by omega), I_set, I_seto _ _ _ _ _ _ (by omega)]
    by_cases q : s = n
    · rw [if_pos ⟨rfl, q⟩, if_pos q]
    · rw [if_neg (fun z => q z.2), if_neg q]
  have c0 : gz_I (gz_set (gz_set (gz_set hc (g 3 j + 1) n (.int y)) (g 3 j + 2) n (.int (nI u))) (g 3 j) 2 (.int (nI (n + 1)))) (g 3 j) 0 = gz_I hc (g 3 j) 0 := by
    rw [I_seto _ _ _ _ _ _ (by omega), I_seto _ _ _ _ _ _ (by omega), I_seto _ _ _ _ _ _ (by omega)]
  have nH : (gz_set (gz_set (gz_set hc (g 3 j + 1) n (.int y)) (g 3 j + 2) n (.int (nI u))) (g 3 j) 2 (.int (nI (n + 1)))).1 = hc.1 := rfl
  generalize hH : gz_set (gz_set (gz_set hc (g 3 j + 1) n (.int y)) (g 3 j + 2) n (.int (nI u))) (g 3 j) 2 (.int (nI (n + 1))) = h2 at *
  have sa : ∀ u, u ≤ 5 → sm hc h2 (g 0 j + u) := fun u hu => sx _ (by rw [acode u hu]; omega)
  have jk2 : jc h2 (g 0 j) (g 6 j) := jc_sm (by omega) sa jk
  have W2 : J2 h2 hr' (g 0 j) j := J2_fr (sa 2 (by omega)) (sa 3 (by omega)) (sa 4 (by omega)) (ra3 _ (by omega)) V.2.1
  have me := st_X1_measureBetweens h2 (g 0 j) (g 6 j) (g 3 j) (n + 1) jk2 hS x3 (by omega) (fun w hw => dj 3 w (by omega) hw)
  have hi : ∀ s, s < n + 1 → ¬ gz_I h2 (g 3 j + 1) s < 0 ∧ gz_I h2 (g 3 j + 1) s < nI (2 ^ g 6 j) ∧ gz_I h2 (g 3 j + 1) s = gz_I hr' 26 (4 * j + s) := fun s hs => by
    rw [c1 s, e26 s]
    by_cases q : s = n
    · rw [if_pos q, if_pos q]
      exact ⟨ys.1, ys.2.1, rfl⟩
    · rw [if_neg q, if_neg q]
      have := v8 s (by omega)
      rw [this.1]
      exact ⟨this.2.1, this.2.2.1, rfl⟩
  have bwe : ∀ s, s < n + 1 → jc_bw h2 (g 0 j) (g 6 j) (gz_I h2 (g 3 j + 1) s &&& (gz_I h2 (g 3 j + 1) (gz_nx (n + 1) s) ^^^ -1)) (gz_I h2 (g 3 j + 1) (gz_nx (n + 1) s) &&& (gz_I h2 (g 3 j + 1) s ^^^ -1)) = bw hr' j (n + 1) s := fun s hs => by
    have hx := nx_lt hs
    obtain ⟨a1, a2, a3⟩ := hi s hs
    obtain ⟨b1, b2, b3⟩ := hi (gz_nx (n + 1) s) hx
    have jm : j % 8 = j := Nat.mod_eq_of_lt (by omega)
    rw [eq_bw W2.2.2.2.2.2 (gap_ap W2) hS (fun i hi => by rw [b_and, bt_hi a1 a2 hS hi]; rfl) (fun i hi => by rw [b_and, bt_hi b1 b2 hS hi]; rfl)]
    unfold bw
    rw [jm, a3, b3, nx_mod hs]
  generalize hF : (fun s => jc_bw h2 (g 0 j) (g 6 j) (gz_I h2 (g 3 j + 1) s &&& (gz_I h2 (g 3 j + 1) (gz_nx (n + 1) s) ^^^ -1)) (gz_I h2 (g 3 j + 1) (gz_nx (n + 1) s) &&& (gz_I h2 (g 3 j + 1) s ^^^ -1))) = f at *
  have bwe' : ∀ s, s < n + 1 → f s = bw hr' j (n + 1) s := fun s hs => by rw [← hF]; exact bwe s hs
  have x4 := pc_wr x3 (g 3 j + 3) 0 (n + 1) f (by omega)
  have pm : nI (n + 1) - 1 = nI n := nI_pred n
  have hq55 := po.1
  have sy : ∀ x, g 5 x ≠ 300 + j → sm hc (gz_wr h2 (g 3 j + 3) 0 (n + 1) f) x := fun x hx => sm_wr (sx x hx) (fun z => hx (by rw [z]; exact pcode 3 (by omega)))
  have f16 := H.1.2.2.2.2.2.2.2.2.2.2.2.2.2.2.2
  refine ⟨.int (nI n), gz_wr h2 (g 3 j + 3) 0 (n + 1) f, hr', g, T, ?_, r8, ⟨by rw [wr_n, nH]; exact Nat.le_refl _, fun x h1 h2 => sy x (by rw [f16 x h1 h2]; omega)⟩, f7, ?_⟩
  · simp only [se_X7_stage, sm_X7_stage, gz_sem, gz_ae, Value.category, gz_i, gz_l, gz_nu, gz_li, gz_ll, gz_la, gz_ib, gz_iz, gz_lb, gz_lz, gz_ls, gz_lc, gz_i2l, gz_l2i, gz_get, gz_ald, gz_len, gz_dup, gz_d2, gz_nar, gz_a0, gz_a1, gz_cs, gz_cv, gz_mk, gz_te, gz_j1, gz_j2, gz_jn, gz_jk, gz_jo, gz_ja, gz_sat, gz_seti, gz_seta, gz_set2, gz_inc, gz_put, gz_ast, gz_pop, gz_vs, gz_vv, gz_sup, gz_rv, gz_ri, gz_rl, gz_ra, gz_if, gz_seq, gz_sw, gz_st, gz_st2, rok_I, rok_J, rok_V, rok_Z0, rok_Z1, rok_Zi, rok_R, rok_N, bi_rok, bi_0, bi_1, fit_I, fit_J, fit_Z0, fit_Z1, fit_Zi, fit_R, fit_N, fit_aR, aty_I, aty_Z0, aty_Z1, aty_Zi, aty_J, gz_ix, List.getElem?_cons_zero, List.getElem?_cons_succ, List.getElem?_nil, List.reverse_cons, List.reverse_nil, List.nil_append, List.cons_append, List.take_succ_cons, List.take_zero, List.take_nil, List.length_cons, List.length_nil, decide_true, decide_false, decide_not, Bool.not_true, Bool.not_false, gz_nle, if_true, if_false, and_true, true_and, and_self, and_false, false_and, or_true, true_or, or_false, false_or, Bool.false_eq_true, not_true, not_false_iff, Decidable.not_not, Nat.reduceLeDiff, Nat.reduceAdd, Nat.reduceEqDiff, Nat.reduceSub, Nat.reduceLT, Nat.zero_add, reduceCtorEq, reduceIte, eq_self, i32_10, i32_01, Nat.zero_le, Nat.one_ne_zero, c, j1, b, k, jk, jk2, x3, x4, c4, y0, s1, o1, ad, me, pm]
  · refine IV_bg H hj (by rw [wr_n, nH]; exact Nat.le_refl _) (fun x hx h => sy x h) M (fun i => rr _ _ (by decide) (by decide) (by decide)) (fun i => rr _ _ (by decide) (by decide) (by decide)) ro3 so3 (ra3 _ (by omega)) (ra3 _ (by omega)) (ra3 _ (by omega)) (ra3 _ (by omega)) (Or.inr ⟨?_, ?_, po, n + 1, cy, by omega, v2, v3, x4, ?_, ?_, e25, fun s hs => ?_⟩)
    · rw [vI (rr _ _ (by decide) (by decide) (by decide))]; exact q1
    · have := sy (g 0 j) (by have := acode 0 (by omega); rw [Nat.add_zero] at this; omega)
      rw [this.1]; exact q2
    · rw [wr_Io (by omega), c0]; exact v5
    · rw [vI (rr _ _ (by decide) (by decide) (by decide))]; exact v6
    · have hb := hi s hs
      rw [wr_Io (by omega), wr_Io (by omega), wr_I, if_pos ⟨rfl, by omega, hs⟩, bwe' s hs, ← hb.2.2, c2 s, e27 s]
      refine ⟨rfl, hb.1, hb.2.1, ?_, ?_, rfl⟩
      · by_cases q : s = n
        · rw [if_pos q, if_pos q]
        · rw [if_neg q, if_neg q]; exact (v8 s (by omega)).2.2.2.1
      · by_cases q : s = n
        · rw [if_pos q]; exact ⟨u, u1, rfl⟩
        · rw [if_neg q]; exact (v8 s (by omega)).2.2.2.2.1
