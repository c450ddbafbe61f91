theorem fb_orI (a b : Nat) : nI a ||| nI b = nI (a ||| b) := by
  apply Int32.toBitVec_inj.1
  show BitVec.ofNat 32 a ||| BitVec.ofNat 32 b = BitVec.ofNat 32 (a ||| b)
  apply BitVec.eq_of_getLsbD_eq
  intro i hi
  simp [hi]
theorem bm_16 {f : Nat → Bool} {n : Nat} (hn : n ≤ 4) : bm f n < 16 := Nat.lt_of_lt_of_le (bm_lt f n) (Nat.pow_le_pow_right (n := 2) (i := n) (j := 4) (by omega) hn)
-- the stages that have a stream
set_option maxHeartbeats 4000000 in
theorem st_sw {h : gz_H} {q n i : Nat} (k : pc h q n) (hn : n ≤ 4) (hi : i < 8) (W : Nat → Bool) (hW : ∀ s, s < n → W s = bt (gz_I h (q + 1) s) i) : se_X2_stagesWith [.ref q, .int (nI i)] h = some (some (.int (nI (bm W n))), h) := by
  have l := gz_for0 (L := 4) (k := 4) (X := 37) (a := lb_X2_stagesWith_4) n (fun s => [.ref q, .int (nI i), .int (nI (bm W s)), .int (nI s)]) (fun _ => h) (env' := [.ref q, .int (nI i), .int (nI (bm W n)), .int (nI n)]) (h' := h) (by decide) (fun s hs => by
    have k1 : nI s < nI n := nI_lt hs (by omega)
    have d2 : ¬ nI s < 0 := nI_pos (by omega)
    have d3 : (nI s).toNatClampNeg = s := nI_clamp (by omega)
    have d4 : s < 4 := by omega
    have o1 := one_shl s (by omega)
    have w := hW s hs
    have bb := bt_t (i := i) (by omega) (gz_I h (q + 1) s)
    rw [← w] at bb
    have bo := bm_or W s
    by_cases g : W s = true
    · rw [if_pos g] at bb bo
      have f1 : nI (bm W s) ||| nI (2 ^ s) = nI (bm W (s + 1)) := by rw [fb_orI, bo]
      simp only [lb_X2_stagesWith_4, gz_sem, gz_ae, Value.category, gz_i, gz_l, gz_nu, gz_li, gz_ll, gz_la, gz_ib, gz_iz, gz_lb, gz_lz, gz_ls, gz_lc, gz_i2l, gz_l2i, gz_get, gz_ald, gz_len, gz_dup, gz_d2, gz_nar, gz_a0, gz_a1, gz_cs, gz_cv, gz_mk, gz_te, gz_j1, gz_j2, gz_jn, gz_jk, gz_jo, gz_ja, gz_sat, gz_seti, gz_seta, gz_set2, gz_inc, gz_put, gz_ast, gz_pop, gz_vs, gz_vv, gz_sup, gz_rv, gz_ri, gz_rl, gz_ra, gz_if, gz_seq, gz_sw, gz_st, gz_st2, rok_I, rok_J, rok_V, rok_Z0, rok_Z1, rok_Zi, rok_R, rok_N, bi_rok, bi_0, bi_1, fit_I, fit_J, fit_Z0, fit_Z1, fit_Zi, fit_R, fit_N, fit_aR, aty_I, aty_Z0, aty_Z1, aty_Zi, aty_J, gz_ix, List.getElem?_cons_zero, List.getElem?_cons_succ, List.getElem?_nil, List.reverse_cons, List.reverse_nil, List.nil_append, List.cons_append, List.take_succ_cons, List.take_zero, List.take_nil, List.length_cons, List.length_nil, decide_true, decide_false, decide_not, Bool.not_true, Bool.not_false, gz_nle, if_true, if_false, and_true, true_and, and_self, and_false, false_and, or_true, true_or, or_false, false_or, Bool.false_eq_true, not_true, not_false_iff, Decidable.not_not, Nat.reduceLeDiff, Nat.reduceAdd, Nat.reduceEqDiff, Nat.reduceSub, Nat.reduceLT, Nat.zero_add, reduceCtorEq, reduceIte, eq_self, i32_10, i32_01, Nat.zero_le, Nat.one_ne_zero, k, k1, d2, d3, d4, bb, o1, f1, nI_1]
    · rw [if_neg g] at bb bo
      rw [Nat.or_zero] at bo
      rw [← bo]
      simp only [lb_X2_stagesWith_4, gz_sem, gz_ae, Value.category, gz_i, gz_l, gz_nu, gz_li, gz_ll, gz_la, gz_ib, gz_iz, gz_lb, gz_lz, gz_ls, gz_lc, gz_i2l, gz_l2i, gz_get, gz_ald, gz_len, gz_dup, gz_d2, gz_nar, gz_a0, gz_a1, gz_cs, gz_cv, gz_mk, gz_te, gz_j1, gz_j2, gz_jn, gz_jk, gz_jo, gz_ja, gz_sat, gz_seti, gz_seta, gz_set2, gz_inc, gz_put, gz_ast, gz_pop, gz_vs, gz_vv, gz_sup, gz_rv, gz_ri, gz_rl, gz_ra, gz_if, gz_seq, gz_sw, gz_st, gz_st2, rok_I, rok_J, rok_V, rok_Z0, rok_Z1, rok_Zi, rok_R, rok_N, bi_rok, bi_0, bi_1, fit_I, fit_J, fit_Z0, fit_Z1, fit_Zi, fit_R, fit_N, fit_aR, aty_I, aty_Z0, aty_Z1, aty_Zi, aty_J, gz_ix, List.getElem?_cons_zero, List.getElem?_cons_succ, List.getElem?_nil, List.reverse_cons, List.reverse_nil, List.nil_append, List.cons_append, List.take_succ_cons, List.take_zero, List.take_nil, List.length_cons, List.length_nil, decide_true, decide_false, decide_not, Bool.not_true, Bool.not_false, gz_nle, if_true, if_false, and_true, true_and, and_self, and_false, false_and, or_true, true_or, or_false, false_or, Bool.false_eq_true, not_true, not_false_iff, Decidable.not_not, Nat.reduceLeDiff, Nat.reduceAdd, Nat.reduceEqDiff, Nat.reduceSub, Nat.reduceLT, Nat.zero_add, reduceCtorEq, reduceIte, eq_self, i32_10, i32_01, Nat.zero_le, Nat.one_ne_zero, k, k1, d2, d3, d4, bb, nI_1]) (by
    have k1 : ¬ nI n < nI n := nI_nlt (Nat.le_refl _) (by omega)
    simp only [lb_X2_stagesWith_4, gz_sem, gz_ae, Value.category, gz_i, gz_l, gz_nu, gz_li, gz_ll, gz_la, gz_ib, gz_iz, gz_lb, gz_lz, gz_ls, gz_lc, gz_i2l, gz_l2i, gz_get, gz_ald, gz_len, gz_dup, gz_d2, gz_nar, gz_a0, gz_a1, gz_cs, gz_cv, gz_mk, gz_te, gz_j1, gz_j2, gz_jn, gz_jk, gz_jo, gz_ja, gz_sat, gz_seti, gz_seta, gz_set2, gz_inc, gz_put, gz_ast, gz_pop, gz_vs, gz_vv, gz_sup, gz_rv, gz_ri, gz_rl, gz_ra, gz_if, gz_seq, gz_sw, gz_st, gz_st2, rok_I, rok_J, rok_V, rok_Z0, rok_Z1, rok_Zi, rok_R, rok_N, bi_rok, bi_0, bi_1, fit_I, fit_J, fit_Z0, fit_Z1, fit_Zi, fit_R, fit_N, fit_aR, aty_I, aty_Z0, aty_Z1, aty_Zi, aty_J, gz_ix, List.getElem?_cons_zero, List.getElem?_cons_succ, List.getElem?_nil, List.reverse_cons, List.reverse_nil, List.nil_append, List.cons_append, List.take_succ_cons, List.take_zero, List.take_nil, List.length_cons, List.length_nil, decide_true, decide_false, decide_not, Bool.not_true, Bool.not_false, gz_nle, if_true, if_false, and_true, true_and, and_self, and_false, false_and, or_true, true_or, or_false, false_or, Bool.false_eq_true, not_true, not_false_iff, Decidable.not_not, Nat.reduceLeDiff, Nat.reduceAdd, Nat.reduceEqDiff, Nat.reduceSub, Nat.reduceLT, Nat.zero_add, reduceCtorEq, reduceIte, eq_self, i32_10, i32_01, Nat.zero_le, Nat.one_ne_zero, k, k1])
  have z : nI (bm W 0) = 0 := rfl
  rw [z, nI_0] at l
  simp only [se_X2_stagesWith, sm_X2_stagesWith, gz_sem, gz_ae, Value.category, gz_i, gz_l, gz_nu, gz_li, gz_ll, gz_la, gz_ib, gz_iz, gz_lb, gz_lz, gz_ls, gz_lc, gz_i2l, gz_l2i, gz_get, gz_ald, gz_len, gz_dup, gz_d2, gz_nar, gz_a0, gz_a1, gz_cs, gz_cv, gz_mk, gz_te, gz_j1, gz_j2, gz_jn, gz_jk, gz_jo, gz_ja, gz_sat, gz_seti, gz_seta, gz_set2, gz_inc, gz_put, gz_ast, gz_pop, gz_vs, gz_vv, gz_sup, gz_rv, gz_ri, gz_rl, gz_ra, gz_if, gz_seq, gz_sw, gz_st, gz_st2, rok_I, rok_J, rok_V, rok_Z0, rok_Z1, rok_Zi, rok_R, rok_N, bi_rok, bi_0, bi_1, fit_I, fit_J, fit_Z0, fit_Z1, fit_Zi, fit_R, fit_N, fit_aR, aty_I, aty_Z0, aty_Z1, aty_Zi, aty_J, gz_ix, List.getElem?_cons_zero, List.getElem?_cons_succ, List.getElem?_nil, List.reverse_cons, List.reverse_nil, List.nil_append, List.cons_append, List.take_succ_cons, List.take_zero, List.take_nil, List.length_cons, List.length_nil, decide_true, decide_false, decide_not, Bool.not_true, Bool.not_false, gz_nle, if_true, if_false, and_true, true_and, and_self, and_false, false_and, or_true, true_or, or_false, false_or, Bool.false_eq_true, not_true, not_false_iff, Decidable.not_not, Nat.reduceLeDiff, Nat.reduceAdd, Nat.reduceEqDiff, Nat.reduceSub, Nat.reduceLT, Nat.zero_add, reduceCtorEq, reduceIte, eq_self, i32_10, i32_01, Nat.zero_le, Nat.one_ne_zero, l]
set_option maxHeartbeats 4000000 in
theorem st_so {h : gz_H} (m : md h) {p n i : Nat} (hp : p < 8) (hn : n ≤ 4) (hi : i < 8) (hN : gz_I h 25 p = nI n) (W : Nat → Bool) (hW : ∀ s, s < n → W s = bt (gz_I h 26 (4 * p + s)) i) : se_X8_stagesOf [.ref 15, .int (nI p), .int (nI i)] h = some (some (.int (nI (bm W n))), h) := by
  have c2 : ¬ nI p < 0 := nI_pos (by omega)
  have c3 : (nI p).toNatClampNeg = p := nI_clamp (by omega)
  have c4 : p < 16 := by omega
  have l := gz_for0 (L := 5) (k := 5) (X := 43) (a := lb_X8_stagesOf_5) n (fun s => [.ref 15, .int (nI p), .int (nI i), .int (nI (bm W s)), .int (nI s)]) (fun _ => h) (env' := [.ref 15, .int (nI p), .int (nI i), .int (nI (bm W n)), .int (nI n)]) (h' := h) (by decide) (fun s hs => by
    have k1 : nI s < nI n := nI_lt hs (by omega)
    have w1 : 4 * nI p + nI s = nI (4 * p + s) := by rw [show (4 : Int32) = nI 4 from rfl, pk_mul, nI_add]
    have a2 : ¬ nI (4 * p + s) < 0 := nI_pos (by omega)
    have a3 : (nI (4 * p + s)).toNatClampNeg = 4 * p + s := nI_clamp (by omega)
    have a4 : 4 * p + s < 64 := by omega
    have o1 := one_shl s (by omega)
    have w := hW s hs
    have bb := bt_t (i := i) (by omega) (gz_I h 26 (4 * p + s))
    rw [← w] at bb
    have bo := bm_or W s
    by_cases g : W s = true
    · rw [if_pos g] at bb bo
      have f1 : nI (bm W s) ||| nI (2 ^ s) = nI (bm W (s + 1)) := by rw [fb_orI, bo]
      simp only [lb_X8_stagesOf_5, gz_sem, gz_ae, Value.category, gz_i, gz_l, gz_nu, gz_li, gz_ll, gz_la, gz_ib, gz_iz, gz_lb, gz_lz, gz_ls, gz_lc, gz_i2l, gz_l2i, gz_get, gz_ald, gz_len, gz_dup, gz_d2, gz_nar, gz_a0, gz_a1, gz_cs, gz_cv, gz_mk, gz_te, gz_j1, gz_j2, gz_jn, gz_jk, gz_jo, gz_ja, gz_sat, gz_seti, gz_seta, gz_set2, gz_inc, gz_put, gz_ast, gz_pop, gz_vs, gz_vv, gz_sup, gz_rv, gz_ri, gz_rl, gz_ra, gz_if, gz_seq, gz_sw, gz_st, gz_st2, rok_I, rok_J, rok_V, rok_Z0, rok_Z1, rok_Zi, rok_R, rok_N, bi_rok, bi_0, bi_1, fit_I, fit_J, fit_Z0, fit_Z1, fit_Zi, fit_R, fit_N, fit_aR, aty_I, aty_Z0, aty_Z1, aty_Zi, aty_J, gz_ix, List.getElem?_cons_zero, List.getElem?_cons_succ, List.getElem?_nil, List.reverse_cons, List.reverse_nil, List.nil_append, List.cons_append, List.take_succ_cons, List.take_zero, List.take_nil, List.length_cons, List.length_nil, decide_true, decide_false, decide_not, Bool.not_true, Bool.not_false, gz_nle, if_true, if_false, and_true, true_and, and_self, and_false, false_and, or_true, true_or, or_false, false_or, Bool.false_eq_true, not_true, not_false_iff, Decidable.not_not, Nat.reduceLeDiff, Nat.reduceAdd, Nat.reduceEqDiff, Nat.reduceSub, Nat.reduceLT, Nat.zero_add, reduceCtorEq, reduceIte, eq_self, i32_10, i32_01, Nat.zero_le, Nat.one_ne_zero, m, md_k, hN, c2, c3, c4, k1, w1, a2, a3, a4, bb, o1, f1, nI_1]
    · rw [if_neg g] at bb bo
      have z : (0 : Int32) <<< (nI s &&& 31) = nI 0 := by
        apply b_ext
        intro r hr
        rw [b_shl s (by omega) 0 hr, b_0, Bool.and_false]
        exact (b_0 r).symm
      have f1 : nI (bm W s) ||| nI 0 = nI (bm W (s + 1)) := by rw [fb_orI, bo]
      simp only [lb_X8_stagesOf_5, gz_sem, gz_ae, Value.category, gz_i, gz_l, gz_nu, gz_li, gz_ll, gz_la, gz_ib, gz_iz, gz_lb, gz_lz, gz_ls, gz_lc, gz_i2l, gz_l2i, gz_get, gz_ald, gz_len, gz_dup, gz_d2, gz_nar, gz_a0, gz_a1, gz_cs, gz_cv, gz_mk, gz_te, gz_j1, gz_j2, gz_jn, gz_jk, gz_jo, gz_ja, gz_sat, gz_seti, gz_seta, gz_set2, gz_inc, gz_put, gz_ast, gz_pop, gz_vs, gz_vv, gz_sup, gz_rv, gz_ri, gz_rl, gz_ra, gz_if, gz_seq, gz_sw, gz_st, gz_st2, rok_I, rok_J, rok_V, rok_Z0, rok_Z1, rok_Zi, rok_R, rok_N, bi_rok, bi_0, bi_1, fit_I, fit_J, fit_Z0, fit_Z1, fit_Zi, fit_R, fit_N, fit_aR, aty_I, aty_Z0, aty_Z1, aty_Zi, aty_J, gz_ix, List.getElem?_cons_zero, List.getElem?_cons_succ, List.getElem?_nil, List.reverse_cons, List.reverse_nil, List.nil_append, List.cons_append, List.take_succ_cons, List.take_zero, List.take_nil, List.length_cons, List.length_nil, decide_true, decide_false, decide_not, Bool.not_true, Bool.not_false, gz_nle, if_true, if_false, and_true, true_and, and_self, and_false, false_and, or_true, true_or, or_false, false_or, Bool.false_eq_true, not_true, not_false_iff, Decidable.not_not, Nat.reduceLeDiff, Nat.reduceAdd, Nat.reduceEqDiff, Nat.reduceSub, Nat.reduceLT, Nat.zero_add, reduceCtorEq, reduceIte, eq_self, i32_10, i32_01, Nat.zero_le, Nat.one_ne_zero, m, md_k, hN, c2, c3, c4, k1, w1, a2, a3, a4, bb, z, f1, nI_1]) (by
    have k1 : ¬ nI n < nI n := nI_nlt (Nat.le_refl _) (by omega)
    simp only [lb_X8_stagesOf_5, gz_sem, gz_ae, Value.category, gz_i, gz_l, gz_nu, gz_li, gz_ll, gz_la, gz_ib, gz_iz, gz_lb, gz_lz, gz_ls, gz_lc, gz_i2l, gz_l2i, gz_get, gz_ald, gz_len, gz_dup, gz_d2, gz_nar, gz_a0, gz_a1, gz_cs, gz_cv, gz_mk, gz_te, gz_j1, gz_j2, gz_jn, gz_jk, gz_jo, gz_ja, gz_sat, gz_seti, gz_seta, gz_set2, gz_inc, gz_put, gz_ast, gz_pop, gz_vs, gz_vv, gz_sup, gz_rv, gz_ri, gz_rl, gz_ra, gz_if, gz_seq, gz_sw, gz_st, gz_st2, rok_I, rok_J, rok_V, rok_Z0, rok_Z1, rok_Zi, rok_R, rok_N, bi_rok, bi_0, bi_1, fit_I, fit_J, fit_Z0, fit_Z1, fit_Zi, fit_R, fit_N, fit_aR, aty_I, aty_Z0, aty_Z1, aty_Zi, aty_J, gz_ix, List.getElem?_cons_zero, List.getElem?_cons_succ, List.getElem?_nil, List.reverse_cons, List.reverse_nil, List.nil_append, List.cons_append, List.take_succ_cons, List.take_zero, List.take_nil, List.length_cons, List.length_nil, decide_true, decide_false, decide_not, Bool.not_true, Bool.not_false, gz_nle, if_true, if_false, and_true, true_and, and_self, and_false, false_and, or_true, true_or, or_false, false_or, Bool.false_eq_true, not_true, not_false_iff, Decidable.not_not, Nat.reduceLeDiff, Nat.reduceAdd, Nat.reduceEqDiff, Nat.reduceSub, Nat.reduceLT, Nat.zero_add, reduceCtorEq, reduceIte, eq_self, i32_10, i32_01, Nat.zero_le, Nat.one_ne_zero, m, md_k, hN, c2, c3, c4, k1])
  have z : nI (bm W 0) = 0 := rfl
  rw [z, nI_0] at l
  simp only [se_X8_stagesOf, sm_X8_stagesOf, gz_sem, gz_ae, Value.category, gz_i, gz_l, gz_nu, gz_li, gz_ll, gz_la, gz_ib, gz_iz, gz_lb, gz_lz, gz_ls, gz_lc, gz_i2l, gz_l2i, gz_get, gz_ald, gz_len, gz_dup, gz_d2, gz_nar, gz_a0, gz_a1, gz_cs, gz_cv, gz_mk, gz_te, gz_j1, gz_j2, gz_jn, gz_jk, gz_jo, gz_ja, gz_sat, gz_seti, gz_seta, gz_set2, gz_inc, gz_put, gz_ast, gz_pop, gz_vs, gz_vv, gz_sup, gz_rv, gz_ri, gz_rl, gz_ra, gz_if, gz_seq, gz_sw, gz_st, gz_st2, rok_I, rok_J, rok_V, rok_Z0, rok_Z1, rok_Zi, rok_R, rok_N, bi_rok, bi_0, bi_1, fit_I, fit_J, fit_Z0, fit_Z1, fit_Zi, fit_R, fit_N, fit_aR, aty_I, aty_Z0, aty_Z1, aty_Zi, aty_J, gz_ix, List.getElem?_cons_zero, List.getElem?_cons_succ, List.getElem?_nil, List.reverse_cons, List.reverse_nil, List.nil_append, List.cons_append, List.take_succ_cons, List.take_zero, List.take_nil, List.length_cons, List.length_nil, decide_true, decide_false, decide_not, Bool.not_true, Bool.not_false, gz_nle, if_true, if_false, and_true, true_and, and_self, and_false, false_and, or_true, true_or, or_false, false_or, Bool.false_eq_true, not_true, not_false_iff, Decidable.not_not, Nat.reduceLeDiff, Nat.reduceAdd, Nat.reduceEqDiff, Nat.reduceSub, Nat.reduceLT, Nat.zero_add, reduceCtorEq, reduceIte, eq_self, i32_10, i32_01, Nat.zero_le, Nat.one_ne_zero, l]
set_option maxHeartbeats 4000000 in
theorem st_minL {a b : Nat} (ha : a < 2 ^ 62) (hb : b < 2 ^ 62) (h : gz_H) : se_J9_min_f86c9 [.long (lN a), .long (lN b)] h = some (some (.long (lN (min a b))), h) := by
  by_cases q : b < a
  · have k1 : 0 < lg_cmp (lN a) (lN b) := (lg_cmp_gt _ _).mpr ((pk_lLT (by omega) (by omega)).mpr q)
    rw [Nat.min_eq_right (by omega)]
    simp only [se_J9_min_f86c9, sm_J9_min_f86c9, gz_sem, gz_ae, Value.category, gz_i, gz_l, gz_nu, gz_li, gz_ll, gz_la, gz_ib, gz_iz, gz_lb, gz_lz, gz_ls, gz_lc, gz_i2l, gz_l2i, gz_get, gz_ald, gz_len, gz_dup, gz_d2, gz_nar, gz_a0, gz_a1, gz_cs, gz_cv, gz_mk, gz_te, gz_j1, gz_j2, gz_jn, gz_jk, gz_jo, gz_ja, gz_sat, gz_seti, gz_seta, gz_set2, gz_inc, gz_put, gz_ast, gz_pop, gz_vs, gz_vv, gz_sup, gz_rv, gz_ri, gz_rl, gz_ra, gz_if, gz_seq, gz_sw, gz_st, gz_st2, rok_I, rok_J, rok_V, rok_Z0, rok_Z1, rok_Zi, rok_R, rok_N, bi_rok, bi_0, bi_1, fit_I, fit_J, fit_Z0, fit_Z1, fit_Zi, fit_R, fit_N, fit_aR, aty_I, aty_Z0, aty_Z1, aty_Zi, aty_J, gz_ix, List.getElem?_cons_zero, List.getElem?_cons_succ, List.getElem?_nil, List.reverse_cons, List.reverse_nil, List.nil_append, List.cons_append, List.take_succ_cons, List.take_zero, List.take_nil, List.length_cons, List.length_nil, decide_true, decide_false, decide_not, Bool.not_true, Bool.not_false, gz_nle, if_true, if_false, and_true, true_and, and_self, and_false, false_and, or_true, true_or, or_false, false_or, Bool.false_eq_true, not_true, not_false_iff, Decidable.not_not, Nat.reduceLeDiff, Nat.reduceAdd, Nat.reduceEqDiff, Nat.reduceSub, Nat.reduceLT, Nat.zero_add, reduceCtorEq, reduceIte, eq_self, i32_10, i32_01, Nat.zero_le, Nat.one_ne_zero, k1]
  · have k1 : ¬ 0 < lg_cmp (lN a) (lN b) := fun z => q ((pk_lLT (by omega) (by omega)).mp ((lg_cmp_gt _ _).mp z))
    rw [Nat.min_eq_left (by omega)]
    simp only [se_J9_min_f86c9, sm_J9_min_f86c9, gz_sem, gz_ae, Value.category, gz_i, gz_l, gz_nu, gz_li, gz_ll, gz_la, gz_ib, gz_iz, gz_lb, gz_lz, gz_ls, gz_lc, gz_i2l, gz_l2i, gz_get, gz_ald, gz_len, gz_dup, gz_d2, gz_nar, gz_a0, gz_a1, gz_cs, gz_cv, gz_mk, gz_te, gz_j1, gz_j2, gz_jn, gz_jk, gz_jo, gz_ja, gz_sat, gz_seti, gz_seta, gz_set2, gz_inc, gz_put, gz_ast, gz_pop, gz_vs, gz_vv, gz_sup, gz_rv, gz_ri, gz_rl, gz_ra, gz_if, gz_seq, gz_sw, gz_st, gz_st2, rok_I, rok_J, rok_V, rok_Z0, rok_Z1, rok_Zi, rok_R, rok_N, bi_rok, bi_0, bi_1, fit_I, fit_J, fit_Z0, fit_Z1, fit_Zi, fit_R, fit_N, fit_aR, aty_I, aty_Z0, aty_Z1, aty_Zi, aty_J, gz_ix, List.getElem?_cons_zero, List.getElem?_cons_succ, List.getElem?_nil, List.reverse_cons, List.reverse_nil, List.nil_append, List.cons_append, List.take_succ_cons, List.take_zero, List.take_nil, List.length_cons, List.length_nil, decide_true, decide_false, decide_not, Bool.not_true, Bool.not_false, gz_nle, if_true, if_false, and_true, true_and, and_self, and_false, false_and, or_true, true_or, or_false, false_or, Bool.false_eq_true, not_true, not_false_iff, Decidable.not_not, Nat.reduceLeDiff, Nat.reduceAdd, Nat.reduceEqDiff, Nat.reduceSub, Nat.reduceLT, Nat.zero_add, reduceCtorEq, reduceIte, eq_self, i32_10, i32_01, Nat.zero_le, Nat.one_ne_zero, k1]
/-- parts, rounded up -/
def pu (w p : Nat) : Nat := min 1000000 ((w + p - 1) / p)
theorem pu_le {w p x : Nat} (hp : 0 < p) (hx : x < 1000000) : pu w p ≤ x ↔ w ≤ x * p := by
  unfold pu
  have e : (w + p - 1) / p ≤ x ↔ w ≤ x * p := by
    rw [← Nat.lt_succ_iff, Nat.div_lt_iff_lt_mul hp, Nat.succ_mul]
    omega
  rw [← e]
  omega
set_option maxHeartbeats 4000000 in
theorem st_pu {w p : Nat} (hp : 0 < p) (hw : w < 2 ^ 60) (hp2 : p < 2 ^ 60) (h : gz_H) : se_X0_partsUp [.long (lN w), .long (lN p)] h = some (some (.int (nI (pu w p))), h) := by
  have k1 : 0 < lg_cmp (lN p) 0 := (lg_cmp_gt _ _).mpr ((pk_lLT (a := 0) (by omega) (by omega)).mpr hp)
  have e1 : lN w + lN p = lN (w + p) := lN_add _ _
  have e2 : lN (w + p) - 1 = lN (w + p - 1) := lN_sub (b := 1) (by omega)
  have e3 : lN (w + p - 1) / lN p = lN ((w + p - 1) / p) := pk_lDiv (by omega) hp (by omega)
  have e4 : ¬ lN p = 0 := fun z => by have := (pk_lEQ (b := 0) (by omega) (by omega)).mp z; omega
  have b1 : (w + p - 1) / p < 2 ^ 62 := Nat.lt_of_le_of_lt (Nat.div_le_self _ _) (by omega)
  have mi := st_minL (a := 1000000) (by decide) b1 h
  have e5 : lN 1000000 = (1000000 : Int64) := rfl
  rw [e5] at mi
  have e6 := lN_i (min 1000000 ((w + p - 1) / p))
  unfold pu
  simp only [se_X0_partsUp, sm_X0_partsUp, gz_sem, gz_ae, Value.category, gz_i, gz_l, gz_nu, gz_li, gz_ll, gz_la, gz_ib, gz_iz, gz_lb, gz_lz, gz_ls, gz_lc, gz_i2l, gz_l2i, gz_get, gz_ald, gz_len, gz_dup, gz_d2, gz_nar, gz_a0, gz_a1, gz_cs, gz_cv, gz_mk, gz_te, gz_j1, gz_j2, gz_jn, gz_jk, gz_jo, gz_ja, gz_sat, gz_seti, gz_seta, gz_set2, gz_inc, gz_put, gz_ast, gz_pop, gz_vs, gz_vv, gz_sup, gz_rv, gz_ri, gz_rl, gz_ra, gz_if, gz_seq, gz_sw, gz_st, gz_st2, rok_I, rok_J, rok_V, rok_Z0, rok_Z1, rok_Zi, rok_R, rok_N, bi_rok, bi_0, bi_1, fit_I, fit_J, fit_Z0, fit_Z1, fit_Zi, fit_R, fit_N, fit_aR, aty_I, aty_Z0, aty_Z1, aty_Zi, aty_J, gz_ix, List.getElem?_cons_zero, List.getElem?_cons_succ, List.getElem?_nil, List.reverse_cons, List.reverse_nil, List.nil_append, List.cons_append, List.take_succ_cons, List.take_zero, List.take_nil, List.length_cons, List.length_nil, decide_true, decide_false, decide_not, Bool.not_true, Bool.not_false, gz_nle, if_true, if_false, and_true, true_and, and_self, and_false, false_and, or_true, true_or, or_false, false_or, Bool.false_eq_true, not_true, not_false_iff, Decidable.not_not, Nat.reduceLeDiff, Nat.reduceAdd, Nat.reduceEqDiff, Nat.reduceSub, Nat.reduceLT, Nat.zero_add, reduceCtorEq, reduceIte, eq_self, i32_10, i32_01, Nat.zero_le, Nat.one_ne_zero, k1, e1, e2, e3, e4, mi, e6]
/-- the needs by rows of stages -/
def nds (f R : Nat → Nat) : Nat → Nat → Nat
  | 0, _ => 0
  | i + 1, r => if R i = r then max (nds f R i r) (f i) else nds f R i r
theorem nds_le {f R : Nat → Nat} {r x : Nat} : ∀ S, nds f R S r ≤ x ↔ ∀ i, i < S → R i = r → f i ≤ x
  | 0 => ⟨fun _ i hi => by omega, fun _ => Nat.zero_le _⟩
  | S + 1 => by
    have ih := nds_le (f := f) (R := R) (r := r) (x := x) S
    show (if R S = r then max (nds f R S r) (f S) else nds f R S r) ≤ x ↔ _
    by_cases q : R S = r
    · rw [if_pos q, Nat.max_le, ih]
      constructor
      · rintro ⟨h1, h2⟩ i hi hr
        by_cases z : i = S
        · subst z; exact h2
        · exact h1 i (by omega) hr
      · intro h
        exact ⟨fun i hi hr => h i (by omega) hr, h S (by omega) q⟩
    · rw [if_neg q, ih]
      constructor
      · intro h i hi hr
        by_cases z : i = S
        · subst z; exact absurd hr q
        · exact h i (by omega) hr
      · intro h i hi hr
        exact h i (by omega) hr
theorem nds_z {f R : Nat → Nat} {r S : Nat} (h : ∀ i, i < S → R i ≠ r) : nds f R S r = 0 := Nat.le_zero.mp ((nds_le S).mpr (fun i hi hr => absurd hr (h i hi)))
theorem ac_I {h : gz_H} (y : ac h) (b i : Nat) (x : Int32) (h5 : 5 ≤ b) (h8 : b ≤ 8) : ac (gz_set h b i (.int x)) := by
  obtain ⟨w1, w2, w3, w4, w5, w6, w7⟩ := y
  have o : ∀ b' i', ¬ (b' = b ∧ i' = i) → gz_v (gz_set h b i (.int x)) b' i' = gz_v h b' i' := fun b' i' n => by rw [gz_v_set, if_neg n]
  refine ⟨by rw [o _ _ (by omega)]; exact w1, by rw [o _ _ (by omega)]; exact w2, by rw [o _ _ (by omega)]; exact w3, by rw [o _ _ (by omega)]; exact w4, by rw [o _ _ (by omega), J_seto _ _ _ _ _ _ (by omega)]; exact w5, by rw [o _ _ (by omega), J_seto _ _ _ _ _ _ (by omega)]; exact w6, fun x' i' h1 h2 => ?_⟩
  rw [gz_v_set, I_set]
  by_cases q : x' = b ∧ i' = i
  · rw [if_pos q, if_pos q]
  · rw [if_neg q, if_neg q]; exact w7 x' i' h1 h2
theorem ac_J {h : gz_H} (y : ac h) (i : Nat) (x : Int64) (hi : i = 4 ∨ i = 5) : ac (gz_set h 4 i (.long x)) := by
  obtain ⟨w1, w2, w3, w4, w5, w6, w7⟩ := y
  have o : ∀ b' i', ¬ (b' = 4 ∧ i' = i) → gz_v (gz_set h 4 i (.long x)) b' i' = gz_v h b' i' := fun b' i' n => by rw [gz_v_set, if_neg n]
  have ty : ∀ i', gz_v h 4 i' = .long (gz_J h 4 i') → gz_v (gz_set h 4 i (.long x)) 4 i' = .long (gz_J (gz_set h 4 i (.long x)) 4 i') := fun i' e => by
    rw [gz_v_set, J_set]
    by_cases q : 4 = 4 ∧ i' = i
    · rw [if_pos q, if_pos q]
    · rw [if_neg q, if_neg q]; exact e
  exact ⟨by rw [o _ _ (by omega)]; exact w1, by rw [o _ _ (by omega)]; exact w2, by rw [o _ _ (by omega)]; exact w3, by rw [o _ _ (by omega)]; exact w4, ty 4 w5, ty 5 w6, fun x' i' h1 h2 => by rw [o _ _ (by omega), I_seto _ _ _ _ _ _ (by omega)]; exact w7 x' i' h1 h2⟩
/-- only the apportioner's cells change -/
def AW (h h' : gz_H) : Prop := h'.1 = h.1 ∧ (∀ x, gz_k h' x = gz_k h x) ∧ (∀ x, x < 4 ∨ 8 < x → sm h h' x) ∧ ac h'
theorem AW_rf {h : gz_H} (y : ac h) : AW h h := ⟨rfl, fun _ => rfl, fun _ _ => sm_rf _ _, y⟩
theorem AW_tr {h h' h'' : gz_H} (a : AW h h') (b : AW h' h'') : AW h h'' := ⟨b.1.trans a.1, fun x => (b.2.1 x).trans (a.2.1 x), fun x hx => ⟨(b.2.2.1 x hx).1.trans (a.2.2.1 x hx).1, (b.2.2.1 x hx).2.trans (a.2.2.1 x hx).2⟩, b.2.2.2⟩
theorem AW_I {h h' : gz_H} (a : AW h h') (b i : Nat) (x : Int32) (h5 : 5 ≤ b) (h8 : b ≤ 8) : AW h (gz_set h' b i (.int x)) := ⟨a.1, fun z => a.2.1 z, fun z hz => sm_set (a.2.2.1 z hz) (by omega), ac_I a.2.2.2 b i x h5 h8⟩
theorem AW_J {h h' : gz_H} (a : AW h h') (i : Nat) (x : Int64) (hi : i = 4 ∨ i = 5) : AW h (gz_set h' 4 i (.long x)) := ⟨a.1, fun z => a.2.1 z, fun z hz => sm_set (a.2.2.1 z hz) (by omega), ac_J a.2.2.2 i x hi⟩
theorem AW_cs {h h' : gz_H} {J : Nat} (a : AW h h') (c : cs h J) : cs h' J := by
  have e0 := a.2.2.1 0 (by omega)
  exact cs_fr (by rw [a.1]; exact Nat.le_refl _) (fun x _ => a.2.1 x) (fun f _ => by rw [e0.1]) (fun f h1 h2 => by rw [sm_I e0, e0.1]; exact c.2.2.2.2.2.2.2.2.2.2.2.2.2.2.2.2.2.2.2.2.2.1 f h1 h2) (fun i _ => by rw [(a.2.2.1 1 (by omega)).1]) c
/-- a junction and a plan that the apportioner looks at -/
def AX (h : gz_H) (JJ a S q n : Nat) (x Cn Rt : Nat → Nat) (W : Nat → Nat → Bool) : Prop := cs h JJ ∧ ac h ∧ jc h a S ∧ pc h q n ∧ (S ≤ 8 ∧ 2 ≤ n ∧ n ≤ 4 ∧ 55 ≤ a ∧ 55 ≤ q) ∧ (∀ i, i < S → gz_v h (a + 1) i = .ref (x i) ∧ 55 ≤ x i ∧ sc h (x i) ∧ gz_I h (x i) 1 = nI (Cn i) ∧ Cn i ≤ 3600 ∧ gz_I h (x i) 2 = nI (Rt i) ∧ 600 ≤ Rt i ∧ Rt i ≤ 3600) ∧ ∀ i s, i < S → s < n → W i s = bt (gz_I h (q + 1) s) i
theorem AX_AW {h h' : gz_H} {JJ a S q n : Nat} {x Cn Rt : Nat → Nat} {W : Nat → Nat → Bool} (w : AW h h') (H : AX h JJ a S q n x Cn Rt W) : AX h' JJ a S q n x Cn Rt W := by
  obtain ⟨c1, c2, c3, c4, c5, c6, c7⟩ := H
  have e : ∀ y, 55 ≤ y → sm h h' y := fun y hy => w.2.2.1 y (by omega)
  have m : h.1 ≤ h'.1 := by rw [w.1]; exact Nat.le_refl _
  refine ⟨AW_cs w c1, w.2.2.2, jc_sm m (fun k _ => e _ (by omega)) c3, pc_sm m (fun k _ => e _ (by omega)) c4, c5, fun i hi => ?_, fun i s hi hs => ?_⟩
  · obtain ⟨d1, d2, d3, d4, d5, d6, d7⟩ := c6 i hi
    exact ⟨by rw [(e _ (by omega)).1]; exact d1, d2, sc_sm m (e _ d2) d3, by rw [sm_I (e _ d2)]; exact d4, d5, by rw [sm_I (e _ d2)]; exact d6, d7⟩
  · rw [sm_I (e _ (by omega))]; exact c7 i s hi hs
/-- the row of stages of a stream -/
def rS (W : Nat → Nat → Bool) (n i : Nat) : Nat := bm (W i) n
def nR (Cn Rt : Nat → Nat) (C V i : Nat) : Nat := pu (Cn i * V) (Rt i * C)
theorem nR_le (Cn Rt : Nat → Nat) (C V i : Nat) : nR Cn Rt C V i ≤ 1000000 := Nat.min_le_left _ _
set_option maxHeartbeats 4000000 in
theorem st_ask {h0 : gz_H} {JJ a S q n : Nat} {x Cn Rt : Nat → Nat} {W : Nat → Nat → Bool} (H : AX h0 JJ a S q n x Cn Rt W) (C V : Nat) (hC : 0 < C) (hC2 : C ≤ 3600) (hV : V ≤ 324000) : ∃ h', se_X0_askForLoad [.ref 4, .ref a, .ref q, .long (lN C), .long (lN V)] h0 = some (none, h') ∧ AW h0 h' ∧ sm h0 h' 4 ∧ ∀ r, r < 16 → gz_I h' 5 r = nI (nds (nR Cn Rt C V) (rS W n) S r) := by
  have e0 : (0 : Int32) = nI 0 := rfl
  obtain ⟨e', h', q1, q2, q3, q4, q5⟩ := gz_forI (L := 3) (k := 8) (X := 27) (a := lb_X0_askForLoad_3) 16 (fun k e h => e = [.ref 4, .ref a, .ref q, .long (lN C), .double 0, .long (lN V), .double 0, .int (nI k)] ∧ AW h0 h ∧ sm h0 h 4 ∧ ∀ r, r < k → gz_I h 5 r = 0) (fun e h => e = [.ref 4, .ref a, .ref q, .long (lN C), .double 0, .long (lN V), .double 0, .int (nI 16)] ∧ AW h0 h ∧ sm h0 h 4 ∧ ∀ r, r < 16 → gz_I h 5 r = 0) (by decide) (by
    intro k e h hk ⟨ee, w, s4, r⟩
    subst ee
    obtain ⟨c1, c2, -⟩ := AX_AW w H
    have k1 : nI k < Int32.ofNat 16 := nI_lt (b := 16) hk (by decide)
    have d2 : ¬ nI k < 0 := nI_pos (by omega)
    have d3 : (nI k).toNatClampNeg = k := nI_clamp (by omega)
    refine ⟨[.ref 4, .ref a, .ref q, .long (lN C), .double 0, .long (lN V), .double 0, .int (nI (k + 1))], gz_set h 5 k (.int 0), ?_, rfl, AW_I w _ _ _ (by omega) (by omega), sm_set s4 (by omega), fun y hy => ?_⟩
    · simp only [lb_X0_askForLoad_3, gz_sem, gz_ae, Value.category, gz_i, gz_l, gz_nu, gz_li, gz_ll, gz_la, gz_ib, gz_iz, gz_lb, gz_lz, gz_ls, gz_lc, gz_i2l, gz_l2i, gz_get, gz_ald, gz_len, gz_dup, gz_d2, gz_nar, gz_a0, gz_a1, gz_cs, gz_cv, gz_mk, gz_te, gz_j1, gz_j2, gz_jn, gz_jk, gz_jo, gz_ja, gz_sat, gz_seti, gz_seta, gz_set2, gz_inc, gz_put, gz_ast, gz_pop, gz_vs, gz_vv, gz_sup, gz_rv, gz_ri, gz_rl, gz_ra, gz_if, gz_seq, gz_sw, gz_st, gz_st2, rok_I, rok_J, rok_V, rok_Z0, rok_Z1, rok_Zi, rok_R, rok_N, bi_rok, bi_0, bi_1, fit_I, fit_J, fit_Z0, fit_Z1, fit_Zi, fit_R, fit_N, fit_aR, aty_I, aty_Z0, aty_Z1, aty_Zi, aty_J, gz_ix, List.getElem?_cons_zero, List.getElem?_cons_succ, List.getElem?_nil, List.reverse_cons, List.reverse_nil, List.nil_append, List.cons_append, List.take_succ_cons, List.take_zero, List.take_nil, List.length_cons, List.length_nil, decide_true, decide_false, decide_not, Bool.not_true, Bool.not_false, gz_nle, if_true, if_false, and_true, true_and, and_self, and_false, false_and, or_true, true_or, or_false, false_or, Bool.false_eq_true, not_true, not_false_iff, Decidable.not_not, Nat.reduceLeDiff, Nat.reduceAdd, Nat.reduceEqDiff, Nat.reduceSub, Nat.reduceLT, Nat.zero_add, reduceCtorEq, reduceIte, eq_self, i32_10, i32_01, Nat.zero_le, Nat.one_ne_zero, c1, c2, k1, d2, d3, hk, nI_1]
    · rw [I_set]
      by_cases z : y = k
      · rw [if_pos ⟨rfl, z⟩]
      · rw [if_neg (fun u => z u.2)]; exact r y (by omega)) (by
    intro e h ⟨ee, w, s4, r⟩
    subst ee
    obtain ⟨c1, c2, -⟩ := AX_AW w H
    have k1 : ¬ nI 16 < Int32.ofNat 16 := by decide
    refine ⟨_, h, ?_, rfl, w, s4, r⟩
    simp only [lb_X0_askForLoad_3, gz_sem, gz_ae, Value.category, gz_i, gz_l, gz_nu, gz_li, gz_ll, gz_la, gz_ib, gz_iz, gz_lb, gz_lz, gz_ls, gz_lc, gz_i2l, gz_l2i, gz_get, gz_ald, gz_len, gz_dup, gz_d2, gz_nar, gz_a0, gz_a1, gz_cs, gz_cv, gz_mk, gz_te, gz_j1, gz_j2, gz_jn, gz_jk, gz_jo, gz_ja, gz_sat, gz_seti, gz_seta, gz_set2, gz_inc, gz_put, gz_ast, gz_pop, gz_vs, gz_vv, gz_sup, gz_rv, gz_ri, gz_rl, gz_ra, gz_if, gz_seq, gz_sw, gz_st, gz_st2, rok_I, rok_J, rok_V, rok_Z0, rok_Z1, rok_Zi, rok_R, rok_N, bi_rok, bi_0, bi_1, fit_I, fit_J, fit_Z0, fit_Z1, fit_Zi, fit_R, fit_N, fit_aR, aty_I, aty_Z0, aty_Z1, aty_Zi, aty_J, gz_ix, List.getElem?_cons_zero, List.getElem?_cons_succ, List.getElem?_nil, List.reverse_cons, List.reverse_nil, List.nil_append, List.cons_append, List.take_succ_cons, List.take_zero, List.take_nil, List.length_cons, List.length_nil, decide_true, decide_false, decide_not, Bool.not_true, Bool.not_false, gz_nle, if_true, if_false, and_true, true_and, and_self, and_false, false_and, or_true, true_or, or_false, false_or, Bool.false_eq_true, not_true, not_false_iff, Decidable.not_not, Nat.reduceLeDiff, Nat.reduceAdd, Nat.reduceEqDiff, Nat.reduceSub, Nat.reduceLT, Nat.zero_add, reduceCtorEq, reduceIte, eq_self, i32_10, i32_01, Nat.zero_le, Nat.one_ne_zero, c1, c2, k1]) 16 0 [.ref 4, .ref a, .ref q, .long (lN C), .double 0, .long (lN V), .double 0, .int (nI 0)] h0 (by omega) ⟨rfl, AW_rf H.2.1, sm_rf _ _, fun r hr => by omega⟩
  subst q2
  obtain ⟨e2, h2, s1, s2, s3, s4, s5⟩ := gz_forI (L := 30) (k := 8) (X := 103) (a := lb_X0_askForLoad_30) S (fun i e h => e = [.ref 4, .ref a, .ref q, .long (lN C), .double 0, .long (lN V), .double 0, .int (nI i)] ∧ AW h0 h ∧ sm h0 h 4 ∧ ∀ r, r < 16 → gz_I h 5 r = nI (nds (nR Cn Rt C V) (rS W n) i r)) (fun e h => e = [.ref 4, .ref a, .ref q, .long (lN C), .double 0, .long (lN V), .double 0, .int (nI S)] ∧ AW h0 h ∧ sm h0 h 4 ∧ ∀ r, r < 16 → gz_I h 5 r = nI (nds (nR Cn Rt C V) (rS W n) S r)) (by decide) (by
    intro i e h hi ⟨ee, w, s4, r⟩
    subst ee
    have HX := AX_AW w H
    obtain ⟨c1, c2, c3, c4, ⟨c5, c5b, c5c, -⟩, c6, c7⟩ := AX_AW w H
    obtain ⟨d1, d2, d3, d4, d5, d6, d7, d8⟩ := c6 i hi
    have k1 : nI i < nI S := nI_lt hi (by omega)
    have i2 : ¬ nI i < 0 := nI_pos (by omega)
    have i3 : (nI i).toNatClampNeg = i := nI_clamp (by omega)
    have i4 : i < 8 := by omega
    have sw := st_sw c4 c5c i4 (W i) (fun s hs => c7 i s hi hs)
    have rl := bm_16 (f := W i) c5c
    have r2 : ¬ nI (bm (W i) n) < 0 := nI_pos (by omega)
    have r3 : (nI (bm (W i) n)).toNatClampNeg = bm (W i) n := nI_clamp (by omega)
    have l1 : (nI (Cn i)).toInt64 = lN (Cn i) := nI_l (by omega)
    have l2 : (nI (Rt i)).toInt64 = lN (Rt i) := nI_l (by omega)
    have l3 : lN (Cn i) * lN V = lN (Cn i * V) := lN_mul _ _
    have l4 : lN (Rt i) * lN C = lN (Rt i * C) := lN_mul _ _
    have b1 : Cn i * V ≤ 3600 * 324000 := Nat.mul_le_mul d5 hV
    have b2 : Rt i * C ≤ 3600 * 3600 := Nat.mul_le_mul d8 hC2
    have b3 : 0 < Rt i * C := Nat.mul_pos (by omega) hC
    have pp := st_pu (w := Cn i * V) (p := Rt i * C) b3 (by omega) (by omega) h
    have nb := nR_le Cn Rt C V i
    have nd : nds (nR Cn Rt C V) (rS W n) i (bm (W i) n) ≤ 1000000 := (nds_le i).mpr (fun k _ _ => nR_le Cn Rt C V k)
    have rr := r (bm (W i) n) rl
    have mx := st_max (nI (nds (nR Cn Rt C V) (rS W n) i (bm (W i) n))) (nI (nR Cn Rt C V i)) h
    rw [mx_nI (by omega) (by omega)] at mx
    have en : nI (pu (Cn i * V) (Rt i * C)) = nI (nR Cn Rt C V i) := rfl
    rw [en] at pp
    refine ⟨[.ref 4, .ref a, .ref q, .long (lN C), .double 0, .long (lN V), .double 0, .int (nI (i + 1)), .ref (x i), .int (nI (bm (W i) n)), .int (nI (nR Cn Rt C V i))], gz_set h 5 (bm (W i) n) (.int (nI (max (nds (nR Cn Rt C V) (rS W n) i (bm (W i) n)) (nR Cn Rt C V i)))), ?_, rfl, AW_I w _ _ _ (by omega) (by omega), sm_set s4 (by omega), fun y hy => ?_⟩
    · simp only [lb_X0_askForLoad_30, gz_sem, gz_ae, Value.category, gz_i, gz_l, gz_nu, gz_li, gz_ll, gz_la, gz_ib, gz_iz, gz_lb, gz_lz, gz_ls, gz_lc, gz_i2l, gz_l2i, gz_get, gz_ald, gz_len, gz_dup, gz_d2, gz_nar, gz_a0, gz_a1, gz_cs, gz_cv, gz_mk, gz_te, gz_j1, gz_j2, gz_jn, gz_jk, gz_jo, gz_ja, gz_sat, gz_seti, gz_seta, gz_set2, gz_inc, gz_put, gz_ast, gz_pop, gz_vs, gz_vv, gz_sup, gz_rv, gz_ri, gz_rl, gz_ra, gz_if, gz_seq, gz_sw, gz_st, gz_st2, rok_I, rok_J, rok_V, rok_Z0, rok_Z1, rok_Zi, rok_R, rok_N, bi_rok, bi_0, bi_1, fit_I, fit_J, fit_Z0, fit_Z1, fit_Zi, fit_R, fit_N, fit_aR, aty_I, aty_Z0, aty_Z1, aty_Zi, aty_J, gz_ix, List.getElem?_cons_zero, List.getElem?_cons_succ, List.getElem?_nil, List.reverse_cons, List.reverse_nil, List.nil_append, List.cons_append, List.take_succ_cons, List.take_zero, List.take_nil, List.length_cons, List.length_nil, decide_true, decide_false, decide_not, Bool.not_true, Bool.not_false, gz_nle, if_true, if_false, and_true, true_and, and_self, and_false, false_and, or_true, true_or, or_false, false_or, Bool.false_eq_true, not_true, not_false_iff, Decidable.not_not, Nat.reduceLeDiff, Nat.reduceAdd, Nat.reduceEqDiff, Nat.reduceSub, Nat.reduceLT, Nat.zero_add, reduceCtorEq, reduceIte, eq_self, i32_10, i32_01, Nat.zero_le, Nat.one_ne_zero, c1, c2, c3, c4, k1, i2, i3, i4, d1, d3, d4, d6, sw, l1, l2, l3, l4, pp, r2, r3, rl, rr, mx, nI_1]
    · rw [I_set]
      show _ = nI (if bm (W i) n = y then _ else _)
      by_cases z : bm (W i) n = y
      · rw [if_pos ⟨rfl, z.symm⟩, if_pos z, z]
      · rw [if_neg (fun u => z u.2.symm), if_neg z]; exact r y hy) (by
    intro e h ⟨ee, w, s4, r⟩
    subst ee
    obtain ⟨c1, c2, c3, c4, ⟨c5, -⟩, -⟩ := AX_AW w H
    have k1 : ¬ nI S < nI S := nI_nlt (Nat.le_refl _) (by omega)
    refine ⟨_, h, ?_, rfl, w, s4, r⟩
    simp only [lb_X0_askForLoad_30, gz_sem, gz_ae, Value.category, gz_i, gz_l, gz_nu, gz_li, gz_ll, gz_la, gz_ib, gz_iz, gz_lb, gz_lz, gz_ls, gz_lc, gz_i2l, gz_l2i, gz_get, gz_ald, gz_len, gz_dup, gz_d2, gz_nar, gz_a0, gz_a1, gz_cs, gz_cv, gz_mk, gz_te, gz_j1, gz_j2, gz_jn, gz_jk, gz_jo, gz_ja, gz_sat, gz_seti, gz_seta, gz_set2, gz_inc, gz_put, gz_ast, gz_pop, gz_vs, gz_vv, gz_sup, gz_rv, gz_ri, gz_rl, gz_ra, gz_if, gz_seq, gz_sw, gz_st, gz_st2, rok_I, rok_J, rok_V, rok_Z0, rok_Z1, rok_Zi, rok_R, rok_N, bi_rok, bi_0, bi_1, fit_I, fit_J, fit_Z0, fit_Z1, fit_Zi, fit_R, fit_N, fit_aR, aty_I, aty_Z0, aty_Z1, aty_Zi, aty_J, gz_ix, List.getElem?_cons_zero, List.getElem?_cons_succ, List.getElem?_nil, List.reverse_cons, List.reverse_nil, List.nil_append, List.cons_append, List.take_succ_cons, List.take_zero, List.take_nil, List.length_cons, List.length_nil, decide_true, decide_false, decide_not, Bool.not_true, Bool.not_false, gz_nle, if_true, if_false, and_true, true_and, and_self, and_false, false_and, or_true, true_or, or_false, false_or, Bool.false_eq_true, not_true, not_false_iff, Decidable.not_not, Nat.reduceLeDiff, Nat.reduceAdd, Nat.reduceEqDiff, Nat.reduceSub, Nat.reduceLT, Nat.zero_add, reduceCtorEq, reduceIte, eq_self, i32_10, i32_01, Nat.zero_le, Nat.one_ne_zero, c1, c2, c3, k1]) S 0 [.ref 4, .ref a, .ref q, .long (lN C), .double 0, .long (lN V), .double 0, .int (nI 0)] h' (by omega) ⟨rfl, q3, q4, fun r hr => q5 r hr⟩
  rw [← e0] at q1 s1
  refine ⟨h2, ?_, s3, s4, s5⟩
  simp only [se_X0_askForLoad, sm_X0_askForLoad, gz_sem, gz_ae, Value.category, gz_i, gz_l, gz_nu, gz_li, gz_ll, gz_la, gz_ib, gz_iz, gz_lb, gz_lz, gz_ls, gz_lc, gz_i2l, gz_l2i, gz_get, gz_ald, gz_len, gz_dup, gz_d2, gz_nar, gz_a0, gz_a1, gz_cs, gz_cv, gz_mk, gz_te, gz_j1, gz_j2, gz_jn, gz_jk, gz_jo, gz_ja, gz_sat, gz_seti, gz_seta, gz_set2, gz_inc, gz_put, gz_ast, gz_pop, gz_vs, gz_vv, gz_sup, gz_rv, gz_ri, gz_rl, gz_ra, gz_if, gz_seq, gz_sw, gz_st, gz_st2, rok_I, rok_J, rok_V, rok_Z0, rok_Z1, rok_Zi, rok_R, rok_N, bi_rok, bi_0, bi_1, fit_I, fit_J, fit_Z0, fit_Z1, fit_Zi, fit_R, fit_N, fit_aR, aty_I, aty_Z0, aty_Z1, aty_Zi, aty_J, gz_ix, List.getElem?_cons_zero, List.getElem?_cons_succ, List.getElem?_nil, List.reverse_cons, List.reverse_nil, List.nil_append, List.cons_append, List.take_succ_cons, List.take_zero, List.take_nil, List.length_cons, List.length_nil, decide_true, decide_false, decide_not, Bool.not_true, Bool.not_false, gz_nle, if_true, if_false, and_true, true_and, and_self, and_false, false_and, or_true, true_or, or_false, false_or, Bool.false_eq_true, not_true, not_false_iff, Decidable.not_not, Nat.reduceLeDiff, Nat.reduceAdd, Nat.reduceEqDiff, Nat.reduceSub, Nat.reduceLT, Nat.zero_add, reduceCtorEq, reduceIte, eq_self, i32_10, i32_01, Nat.zero_le, Nat.one_ne_zero, q1, s1]
