def nwX3 (h : gz_H) (k c r l : Int32) : gz_H := gz_set (gz_set (gz_set (gz_set (gz_new h (3, 14) (fun j => defaultValue (tyX3 j))) h.1 0 (.int k)) h.1 1 (.int c)) h.1 2 (.int r)) h.1 3 (.int l)
set_option maxHeartbeats 4000000 in
theorem nw_X3 (h : gz_H) (k c r l : Int32) : se_X3_init [.ref h.1, .int k, .int c, .int r, .int l] (gz_new h (3, 14) (fun j => defaultValue (tyX3 j))) = some (none, nwX3 h k c (if k = 2 then 3600 else if k = 3 then 1200 else r) (if k = 2 then gz_mx 8 l else if k = 1 then gz_mx 5 l else l)) := by
  have l1 : h.1 < h.1 + 1 := by omega
  have n32 : ((3 : Int32) = 2) = False := by decide
  have n31 : ((3 : Int32) = 1) = False := by decide
  have n12 : ((1 : Int32) = 2) = False := by decide
  have n13 : ((1 : Int32) = 3) = False := by decide
  by_cases k2 : k = 2
  · subst k2
    simp only [se_X3_init, sm_X3_init, gz_sem, gz_ae, Value.category, gz_i, gz_l, gz_nu, gz_li, gz_ll, gz_la, gz_ib, gz_iz, gz_lb, gz_lz, gz_ls, gz_lc, gz_i2l, gz_l2i, gz_get, gz_ald, gz_len, gz_dup, gz_d2, gz_nar, gz_a0, gz_a1, gz_cs, gz_cv, gz_mk, gz_te, gz_j1, gz_j2, gz_jn, gz_jk, gz_jo, gz_ja, gz_sat, gz_seti, gz_seta, gz_set2, gz_inc, gz_put, gz_ast, gz_pop, gz_vs, gz_vv, gz_sup, gz_rv, gz_ri, gz_rl, gz_ra, gz_if, gz_seq, gz_sw, gz_st, gz_st2, rok_I, rok_J, rok_V, rok_Z0, rok_Z1, rok_Zi, rok_R, rok_N, bi_rok, bi_0, bi_1, fit_I, fit_J, fit_Z0, fit_Z1, fit_Zi, fit_R, fit_N, fit_aR, aty_I, aty_Z0, aty_Z1, aty_Zi, aty_J, gz_ix, List.getElem?_cons_zero, List.getElem?_cons_succ, List.getElem?_nil, List.reverse_cons, List.reverse_nil, List.nil_append, List.cons_append, List.take_succ_cons, List.take_zero, List.take_nil, List.length_cons, List.length_nil, decide_true, decide_false, decide_not, Bool.not_true, Bool.not_false, gz_nle, if_true, if_false, and_true, true_and, and_self, and_false, false_and, or_true, true_or, or_false, false_or, Bool.false_eq_true, not_true, not_false_iff, Decidable.not_not, Nat.reduceLeDiff, Nat.reduceAdd, Nat.reduceEqDiff, Nat.reduceSub, Nat.reduceLT, Nat.zero_add, reduceCtorEq, reduceIte, eq_self, i32_10, i32_01, Nat.zero_le, Nat.one_ne_zero, gz_n_set, gz_n_new, gz_k_set, gz_k_new, l1, st_max, nwX3]
  by_cases k3 : k = 3
  · subst k3
    simp only [se_X3_init, sm_X3_init, gz_sem, gz_ae, Value.category, gz_i, gz_l, gz_nu, gz_li, gz_ll, gz_la, gz_ib, gz_iz, gz_lb, gz_lz, gz_ls, gz_lc, gz_i2l, gz_l2i, gz_get, gz_ald, gz_len, gz_dup, gz_d2, gz_nar, gz_a0, gz_a1, gz_cs, gz_cv, gz_mk, gz_te, gz_j1, gz_j2, gz_jn, gz_jk, gz_jo, gz_ja, gz_sat, gz_seti, gz_seta, gz_set2, gz_inc, gz_put, gz_ast, gz_pop, gz_vs, gz_vv, gz_sup, gz_rv, gz_ri, gz_rl, gz_ra, gz_if, gz_seq, gz_sw, gz_st, gz_st2, rok_I, rok_J, rok_V, rok_Z0, rok_Z1, rok_Zi, rok_R, rok_N, bi_rok, bi_0, bi_1, fit_I, fit_J, fit_Z0, fit_Z1, fit_Zi, fit_R, fit_N, fit_aR, aty_I, aty_Z0, aty_Z1, aty_Zi, aty_J, gz_ix, List.getElem?_cons_zero, List.getElem?_cons_succ, List.getElem?_nil, List.reverse_cons, List.reverse_nil, List.nil_append, List.cons_append, List.take_succ_cons, List.take_zero, List.take_nil, List.length_cons, List.length_nil, decide_true, decide_false, decide_not, Bool.not_true, Bool.not_false, gz_nle, if_true, if_false, and_true, true_and, and_self, and_false, false_and, or_true, true_or, or_false, false_or, Bool.false_eq_true, not_true, not_false_iff, Decidable.not_not, Nat.reduceLeDiff, Nat.reduceAdd, Nat.reduceEqDiff, Nat.reduceSub, Nat.reduceLT, Nat.zero_add, reduceCtorEq, reduceIte, eq_self, i32_10, i32_01, Nat.zero_le, Nat.one_ne_zero, gz_n_set, gz_n_new, gz_k_set, gz_k_new, l1, n32, n31, st_max, nwX3]
  by_cases k1 : k = 1
  · subst k1
    simp only [se_X3_init, sm_X3_init, gz_sem, gz_ae, Value.category, gz_i, gz_l, gz_nu, gz_li, gz_ll, gz_la, gz_ib, gz_iz, gz_lb, gz_lz, gz_ls, gz_lc, gz_i2l, gz_l2i, gz_get, gz_ald, gz_len, gz_dup, gz_d2, gz_nar, gz_a0, gz_a1, gz_cs, gz_cv, gz_mk, gz_te, gz_j1, gz_j2, gz_jn, gz_jk, gz_jo, gz_ja, gz_sat, gz_seti, gz_seta, gz_set2, gz_inc, gz_put, gz_ast, gz_pop, gz_vs, gz_vv, gz_sup, gz_rv, gz_ri, gz_rl, gz_ra, gz_if, gz_seq, gz_sw, gz_st, gz_st2, rok_I, rok_J, rok_V, rok_Z0, rok_Z1, rok_Zi, rok_R, rok_N, bi_rok, bi_0, bi_1, fit_I, fit_J, fit_Z0, fit_Z1, fit_Zi, fit_R, fit_N, fit_aR, aty_I, aty_Z0, aty_Z1, aty_Zi, aty_J, gz_ix, List.getElem?_cons_zero, List.getElem?_cons_succ, List.getElem?_nil, List.reverse_cons, List.reverse_nil, List.nil_append, List.cons_append, List.take_succ_cons, List.take_zero, List.take_nil, List.length_cons, List.length_nil, decide_true, decide_false, decide_not, Bool.not_true, Bool.not_false, gz_nle, if_true, if_false, and_true, true_and, and_self, and_false, false_and, or_true, true_or, or_false, false_or, Bool.false_eq_true, not_true, not_false_iff, Decidable.not_not, Nat.reduceLeDiff, Nat.reduceAdd, Nat.reduceEqDiff, Nat.reduceSub, Nat.reduceLT, Nat.zero_add, reduceCtorEq, reduceIte, eq_self, i32_10, i32_01, Nat.zero_le, Nat.one_ne_zero, gz_n_set, gz_n_new, gz_k_set, gz_k_new, l1, n12, n13, st_max, nwX3]
  simp only [se_X3_init, sm_X3_init, gz_sem, gz_ae, Value.category, gz_i, gz_l, gz_nu, gz_li, gz_ll, gz_la, gz_ib, gz_iz, gz_lb, gz_lz, gz_ls, gz_lc, gz_i2l, gz_l2i, gz_get, gz_ald, gz_len, gz_dup, gz_d2, gz_nar, gz_a0, gz_a1, gz_cs, gz_cv, gz_mk, gz_te, gz_j1, gz_j2, gz_jn, gz_jk, gz_jo, gz_ja, gz_sat, gz_seti, gz_seta, gz_set2, gz_inc, gz_put, gz_ast, gz_pop, gz_vs, gz_vv, gz_sup, gz_rv, gz_ri, gz_rl, gz_ra, gz_if, gz_seq, gz_sw, gz_st, gz_st2, rok_I, rok_J, rok_V, rok_Z0, rok_Z1, rok_Zi, rok_R, rok_N, bi_rok, bi_0, bi_1, fit_I, fit_J, fit_Z0, fit_Z1, fit_Zi, fit_R, fit_N, fit_aR, aty_I, aty_Z0, aty_Z1, aty_Zi, aty_J, gz_ix, List.getElem?_cons_zero, List.getElem?_cons_succ, List.getElem?_nil, List.reverse_cons, List.reverse_nil, List.nil_append, List.cons_append, List.take_succ_cons, List.take_zero, List.take_nil, List.length_cons, List.length_nil, decide_true, decide_false, decide_not, Bool.not_true, Bool.not_false, gz_nle, if_true, if_false, and_true, true_and, and_self, and_false, false_and, or_true, true_or, or_false, false_or, Bool.false_eq_true, not_true, not_false_iff, Decidable.not_not, Nat.reduceLeDiff, Nat.reduceAdd, Nat.reduceEqDiff, Nat.reduceSub, Nat.reduceLT, Nat.zero_add, reduceCtorEq, reduceIte, eq_self, i32_10, i32_01, Nat.zero_le, Nat.one_ne_zero, gz_n_set, gz_n_new, gz_k_set, gz_k_new, l1, k1, k2, k3, st_max, nwX3]
theorem nwX3_n (h : gz_H) (k c r l : Int32) : (nwX3 h k c r l).1 = h.1 + 1 := rfl
theorem nwX3_sm (h : gz_H) (k c r l : Int32) {x : Nat} (hx : x < h.1) : sm h (nwX3 h k c r l) x := by
  unfold nwX3
  refine sm_set (sm_set (sm_set (sm_set (sm_new (sm_rf _ _) ?_) ?_) ?_) ?_) ?_
  all_goals omega
theorem nwX3_v (h : gz_H) (k c r l : Int32) : gz_v (nwX3 h k c r l) h.1 0 = .int k ∧ gz_v (nwX3 h k c r l) h.1 1 = .int c ∧ gz_v (nwX3 h k c r l) h.1 2 = .int r ∧ gz_v (nwX3 h k c r l) h.1 3 = .int l ∧ gz_v (nwX3 h k c r l) h.1 4 = .null ∧ gz_v (nwX3 h k c r l) h.1 5 = .null ∧ (∀ f, 6 ≤ f → f ≤ 12 → gz_v (nwX3 h k c r l) h.1 f = .int 0) ∧ gz_v (nwX3 h k c r l) h.1 13 = .long 0 ∧ gz_k (nwX3 h k c r l) h.1 = (3, 14) := by
  refine ⟨?_, ?_, ?_, ?_, ?_, ?_, fun f h1 h2 => ?_, ?_, ?_⟩
  case refine_7 =>
    have : f = 6 ∨ f = 7 ∨ f = 8 ∨ f = 9 ∨ f = 10 ∨ f = 11 ∨ f = 12 := by omega
    rcases this with rfl | rfl | rfl | rfl | rfl | rfl | rfl <;> (simp [nwX3, gz_v_set, gz_v_new] <;> rfl)
  all_goals (simp [nwX3, gz_v_set, gz_v_new, gz_k_set, gz_k_new] <;> rfl)
theorem nwX3_sc (h : gz_H) (k c r l : Int32) : sc (nwX3 h k c r l) h.1 := by
  obtain ⟨v0, v1, v2, v3, v4, v5, v6, v13, kk⟩ := nwX3_v h k c r l
  have t : ∀ f x, gz_v (nwX3 h k c r l) h.1 f = .int x → gz_v (nwX3 h k c r l) h.1 f = .int (gz_I (nwX3 h k c r l) h.1 f) := fun f x e => by rw [gz_I_of e]; exact e
  refine ⟨by rw [nwX3_n]; omega, kk, fun f hf => ?_, fun f h1 h2 => t f 0 (v6 f h1 h2), ?_⟩
  · have : f = 0 ∨ f = 1 ∨ f = 2 ∨ f = 3 := by omega
    rcases this with rfl | rfl | rfl | rfl
    · exact t _ _ v0
    · exact t _ _ v1
    · exact t _ _ v2
    · exact t _ _ v3
  · have : gz_J (nwX3 h k c r l) h.1 13 = 0 := by unfold gz_J; rw [v13]
    rw [this]; exact v13
set_option maxHeartbeats 4000000 in
theorem st_X1_add (h : gz_H) (a S s : Nat) (c : jc h a S) (h8 : S < 8) (hs : s < h.1) (hk : gz_k h s = (3, 14)) : se_X1_add [.ref a, .ref s] h = some (some (.int (nI S)), gz_set (gz_set h (a + 1) S (.ref s)) a 5 (.int (nI (S + 1)))) := by
  have d2 : ¬ nI S < 0 := nI_pos (by omega)
  have d3 : (nI S).toNatClampNeg = S := nI_clamp (by omega)
  have at3 : gz_aty 103 h (.ref s) = true := by
    show decide (_ ∧ _) = true
    rw [decide_eq_true_eq]
    exact ⟨hs, by rw [hk]⟩
  have o1 : ∀ i, gz_v (gz_set h (a + 1) S (.ref s)) a i = gz_v h a i := fun i => by rw [gz_v_set, if_neg (by omega)]
  have o2 : gz_v (gz_set (gz_set h (a + 1) S (.ref s)) a 5 (.int (nI (S + 1)))) a 5 = .int (nI (S + 1)) := by rw [gz_v_set, if_pos ⟨rfl, rfl⟩]
  have pm : nI (S + 1) - 1 = nI S := nI_pred S
  simp only [se_X1_add, sm_X1_add, gz_sem, gz_ae, Value.category, gz_i, gz_l, gz_nu, gz_li, gz_ll, gz_la, gz_ib, gz_iz, gz_lb, gz_lz, gz_ls, gz_lc, gz_i2l, gz_l2i, gz_get, gz_ald, gz_len, gz_dup, gz_d2, gz_nar, gz_a0, gz_a1, gz_cs, gz_cv, gz_mk, gz_te, gz_j1, gz_j2, gz_jn, gz_jk, gz_jo, gz_ja, gz_sat, gz_seti, gz_seta, gz_set2, gz_inc, gz_put, gz_ast, gz_pop, gz_vs, gz_vv, gz_sup, gz_rv, gz_ri, gz_rl, gz_ra, gz_if, gz_seq, gz_sw, gz_st, gz_st2, rok_I, rok_J, rok_V, rok_Z0, rok_Z1, rok_Zi, rok_R, rok_N, bi_rok, bi_0, bi_1, fit_I, fit_J, fit_Z0, fit_Z1, fit_Zi, fit_R, fit_N, fit_aR, aty_I, aty_Z0, aty_Z1, aty_Zi, aty_J, gz_ix, List.getElem?_cons_zero, List.getElem?_cons_succ, List.getElem?_nil, List.reverse_cons, List.reverse_nil, List.nil_append, List.cons_append, List.take_succ_cons, List.take_zero, List.take_nil, List.length_cons, List.length_nil, decide_true, decide_false, decide_not, Bool.not_true, Bool.not_false, gz_nle, if_true, if_false, and_true, true_and, and_self, and_false, false_and, or_true, true_or, or_false, false_or, Bool.false_eq_true, not_true, not_false_iff, Decidable.not_not, Nat.reduceLeDiff, Nat.reduceAdd, Nat.reduceEqDiff, Nat.reduceSub, Nat.reduceLT, Nat.zero_add, reduceCtorEq, reduceIte, eq_self, i32_10, i32_01, Nat.zero_le, Nat.one_ne_zero, c, d2, d3, h8, at3, o1, o2, gz_n_set, gz_k_set, nI_1, pm]
theorem jc_add {h : gz_H} {a S s : Nat} (c : jc h a S) : jc (gz_set (gz_set h (a + 1) S (.ref s)) a 5 (.int (nI (S + 1)))) a (S + 1) := by
  obtain ⟨c1, c2, c3, c4, c5, c6, k1, k2, k3, k4, k5, k6, v0, v1, v2, v3, v4, v5, t1, t2, t3, t4⟩ := c
  have o : ∀ b i, ¬ (b = a + 1 ∧ i = S) → ¬ (b = a ∧ i = 5) → gz_v (gz_set (gz_set h (a + 1) S (.ref s)) a 5 (.int (nI (S + 1)))) b i = gz_v h b i := fun b i n1 n2 => by rw [gz_v_set, if_neg n2, gz_v_set, if_neg n1]
  have ti : ∀ b, b ≠ a → b ≠ a + 1 → (∀ i, gz_v h b i = .int (gz_I h b i)) → ∀ i, gz_v (gz_set (gz_set h (a + 1) S (.ref s)) a 5 (.int (nI (S + 1)))) b i = .int (gz_I (gz_set (gz_set h (a + 1) S (.ref s)) a 5 (.int (nI (S + 1)))) b i) := fun b h1 h2 hx i => by
    rw [vI (o b i (by omega) (by omega)), o b i (by omega) (by omega)]; exact hx i
  exact ⟨c1, c2, c3, c4, c5, c6, k1, k2, k3, k4, k5, k6, by rw [o _ _ (by omega) (by omega)]; exact v0, by rw [o _ _ (by omega) (by omega)]; exact v1, by rw [o _ _ (by omega) (by omega)]; exact v2, by rw [o _ _ (by omega) (by omega)]; exact v3, by rw [o _ _ (by omega) (by omega)]; exact v4, by rw [gz_v_set, if_pos ⟨rfl, rfl⟩], ti _ (by omega) (by omega) t1, ti _ (by omega) (by omega) t2, ti _ (by omega) (by omega) t3, ti _ (by omega) (by omega) t4⟩
