theorem RW_54 {hr R : gz_H} (w : RW hr R) (k : Nat) (x : Int32) : RW hr (gz_set R 54 k (.int x)) := ⟨md_setI w.1 _ _ _ (by omega), fr7_set w.2.1 (by omega), fun b i h1 h2 h3 => by rw [gz_v_set, if_neg (fun z => h2 z.1)]; exact w.2.2 b i h1 h2 h3⟩
theorem RW_53 {hr R : gz_H} (w : RW hr R) (k : Nat) (x : Int32) : RW hr (gz_set R 53 k (.int x)) := ⟨md_setI w.1 _ _ _ (by omega), fr7_set w.2.1 (by omega), fun b i h1 h2 h3 => by rw [gz_v_set, if_neg (fun z => h1 z.1)]; exact w.2.2 b i h1 h2 h3⟩
theorem RW_47 {hr R : gz_H} (w : RW hr R) (x : Int32) : RW hr (gz_set R 15 47 (.int x)) := ⟨md_set15 w.1 _ _ (by omega), fr7_set w.2.1 (by omega), fun b i h1 h2 h3 => by rw [gz_v_set, if_neg h3]; exact w.2.2 b i h1 h2 h3⟩
/-- one stop in the reference -/
def S8 (g : gz_G) (hr : gz_H) (A : Int32) (j j0 t8 t9 : Nat) : Prop := A = nI j ∧ j < g 7 0 ∧ t8 % 10 < g 6 j ∧ t9 % 10 < g 6 j ∧ gz_I hr 23 (8 + j) = 1 ∧ gz_I hr 24 (8 + j) = gz_I hr 24 (8 + j0)
set_option maxHeartbeats 8000000 in
theorem wstep {g : gz_G} {T : Nat} {P : Nat → Nat} {hc hr R : gz_H} (H : IV g T P hc hr) (w : RW hr R) (K k : Nat) (hk : k < K) (K3 : K ≤ 3) (e47 : gz_I R 15 47 = nI K) (a A : Int32) (e53 : gz_I R 53 k = A) (b c x y p q : Int32) (t8 t9 : Nat) (b8 : t8 < 2 ^ 31) (b9 : t9 < 2 ^ 31) (j0 : Nat) (hj0 : (a = A ∧ ∀ j, A = nI j → j < g 7 0 → j0 = j) ∨ (a = nI j0 ∧ j0 < g 7 0)) : (¬ (∃ j, S8 g hr A j j0 t8 t9) ∧ lb_X8_isWay_118 ([Value.ref 15, .int a, .int b, .int c, .int x, .int y, .int p, .int q, .int (nI t8), .int (nI t9), .int (nI k)].take 11) R = some (.inr (some (.int 0), R))) ∨ (∃ j, S8 g hr A j j0 t8 t9 ∧ lb_X8_isWay_118 ([Value.ref 15, .int a, .int b, .int c, .int x, .int y, .int p, .int q, .int (nI t8), .int (nI t9), .int (nI k)].take 11) R = some (.inl (118, [.ref 15, .int a, .int b, .int c, .int x, .int y, .int p, .int q, .int (nI (t8 / 10)), .int (nI (t9 / 10)), .int (nI (k + 1))], gz_set R 54 k (.int (gz_I hr 28 (8 + j)))))) := by
  have HR := IV_rw H w
  have m := w.1
  have h8 := IV_8 H
  have g10 : ((10 : Int32) = 0) = False := by decide
  have k1 : nI k < nI K := nI_lt hk (by omega)
  have d2 : ¬ nI k < 0 := nI_pos (by omega)
  have d3 : (nI k).toNatClampNeg = k := nI_clamp (by omega)
  have d4 : k < 3 := by omega
  have v8 : nI t8 / 10 = nI (t8 / 10) := pk_div (d := 10) b8 (by omega) (by omega)
  have v9 : nI t9 / 10 = nI (t9 / 10) := pk_div (d := 10) b9 (by omega) (by omega)
  have m8 : nI t8 - nI (t8 / 10) * 10 = nI (t8 % 10) := by rw [← v8]; exact pk_rem (d := 10) b8 (by omega) (by omega)
  have m9 : nI t9 - nI (t9 / 10) * 10 = nI (t9 % 10) := by rw [← v9]; exact pk_rem (d := 10) b9 (by omega) (by omega)
  have r23 : ∀ i, gz_I R 23 i = gz_I hr 23 i := fun i => vI (w.2.2 _ _ (by omega) (by omega) (by omega))
  have r24 : ∀ i, gz_I R 24 i = gz_I hr 24 i := fun i => vI (w.2.2 _ _ (by omega) (by omega) (by omega))
  have r28 : ∀ i, gz_I R 28 i = gz_I hr 28 i := fun i => vI (w.2.2 _ _ (by omega) (by omega) (by omega))
  rcases ja_cs h8 A with hx | ⟨j, hj, ej⟩
  · have i0 := (is_no HR hx (nI (t8 % 10))).2
    refine Or.inl ⟨fun ⟨j, z1, z2, _⟩ => ?_, ?_⟩
    · rw [z1] at hx
      exact hx.elim (nI_pos (by omega)) (fun u => u (nI_lt z2 (by omega)))
    · simp only [lb_X8_isWay_118, gz_sem, gz_ae, Value.category, gz_i, gz_l, gz_nu, gz_li, gz_ll, gz_la, gz_ib, gz_iz, gz_lb, gz_lz, gz_ls, gz_lc, gz_i2l, gz_l2i, gz_get, gz_ald, gz_len, gz_dup, gz_d2, gz_nar, gz_a0, gz_a1, gz_cs, gz_cv, gz_mk, gz_te, gz_j1, gz_j2, gz_jn, gz_jk, gz_jo, gz_ja, gz_sat, gz_seti, gz_seta, gz_set2, gz_inc, gz_put, gz_ast, gz_pop, gz_vs, gz_vv, gz_sup, gz_rv, gz_ri, gz_rl, gz_ra, gz_if, gz_seq, gz_sw, gz_st, gz_st2, rok_I, rok_J, rok_V, rok_Z0, rok_Z1, rok_Zi, rok_R, rok_N, bi_rok, bi_0, bi_1, fit_I, fit_J, fit_Z0, fit_Z1, fit_Zi, fit_R, fit_N, fit_aR, aty_I, aty_Z0, aty_Z1, aty_Zi, aty_J, gz_ix, List.getElem?_cons_zero, List.getElem?_cons_succ, List.getElem?_nil, List.reverse_cons, List.reverse_nil, List.nil_append, List.cons_append, List.take_succ_cons, List.take_zero, List.take_nil, List.length_cons, List.length_nil, decide_true, decide_false, decide_not, Bool.not_true, Bool.not_false, gz_nle, if_true, if_false, and_true, true_and, and_self, and_false, false_and, or_true, true_or, or_false, false_or, Bool.false_eq_true, not_true, not_false_iff, Decidable.not_not, Nat.reduceLeDiff, Nat.reduceAdd, Nat.reduceEqDiff, Nat.reduceSub, Nat.reduceLT, Nat.zero_add, reduceCtorEq, reduceIte, eq_self, i32_10, i32_01, Nat.zero_le, Nat.one_ne_zero, m, md_k, e47, k1, d2, d3, d4, e53, g10, v8, m8, i0]
  subst ej
  have inj : ∀ j', nI j = nI j' → j' < g 7 0 → j' = j := fun j' z hj' => ((nI_eq (by omega) (by omega)).mp z).symm
  have fail : ∀ (r : lb_X8_isWay_118 ([Value.ref 15, .int a, .int b, .int c, .int x, .int y, .int p, .int q, .int (nI t8), .int (nI t9), .int (nI k)].take 11) R = some (.inr (some (.int 0), R))) (n : ¬ S8 g hr (nI j) j j0 t8 t9), (¬ (∃ j', S8 g hr (nI j) j' j0 t8 t9) ∧ lb_X8_isWay_118 ([Value.ref 15, .int a, .int b, .int c, .int x, .int y, .int p, .int q, .int (nI t8), .int (nI t9), .int (nI k)].take 11) R = some (.inr (some (.int 0), R))) := fun r n => ⟨fun ⟨j', z⟩ => n (by have := inj j' z.1 z.2.1; rw [this] at z; exact z), r⟩
  rcases ja_cs (IV_S H j) (nI (t8 % 10)) with hy | ⟨i0, hi0, e8⟩
  · have i0 := (mb_no HR hj hy).2.2
    refine Or.inl (fail ?_ (fun z => ?_))
    · simp only [lb_X8_isWay_118, gz_sem, gz_ae, Value.category, gz_i, gz_l, gz_nu, gz_li, gz_ll, gz_la, gz_ib, gz_iz, gz_lb, gz_lz, gz_ls, gz_lc, gz_i2l, gz_l2i, gz_get, gz_ald, gz_len, gz_dup, gz_d2, gz_nar, gz_a0, gz_a1, gz_cs, gz_cv, gz_mk, gz_te, gz_j1, gz_j2, gz_jn, gz_jk, gz_jo, gz_ja, gz_sat, gz_seti, gz_seta, gz_set2, gz_inc, gz_put, gz_ast, gz_pop, gz_vs, gz_vv, gz_sup, gz_rv, gz_ri, gz_rl, gz_ra, gz_if, gz_seq, gz_sw, gz_st, gz_st2, rok_I, rok_J, rok_V, rok_Z0, rok_Z1, rok_Zi, rok_R, rok_N, bi_rok, bi_0, bi_1, fit_I, fit_J, fit_Z0, fit_Z1, fit_Zi, fit_R, fit_N, fit_aR, aty_I, aty_Z0, aty_Z1, aty_Zi, aty_J, gz_ix, List.getElem?_cons_zero, List.getElem?_cons_succ, List.getElem?_nil, List.reverse_cons, List.reverse_nil, List.nil_append, List.cons_append, List.take_succ_cons, List.take_zero, List.take_nil, List.length_cons, List.length_nil, decide_true, decide_false, decide_not, Bool.not_true, Bool.not_false, gz_nle, if_true, if_false, and_true, true_and, and_self, and_false, false_and, or_true, true_or, or_false, false_or, Bool.false_eq_true, not_true, not_false_iff, Decidable.not_not, Nat.reduceLeDiff, Nat.reduceAdd, Nat.reduceEqDiff, Nat.reduceSub, Nat.reduceLT, Nat.zero_add, reduceCtorEq, reduceIte, eq_self, i32_10, i32_01, Nat.zero_le, Nat.one_ne_zero, m, md_k, e47, k1, d2, d3, d4, e53, g10, v8, m8, i0]
    · exact hy.elim (nI_pos (by omega)) (fun u => u (nI_lt z.2.2.1 (by have := IV_S H j; omega)))
  have i0 := (mb_yes HR hj hi0).2.2
  rw [← e8] at i0
  have S8j := IV_S H j
  have l8 : t8 % 10 < g 6 j := by rw [(nI_eq (by omega) (by omega)).mp e8]; exact hi0
  rcases ja_cs (IV_S H j) (nI (t9 % 10)) with hy | ⟨i1, hi1, e9⟩
  · have i1 := (mb_no HR hj hy).2.2
    refine Or.inl (fail ?_ (fun z => ?_))
    · simp only [lb_X8_isWay_118, gz_sem, gz_ae, Value.category, gz_i, gz_l, gz_nu, gz_li, gz_ll, gz_la, gz_ib, gz_iz, gz_lb, gz_lz, gz_ls, gz_lc, gz_i2l, gz_l2i, gz_get, gz_ald, gz_len, gz_dup, gz_d2, gz_nar, gz_a0, gz_a1, gz_cs, gz_cv, gz_mk, gz_te, gz_j1, gz_j2, gz_jn, gz_jk, gz_jo, gz_ja, gz_sat, gz_seti, gz_seta, gz_set2, gz_inc, gz_put, gz_ast, gz_pop, gz_vs, gz_vv, gz_sup, gz_rv, gz_ri, gz_rl, gz_ra, gz_if, gz_seq, gz_sw, gz_st, gz_st2, rok_I, rok_J, rok_V, rok_Z0, rok_Z1, rok_Zi, rok_R, rok_N, bi_rok, bi_0, bi_1, fit_I, fit_J, fit_Z0, fit_Z1, fit_Zi, fit_R, fit_N, fit_aR, aty_I, aty_Z0, aty_Z1, aty_Zi, aty_J, gz_ix, List.getElem?_cons_zero, List.getElem?_cons_succ, List.getElem?_nil, List.reverse_cons, List.reverse_nil, List.nil_append, List.cons_append, List.take_succ_cons, List.take_zero, List.take_nil, List.length_cons, List.length_nil, decide_true, decide_false, decide_not, Bool.not_true, Bool.not_false, gz_nle, if_true, if_false, and_true, true_and, and_self, and_false, false_and, or_true, true_or, or_false, false_or, Bool.false_eq_true, not_true, not_false_iff, Decidable.not_not, Nat.reduceLeDiff, Nat.reduceAdd, Nat.reduceEqDiff, Nat.reduceSub, Nat.reduceLT, Nat.zero_add, reduceCtorEq, reduceIte, eq_self, i32_10, i32_01, Nat.zero_le, Nat.one_ne_zero, m, md_k, e47, k1, d2, d3, d4, e53, g10, v8, m8, v9, m9, i0, i1]
    · exact hy.elim (nI_pos (by omega)) (fun u => u (nI_lt z.2.2.2.1 (by omega)))
  have i1' := (mb_yes HR hj hi1).2.2
  rw [← e9] at i1'
  have l9 : t9 % 10 < g 6 j := by rw [(nI_eq (by omega) (by omega)).mp e9]; exact hi1
  have f1 : 8 + nI j = nI (8 + j) := nI_add 8 j
  have f2 : ¬ nI (8 + j) < 0 := nI_pos (by omega)
  have f3 : (nI (8 + j)).toNatClampNeg = 8 + j := nI_clamp (by omega)
  have f4 : 8 + j < 16 := by omega
  have ej0 : a = nI j0 ∧ j0 < g 7 0 := by
    rcases hj0 with ⟨z1, z2⟩ | z
    · have := z2 j rfl hj
      rw [this]; exact ⟨z1, hj⟩
    · exact z
  have q1 : 8 + a = nI (8 + j0) := by rw [ej0.1]; exact nI_add 8 j0
  have q2 : ¬ nI (8 + j0) < 0 := nI_pos (by omega)
  have q3 : (nI (8 + j0)).toNatClampNeg = 8 + j0 := nI_clamp (by omega)
  have q4 : 8 + j0 < 16 := by omega
  rcases tk_cs H hj with ⟨z1, -⟩ | ⟨z1, -⟩
  · refine Or.inl (fail ?_ (fun z => ?_))
    · simp only [lb_X8_isWay_118, gz_sem, gz_ae, Value.category, gz_i, gz_l, gz_nu, gz_li, gz_ll, gz_la, gz_ib, gz_iz, gz_lb, gz_lz, gz_ls, gz_lc, gz_i2l, gz_l2i, gz_get, gz_ald, gz_len, gz_dup, gz_d2, gz_nar, gz_a0, gz_a1, gz_cs, gz_cv, gz_mk, gz_te, gz_j1, gz_j2, gz_jn, gz_jk, gz_jo, gz_ja, gz_sat, gz_seti, gz_seta, gz_set2, gz_inc, gz_put, gz_ast, gz_pop, gz_vs, gz_vv, gz_sup, gz_rv, gz_ri, gz_rl, gz_ra, gz_if, gz_seq, gz_sw, gz_st, gz_st2, rok_I, rok_J, rok_V, rok_Z0, rok_Z1, rok_Zi, rok_R, rok_N, bi_rok, bi_0, bi_1, fit_I, fit_J, fit_Z0, fit_Z1, fit_Zi, fit_R, fit_N, fit_aR, aty_I, aty_Z0, aty_Z1, aty_Zi, aty_J, gz_ix, List.getElem?_cons_zero, List.getElem?_cons_succ, List.getElem?_nil, List.reverse_cons, List.reverse_nil, List.nil_append, List.cons_append, List.take_succ_cons, List.take_zero, List.take_nil, List.length_cons, List.length_nil, decide_true, decide_false, decide_not, Bool.not_true, Bool.not_false, gz_nle, if_true, if_false, and_true, true_and, and_self, and_false, false_and, or_true, true_or, or_false, false_or, Bool.false_eq_true, not_true, not_false_iff, Decidable.not_not, Nat.reduceLeDiff, Nat.reduceAdd, Nat.reduceEqDiff, Nat.reduceSub, Nat.reduceLT, Nat.zero_add, reduceCtorEq, reduceIte, eq_self, i32_10, i32_01, Nat.zero_le, Nat.one_ne_zero, m, md_k, e47, k1, d2, d3, d4, e53, g10, v8, m8, v9, m9, i0, i1', f1, f2, f3, f4, r23, z1]
    · rw [z.2.2.2.2.1] at z1; exact absurd z1 (by decide)
  by_cases cy : gz_I hr 24 (8 + j) = gz_I hr 24 (8 + j0)
  · refine Or.inr ⟨j, ⟨rfl, hj, l8, l9, z1, cy⟩, ?_⟩
    simp only [lb_X8_isWay_118, gz_sem, gz_ae, Value.category, gz_i, gz_l, gz_nu, gz_li, gz_ll, gz_la, gz_ib, gz_iz, gz_lb, gz_lz, gz_ls, gz_lc, gz_i2l, gz_l2i, gz_get, gz_ald, gz_len, gz_dup, gz_d2, gz_nar, gz_a0, gz_a1, gz_cs, gz_cv, gz_mk, gz_te, gz_j1, gz_j2, gz_jn, gz_jk, gz_jo, gz_ja, gz_sat, gz_seti, gz_seta, gz_set2, gz_inc, gz_put, gz_ast, gz_pop, gz_vs, gz_vv, gz_sup, gz_rv, gz_ri, gz_rl, gz_ra, gz_if, gz_seq, gz_sw, gz_st, gz_st2, rok_I, rok_J, rok_V, rok_Z0, rok_Z1, rok_Zi, rok_R, rok_N, bi_rok, bi_0, bi_1, fit_I, fit_J, fit_Z0, fit_Z1, fit_Zi, fit_R, fit_N, fit_aR, aty_I, aty_Z0, aty_Z1, aty_Zi, aty_J, gz_ix, List.getElem?_cons_zero, List.getElem?_cons_succ, List.getElem?_nil, List.reverse_cons, List.reverse_nil, List.nil_append, List.cons_append, List.take_succ_cons, List.take_zero, List.take_nil, List.length_cons, List.length_nil, decide_true, decide_false, decide_not, Bool.not_true, Bool.not_false, gz_nle, if_true, if_false, and_true, true_and, and_self, and_false, false_and, or_true, true_or, or_false, false_or, Bool.false_eq_true, not_true, not_false_iff, Decidable.not_not, Nat.reduceLeDiff, Nat.reduceAdd, Nat.reduceEqDiff, Nat.reduceSub, Nat.reduceLT, Nat.zero_add, reduceCtorEq, reduceIte, eq_self, i32_10, i32_01, Nat.zero_le, Nat.one_ne_zero, m, md_k, e47, k1, d2, d3, d4, e53, g10, v8, m8, v9, m9, i0, i1', f1, f2, f3, f4, r23, z1, r24, q1, q2, q3, q4, cy, r28, nI_1]
  · refine Or.inl (fail ?_ (fun z => cy z.2.2.2.2.2))
    have cy' : ¬ gz_I hr 24 (8 + j) = gz_I hr 24 (8 + j0) := cy
    simp only [lb_X8_isWay_118, gz_sem, gz_ae, Value.category, gz_i, gz_l, gz_nu, gz_li, gz_ll, gz_la, gz_ib, gz_iz, gz_lb, gz_lz, gz_ls, gz_lc, gz_i2l, gz_l2i, gz_get, gz_ald, gz_len, gz_dup, gz_d2, gz_nar, gz_a0, gz_a1, gz_cs, gz_cv, gz_mk, gz_te, gz_j1, gz_j2, gz_jn, gz_jk, gz_jo, gz_ja, gz_sat, gz_seti, gz_seta, gz_set2, gz_inc, gz_put, gz_ast, gz_pop, gz_vs, gz_vv, gz_sup, gz_rv, gz_ri, gz_rl, gz_ra, gz_if, gz_seq, gz_sw, gz_st, gz_st2, rok_I, rok_J, rok_V, rok_Z0, rok_Z1, rok_Zi, rok_R, rok_N, bi_rok, bi_0, bi_1, fit_I, fit_J, fit_Z0, fit_Z1, fit_Zi, fit_R, fit_N, fit_aR, aty_I, aty_Z0, aty_Z1, aty_Zi, aty_J, gz_ix, List.getElem?_cons_zero, List.getElem?_cons_succ, List.getElem?_nil, List.reverse_cons, List.reverse_nil, List.nil_append, List.cons_append, List.take_succ_cons, List.take_zero, List.take_nil, List.length_cons, List.length_nil, decide_true, decide_false, decide_not, Bool.not_true, Bool.not_false, gz_nle, if_true, if_false, and_true, true_and, and_self, and_false, false_and, or_true, true_or, or_false, false_or, Bool.false_eq_true, not_true, not_false_iff, Decidable.not_not, Nat.reduceLeDiff, Nat.reduceAdd, Nat.reduceEqDiff, Nat.reduceSub, Nat.reduceLT, Nat.zero_add, reduceCtorEq, reduceIte, eq_self, i32_10, i32_01, Nat.zero_le, Nat.one_ne_zero, m, md_k, e47, k1, d2, d3, d4, e53, g10, v8, m8, v9, m9, i0, i1', f1, f2, f3, f4, r23, z1, r24, q1, q2, q3, q4, cy']
