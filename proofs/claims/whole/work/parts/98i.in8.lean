/-- the reference's street brings -/
def br8 (R : gz_H) (o n : Nat) : gz_H := gz_wr (gz_set R 41 o (.int (nI (n - 1)))) 42 (60 * o) (60 * o + (n - 1)) (fun i => gz_I R 42 (i + 1))
theorem br8_md {R : gz_H} (m : md R) (o n : Nat) : md (br8 R o n) := md_wr (md_setI m _ _ _ (by omega)) _ _ _ _ (by omega)
theorem br8_o {R : gz_H} {o n b i : Nat} (h1 : b ≠ 41) (h2 : b ≠ 42) : gz_v (br8 R o n) b i = gz_v R b i := by
  unfold br8; rw [wr_o _ h2, gz_v_set, if_neg (fun z => h1 z.1)]
theorem br8_41 {R : gz_H} {o n i : Nat} : gz_I (br8 R o n) 41 i = if i = o then nI (n - 1) else gz_I R 41 i := by
  unfold br8; rw [wr_Io (by decide), I_set]
  by_cases q : i = o
  · rw [if_pos ⟨rfl, q⟩, if_pos q]
  · rw [if_neg (fun z => q z.2), if_neg q]
theorem br8_42 {R : gz_H} {o n i : Nat} : gz_I (br8 R o n) 42 i = if 60 * o ≤ i ∧ i < 60 * o + (n - 1) then gz_I R 42 (i + 1) else gz_I R 42 i := by
  unfold br8; rw [wr_I]
  by_cases q : 60 * o ≤ i ∧ i < 60 * o + (n - 1)
  · rw [if_pos ⟨rfl, q⟩, if_pos q]
  · rw [if_neg (fun z => q z.2), if_neg q, I_seto _ _ _ _ _ _ (by omega)]
set_option maxHeartbeats 4000000 in
theorem lp_X8_rs113 (h : gz_H) (m : md h) (s o n : Nat) (g : Int32) (ho : o < 64) (hn : n ≤ 59) (h41 : gz_I h 41 o = nI n) : gz_loop 113 5 lb_X8_runStream_113 [.ref 15, .int (nI s), .int g, .int (nI o), .int 0] h = some (.inl (156, [.ref 15, .int (nI s), .int g, .int (nI o), .int (nI n)], gz_wr h 42 (60 * o) (60 * o + n) (fun i => gz_I h 42 (i + 1)))) := by
  have d2 : ¬ nI o < 0 := nI_pos (by omega)
  have d3 : (nI o).toNatClampNeg = o := nI_clamp (by omega)
  have l := gz_for0 (L := 113) (k := 5) (X := 156) (a := lb_X8_runStream_113) n (fun k => [.ref 15, .int (nI s), .int g, .int (nI o), .int (nI k)]) (fun k => gz_wr h 42 (60 * o) (60 * o + k) (fun i => gz_I h 42 (i + 1))) (env' := [.ref 15, .int (nI s), .int g, .int (nI o), .int (nI n)]) (h' := gz_wr h 42 (60 * o) (60 * o + n) (fun i => gz_I h 42 (i + 1))) (by decide) (fun k hk => by
    have mk := md_wr m 42 (60 * o) (60 * o + k) (fun i => gz_I h 42 (i + 1)) (by omega)
    have k1 : nI k < nI n := nI_lt hk (by omega)
    have e41 : gz_I (gz_wr h 42 (60 * o) (60 * o + k) (fun i => gz_I h 42 (i + 1))) 41 o = nI n := by rw [wr_Io (by decide)]; exact h41
    have w1 : 60 * nI o + nI k = nI (60 * o + k) := by
      rw [show (60 : Int32) = nI 60 from rfl, pk_mul, nI_add]
    have a2 : ¬ nI (60 * o + k) < 0 := nI_pos (by omega)
    have a3 : (nI (60 * o + k)).toNatClampNeg = 60 * o + k := nI_clamp (by omega)
    have a4 : 60 * o + k < 3840 := by omega
    have b2 : ¬ nI (60 * o + k + 1) < 0 := nI_pos (by omega)
    have b3 : (nI (60 * o + k + 1)).toNatClampNeg = 60 * o + k + 1 := nI_clamp (by omega)
    have b4 : 60 * o + k + 1 < 3840 := by omega
    have e42 : gz_I (gz_wr h 42 (60 * o) (60 * o + k) (fun i => gz_I h 42 (i + 1))) 42 (60 * o + k + 1) = gz_I h 42 (60 * o + k + 1) := by rw [wr_I, if_neg (by omega)]
    have ws : gz_set (gz_wr h 42 (60 * o) (60 * o + k) (fun i => gz_I h 42 (i + 1))) 42 (60 * o + k) (.int (gz_I h 42 (60 * o + k + 1))) = gz_wr h 42 (60 * o) (60 * o + (k + 1)) (fun i => gz_I h 42 (i + 1)) := wr_s (f := fun i => gz_I h 42 (i + 1)) (by omega)
    simp only [lb_X8_runStream_113, gz_sem, gz_ae, Value.category, gz_i, gz_l, gz_nu, gz_li, gz_ll, gz_la, gz_ib, gz_iz, gz_lb, gz_lz, gz_ls, gz_lc, gz_i2l, gz_l2i, gz_get, gz_ald, gz_len, gz_dup, gz_d2, gz_nar, gz_a0, gz_a1, gz_cs, gz_cv, gz_mk, gz_te, gz_j1, gz_j2, gz_jn, gz_jk, gz_jo, gz_ja, gz_sat, gz_seti, gz_seta, gz_set2, gz_inc, gz_put, gz_ast, gz_pop, gz_vs, gz_vv, gz_sup, gz_rv, gz_ri, gz_rl, gz_ra, gz_if, gz_seq, gz_sw, gz_st, gz_st2, rok_I, rok_J, rok_V, rok_Z0, rok_Z1, rok_Zi, rok_R, rok_N, bi_rok, bi_0, bi_1, fit_I, fit_J, fit_Z0, fit_Z1, fit_Zi, fit_R, fit_N, fit_aR, aty_I, aty_Z0, aty_Z1, aty_Zi, aty_J, gz_ix, List.getElem?_cons_zero, List.getElem?_cons_succ, List.getElem?_nil, List.reverse_cons, List.reverse_nil, List.nil_append, List.cons_append, List.take_succ_cons, List.take_zero, List.take_nil, List.length_cons, List.length_nil, decide_true, decide_false, decide_not, Bool.not_true, Bool.not_false, gz_nle, if_true, if_false, and_true, true_and, and_self, and_false, false_and, or_true, true_or, or_false, false_or, Bool.false_eq_true, not_true, not_false_iff, Decidable.not_not, Nat.reduceLeDiff, Nat.reduceAdd, Nat.reduceEqDiff, Nat.reduceSub, Nat.reduceLT, Nat.zero_add, reduceCtorEq, reduceIte, eq_self, i32_10, i32_01, Nat.zero_le, Nat.one_ne_zero, mk, md_k, d2, d3, ho, k1, e41, w1, nI_1, a2, a3, a4, b2, b3, b4, e42, ws]) (by
    have mk := md_wr m 42 (60 * o) (60 * o + n) (fun i => gz_I h 42 (i + 1)) (by omega)
    have e41 : gz_I (gz_wr h 42 (60 * o) (60 * o + n) (fun i => gz_I h 42 (i + 1))) 41 o = nI n := by rw [wr_Io (by decide)]; exact h41
    have k1 : ¬ nI n < nI n := nI_nlt (Nat.le_refl _) (by omega)
    simp only [lb_X8_runStream_113, gz_sem, gz_ae, Value.category, gz_i, gz_l, gz_nu, gz_li, gz_ll, gz_la, gz_ib, gz_iz, gz_lb, gz_lz, gz_ls, gz_lc, gz_i2l, gz_l2i, gz_get, gz_ald, gz_len, gz_dup, gz_d2, gz_nar, gz_a0, gz_a1, gz_cs, gz_cv, gz_mk, gz_te, gz_j1, gz_j2, gz_jn, gz_jk, gz_jo, gz_ja, gz_sat, gz_seti, gz_seta, gz_set2, gz_inc, gz_put, gz_ast, gz_pop, gz_vs, gz_vv, gz_sup, gz_rv, gz_ri, gz_rl, gz_ra, gz_if, gz_seq, gz_sw, gz_st, gz_st2, rok_I, rok_J, rok_V, rok_Z0, rok_Z1, rok_Zi, rok_R, rok_N, bi_rok, bi_0, bi_1, fit_I, fit_J, fit_Z0, fit_Z1, fit_Zi, fit_R, fit_N, fit_aR, aty_I, aty_Z0, aty_Z1, aty_Zi, aty_J, gz_ix, List.getElem?_cons_zero, List.getElem?_cons_succ, List.getElem?_nil, List.reverse_cons, List.reverse_nil, List.nil_append, List.cons_append, List.take_succ_cons, List.take_zero, List.take_nil, List.length_cons, List.length_nil, decide_true, decide_false, decide_not, Bool.not_true, Bool.not_false, gz_nle, if_true, if_false, and_true, true_and, and_self, and_false, false_and, or_true, true_or, or_false, false_or, Bool.false_eq_true, not_true, not_false_iff, Decidable.not_not, Nat.reduceLeDiff, Nat.reduceAdd, Nat.reduceEqDiff, Nat.reduceSub, Nat.reduceLT, Nat.zero_add, reduceCtorEq, reduceIte, eq_self, i32_10, i32_01, Nat.zero_le, Nat.one_ne_zero, mk, md_k, d2, d3, ho, k1, e41])
  rw [Nat.add_zero, wr_0, nI_0] at l
  exact l
/-- one of the reference's streets -/
theorem lp_X8_rs75 (R : gz_H) (m : md R) (s o n T a c w m' l p q : Nat) (t : Int64) (g : Int32) (D : Nat → Nat) (hs : s < 64) (ho : o < 64) (hn : n ≤ 60) (hT : T < 2 ^ 29) (hw : w < 2 ^ 30) (h15 : gz_I R 15 1 = nI T) (h41 : gz_I R 41 o = nI n) (hD : ∀ k, k < n → gz_I R 42 (60 * o + k) = nI (D k) ∧ T ≤ D k ∧ D k < 2 ^ 30) (hm : ∀ k, k + 1 < n → D k < D (k + 1)) : (¬ (0 < n ∧ D 0 = T) → gz_loop 75 4 lb_X8_runStream_75 [.ref 15, .int (nI s), .int g, .int (nI o)] (sw8 R s a c w m' l p q t) = some (.inl (165, [.ref 15, .int (nI s), .int g, .int (nI o)], sw8 R s a c w m' l p q t))) ∧ ((0 < n ∧ D 0 = T) → gz_loop 75 4 lb_X8_runStream_75 [.ref 15, .int (nI s), .int g, .int (nI o)] (sw8 R s a c w m' l p q t) = some (.inl (165, [.ref 15, .int (nI s), .int g, .int (nI o)], sw8 (br8 R o n) s a c (w + 1) (m' + 1) l (cq g w p 1) q t))) := by
  have d2 : ¬ nI o < 0 := nI_pos (by omega)
  have d3 : (nI o).toNatClampNeg = o := nI_clamp (by omega)
  have w0 : 60 * nI o = nI (60 * o) := by rw [show (60 : Int32) = nI 60 from rfl, pk_mul]
  have a2 : ¬ nI (60 * o) < 0 := nI_pos (by omega)
  have a3 : (nI (60 * o)).toNatClampNeg = 60 * o := nI_clamp (by omega)
  have a4 : 60 * o < 3840 := by omega
  -- where it ends
  have stop : ∀ (R' : gz_H) (n' a c w m' l p q : Nat) (t : Int64) (D' : Nat → Nat), md R' → gz_I R' 15 1 = nI T → gz_I R' 41 o = nI n' → n' ≤ 60 → (0 < n' → gz_I R' 42 (60 * o) = nI (D' 0) ∧ T < D' 0 ∧ D' 0 < 2 ^ 30) → lb_X8_runStream_75 ([Value.ref 15, .int (nI s), .int g, .int (nI o)].take 4) (sw8 R' s a c w m' l p q t) = some (.inl (165, [.ref 15, .int (nI s), .int g, .int (nI o)], sw8 R' s a c w m' l p q t)) := by
    intro R' n' a c w m' l p q t D' mR e15 e41 hn' hD'
    have ms := sw8_md R' s a c w m' l p q t mR
    have f15 : gz_I (sw8 R' s a c w m' l p q t) 15 1 = nI T := by rw [vI (sw8_o _ _ _ _ _ _ _ _ _ _ (by omega))]; exact e15
    have f41 : gz_I (sw8 R' s a c w m' l p q t) 41 o = nI n' := by rw [vI (sw8_o _ _ _ _ _ _ _ _ _ _ (by omega))]; exact e41
    by_cases z : 0 < n'
    · obtain ⟨e42, lt, lt2⟩ := hD' z
      have f42 : gz_I (sw8 R' s a c w m' l p q t) 42 (60 * o) = nI (D' 0) := by rw [vI (sw8_o _ _ _ _ _ _ _ _ _ _ (by omega))]; exact e42
      have k1 : (0 : Int32) < nI n' := nI_gt0 z (by omega)
      have k2 : nI T < nI (D' 0) := nI_lt lt (by omega)
      simp only [lb_X8_runStream_75, gz_sem, gz_ae, Value.category, gz_i, gz_l, gz_nu, gz_li, gz_ll, gz_la, gz_ib, gz_iz, gz_lb, gz_lz, gz_ls, gz_lc, gz_i2l, gz_l2i, gz_get, gz_ald, gz_len, gz_dup, gz_d2, gz_nar, gz_a0, gz_a1, gz_cs, gz_cv, gz_mk, gz_te, gz_j1, gz_j2, gz_jn, gz_jk, gz_jo, gz_ja, gz_sat, gz_seti, gz_seta, gz_set2, gz_inc, gz_put, gz_ast, gz_pop, gz_vs, gz_vv, gz_sup, gz_rv, gz_ri, gz_rl, gz_ra, gz_if, gz_seq, gz_sw, gz_st, gz_st2, rok_I, rok_J, rok_V, rok_Z0, rok_Z1, rok_Zi, rok_R, rok_N, bi_rok, bi_0, bi_1, fit_I, fit_J, fit_Z0, fit_Z1, fit_Zi, fit_R, fit_N, fit_aR, aty_I, aty_Z0, aty_Z1, aty_Zi, aty_J, gz_ix, List.getElem?_cons_zero, List.getElem?_cons_succ, List.getElem?_nil, List.reverse_cons, List.reverse_nil, List.nil_append, List.cons_append, List.take_succ_cons, List.take_zero, List.take_nil, List.length_cons, List.length_nil, decide_true, decide_false, decide_not, Bool.not_true, Bool.not_false, gz_nle, if_true, if_false, and_true, true_and, and_self, and_false, false_and, or_true, true_or, or_false, false_or, Bool.false_eq_true, not_true, not_false_iff, Decidable.not_not, Nat.reduceLeDiff, Nat.reduceAdd, Nat.reduceEqDiff, Nat.reduceSub, Nat.reduceLT, Nat.zero_add, reduceCtorEq, reduceIte, eq_self, i32_10, i32_01, Nat.zero_le, Nat.one_ne_zero, ms, md_k, d2, d3, ho, f41, k1, w0, a2, a3, a4, f42, f15, k2]
    · have k1 : ¬ (0 : Int32) < nI n' := by rw [show n' = 0 by omega]; decide
      simp only [lb_X8_runStream_75, gz_sem, gz_ae, Value.category, gz_i, gz_l, gz_nu, gz_li, gz_ll, gz_la, gz_ib, gz_iz, gz_lb, gz_lz, gz_ls, gz_lc, gz_i2l, gz_l2i, gz_get, gz_ald, gz_len, gz_dup, gz_d2, gz_nar, gz_a0, gz_a1, gz_cs, gz_cv, gz_mk, gz_te, gz_j1, gz_j2, gz_jn, gz_jk, gz_jo, gz_ja, gz_sat, gz_seti, gz_seta, gz_set2, gz_inc, gz_put, gz_ast, gz_pop, gz_vs, gz_vv, gz_sup, gz_rv, gz_ri, gz_rl, gz_ra, gz_if, gz_seq, gz_sw, gz_st, gz_st2, rok_I, rok_J, rok_V, rok_Z0, rok_Z1, rok_Zi, rok_R, rok_N, bi_rok, bi_0, bi_1, fit_I, fit_J, fit_Z0, fit_Z1, fit_Zi, fit_R, fit_N, fit_aR, aty_I, aty_Z0, aty_Z1, aty_Zi, aty_J, gz_ix, List.getElem?_cons_zero, List.getElem?_cons_succ, List.getElem?_nil, List.reverse_cons, List.reverse_nil, List.nil_append, List.cons_append, List.take_succ_cons, List.take_zero, List.take_nil, List.length_cons, List.length_nil, decide_true, decide_false, decide_not, Bool.not_true, Bool.not_false, gz_nle, if_true, if_false, and_true, true_and, and_self, and_false, false_and, or_true, true_or, or_false, false_or, Bool.false_eq_true, not_true, not_false_iff, Decidable.not_not, Nat.reduceLeDiff, Nat.reduceAdd, Nat.reduceEqDiff, Nat.reduceSub, Nat.reduceLT, Nat.zero_add, reduceCtorEq, reduceIte, eq_self, i32_10, i32_01, Nat.zero_le, Nat.one_ne_zero, ms, md_k, d2, d3, ho, f41, k1]
  constructor
  · intro no
    refine gz_loop_exit (stop R n a c w m' l p q t D m h15 h41 hn (fun z => ?_)) (by decide)
    obtain ⟨h1, h2, h3⟩ := hD 0 z
    have : D 0 ≠ T := fun u => no ⟨z, u⟩
    exact ⟨h1, by omega, h3⟩
  · rintro ⟨n0, e0⟩
    have mb := br8_md m o n
    refine gz_loop_next (env1 := [.ref 15, .int (nI s), .int g, .int (nI o)]) ?_ (gz_loop_exit (stop (br8 R o n) (n - 1) a c (w + 1) (m' + 1) l (cq g w p 1) q t (fun k => D (k + 1)) mb (by rw [vI (br8_o (by decide) (by decide))]; exact h15) (by rw [br8_41, if_pos rfl]) (by omega) (fun z => ?_)) (by decide))
    · have ms := sw8_md R s a c w m' l p q t m
      have f15 : gz_I (sw8 R s a c w m' l p q t) 15 1 = nI T := by rw [vI (sw8_o _ _ _ _ _ _ _ _ _ _ (by omega))]; exact h15
      have f41 : gz_I (sw8 R s a c w m' l p q t) 41 o = nI n := by rw [vI (sw8_o _ _ _ _ _ _ _ _ _ _ (by omega))]; exact h41
      have f42 : gz_I (sw8 R s a c w m' l p q t) 42 (60 * o) = nI T := by
        rw [vI (sw8_o _ _ _ _ _ _ _ _ _ _ (by omega)), ← e0]; exact (hD 0 n0).1
      have k1 : (0 : Int32) < nI n := nI_gt0 n0 (by omega)
      have k2 : ¬ nI T < nI T := nI_nlt (Nat.le_refl _) (by omega)
      have pm : nI n - 1 = nI (n - 1) := pk_sub (b := 1) (by omega)
      have s1 : gz_set (sw8 R s a c w m' l p q t) 41 o (.int (nI (n - 1))) = sw8 (gz_set R 41 o (.int (nI (n - 1)))) s a c w m' l p q t := sw8_set _ _ _ _ _ _ _ _ _ _ _ _ _ (by omega)
      have m1 := md_setI m 41 o (nI (n - 1)) (by omega)
      have ms1 := sw8_md (gz_set R 41 o (.int (nI (n - 1)))) s a c w m' l p q t m1
      have lp := lp_X8_rs113 (sw8 (gz_set R 41 o (.int (nI (n - 1)))) s a c w m' l p q t) ms1 s o (n - 1) g ho (by omega) (by rw [vI (sw8_o _ _ _ _ _ _ _ _ _ _ (by omega)), I_set, if_pos ⟨rfl, rfl⟩])
      have ef : (fun i => gz_I (sw8 (gz_set R 41 o (.int (nI (n - 1)))) s a c w m' l p q t) 42 (i + 1)) = (fun i => gz_I R 42 (i + 1)) := funext (fun i => by
        rw [vI (sw8_o _ _ _ _ _ _ _ _ _ _ (by omega)), I_seto _ _ _ _ _ _ (by omega)])
      rw [ef, sw8_wr _ _ _ _ _ _ _ _ _ _ _ _ _ _ (by omega)] at lp
      have co := co8 (br8 R o n) s a c w m' l p q t mb hs hw g
      have ms2 := sw8_md (br8 R o n) s a c w m' l p q t mb
      unfold br8 at co ms2 ⊢
      simp only [lb_X8_runStream_75, gz_sem, gz_ae, Value.category, gz_i, gz_l, gz_nu, gz_li, gz_ll, gz_la, gz_ib, gz_iz, gz_lb, gz_lz, gz_ls, gz_lc, gz_i2l, gz_l2i, gz_get, gz_ald, gz_len, gz_dup, gz_d2, gz_nar, gz_a0, gz_a1, gz_cs, gz_cv, gz_mk, gz_te, gz_j1, gz_j2, gz_jn, gz_jk, gz_jo, gz_ja, gz_sat, gz_seti, gz_seta, gz_set2, gz_inc, gz_put, gz_ast, gz_pop, gz_vs, gz_vv, gz_sup, gz_rv, gz_ri, gz_rl, gz_ra, gz_if, gz_seq, gz_sw, gz_st, gz_st2, rok_I, rok_J, rok_V, rok_Z0, rok_Z1, rok_Zi, rok_R, rok_N, bi_rok, bi_0, bi_1, fit_I, fit_J, fit_Z0, fit_Z1, fit_Zi, fit_R, fit_N, fit_aR, aty_I, aty_Z0, aty_Z1, aty_Zi, aty_J, gz_ix, List.getElem?_cons_zero, List.getElem?_cons_succ, List.getElem?_nil, List.reverse_cons, List.reverse_nil, List.nil_append, List.cons_append, List.take_succ_cons, List.take_zero, List.take_nil, List.length_cons, List.length_nil, decide_true, decide_false, decide_not, Bool.not_true, Bool.not_false, gz_nle, if_true, if_false, and_true, true_and, and_self, and_false, false_and, or_true, true_or, or_false, false_or, Bool.false_eq_true, not_true, not_false_iff, Decidable.not_not, Nat.reduceLeDiff, Nat.reduceAdd, Nat.reduceEqDiff, Nat.reduceSub, Nat.reduceLT, Nat.zero_add, reduceCtorEq, reduceIte, eq_self, i32_10, i32_01, Nat.zero_le, Nat.one_ne_zero, ms, md_k, d2, d3, ho, f41, k1, w0, a2, a3, a4, f42, f15, k2, pm, s1, ms1, lp, co, ms2]
    · obtain ⟨h1, h2, h3⟩ := hD 1 (by omega)
      have h4 : D 0 < D 1 := hm 0 (by omega)
      refine ⟨?_, by show T < D 1; omega, h3⟩
      rw [br8_42, if_pos (by omega)]
      exact h1
/-- all of them -/
noncomputable def r8 (d : Nat → Prop) (N : Nat → Nat) (R : gz_H) : Nat → gz_H
  | 0 => R
  | o + 1 => @ite gz_H (d o) (Classical.propDecidable _) (br8 (r8 d N R o) o (N o)) (r8 d N R o)
theorem r8_t {d : Nat → Prop} {N : Nat → Nat} {R : gz_H} {o : Nat} (z : d o) : r8 d N R (o + 1) = br8 (r8 d N R o) o (N o) := if_pos z
theorem r8_f {d : Nat → Prop} {N : Nat → Nat} {R : gz_H} {o : Nat} (z : ¬ d o) : r8 d N R (o + 1) = r8 d N R o := if_neg z
theorem ctn_t {d : Nat → Prop} {o : Nat} (z : d o) : ctn d (o + 1) = ctn d o + 1 := by
  show ctn d o + @ite Nat (d o) (Classical.propDecidable _) 1 0 = _
  rw [if_pos z]
theorem ctn_f {d : Nat → Prop} {o : Nat} (z : ¬ d o) : ctn d (o + 1) = ctn d o := by
  show ctn d o + @ite Nat (d o) (Classical.propDecidable _) 1 0 = _
  rw [if_neg z]; rfl
theorem r8_md {d : Nat → Prop} {N : Nat → Nat} {R : gz_H} (m : md R) : ∀ o, md (r8 d N R o) := by
  intro o
  induction o with
  | zero => exact m
  | succ o ih =>
    unfold r8
    by_cases z : d o
    · rw [if_pos z]; exact br8_md ih _ _
    · rw [if_neg z]; exact ih
theorem r8_n {d : Nat → Prop} {N : Nat → Nat} {R : gz_H} : ∀ o, fr7 R (r8 d N R o) := by
  intro o
  induction o with
  | zero => exact fr7_rf _
  | succ o ih =>
    unfold r8
    by_cases z : d o
    · rw [if_pos z]; exact fr7_wr (fr7_set ih (by omega)) (by omega)
    · rw [if_neg z]; exact ih
theorem r8_o {d : Nat → Prop} {N : Nat → Nat} {R : gz_H} {b i : Nat} (h1 : b ≠ 41) (h2 : b ≠ 42) : ∀ o, gz_v (r8 d N R o) b i = gz_v R b i := by
  intro o
  induction o with
  | zero => rfl
  | succ o ih =>
    unfold r8
    by_cases z : d o
    · rw [if_pos z, br8_o h1 h2]; exact ih
    · rw [if_neg z]; exact ih
theorem r8_41 {d : Nat → Prop} {N : Nat → Nat} {R : gz_H} (u : Nat) : ∀ o, (u < o ∧ d u → gz_I (r8 d N R o) 41 u = nI (N u - 1)) ∧ (¬ (u < o ∧ d u) → gz_v (r8 d N R o) 41 u = gz_v R 41 u) := by
  intro o
  induction o with
  | zero => exact ⟨fun z => absurd z.1 (by omega), fun _ => rfl⟩
  | succ o ih =>
    unfold r8
    by_cases z : d o
    · rw [if_pos z]
      by_cases e : u = o
      · subst e
        exact ⟨fun _ => by rw [br8_41, if_pos rfl], fun q => absurd ⟨by omega, z⟩ q⟩
      · have ev : gz_v (br8 (r8 d N R o) o (N o)) 41 u = gz_v (r8 d N R o) 41 u := by
          unfold br8; rw [wr_o _ (by decide), gz_v_set, if_neg (fun w => e w.2)]
        rw [vI ev, ev]
        exact ⟨fun q => ih.1 ⟨by omega, q.2⟩, fun q => ih.2 (fun w => q ⟨by omega, w.2⟩)⟩
    · rw [if_neg z]
      exact ⟨fun q => ih.1 ⟨by have : u ≠ o := fun e => z (by rw [← e]; exact q.2)
                               omega, q.2⟩, fun q => ih.2 (fun w => q ⟨by omega, w.2⟩)⟩
theorem r8_42 {d : Nat → Prop} {N : Nat → Nat} {R : gz_H} (hN : ∀ u, d u → N u ≤ 60) (u k : Nat) (hk : k < 60) : ∀ o, (u < o ∧ d u ∧ k < N u - 1 → gz_I (r8 d N R o) 42 (60 * u + k) = gz_I R 42 (60 * u + (k + 1))) ∧ (¬ (u < o ∧ d u) → gz_v (r8 d N R o) 42 (60 * u + k) = gz_v R 42 (60 * u + k)) := by
  intro o
  induction o generalizing k with
  | zero => exact ⟨fun z => absurd z.1 (by omega), fun _ => rfl⟩
  | succ o ih =>
    unfold r8
    by_cases z : d o
    · rw [if_pos z]
      have n6 := hN o z
      by_cases e : u = o
      · subst e
        refine ⟨fun q => ?_, fun q => absurd ⟨by omega, z⟩ q⟩
        rw [br8_42, if_pos (by omega), show 60 * u + k + 1 = 60 * u + (k + 1) by omega]
        exact vI ((ih (k + 1) (by omega)).2 (by omega))
      · have ev : gz_v (br8 (r8 d N R o) o (N o)) 42 (60 * u + k) = gz_v (r8 d N R o) 42 (60 * u + k) := by
          unfold br8; rw [wr_v, if_neg (by omega), gz_v_set, if_neg (by omega)]
        rw [vI ev, ev]
        exact ⟨fun q => (ih k hk).1 ⟨by omega, q.2⟩, fun q => (ih k hk).2 (fun w => q ⟨by omega, w.2⟩)⟩
    · rw [if_neg z]
      exact ⟨fun q => (ih k hk).1 ⟨by have : u ≠ o := fun e => z (by rw [← e]; exact q.2.1)
                                      omega, q.2⟩, fun q => (ih k hk).2 (fun w => q ⟨by omega, w.2⟩)⟩
set_option maxHeartbeats 8000000 in
theorem lp_X8_rs47 (R : gz_H) (m : md R) (s T a c w m' l p q : Nat) (t : Int64) (g : Int32) (N : Nat → Nat) (D : Nat → Nat → Nat) (hs : s < 64) (hT : T < 2 ^ 29) (hw : w + 64 < 2 ^ 30) (h15 : gz_I R 15 1 = nI T) (h37 : ∀ o, o < 64 → gz_I R 37 o = 0 ∨ gz_I R 37 o = 1) (st : ∀ o, o < 64 → gz_I R 37 o = 1 → gz_I R 38 o = nI s → N o ≤ 60 ∧ gz_I R 41 o = nI (N o) ∧ (∀ k, k < N o → gz_I R 42 (60 * o + k) = nI (D o k) ∧ T ≤ D o k ∧ D o k < 2 ^ 30) ∧ ∀ k, k + 1 < N o → D o k < D o (k + 1)) (d : Nat → Prop) (hd : ∀ o, d o ↔ (o < 64 ∧ gz_I R 37 o = 1 ∧ gz_I R 38 o = nI s ∧ 0 < N o ∧ D o 0 = T)) : gz_loop 47 4 lb_X8_runStream_47 [.ref 15, .int (nI s), .int g, .int 0] (sw8 R s a c w m' l p q t) = some (.inl (171, [.ref 15, .int (nI s), .int g, .int (nI 64)], sw8 (r8 d N R 64) s a c (w + ctn d 64) (m' + ctn d 64) l (cq g w p (ctn d 64)) q t)) := by
  have hN : ∀ u, d u → N u ≤ 60 := fun u hu => by
    obtain ⟨h1, h2, h3, -⟩ := (hd u).mp hu
    exact (st u h1 h2 h3).1
  have lp := gz_for0 (L := 47) (k := 4) (X := 171) (a := lb_X8_runStream_47) 64 (fun o => [.ref 15, .int (nI s), .int g, .int (nI o)]) (fun o => sw8 (r8 d N R o) s a c (w + ctn d o) (m' + ctn d o) l (cq g w p (ctn d o)) q t) (env' := [.ref 15, .int (nI s), .int g, .int (nI 64)]) (h' := sw8 (r8 d N R 64) s a c (w + ctn d 64) (m' + ctn d 64) l (cq g w p (ctn d 64)) q t) (by decide) (fun o ho => by
    have k1 : nI o < 64 := nI_lt (b := 64) ho (by decide)
    have d2 : ¬ nI o < 0 := nI_pos (by omega)
    have d3 : (nI o).toNatClampNeg = o := nI_clamp (by omega)
    have mr := r8_md (d := d) (N := N) m o
    have ms := sw8_md (r8 d N R o) s a c (w + ctn d o) (m' + ctn d o) l (cq g w p (ctn d o)) q t mr
    have f37 : gz_I (sw8 (r8 d N R o) s a c (w + ctn d o) (m' + ctn d o) l (cq g w p (ctn d o)) q t) 37 o = gz_I R 37 o := by
      rw [vI (sw8_o _ _ _ _ _ _ _ _ _ _ (by omega)), vI (r8_o (by decide) (by decide) o)]
    have f38 : gz_I (sw8 (r8 d N R o) s a c (w + ctn d o) (m' + ctn d o) l (cq g w p (ctn d o)) q t) 38 o = gz_I R 38 o := by
      rw [vI (sw8_o _ _ _ _ _ _ _ _ _ _ (by omega)), vI (r8_o (by decide) (by decide) o)]
    have nod : ¬ d o → r8 d N R (o + 1) = r8 d N R o ∧ ctn d (o + 1) = ctn d o := fun z => ⟨r8_f z, ctn_f z⟩
    rcases h37 o ho with q37 | q37
    · have z : ¬ d o := fun u => by
        have := ((hd o).mp u).2.1
        rw [q37] at this
        exact absurd this (by decide)
      obtain ⟨e1, e2⟩ := nod z
      rw [e1, e2]
      simp only [lb_X8_runStream_47, gz_sem, gz_ae, Value.category, gz_i, gz_l, gz_nu, gz_li, gz_ll, gz_la, gz_ib, gz_iz, gz_lb, gz_lz, gz_ls, gz_lc, gz_i2l, gz_l2i, gz_get, gz_ald, gz_len, gz_dup, gz_d2, gz_nar, gz_a0, gz_a1, gz_cs, gz_cv, gz_mk, gz_te, gz_j1, gz_j2, gz_jn, gz_jk, gz_jo, gz_ja, gz_sat, gz_seti, gz_seta, gz_set2, gz_inc, gz_put, gz_ast, gz_pop, gz_vs, gz_vv, gz_sup, gz_rv, gz_ri, gz_rl, gz_ra, gz_if, gz_seq, gz_sw, gz_st, gz_st2, rok_I, rok_J, rok_V, rok_Z0, rok_Z1, rok_Zi, rok_R, rok_N, bi_rok, bi_0, bi_1, fit_I, fit_J, fit_Z0, fit_Z1, fit_Zi, fit_R, fit_N, fit_aR, aty_I, aty_Z0, aty_Z1, aty_Zi, aty_J, gz_ix, List.getElem?_cons_zero, List.getElem?_cons_succ, List.getElem?_nil, List.reverse_cons, List.reverse_nil, List.nil_append, List.cons_append, List.take_succ_cons, List.take_zero, List.take_nil, List.length_cons, List.length_nil, decide_true, decide_false, decide_not, Bool.not_true, Bool.not_false, gz_nle, if_true, if_false, and_true, true_and, and_self, and_false, false_and, or_true, true_or, or_false, false_or, Bool.false_eq_true, not_true, not_false_iff, Decidable.not_not, Nat.reduceLeDiff, Nat.reduceAdd, Nat.reduceEqDiff, Nat.reduceSub, Nat.reduceLT, Nat.zero_add, reduceCtorEq, reduceIte, eq_self, i32_10, i32_01, Nat.zero_le, Nat.one_ne_zero, ms, md_k, k1, d2, d3, ho, f37, q37, nI_1]
    · by_cases q38 : gz_I R 38 o = nI s
      · obtain ⟨n6, e41, eD, eM⟩ := st o ho q37 q38
        have cb := ctn_b d o
        obtain ⟨l0, l1⟩ := lp_X8_rs75 (r8 d N R o) mr s o (N o) T a c (w + ctn d o) (m' + ctn d o) l (cq g w p (ctn d o)) q t g (D o) hs ho n6 hT (by omega) (by rw [vI (r8_o (by decide) (by decide) o)]; exact h15) (by rw [vI ((r8_41 o o).2 (by omega))]; exact e41) (fun k hk => by rw [vI ((r8_42 hN o k (by omega) o).2 (by omega))]; exact eD k hk) eM
        by_cases z : 0 < N o ∧ D o 0 = T
        · have dz : d o := (hd o).mpr ⟨ho, q37, q38, z⟩
          have l1 := l1 z
          have e1 : r8 d N R (o + 1) = br8 (r8 d N R o) o (N o) := r8_t dz
          have e2 : ctn d (o + 1) = ctn d o + 1 := ctn_t dz
          rw [e1, e2]
          rw [cq_add, Nat.add_assoc, Nat.add_assoc] at l1
          simp only [lb_X8_runStream_47, gz_sem, gz_ae, Value.category, gz_i, gz_l, gz_nu, gz_li, gz_ll, gz_la, gz_ib, gz_iz, gz_lb, gz_lz, gz_ls, gz_lc, gz_i2l, gz_l2i, gz_get, gz_ald, gz_len, gz_dup, gz_d2, gz_nar, gz_a0, gz_a1, gz_cs, gz_cv, gz_mk, gz_te, gz_j1, gz_j2, gz_jn, gz_jk, gz_jo, gz_ja, gz_sat, gz_seti, gz_seta, gz_set2, gz_inc, gz_put, gz_ast, gz_pop, gz_vs, gz_vv, gz_sup, gz_rv, gz_ri, gz_rl, gz_ra, gz_if, gz_seq, gz_sw, gz_st, gz_st2, rok_I, rok_J, rok_V, rok_Z0, rok_Z1, rok_Zi, rok_R, rok_N, bi_rok, bi_0, bi_1, fit_I, fit_J, fit_Z0, fit_Z1, fit_Zi, fit_R, fit_N, fit_aR, aty_I, aty_Z0, aty_Z1, aty_Zi, aty_J, gz_ix, List.getElem?_cons_zero, List.getElem?_cons_succ, List.getElem?_nil, List.reverse_cons, List.reverse_nil, List.nil_append, List.cons_append, List.take_succ_cons, List.take_zero, List.take_nil, List.length_cons, List.length_nil, decide_true, decide_false, decide_not, Bool.not_true, Bool.not_false, gz_nle, if_true, if_false, and_true, true_and, and_self, and_false, false_and, or_true, true_or, or_false, false_or, Bool.false_eq_true, not_true, not_false_iff, Decidable.not_not, Nat.reduceLeDiff, Nat.reduceAdd, Nat.reduceEqDiff, Nat.reduceSub, Nat.reduceLT, Nat.zero_add, reduceCtorEq, reduceIte, eq_self, i32_10, i32_01, Nat.zero_le, Nat.one_ne_zero, ms, md_k, k1, d2, d3, ho, f37, f38, q37, q38, l1, nI_1]
        · have dz : ¬ d o := fun u => z ((hd o).mp u).2.2.2
          obtain ⟨e1, e2⟩ := nod dz
          have l0 := l0 z
          rw [e1, e2]
          simp only [lb_X8_runStream_47, gz_sem, gz_ae, Value.category, gz_i, gz_l, gz_nu, gz_li, gz_ll, gz_la, gz_ib, gz_iz, gz_lb, gz_lz, gz_ls, gz_lc, gz_i2l, gz_l2i, gz_get, gz_ald, gz_len, gz_dup, gz_d2, gz_nar, gz_a0, gz_a1, gz_cs, gz_cv, gz_mk, gz_te, gz_j1, gz_j2, gz_jn, gz_jk, gz_jo, gz_ja, gz_sat, gz_seti, gz_seta, gz_set2, gz_inc, gz_put, gz_ast, gz_pop, gz_vs, gz_vv, gz_sup, gz_rv, gz_ri, gz_rl, gz_ra, gz_if, gz_seq, gz_sw, gz_st, gz_st2, rok_I, rok_J, rok_V, rok_Z0, rok_Z1, rok_Zi, rok_R, rok_N, bi_rok, bi_0, bi_1, fit_I, fit_J, fit_Z0, fit_Z1, fit_Zi, fit_R, fit_N, fit_aR, aty_I, aty_Z0, aty_Z1, aty_Zi, aty_J, gz_ix, List.getElem?_cons_zero, List.getElem?_cons_succ, List.getElem?_nil, List.reverse_cons, List.reverse_nil, List.nil_append, List.cons_append, List.take_succ_cons, List.take_zero, List.take_nil, List.length_cons, List.length_nil, decide_true, decide_false, decide_not, Bool.not_true, Bool.not_false, gz_nle, if_true, if_false, and_true, true_and, and_self, and_false, false_and, or_true, true_or, or_false, false_or, Bool.false_eq_true, not_true, not_false_iff, Decidable.not_not, Nat.reduceLeDiff, Nat.reduceAdd, Nat.reduceEqDiff, Nat.reduceSub, Nat.reduceLT, Nat.zero_add, reduceCtorEq, reduceIte, eq_self, i32_10, i32_01, Nat.zero_le, Nat.one_ne_zero, ms, md_k, k1, d2, d3, ho, f37, f38, q37, q38, l0, nI_1]
      · have z : ¬ d o := fun u => q38 ((hd o).mp u).2.2.1
        obtain ⟨e1, e2⟩ := nod z
        rw [e1, e2]
        simp only [lb_X8_runStream_47, gz_sem, gz_ae, Value.category, gz_i, gz_l, gz_nu, gz_li, gz_ll, gz_la, gz_ib, gz_iz, gz_lb, gz_lz, gz_ls, gz_lc, gz_i2l, gz_l2i, gz_get, gz_ald, gz_len, gz_dup, gz_d2, gz_nar, gz_a0, gz_a1, gz_cs, gz_cv, gz_mk, gz_te, gz_j1, gz_j2, gz_jn, gz_jk, gz_jo, gz_ja, gz_sat, gz_seti, gz_seta, gz_set2, gz_inc, gz_put, gz_ast, gz_pop, gz_vs, gz_vv, gz_sup, gz_rv, gz_ri, gz_rl, gz_ra, gz_if, gz_seq, gz_sw, gz_st, gz_st2, rok_I, rok_J, rok_V, rok_Z0, rok_Z1, rok_Zi, rok_R, rok_N, bi_rok, bi_0, bi_1, fit_I, fit_J, fit_Z0, fit_Z1, fit_Zi, fit_R, fit_N, fit_aR, aty_I, aty_Z0, aty_Z1, aty_Zi, aty_J, gz_ix, List.getElem?_cons_zero, List.getElem?_cons_succ, List.getElem?_nil, List.reverse_cons, List.reverse_nil, List.nil_append, List.cons_append, List.take_succ_cons, List.take_zero, List.take_nil, List.length_cons, List.length_nil, decide_true, decide_false, decide_not, Bool.not_true, Bool.not_false, gz_nle, if_true, if_false, and_true, true_and, and_self, and_false, false_and, or_true, true_or, or_false, false_or, Bool.false_eq_true, not_true, not_false_iff, Decidable.not_not, Nat.reduceLeDiff, Nat.reduceAdd, Nat.reduceEqDiff, Nat.reduceSub, Nat.reduceLT, Nat.zero_add, reduceCtorEq, reduceIte, eq_self, i32_10, i32_01, Nat.zero_le, Nat.one_ne_zero, ms, md_k, k1, d2, d3, ho, f37, f38, q37, q38, nI_1]) (by
    have k1 : ¬ nI 64 < (64 : Int32) := by decide
    simp only [lb_X8_runStream_47, gz_sem, gz_ae, Value.category, gz_i, gz_l, gz_nu, gz_li, gz_ll, gz_la, gz_ib, gz_iz, gz_lb, gz_lz, gz_ls, gz_lc, gz_i2l, gz_l2i, gz_get, gz_ald, gz_len, gz_dup, gz_d2, gz_nar, gz_a0, gz_a1, gz_cs, gz_cv, gz_mk, gz_te, gz_j1, gz_j2, gz_jn, gz_jk, gz_jo, gz_ja, gz_sat, gz_seti, gz_seta, gz_set2, gz_inc, gz_put, gz_ast, gz_pop, gz_vs, gz_vv, gz_sup, gz_rv, gz_ri, gz_rl, gz_ra, gz_if, gz_seq, gz_sw, gz_st, gz_st2, rok_I, rok_J, rok_V, rok_Z0, rok_Z1, rok_Zi, rok_R, rok_N, bi_rok, bi_0, bi_1, fit_I, fit_J, fit_Z0, fit_Z1, fit_Zi, fit_R, fit_N, fit_aR, aty_I, aty_Z0, aty_Z1, aty_Zi, aty_J, gz_ix, List.getElem?_cons_zero, List.getElem?_cons_succ, List.getElem?_nil, List.reverse_cons, List.reverse_nil, List.nil_append, List.cons_append, List.take_succ_cons, List.take_zero, List.take_nil, List.length_cons, List.length_nil, decide_true, decide_false, decide_not, Bool.not_true, Bool.not_false, gz_nle, if_true, if_false, and_true, true_and, and_self, and_false, false_and, or_true, true_or, or_false, false_or, Bool.false_eq_true, not_true, not_false_iff, Decidable.not_not, Nat.reduceLeDiff, Nat.reduceAdd, Nat.reduceEqDiff, Nat.reduceSub, Nat.reduceLT, Nat.zero_add, reduceCtorEq, reduceIte, eq_self, i32_10, i32_01, Nat.zero_le, Nat.one_ne_zero, k1])
  rw [nI_0] at lp
  exact lp
