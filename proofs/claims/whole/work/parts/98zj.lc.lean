set_option maxHeartbeats 4000000 in
theorem dl_loop {h : gz_H} {JJ n T : Nat} {N : Nat → Nat} (c : cs h JJ) (ax : ac h) (nh : NH h N) (n4 : n ≤ 4) (hT : T < 2 ^ 20) : ∀ d f h1, T - f = d → f ≤ 2 ^ 20 → DW h h1 → max 1 (N 1) ≤ f → (∀ f', max 1 (N 1) ≤ f' → f' < f → ¬ DB N n f' (T - f')) → ∃ h', DW h h' ∧ (((∀ f', max 1 (N 1) ≤ f' → f' < T → ¬ DB N n f' (T - f')) ∧ ∃ e, gz_loop 11 4 lb_X0_deals_11 [.ref 4, .int (nI T), .int (nI n), .int (nI f)] h1 = some (.inl (43, e, h'))) ∨ (∃ f2, max 1 (N 1) ≤ f2 ∧ f2 < T ∧ DB N n f2 (T - f2) ∧ (∀ f', max 1 (N 1) ≤ f' → f' < f2 → ¬ DB N n f' (T - f')) ∧ gz_loop 11 4 lb_X0_deals_11 [.ref 4, .int (nI T), .int (nI n), .int (nI f)] h1 = some (.inr (some (.int 1), h')) ∧ gz_I h' 8 0 = nI f2 ∧ gz_I h' 8 1 = nI (x1 N n f2 (T - f2)) ∧ gz_I h' 8 2 = nI (x2 N n f2 (T - f2)) ∧ gz_I h' 8 3 = nI (x3 N n f2 (T - f2)))) := by
  intro d
  induction d with
  | zero =>
    intro f h1 e hf w f1 no
    have k1 : ¬ nI f < nI T := nI_nlt (by omega) (by omega)
    refine ⟨h1, w, Or.inl ⟨fun f' h1 h2 => no f' h1 (by omega), [.ref 4, .int (nI T), .int (nI n), .int (nI f)], gz_loop_exit ?_ (by decide)⟩⟩
    simp only [lb_X0_deals_11, gz_sem, gz_ae, Value.category, gz_i, gz_l, gz_nu, gz_li, gz_ll, gz_la, gz_ib, gz_iz, gz_lb, gz_lz, gz_ls, gz_lc, gz_i2l, gz_l2i, gz_get, gz_ald, gz_len, gz_dup, gz_d2, gz_nar, gz_a0, gz_a1, gz_cs, gz_cv, gz_mk, gz_te, gz_j1, gz_j2, gz_jn, gz_jk, gz_jo, gz_ja, gz_sat, gz_seti, gz_seta, gz_set2, gz_inc, gz_put, gz_ast, gz_pop, gz_vs, gz_vv, gz_sup, gz_rv, gz_ri, gz_rl, gz_ra, gz_if, gz_seq, gz_sw, gz_st, gz_st2, rok_I, rok_J, rok_V, rok_Z0, rok_Z1, rok_Zi, rok_R, rok_N, bi_rok, bi_0, bi_1, fit_I, fit_J, fit_Z0, fit_Z1, fit_Zi, fit_R, fit_N, fit_aR, aty_I, aty_Z0, aty_Z1, aty_Zi, aty_J, gz_ix, List.getElem?_cons_zero, List.getElem?_cons_succ, List.getElem?_nil, List.reverse_cons, List.reverse_nil, List.nil_append, List.cons_append, List.take_succ_cons, List.take_zero, List.take_nil, List.length_cons, List.length_nil, decide_true, decide_false, decide_not, Bool.not_true, Bool.not_false, gz_nle, if_true, if_false, and_true, true_and, and_self, and_false, false_and, or_true, true_or, or_false, false_or, Bool.false_eq_true, not_true, not_false_iff, Decidable.not_not, Nat.reduceLeDiff, Nat.reduceAdd, Nat.reduceEqDiff, Nat.reduceSub, Nat.reduceLT, Nat.zero_add, reduceCtorEq, reduceIte, eq_self, i32_10, i32_01, Nat.zero_le, Nat.one_ne_zero, k1]
  | succ d ih =>
    intro f h1 e hf w f1 no
    have k1 : nI f < nI T := nI_lt (by omega) (by omega)
    have c' := AW_cs w.1 c
    have ax' := w.1.2.2.2
    have sb : nI T - nI f = nI (T - f) := pk_sub (by omega)
    obtain ⟨h2, w2, ⟨q1, q2⟩ | ⟨q1, q2, q3, q4, q5⟩⟩ := st_db (n := n) (f := f) (rest := T - f) c' ax' (NH_DW w nh) n4 (by omega) (by omega)
    · obtain ⟨h3, w3, r⟩ := ih (f + 1) h2 (by omega) (by omega) (DW_tr w w2) (by omega) (fun f' g1 g2 => by
        by_cases z : f' = f
        · subst z; exact q1
        · exact no f' g1 (by omega))
      have st : lb_X0_deals_11 [.ref 4, .int (nI T), .int (nI n), .int (nI f)] h1 = some (.inl (11, [.ref 4, .int (nI T), .int (nI n), .int (nI (f + 1))], h2)) := by
        simp only [lb_X0_deals_11, gz_sem, gz_ae, Value.category, gz_i, gz_l, gz_nu, gz_li, gz_ll, gz_la, gz_ib, gz_iz, gz_lb, gz_lz, gz_ls, gz_lc, gz_i2l, gz_l2i, gz_get, gz_ald, gz_len, gz_dup, gz_d2, gz_nar, gz_a0, gz_a1, gz_cs, gz_cv, gz_mk, gz_te, gz_j1, gz_j2, gz_jn, gz_jk, gz_jo, gz_ja, gz_sat, gz_seti, gz_seta, gz_set2, gz_inc, gz_put, gz_ast, gz_pop, gz_vs, gz_vv, gz_sup, gz_rv, gz_ri, gz_rl, gz_ra, gz_if, gz_seq, gz_sw, gz_st, gz_st2, rok_I, rok_J, rok_V, rok_Z0, rok_Z1, rok_Zi, rok_R, rok_N, bi_rok, bi_0, bi_1, fit_I, fit_J, fit_Z0, fit_Z1, fit_Zi, fit_R, fit_N, fit_aR, aty_I, aty_Z0, aty_Z1, aty_Zi, aty_J, gz_ix, List.getElem?_cons_zero, List.getElem?_cons_succ, List.getElem?_nil, List.reverse_cons, List.reverse_nil, List.nil_append, List.cons_append, List.take_succ_cons, List.take_zero, List.take_nil, List.length_cons, List.length_nil, decide_true, decide_false, decide_not, Bool.not_true, Bool.not_false, gz_nle, if_true, if_false, and_true, true_and, and_self, and_false, false_and, or_true, true_or, or_false, false_or, Bool.false_eq_true, not_true, not_false_iff, Decidable.not_not, Nat.reduceLeDiff, Nat.reduceAdd, Nat.reduceEqDiff, Nat.reduceSub, Nat.reduceLT, Nat.zero_add, reduceCtorEq, reduceIte, eq_self, i32_10, i32_01, Nat.zero_le, Nat.one_ne_zero, k1, c', sb, q2, nI_1]
      refine ⟨h3, w3, ?_⟩
      rcases r with ⟨r1, e', r2⟩ | ⟨f2, r1, r2, r3, r4, r5, r6⟩
      · exact Or.inl ⟨r1, e', gz_loop_next (k := 4) (env := [.ref 4, .int (nI T), .int (nI n), .int (nI f)]) st r2⟩
      · exact Or.inr ⟨f2, r1, r2, r3, r4, gz_loop_next (k := 4) (env := [.ref 4, .int (nI T), .int (nI n), .int (nI f)]) st r5, r6⟩
    · have W2 := DW_tr w w2
      have c2 := AW_cs W2.1 c
      have ax2 := W2.1.2.2.2
      have l0 : ¬ (0 : Int32) < 0 := by decide
      have y0 : (0 : Int32).toNatClampNeg = 0 := rfl
      have g0 : 0 < 4 := by decide
      refine ⟨gz_set h2 8 0 (.int (nI f)), DW_I W2 _ _ _ (by omega) (by omega), Or.inr ⟨f, f1, by omega, q1, no, gz_loop_ret (k := 4) (env := [.ref 4, .int (nI T), .int (nI n), .int (nI f)]) ?_, ?_, ?_, ?_, ?_⟩⟩
      · have st : lb_X0_deals_11 [.ref 4, .int (nI T), .int (nI n), .int (nI f)] h1 = some (.inr (some (.int 1), gz_set h2 8 0 (.int (nI f)))) := by
          simp only [lb_X0_deals_11, gz_sem, gz_ae, Value.category, gz_i, gz_l, gz_nu, gz_li, gz_ll, gz_la, gz_ib, gz_iz, gz_lb, gz_lz, gz_ls, gz_lc, gz_i2l, gz_l2i, gz_get, gz_ald, gz_len, gz_dup, gz_d2, gz_nar, gz_a0, gz_a1, gz_cs, gz_cv, gz_mk, gz_te, gz_j1, gz_j2, gz_jn, gz_jk, gz_jo, gz_ja, gz_sat, gz_seti, gz_seta, gz_set2, gz_inc, gz_put, gz_ast, gz_pop, gz_vs, gz_vv, gz_sup, gz_rv, gz_ri, gz_rl, gz_ra, gz_if, gz_seq, gz_sw, gz_st, gz_st2, rok_I, rok_J, rok_V, rok_Z0, rok_Z1, rok_Zi, rok_R, rok_N, bi_rok, bi_0, bi_1, fit_I, fit_J, fit_Z0, fit_Z1, fit_Zi, fit_R, fit_N, fit_aR, aty_I, aty_Z0, aty_Z1, aty_Zi, aty_J, gz_ix, List.getElem?_cons_zero, List.getElem?_cons_succ, List.getElem?_nil, List.reverse_cons, List.reverse_nil, List.nil_append, List.cons_append, List.take_succ_cons, List.take_zero, List.take_nil, List.length_cons, List.length_nil, decide_true, decide_false, decide_not, Bool.not_true, Bool.not_false, gz_nle, if_true, if_false, and_true, true_and, and_self, and_false, false_and, or_true, true_or, or_false, false_or, Bool.false_eq_true, not_true, not_false_iff, Decidable.not_not, Nat.reduceLeDiff, Nat.reduceAdd, Nat.reduceEqDiff, Nat.reduceSub, Nat.reduceLT, Nat.zero_add, reduceCtorEq, reduceIte, eq_self, i32_10, i32_01, Nat.zero_le, Nat.one_ne_zero, k1, c', sb, q2, c2, ax2, l0, y0, g0]
        exact st
      · rw [I_set, if_pos ⟨rfl, rfl⟩]
      · rw [I_seto _ _ _ _ _ _ (by omega)]; exact q3
      · rw [I_seto _ _ _ _ _ _ (by omega)]; exact q4
      · rw [I_seto _ _ _ _ _ _ (by omega)]; exact q5
set_option maxHeartbeats 4000000 in
theorem st_deals {h : gz_H} {JJ n T : Nat} {N : Nat → Nat} (c : cs h JJ) (ax : ac h) (nh : NH h N) (n2 : 2 ≤ n) (n4 : n ≤ 4) (Z : ∀ r, 2 ^ n ≤ r → r < 16 → N r = 0) (hT : T < 2 ^ 20) : ∃ h', DW h h' ∧ ((¬ (∃ a b c d, FE N n T a b c d) ∧ se_X0_deals [.ref 4, .int (nI T), .int (nI n)] h = some (some (.int 0), h')) ∨ (∃ a b c d, LX N n T a b c d ∧ se_X0_deals [.ref 4, .int (nI T), .int (nI n)] h = some (some (.int 1), h') ∧ gz_I h' 8 0 = nI a ∧ gz_I h' 8 1 = nI b ∧ gz_I h' 8 2 = nI c ∧ gz_I h' 8 3 = nI d)) := by
  obtain ⟨n1, n1b⟩ := nh 1 (by decide)
  have mx := st_max 1 (nI (N 1)) h
  rw [show (1 : Int32) = nI 1 from rfl, mx_nI (by decide) (by omega)] at mx
  have e1 : nI 1 = (1 : Int32) := rfl
  rw [e1] at mx
  have l1 : ¬ (1 : Int32) < 0 := by decide
  have y1 : (1 : Int32).toNatClampNeg = 1 := rfl
  have g1 : 1 < 16 := by decide
  obtain ⟨h', w, r⟩ := dl_loop c ax nh n4 hT (T - max 1 (N 1)) (max 1 (N 1)) h rfl (by omega) (DW_rf ax) (Nat.le_refl _) (fun f' h1 h2 => by omega)
  refine ⟨h', w, ?_⟩
  rcases r with ⟨r1, e', r2⟩ | ⟨f2, r1, r2, r3, r4, r5, r6, r7, r8, r9⟩
  · refine Or.inl ⟨LX_no n2 n4 r1, ?_⟩
    simp only [se_X0_deals, sm_X0_deals, gz_sem, gz_ae, Value.category, gz_i, gz_l, gz_nu, gz_li, gz_ll, gz_la, gz_ib, gz_iz, gz_lb, gz_lz, gz_ls, gz_lc, gz_i2l, gz_l2i, gz_get, gz_ald, gz_len, gz_dup, gz_d2, gz_nar, gz_a0, gz_a1, gz_cs, gz_cv, gz_mk, gz_te, gz_j1, gz_j2, gz_jn, gz_jk, gz_jo, gz_ja, gz_sat, gz_seti, gz_seta, gz_set2, gz_inc, gz_put, gz_ast, gz_pop, gz_vs, gz_vv, gz_sup, gz_rv, gz_ri, gz_rl, gz_ra, gz_if, gz_seq, gz_sw, gz_st, gz_st2, rok_I, rok_J, rok_V, rok_Z0, rok_Z1, rok_Zi, rok_R, rok_N, bi_rok, bi_0, bi_1, fit_I, fit_J, fit_Z0, fit_Z1, fit_Zi, fit_R, fit_N, fit_aR, aty_I, aty_Z0, aty_Z1, aty_Zi, aty_J, gz_ix, List.getElem?_cons_zero, List.getElem?_cons_succ, List.getElem?_nil, List.reverse_cons, List.reverse_nil, List.nil_append, List.cons_append, List.take_succ_cons, List.take_zero, List.take_nil, List.length_cons, List.length_nil, decide_true, decide_false, decide_not, Bool.not_true, Bool.not_false, gz_nle, if_true, if_false, and_true, true_and, and_self, and_false, false_and, or_true, true_or, or_false, false_or, Bool.false_eq_true, not_true, not_false_iff, Decidable.not_not, Nat.reduceLeDiff, Nat.reduceAdd, Nat.reduceEqDiff, Nat.reduceSub, Nat.reduceLT, Nat.zero_add, reduceCtorEq, reduceIte, eq_self, i32_10, i32_01, Nat.zero_le, Nat.one_ne_zero, c, ax, l1, y1, g1, n1, mx, r2]
  · refine Or.inr ⟨f2, _, _, _, LX_of n2 n4 Z r1 r2 r3 r4, ?_, r6, r7, r8, r9⟩
    simp only [se_X0_deals, sm_X0_deals, gz_sem, gz_ae, Value.category, gz_i, gz_l, gz_nu, gz_li, gz_ll, gz_la, gz_ib, gz_iz, gz_lb, gz_lz, gz_ls, gz_lc, gz_i2l, gz_l2i, gz_get, gz_ald, gz_len, gz_dup, gz_d2, gz_nar, gz_a0, gz_a1, gz_cs, gz_cv, gz_mk, gz_te, gz_j1, gz_j2, gz_jn, gz_jk, gz_jo, gz_ja, gz_sat, gz_seti, gz_seta, gz_set2, gz_inc, gz_put, gz_ast, gz_pop, gz_vs, gz_vv, gz_sup, gz_rv, gz_ri, gz_rl, gz_ra, gz_if, gz_seq, gz_sw, gz_st, gz_st2, rok_I, rok_J, rok_V, rok_Z0, rok_Z1, rok_Zi, rok_R, rok_N, bi_rok, bi_0, bi_1, fit_I, fit_J, fit_Z0, fit_Z1, fit_Zi, fit_R, fit_N, fit_aR, aty_I, aty_Z0, aty_Z1, aty_Zi, aty_J, gz_ix, List.getElem?_cons_zero, List.getElem?_cons_succ, List.getElem?_nil, List.reverse_cons, List.reverse_nil, List.nil_append, List.cons_append, List.take_succ_cons, List.take_zero, List.take_nil, List.length_cons, List.length_nil, decide_true, decide_false, decide_not, Bool.not_true, Bool.not_false, gz_nle, if_true, if_false, and_true, true_and, and_self, and_false, false_and, or_true, true_or, or_false, false_or, Bool.false_eq_true, not_true, not_false_iff, Decidable.not_not, Nat.reduceLeDiff, Nat.reduceAdd, Nat.reduceEqDiff, Nat.reduceSub, Nat.reduceLT, Nat.zero_add, reduceCtorEq, reduceIte, eq_self, i32_10, i32_01, Nat.zero_le, Nat.one_ne_zero, c, ax, l1, y1, g1, n1, mx, r5]
set_option maxHeartbeats 4000000 in
theorem st_deals_n {h : gz_H} {JJ n : Nat} {N : Nat → Nat} (c : cs h JJ) (ax : ac h) (nh : NH h N) (t : Int32) (ht : t < 0) : se_X0_deals [.ref 4, .int t, .int (nI n)] h = some (some (.int 0), h) := by
  obtain ⟨n1, n1b⟩ := nh 1 (by decide)
  have mx := st_max 1 (nI (N 1)) h
  rw [show (1 : Int32) = nI 1 from rfl, mx_nI (by decide) (by omega)] at mx
  have e1 : nI 1 = (1 : Int32) := rfl
  rw [e1] at mx
  have l1 : ¬ (1 : Int32) < 0 := by decide
  have y1 : (1 : Int32).toNatClampNeg = 1 := rfl
  have g1 : 1 < 16 := by decide
  have k1 : ¬ nI (max 1 (N 1)) < t := fun z => by
    have z' := nI_pos (n := max 1 (N 1)) (by omega)
    rw [Int32.lt_iff_toInt_lt] at z z' ht
    omega
  have l : gz_loop 11 4 lb_X0_deals_11 [.ref 4, .int t, .int (nI n), .int (nI (max 1 (N 1)))] h = some (.inl (43, [.ref 4, .int t, .int (nI n), .int (nI (max 1 (N 1)))], h)) := gz_loop_exit (by simp only [lb_X0_deals_11, gz_sem, gz_ae, Value.category, gz_i, gz_l, gz_nu, gz_li, gz_ll, gz_la, gz_ib, gz_iz, gz_lb, gz_lz, gz_ls, gz_lc, gz_i2l, gz_l2i, gz_get, gz_ald, gz_len, gz_dup, gz_d2, gz_nar, gz_a0, gz_a1, gz_cs, gz_cv, gz_mk, gz_te, gz_j1, gz_j2, gz_jn, gz_jk, gz_jo, gz_ja, gz_sat, gz_seti, gz_seta, gz_set2, gz_inc, gz_put, gz_ast, gz_pop, gz_vs, gz_vv, gz_sup, gz_rv, gz_ri, gz_rl, gz_ra, gz_if, gz_seq, gz_sw, gz_st, gz_st2, rok_I, rok_J, rok_V, rok_Z0, rok_Z1, rok_Zi, rok_R, rok_N, bi_rok, bi_0, bi_1, fit_I, fit_J, fit_Z0, fit_Z1, fit_Zi, fit_R, fit_N, fit_aR, aty_I, aty_Z0, aty_Z1, aty_Zi, aty_J, gz_ix, List.getElem?_cons_zero, List.getElem?_cons_succ, List.getElem?_nil, List.reverse_cons, List.reverse_nil, List.nil_append, List.cons_append, List.take_succ_cons, List.take_zero, List.take_nil, List.length_cons, List.length_nil, decide_true, decide_false, decide_not, Bool.not_true, Bool.not_false, gz_nle, if_true, if_false, and_true, true_and, and_self, and_false, false_and, or_true, true_or, or_false, false_or, Bool.false_eq_true, not_true, not_false_iff, Decidable.not_not, Nat.reduceLeDiff, Nat.reduceAdd, Nat.reduceEqDiff, Nat.reduceSub, Nat.reduceLT, Nat.zero_add, reduceCtorEq, reduceIte, eq_self, i32_10, i32_01, Nat.zero_le, Nat.one_ne_zero, k1]) (by decide)
  simp only [se_X0_deals, sm_X0_deals, gz_sem, gz_ae, Value.category, gz_i, gz_l, gz_nu, gz_li, gz_ll, gz_la, gz_ib, gz_iz, gz_lb, gz_lz, gz_ls, gz_lc, gz_i2l, gz_l2i, gz_get, gz_ald, gz_len, gz_dup, gz_d2, gz_nar, gz_a0, gz_a1, gz_cs, gz_cv, gz_mk, gz_te, gz_j1, gz_j2, gz_jn, gz_jk, gz_jo, gz_ja, gz_sat, gz_seti, gz_seta, gz_set2, gz_inc, gz_put, gz_ast, gz_pop, gz_vs, gz_vv, gz_sup, gz_rv, gz_ri, gz_rl, gz_ra, gz_if, gz_seq, gz_sw, gz_st, gz_st2, rok_I, rok_J, rok_V, rok_Z0, rok_Z1, rok_Zi, rok_R, rok_N, bi_rok, bi_0, bi_1, fit_I, fit_J, fit_Z0, fit_Z1, fit_Zi, fit_R, fit_N, fit_aR, aty_I, aty_Z0, aty_Z1, aty_Zi, aty_J, gz_ix, List.getElem?_cons_zero, List.getElem?_cons_succ, List.getElem?_nil, List.reverse_cons, List.reverse_nil, List.nil_append, List.cons_append, List.take_succ_cons, List.take_zero, List.take_nil, List.length_cons, List.length_nil, decide_true, decide_false, decide_not, Bool.not_true, Bool.not_false, gz_nle, if_true, if_false, and_true, true_and, and_self, and_false, false_and, or_true, true_or, or_false, false_or, Bool.false_eq_true, not_true, not_false_iff, Decidable.not_not, Nat.reduceLeDiff, Nat.reduceAdd, Nat.reduceEqDiff, Nat.reduceSub, Nat.reduceLT, Nat.zero_add, reduceCtorEq, reduceIte, eq_self, i32_10, i32_01, Nat.zero_le, Nat.one_ne_zero, c, ax, l1, y1, g1, n1, mx, l]
/-- one is left out -/
def LV (W : Nat → Nat → Bool) (Cn : Nat → Nat) (S n : Nat) : Prop := ∃ i, i < S ∧ 0 < Cn i ∧ rS W n i = 0
set_option maxHeartbeats 4000000 in
theorem st_lv {h : gz_H} {JJ a S q n : Nat} {x Cn Rt : Nat → Nat} {W : Nat → Nat → Bool} (H : AX h JJ a S q n x Cn Rt W) : se_X0_leavesOneOut [.ref 4, .ref a, .ref q] h = some (some (.int (gz_bi (LV W Cn S n))), h) := by
  obtain ⟨c1, c2, c3, c4, ⟨c5, c5b, c5c, -⟩, c6, c7⟩ := H
  have body : ∀ i, i < S → (¬ (0 < Cn i ∧ rS W n i = 0) → lb_X0_leavesOneOut_2 ([Value.ref 4, .ref a, .ref q, .int (nI i)].take 4) h = some (.inl (2, [.ref 4, .ref a, .ref q, .int (nI (i + 1))], h))) ∧ ((0 < Cn i ∧ rS W n i = 0) → lb_X0_leavesOneOut_2 ([Value.ref 4, .ref a, .ref q, .int (nI i)].take 4) h = some (.inr (some (.int 1), h))) := by
    intro i hi
    obtain ⟨d1, d2, d3, d4, d5, d6, d7, d8⟩ := c6 i hi
    have k1 : nI i < nI S := nI_lt hi (by omega)
    have i2 : ¬ nI i < 0 := nI_pos (by omega)
    have i3 : (nI i).toNatClampNeg = i := nI_clamp (by omega)
    have i4 : i < 8 := by omega
    have sw := st_sw c4 c5c i4 (W i) (fun s hs => c7 i s hi hs)
    have rl := bm_16 (f := W i) c5c
    by_cases p : 0 < Cn i
    · have t1 : 0 < nI (Cn i) := nI_gt0 p (by omega)
      by_cases r : rS W n i = 0
      · have t2 : decide (nI (bm (W i) n) = 0) = true := by
          rw [decide_eq_true_eq]
          have : bm (W i) n = 0 := r
          rw [this]; rfl
        refine ⟨fun z => absurd ⟨p, r⟩ z, fun _ => ?_⟩
        simp only [lb_X0_leavesOneOut_2, gz_sem, gz_ae, Value.category, gz_i, gz_l, gz_nu, gz_li, gz_ll, gz_la, gz_ib, gz_iz, gz_lb, gz_lz, gz_ls, gz_lc, gz_i2l, gz_l2i, gz_get, gz_ald, gz_len, gz_dup, gz_d2, gz_nar, gz_a0, gz_a1, gz_cs, gz_cv, gz_mk, gz_te, gz_j1, gz_j2, gz_jn, gz_jk, gz_jo, gz_ja, gz_sat, gz_seti, gz_seta, gz_set2, gz_inc, gz_put, gz_ast, gz_pop, gz_vs, gz_vv, gz_sup, gz_rv, gz_ri, gz_rl, gz_ra, gz_if, gz_seq, gz_sw, gz_st, gz_st2, rok_I, rok_J, rok_V, rok_Z0, rok_Z1, rok_Zi, rok_R, rok_N, bi_rok, bi_0, bi_1, fit_I, fit_J, fit_Z0, fit_Z1, fit_Zi, fit_R, fit_N, fit_aR, aty_I, aty_Z0, aty_Z1, aty_Zi, aty_J, gz_ix, List.getElem?_cons_zero, List.getElem?_cons_succ, List.getElem?_nil, List.reverse_cons, List.reverse_nil, List.nil_append, List.cons_append, List.take_succ_cons, List.take_zero, List.take_nil, List.length_cons, List.length_nil, decide_true, decide_false, decide_not, Bool.not_true, Bool.not_false, gz_nle, if_true, if_false, and_true, true_and, and_self, and_false, false_and, or_true, true_or, or_false, false_or, Bool.false_eq_true, not_true, not_false_iff, Decidable.not_not, Nat.reduceLeDiff, Nat.reduceAdd, Nat.reduceEqDiff, Nat.reduceSub, Nat.reduceLT, Nat.zero_add, reduceCtorEq, reduceIte, eq_self, i32_10, i32_01, Nat.zero_le, Nat.one_ne_zero, c3, c4, k1, i2, i3, i4, d1, d3, d4, t1, sw, t2]
      · have t2 : ¬ nI (bm (W i) n) = 0 := nI_ne0 (Nat.pos_of_ne_zero r) (by omega)
        refine ⟨fun _ => ?_, fun z => absurd z.2 r⟩
        simp only [lb_X0_leavesOneOut_2, gz_sem, gz_ae, Value.category, gz_i, gz_l, gz_nu, gz_li, gz_ll, gz_la, gz_ib, gz_iz, gz_lb, gz_lz, gz_ls, gz_lc, gz_i2l, gz_l2i, gz_get, gz_ald, gz_len, gz_dup, gz_d2, gz_nar, gz_a0, gz_a1, gz_cs, gz_cv, gz_mk, gz_te, gz_j1, gz_j2, gz_jn, gz_jk, gz_jo, gz_ja, gz_sat, gz_seti, gz_seta, gz_set2, gz_inc, gz_put, gz_ast, gz_pop, gz_vs, gz_vv, gz_sup, gz_rv, gz_ri, gz_rl, gz_ra, gz_if, gz_seq, gz_sw, gz_st, gz_st2, rok_I, rok_J, rok_V, rok_Z0, rok_Z1, rok_Zi, rok_R, rok_N, bi_rok, bi_0, bi_1, fit_I, fit_J, fit_Z0, fit_Z1, fit_Zi, fit_R, fit_N, fit_aR, aty_I, aty_Z0, aty_Z1, aty_Zi, aty_J, gz_ix, List.getElem?_cons_zero, List.getElem?_cons_succ, List.getElem?_nil, List.reverse_cons, List.reverse_nil, List.nil_append, List.cons_append, List.take_succ_cons, List.take_zero, List.take_nil, List.length_cons, List.length_nil, decide_true, decide_false, decide_not, Bool.not_true, Bool.not_false, gz_nle, if_true, if_false, and_true, true_and, and_self, and_false, false_and, or_true, true_or, or_false, false_or, Bool.false_eq_true, not_true, not_false_iff, Decidable.not_not, Nat.reduceLeDiff, Nat.reduceAdd, Nat.reduceEqDiff, Nat.reduceSub, Nat.reduceLT, Nat.zero_add, reduceCtorEq, reduceIte, eq_self, i32_10, i32_01, Nat.zero_le, Nat.one_ne_zero, c3, c4, k1, i2, i3, i4, d1, d3, d4, t1, sw, t2, nI_1]
    · have t1 : ¬ 0 < nI (Cn i) := by rw [show Cn i = 0 by omega]; decide
      refine ⟨fun _ => ?_, fun z => absurd z.1 p⟩
      simp only [lb_X0_leavesOneOut_2, gz_sem, gz_ae, Value.category, gz_i, gz_l, gz_nu, gz_li, gz_ll, gz_la, gz_ib, gz_iz, gz_lb, gz_lz, gz_ls, gz_lc, gz_i2l, gz_l2i, gz_get, gz_ald, gz_len, gz_dup, gz_d2, gz_nar, gz_a0, gz_a1, gz_cs, gz_cv, gz_mk, gz_te, gz_j1, gz_j2, gz_jn, gz_jk, gz_jo, gz_ja, gz_sat, gz_seti, gz_seta, gz_set2, gz_inc, gz_put, gz_ast, gz_pop, gz_vs, gz_vv, gz_sup, gz_rv, gz_ri, gz_rl, gz_ra, gz_if, gz_seq, gz_sw, gz_st, gz_st2, rok_I, rok_J, rok_V, rok_Z0, rok_Z1, rok_Zi, rok_R, rok_N, bi_rok, bi_0, bi_1, fit_I, fit_J, fit_Z0, fit_Z1, fit_Zi, fit_R, fit_N, fit_aR, aty_I, aty_Z0, aty_Z1, aty_Zi, aty_J, gz_ix, List.getElem?_cons_zero, List.getElem?_cons_succ, List.getElem?_nil, List.reverse_cons, List.reverse_nil, List.nil_append, List.cons_append, List.take_succ_cons, List.take_zero, List.take_nil, List.length_cons, List.length_nil, decide_true, decide_false, decide_not, Bool.not_true, Bool.not_false, gz_nle, if_true, if_false, and_true, true_and, and_self, and_false, false_and, or_true, true_or, or_false, false_or, Bool.false_eq_true, not_true, not_false_iff, Decidable.not_not, Nat.reduceLeDiff, Nat.reduceAdd, Nat.reduceEqDiff, Nat.reduceSub, Nat.reduceLT, Nat.zero_add, reduceCtorEq, reduceIte, eq_self, i32_10, i32_01, Nat.zero_le, Nat.one_ne_zero, c3, c4, k1, i2, i3, i4, d1, d3, d4, t1, nI_1]
  have e0 : nI 0 = (0 : Int32) := rfl
  by_cases ex : LV W Cn S n
  · rw [bi_t ex]
    obtain ⟨i, i1, i2, i3⟩ := gz_least (fun i => 0 < Cn i ∧ rS W n i = 0) S ex
    have l := gz_seek0 (L := 2) (k := 4) (a := lb_X0_leavesOneOut_2) (h := h) S (fun i => 0 < Cn i ∧ rS W n i = 0) (fun i => [.ref 4, .ref a, .ref q, .int (nI i)]) (fun _ => (some (.int 1), h)) (fun s hs g => (body s hs).1 g) (fun s hs g => (body s hs).2 g) i i2 i1 i3
    rw [e0] at l
    simp only [se_X0_leavesOneOut, sm_X0_leavesOneOut, gz_sem, gz_ae, Value.category, gz_i, gz_l, gz_nu, gz_li, gz_ll, gz_la, gz_ib, gz_iz, gz_lb, gz_lz, gz_ls, gz_lc, gz_i2l, gz_l2i, gz_get, gz_ald, gz_len, gz_dup, gz_d2, gz_nar, gz_a0, gz_a1, gz_cs, gz_cv, gz_mk, gz_te, gz_j1, gz_j2, gz_jn, gz_jk, gz_jo, gz_ja, gz_sat, gz_seti, gz_seta, gz_set2, gz_inc, gz_put, gz_ast, gz_pop, gz_vs, gz_vv, gz_sup, gz_rv, gz_ri, gz_rl, gz_ra, gz_if, gz_seq, gz_sw, gz_st, gz_st2, rok_I, rok_J, rok_V, rok_Z0, rok_Z1, rok_Zi, rok_R, rok_N, bi_rok, bi_0, bi_1, fit_I, fit_J, fit_Z0, fit_Z1, fit_Zi, fit_R, fit_N, fit_aR, aty_I, aty_Z0, aty_Z1, aty_Zi, aty_J, gz_ix, List.getElem?_cons_zero, List.getElem?_cons_succ, List.getElem?_nil, List.reverse_cons, List.reverse_nil, List.nil_append, List.cons_append, List.take_succ_cons, List.take_zero, List.take_nil, List.length_cons, List.length_nil, decide_true, decide_false, decide_not, Bool.not_true, Bool.not_false, gz_nle, if_true, if_false, and_true, true_and, and_self, and_false, false_and, or_true, true_or, or_false, false_or, Bool.false_eq_true, not_true, not_false_iff, Decidable.not_not, Nat.reduceLeDiff, Nat.reduceAdd, Nat.reduceEqDiff, Nat.reduceSub, Nat.reduceLT, Nat.zero_add, reduceCtorEq, reduceIte, eq_self, i32_10, i32_01, Nat.zero_le, Nat.one_ne_zero, l]
  · rw [bi_f ex]
    have l := gz_seekN (L := 2) (k := 4) (X := 38) (a := lb_X0_leavesOneOut_2) (h := h) S (fun i => 0 < Cn i ∧ rS W n i = 0) (fun i => [.ref 4, .ref a, .ref q, .int (nI i)]) (env' := [.ref 4, .ref a, .ref q, .int (nI S)]) (h' := h) (by decide) (fun s hs g => (body s hs).1 g) (by
      have k1 : ¬ nI S < nI S := nI_nlt (Nat.le_refl _) (by omega)
      simp only [lb_X0_leavesOneOut_2, gz_sem, gz_ae, Value.category, gz_i, gz_l, gz_nu, gz_li, gz_ll, gz_la, gz_ib, gz_iz, gz_lb, gz_lz, gz_ls, gz_lc, gz_i2l, gz_l2i, gz_get, gz_ald, gz_len, gz_dup, gz_d2, gz_nar, gz_a0, gz_a1, gz_cs, gz_cv, gz_mk, gz_te, gz_j1, gz_j2, gz_jn, gz_jk, gz_jo, gz_ja, gz_sat, gz_seti, gz_seta, gz_set2, gz_inc, gz_put, gz_ast, gz_pop, gz_vs, gz_vv, gz_sup, gz_rv, gz_ri, gz_rl, gz_ra, gz_if, gz_seq, gz_sw, gz_st, gz_st2, rok_I, rok_J, rok_V, rok_Z0, rok_Z1, rok_Zi, rok_R, rok_N, bi_rok, bi_0, bi_1, fit_I, fit_J, fit_Z0, fit_Z1, fit_Zi, fit_R, fit_N, fit_aR, aty_I, aty_Z0, aty_Z1, aty_Zi, aty_J, gz_ix, List.getElem?_cons_zero, List.getElem?_cons_succ, List.getElem?_nil, List.reverse_cons, List.reverse_nil, List.nil_append, List.cons_append, List.take_succ_cons, List.take_zero, List.take_nil, List.length_cons, List.length_nil, decide_true, decide_false, decide_not, Bool.not_true, Bool.not_false, gz_nle, if_true, if_false, and_true, true_and, and_self, and_false, false_and, or_true, true_or, or_false, false_or, Bool.false_eq_true, not_true, not_false_iff, Decidable.not_not, Nat.reduceLeDiff, Nat.reduceAdd, Nat.reduceEqDiff, Nat.reduceSub, Nat.reduceLT, Nat.zero_add, reduceCtorEq, reduceIte, eq_self, i32_10, i32_01, Nat.zero_le, Nat.one_ne_zero, c3, k1]) (fun s hs g => ex ⟨s, hs, g.1, g.2⟩)
    rw [e0] at l
    simp only [se_X0_leavesOneOut, sm_X0_leavesOneOut, gz_sem, gz_ae, Value.category, gz_i, gz_l, gz_nu, gz_li, gz_ll, gz_la, gz_ib, gz_iz, gz_lb, gz_lz, gz_ls, gz_lc, gz_i2l, gz_l2i, gz_get, gz_ald, gz_len, gz_dup, gz_d2, gz_nar, gz_a0, gz_a1, gz_cs, gz_cv, gz_mk, gz_te, gz_j1, gz_j2, gz_jn, gz_jk, gz_jo, gz_ja, gz_sat, gz_seti, gz_seta, gz_set2, gz_inc, gz_put, gz_ast, gz_pop, gz_vs, gz_vv, gz_sup, gz_rv, gz_ri, gz_rl, gz_ra, gz_if, gz_seq, gz_sw, gz_st, gz_st2, rok_I, rok_J, rok_V, rok_Z0, rok_Z1, rok_Zi, rok_R, rok_N, bi_rok, bi_0, bi_1, fit_I, fit_J, fit_Z0, fit_Z1, fit_Zi, fit_R, fit_N, fit_aR, aty_I, aty_Z0, aty_Z1, aty_Zi, aty_J, gz_ix, List.getElem?_cons_zero, List.getElem?_cons_succ, List.getElem?_nil, List.reverse_cons, List.reverse_nil, List.nil_append, List.cons_append, List.take_succ_cons, List.take_zero, List.take_nil, List.length_cons, List.length_nil, decide_true, decide_false, decide_not, Bool.not_true, Bool.not_false, gz_nle, if_true, if_false, and_true, true_and, and_self, and_false, false_and, or_true, true_or, or_false, false_or, Bool.false_eq_true, not_true, not_false_iff, Decidable.not_not, Nat.reduceLeDiff, Nat.reduceAdd, Nat.reduceEqDiff, Nat.reduceSub, Nat.reduceLT, Nat.zero_add, reduceCtorEq, reduceIte, eq_self, i32_10, i32_01, Nat.zero_le, Nat.one_ne_zero, l]
/-- a cycle by which all pass -/
def SH (W : Nat → Nat → Bool) (Cn Rt : Nat → Nat) (S n B cy : Nat) : Prop := ¬ LV W Cn S n ∧ ∃ a b c d, FE (nds (nR Cn Rt 1 cy) (rS W n) S) n (cy - B) a b c d
theorem nds_Z (f : Nat → Nat) (W : Nat → Nat → Bool) (S n : Nat) : ∀ r, 2 ^ n ≤ r → r < 16 → nds f (rS W n) S r = 0 := fun r h1 _ => nds_z (fun i _ e => by
  have := bm_lt (W i) n
  unfold rS at e
  omega)
theorem sum_AW {h h' : gz_H} (w : AW h h') {q : Nat} (hq : 55 ≤ q) : ∀ k, gz_sum h' (q + 3) k = gz_sum h (q + 3) k
  | 0 => rfl
  | k + 1 => by
    show gz_sum h' (q + 3) k + _ = gz_sum h (q + 3) k + _
    rw [sum_AW w hq k, sm_I (w.2.2.1 _ (by omega))]
set_option maxHeartbeats 4000000 in
theorem st_lc {h0 : gz_H} {JJ a S q n B : Nat} {x Cn Rt : Nat → Nat} {W : Nat → Nat → Bool} (H : AX h0 JJ a S q n x Cn Rt W) (sB : gz_sum h0 (q + 3) n = nI B) (hB : B ≤ 80) : ∃ h', AW h0 h' ∧ ((∃ cy, 20 ≤ cy ∧ cy ≤ 90 ∧ SH W Cn Rt S n B cy ∧ (∀ c', 20 ≤ c' → c' < cy → ¬ SH W Cn Rt S n B c') ∧ se_X0_leastCycle [.ref 4, .ref a, .ref q] h0 = some (some (.int (nI cy)), h')) ∨ ((∀ c', 20 ≤ c' → c' ≤ 90 → ¬ SH W Cn Rt S n B c') ∧ se_X0_leastCycle [.ref 4, .ref a, .ref q] h0 = some (some (.int (-1)), h'))) := by
  have lv := st_lv H
  have c1 := H.1
  by_cases L : LV W Cn S n
  · rw [bi_t L] at lv
    refine ⟨h0, AW_rf H.2.1, Or.inr ⟨fun _ _ _ z => z.1 L, ?_⟩⟩
    simp only [se_X0_leastCycle, sm_X0_leastCycle, gz_sem, gz_ae, Value.category, gz_i, gz_l, gz_nu, gz_li, gz_ll, gz_la, gz_ib, gz_iz, gz_lb, gz_lz, gz_ls, gz_lc, gz_i2l, gz_l2i, gz_get, gz_ald, gz_len, gz_dup, gz_d2, gz_nar, gz_a0, gz_a1, gz_cs, gz_cv, gz_mk, gz_te, gz_j1, gz_j2, gz_jn, gz_jk, gz_jo, gz_ja, gz_sat, gz_seti, gz_seta, gz_set2, gz_inc, gz_put, gz_ast, gz_pop, gz_vs, gz_vv, gz_sup, gz_rv, gz_ri, gz_rl, gz_ra, gz_if, gz_seq, gz_sw, gz_st, gz_st2, rok_I, rok_J, rok_V, rok_Z0, rok_Z1, rok_Zi, rok_R, rok_N, bi_rok, bi_0, bi_1, fit_I, fit_J, fit_Z0, fit_Z1, fit_Zi, fit_R, fit_N, fit_aR, aty_I, aty_Z0, aty_Z1, aty_Zi, aty_J, gz_ix, List.getElem?_cons_zero, List.getElem?_cons_succ, List.getElem?_nil, List.reverse_cons, List.reverse_nil, List.nil_append, List.cons_append, List.take_succ_cons, List.take_zero, List.take_nil, List.length_cons, List.length_nil, decide_true, decide_false, decide_not, Bool.not_true, Bool.not_false, gz_nle, if_true, if_false, and_true, true_and, and_self, and_false, false_and, or_true, true_or, or_false, false_or, Bool.false_eq_true, not_true, not_false_iff, Decidable.not_not, Nat.reduceLeDiff, Nat.reduceAdd, Nat.reduceEqDiff, Nat.reduceSub, Nat.reduceLT, Nat.zero_add, reduceCtorEq, reduceIte, eq_self, i32_10, i32_01, Nat.zero_le, Nat.one_ne_zero, c1, lv]
  rw [bi_f L] at lv
  have lp : ∀ d cy h1, cy + d = 91 → 20 ≤ cy → AW h0 h1 → (∀ c', 20 ≤ c' → c' < cy → ¬ SH W Cn Rt S n B c') → ∃ h', AW h0 h' ∧ ((∃ c2, 20 ≤ c2 ∧ c2 ≤ 90 ∧ SH W Cn Rt S n B c2 ∧ (∀ c', 20 ≤ c' → c' < c2 → ¬ SH W Cn Rt S n B c') ∧ gz_loop 14 4 lb_X0_leastCycle_14 [.ref 4, .ref a, .ref q, .int (nI cy)] h1 = some (.inr (some (.int (nI c2)), h'))) ∨ ((∀ c', 20 ≤ c' → c' ≤ 90 → ¬ SH W Cn Rt S n B c') ∧ ∃ e, gz_loop 14 4 lb_X0_leastCycle_14 [.ref 4, .ref a, .ref q, .int (nI cy)] h1 = some (.inl (54, e, h')))) := by
    intro d
    induction d with
    | zero =>
      intro cy h1 e h20 w no
      have : cy = 91 := by omega
      subst this
      have k1 : (90 : Int32) < nI 91 := by decide
      refine ⟨h1, w, Or.inr ⟨fun c' g1 g2 => no c' g1 (by omega), _, gz_loop_exit (l := 54) (env1 := [.ref 4, .ref a, .ref q, .int (nI 91)]) (h1 := h1) ?_ (by decide)⟩⟩
      simp only [lb_X0_leastCycle_14, gz_sem, gz_ae, Value.category, gz_i, gz_l, gz_nu, gz_li, gz_ll, gz_la, gz_ib, gz_iz, gz_lb, gz_lz, gz_ls, gz_lc, gz_i2l, gz_l2i, gz_get, gz_ald, gz_len, gz_dup, gz_d2, gz_nar, gz_a0, gz_a1, gz_cs, gz_cv, gz_mk, gz_te, gz_j1, gz_j2, gz_jn, gz_jk, gz_jo, gz_ja, gz_sat, gz_seti, gz_seta, gz_set2, gz_inc, gz_put, gz_ast, gz_pop, gz_vs, gz_vv, gz_sup, gz_rv, gz_ri, gz_rl, gz_ra, gz_if, gz_seq, gz_sw, gz_st, gz_st2, rok_I, rok_J, rok_V, rok_Z0, rok_Z1, rok_Zi, rok_R, rok_N, bi_rok, bi_0, bi_1, fit_I, fit_J, fit_Z0, fit_Z1, fit_Zi, fit_R, fit_N, fit_aR, aty_I, aty_Z0, aty_Z1, aty_Zi, aty_J, gz_ix, List.getElem?_cons_zero, List.getElem?_cons_succ, List.getElem?_nil, List.reverse_cons, List.reverse_nil, List.nil_append, List.cons_append, List.take_succ_cons, List.take_zero, List.take_nil, List.length_cons, List.length_nil, decide_true, decide_false, decide_not, Bool.not_true, Bool.not_false, gz_nle, if_true, if_false, and_true, true_and, and_self, and_false, false_and, or_true, true_or, or_false, false_or, Bool.false_eq_true, not_true, not_false_iff, Decidable.not_not, Nat.reduceLeDiff, Nat.reduceAdd, Nat.reduceEqDiff, Nat.reduceSub, Nat.reduceLT, Nat.zero_add, reduceCtorEq, reduceIte, eq_self, i32_10, i32_01, Nat.zero_le, Nat.one_ne_zero, k1]
    | succ d ih =>
      intro cy h1 e h20 w no
      have k1 : ¬ (90 : Int32) < nI cy := nI_nlt (a := 90) (by omega) (by omega)
      have HX := AX_AW w H
      obtain ⟨h2, a1, a2, a3, a4⟩ := st_ask HX 1 cy (by decide) (by decide) (by omega)
      have W2 := AW_tr w a2
      have HX2 := AX_AW W2 H
      have e1 : lN 1 = (1 : Int64) := rfl
      have e2 : (nI cy).toInt64 = lN cy := nI_l (by omega)
      rw [e1] at a1
      have nh : NH h2 (nds (nR Cn Rt 1 cy) (rS W n) S) := fun r hr => ⟨a4 r hr, (nds_le S).mpr (fun k _ _ => nR_le Cn Rt 1 cy k)⟩
      obtain ⟨b1, b2, b3, b4, ⟨b5, n2, n4, qa, qq⟩, -⟩ := AX_AW W2 H
      have cH := HX.1
      have aH := HX.2.1
      have ab := st_X2_allBetweens h2 q n b4 n4
      rw [sum_AW W2 qq, sB] at ab
      have key : ∃ h3, DW h2 h3 ∧ ((¬ SH W Cn Rt S n B cy ∧ se_X0_deals [.ref 4, .int (nI cy - nI B), .int (nI n)] h2 = some (some (.int 0), h3)) ∨ (SH W Cn Rt S n B cy ∧ se_X0_deals [.ref 4, .int (nI cy - nI B), .int (nI n)] h2 = some (some (.int 1), h3))) := by
        by_cases le : B ≤ cy
        · rw [pk_sub le]
          obtain ⟨h3, w3, ⟨r1, r2⟩ | ⟨a', b', c', d', r1, r2, -⟩⟩ := st_deals b1 b2 nh n2 n4 (nds_Z _ W S n) (T := cy - B) (by omega)
          · exact ⟨h3, w3, Or.inl ⟨fun z => r1 z.2, r2⟩⟩
          · exact ⟨h3, w3, Or.inr ⟨⟨L, a', b', c', d', r1.1⟩, r2⟩⟩
        · refine ⟨h2, DW_rf b2, Or.inl ⟨fun z => ?_, st_deals_n b1 b2 nh _ (pk_sneg (by omega) (by omega))⟩⟩
          obtain ⟨-, a', b', c', d', f⟩ := z
          have := f.1.1
          have := f.1.2.2.2.2.2.2
          omega
      obtain ⟨h3, w3, ⟨r1, r2⟩ | ⟨r1, r2⟩⟩ := key
      · obtain ⟨h4, w4, r⟩ := ih (cy + 1) h3 (by omega) (by omega) (AW_tr W2 w3.1) (fun c' g1 g2 => by
          by_cases z : c' = cy
          · subst z; exact r1
          · exact no c' g1 (by omega))
        have st : lb_X0_leastCycle_14 [.ref 4, .ref a, .ref q, .int (nI cy)] h1 = some (.inl (14, [.ref 4, .ref a, .ref q, .int (nI (cy + 1))], h3)) := by
          simp only [lb_X0_leastCycle_14, gz_sem, gz_ae, Value.category, gz_i, gz_l, gz_nu, gz_li, gz_ll, gz_la, gz_ib, gz_iz, gz_lb, gz_lz, gz_ls, gz_lc, gz_i2l, gz_l2i, gz_get, gz_ald, gz_len, gz_dup, gz_d2, gz_nar, gz_a0, gz_a1, gz_cs, gz_cv, gz_mk, gz_te, gz_j1, gz_j2, gz_jn, gz_jk, gz_jo, gz_ja, gz_sat, gz_seti, gz_seta, gz_set2, gz_inc, gz_put, gz_ast, gz_pop, gz_vs, gz_vv, gz_sup, gz_rv, gz_ri, gz_rl, gz_ra, gz_if, gz_seq, gz_sw, gz_st, gz_st2, rok_I, rok_J, rok_V, rok_Z0, rok_Z1, rok_Zi, rok_R, rok_N, bi_rok, bi_0, bi_1, fit_I, fit_J, fit_Z0, fit_Z1, fit_Zi, fit_R, fit_N, fit_aR, aty_I, aty_Z0, aty_Z1, aty_Zi, aty_J, gz_ix, List.getElem?_cons_zero, List.getElem?_cons_succ, List.getElem?_nil, List.reverse_cons, List.reverse_nil, List.nil_append, List.cons_append, List.take_succ_cons, List.take_zero, List.take_nil, List.length_cons, List.length_nil, decide_true, decide_false, decide_not, Bool.not_true, Bool.not_false, gz_nle, if_true, if_false, and_true, true_and, and_self, and_false, false_and, or_true, true_or, or_false, false_or, Bool.false_eq_true, not_true, not_false_iff, Decidable.not_not, Nat.reduceLeDiff, Nat.reduceAdd, Nat.reduceEqDiff, Nat.reduceSub, Nat.reduceLT, Nat.zero_add, reduceCtorEq, reduceIte, eq_self, i32_10, i32_01, Nat.zero_le, Nat.one_ne_zero, k1, cH, e2, a1, b1, b4, ab, r2, nI_1]
        refine ⟨h4, w4, ?_⟩
        rcases r with ⟨c2, s1, s2, s3, s4, s5⟩ | ⟨s1, e', s2⟩
        · exact Or.inl ⟨c2, s1, s2, s3, s4, gz_loop_next (k := 4) (env := [.ref 4, .ref a, .ref q, .int (nI cy)]) st s5⟩
        · exact Or.inr ⟨s1, e', gz_loop_next (k := 4) (env := [.ref 4, .ref a, .ref q, .int (nI cy)]) st s2⟩
      · have st : lb_X0_leastCycle_14 [.ref 4, .ref a, .ref q, .int (nI cy)] h1 = some (.inr (some (.int (nI cy)), h3)) := by
          simp only [lb_X0_leastCycle_14, gz_sem, gz_ae, Value.category, gz_i, gz_l, gz_nu, gz_li, gz_ll, gz_la, gz_ib, gz_iz, gz_lb, gz_lz, gz_ls, gz_lc, gz_i2l, gz_l2i, gz_get, gz_ald, gz_len, gz_dup, gz_d2, gz_nar, gz_a0, gz_a1, gz_cs, gz_cv, gz_mk, gz_te, gz_j1, gz_j2, gz_jn, gz_jk, gz_jo, gz_ja, gz_sat, gz_seti, gz_seta, gz_set2, gz_inc, gz_put, gz_ast, gz_pop, gz_vs, gz_vv, gz_sup, gz_rv, gz_ri, gz_rl, gz_ra, gz_if, gz_seq, gz_sw, gz_st, gz_st2, rok_I, rok_J, rok_V, rok_Z0, rok_Z1, rok_Zi, rok_R, rok_N, bi_rok, bi_0, bi_1, fit_I, fit_J, fit_Z0, fit_Z1, fit_Zi, fit_R, fit_N, fit_aR, aty_I, aty_Z0, aty_Z1, aty_Zi, aty_J, gz_ix, List.getElem?_cons_zero, List.getElem?_cons_succ, List.getElem?_nil, List.reverse_cons, List.reverse_nil, List.nil_append, List.cons_append, List.take_succ_cons, List.take_zero, List.take_nil, List.length_cons, List.length_nil, decide_true, decide_false, decide_not, Bool.not_true, Bool.not_false, gz_nle, if_true, if_false, and_true, true_and, and_self, and_false, false_and, or_true, true_or, or_false, false_or, Bool.false_eq_true, not_true, not_false_iff, Decidable.not_not, Nat.reduceLeDiff, Nat.reduceAdd, Nat.reduceEqDiff, Nat.reduceSub, Nat.reduceLT, Nat.zero_add, reduceCtorEq, reduceIte, eq_self, i32_10, i32_01, Nat.zero_le, Nat.one_ne_zero, k1, cH, e2, a1, b1, b4, ab, r2]
        exact ⟨h3, AW_tr W2 w3.1, Or.inl ⟨cy, h20, by omega, r1, no, gz_loop_ret (k := 4) (env := [.ref 4, .ref a, .ref q, .int (nI cy)]) st⟩⟩
  obtain ⟨h', w, r⟩ := lp 71 20 h0 rfl (by omega) (AW_rf H.2.1) (fun c' g1 g2 => by omega)
  have e20 : nI 20 = (20 : Int32) := rfl
  rw [e20] at r
  refine ⟨h', w, ?_⟩
  rcases r with ⟨c2, s1, s2, s3, s4, s5⟩ | ⟨s1, e', s2⟩
  · refine Or.inl ⟨c2, s1, s2, s3, s4, ?_⟩
    simp only [se_X0_leastCycle, sm_X0_leastCycle, gz_sem, gz_ae, Value.category, gz_i, gz_l, gz_nu, gz_li, gz_ll, gz_la, gz_ib, gz_iz, gz_lb, gz_lz, gz_ls, gz_lc, gz_i2l, gz_l2i, gz_get, gz_ald, gz_len, gz_dup, gz_d2, gz_nar, gz_a0, gz_a1, gz_cs, gz_cv, gz_mk, gz_te, gz_j1, gz_j2, gz_jn, gz_jk, gz_jo, gz_ja, gz_sat, gz_seti, gz_seta, gz_set2, gz_inc, gz_put, gz_ast, gz_pop, gz_vs, gz_vv, gz_sup, gz_rv, gz_ri, gz_rl, gz_ra, gz_if, gz_seq, gz_sw, gz_st, gz_st2, rok_I, rok_J, rok_V, rok_Z0, rok_Z1, rok_Zi, rok_R, rok_N, bi_rok, bi_0, bi_1, fit_I, fit_J, fit_Z0, fit_Z1, fit_Zi, fit_R, fit_N, fit_aR, aty_I, aty_Z0, aty_Z1, aty_Zi, aty_J, gz_ix, List.getElem?_cons_zero, List.getElem?_cons_succ, List.getElem?_nil, List.reverse_cons, List.reverse_nil, List.nil_append, List.cons_append, List.take_succ_cons, List.take_zero, List.take_nil, List.length_cons, List.length_nil, decide_true, decide_false, decide_not, Bool.not_true, Bool.not_false, gz_nle, if_true, if_false, and_true, true_and, and_self, and_false, false_and, or_true, true_or, or_false, false_or, Bool.false_eq_true, not_true, not_false_iff, Decidable.not_not, Nat.reduceLeDiff, Nat.reduceAdd, Nat.reduceEqDiff, Nat.reduceSub, Nat.reduceLT, Nat.zero_add, reduceCtorEq, reduceIte, eq_self, i32_10, i32_01, Nat.zero_le, Nat.one_ne_zero, c1, lv, s5]
  · refine Or.inr ⟨s1, ?_⟩
    simp only [se_X0_leastCycle, sm_X0_leastCycle, gz_sem, gz_ae, Value.category, gz_i, gz_l, gz_nu, gz_li, gz_ll, gz_la, gz_ib, gz_iz, gz_lb, gz_lz, gz_ls, gz_lc, gz_i2l, gz_l2i, gz_get, gz_ald, gz_len, gz_dup, gz_d2, gz_nar, gz_a0, gz_a1, gz_cs, gz_cv, gz_mk, gz_te, gz_j1, gz_j2, gz_jn, gz_jk, gz_jo, gz_ja, gz_sat, gz_seti, gz_seta, gz_set2, gz_inc, gz_put, gz_ast, gz_pop, gz_vs, gz_vv, gz_sup, gz_rv, gz_ri, gz_rl, gz_ra, gz_if, gz_seq, gz_sw, gz_st, gz_st2, rok_I, rok_J, rok_V, rok_Z0, rok_Z1, rok_Zi, rok_R, rok_N, bi_rok, bi_0, bi_1, fit_I, fit_J, fit_Z0, fit_Z1, fit_Zi, fit_R, fit_N, fit_aR, aty_I, aty_Z0, aty_Z1, aty_Zi, aty_J, gz_ix, List.getElem?_cons_zero, List.getElem?_cons_succ, List.getElem?_nil, List.reverse_cons, List.reverse_nil, List.nil_append, List.cons_append, List.take_succ_cons, List.take_zero, List.take_nil, List.length_cons, List.length_nil, decide_true, decide_false, decide_not, Bool.not_true, Bool.not_false, gz_nle, if_true, if_false, and_true, true_and, and_self, and_false, false_and, or_true, true_or, or_false, false_or, Bool.false_eq_true, not_true, not_false_iff, Decidable.not_not, Nat.reduceLeDiff, Nat.reduceAdd, Nat.reduceEqDiff, Nat.reduceSub, Nat.reduceLT, Nat.zero_add, reduceCtorEq, reduceIte, eq_self, i32_10, i32_01, Nat.zero_le, Nat.one_ne_zero, c1, lv, s2]
