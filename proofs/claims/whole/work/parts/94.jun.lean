def nwX1 (h : gz_H) : gz_H := gz_set (gz_new (gz_set (gz_new (gz_set (gz_new (gz_set (gz_new (gz_set (gz_new (gz_new h (1, 11) (fun j => defaultValue (tyX1 j))) (103, 8) (fun _ => .null)) h.1 0 (.ref (h.1 + 1))) (100, 64) (fun _ => .int 0)) h.1 1 (.ref (h.1 + 2))) (100, 8) (fun _ => .int 0)) h.1 2 (.ref (h.1 + 3))) (100, 8) (fun _ => .int 0)) h.1 3 (.ref (h.1 + 4))) (100, 200) (fun _ => .int 0)) h.1 4 (.ref (h.1 + 5))
set_option maxHeartbeats 4000000 in
theorem nw_X1 (h : gz_H) : se_X1_init [.ref h.1] (gz_new h (1, 11) (fun j => defaultValue (tyX1 j))) = some (none, nwX1 h) := by
  have l1 : h.1 < h.1 + 1 := by omega
  have l2 : h.1 < h.1 + 2 := by omega
  have l3 : h.1 < h.1 + 3 := by omega
  have l4 : h.1 < h.1 + 4 := by omega
  have l5 : h.1 < h.1 + 5 := by omega
  have l6 : h.1 < h.1 + 6 := by omega
  have n1 : ¬ h.1 = h.1 + 1 := by omega
  have n2 : ¬ h.1 = h.1 + 2 := by omega
  have n3 : ¬ h.1 = h.1 + 3 := by omega
  have n4 : ¬ h.1 = h.1 + 4 := by omega
  have n5 : ¬ h.1 = h.1 + 5 := by omega
  have a : ∀ a b : Nat, h.1 + a + b = h.1 + (a + b) := fun a b => by omega
  simp only [se_X1_init, sm_X1_init, gz_sem, gz_ae, Value.category, gz_i, gz_l, gz_nu, gz_li, gz_ll, gz_la, gz_ib, gz_iz, gz_lb, gz_lz, gz_ls, gz_lc, gz_i2l, gz_l2i, gz_get, gz_ald, gz_len, gz_dup, gz_d2, gz_nar, gz_a0, gz_a1, gz_cs, gz_cv, gz_mk, gz_te, gz_j1, gz_j2, gz_jn, gz_jk, gz_jo, gz_ja, gz_sat, gz_seti, gz_seta, gz_set2, gz_inc, gz_put, gz_ast, gz_pop, gz_vs, gz_vv, gz_sup, gz_rv, gz_ri, gz_rl, gz_ra, gz_if, gz_seq, gz_sw, gz_st, gz_st2, rok_I, rok_J, rok_V, rok_Z0, rok_Z1, rok_Zi, rok_R, rok_N, bi_rok, bi_0, bi_1, fit_I, fit_J, fit_Z0, fit_Z1, fit_Zi, fit_R, fit_N, fit_aR, aty_I, aty_Z0, aty_Z1, aty_Zi, aty_J, gz_ix, List.getElem?_cons_zero, List.getElem?_cons_succ, List.getElem?_nil, List.reverse_cons, List.reverse_nil, List.nil_append, List.cons_append, List.take_succ_cons, List.take_zero, List.take_nil, List.length_cons, List.length_nil, decide_true, decide_false, decide_not, Bool.not_true, Bool.not_false, gz_nle, if_true, if_false, and_true, true_and, and_self, and_false, false_and, or_true, true_or, or_false, false_or, Bool.false_eq_true, not_true, not_false_iff, Decidable.not_not, Nat.reduceLeDiff, Nat.reduceAdd, Nat.reduceEqDiff, Nat.reduceSub, Nat.reduceLT, Nat.zero_add, reduceCtorEq, reduceIte, eq_self, i32_10, i32_01, Nat.zero_le, Nat.one_ne_zero, gz_n_set, gz_n_new, gz_k_set, gz_k_new, in8, in64, in200, a, l1, l2, l3, l4, l5, l6, n1, n2, n3, n4, n5, nwX1]
theorem nwX1_n (h : gz_H) : (nwX1 h).1 = h.1 + 6 := rfl
theorem nwX1_sm (h : gz_H) {x : Nat} (hx : x < h.1) : sm h (nwX1 h) x := by
  unfold nwX1
  refine sm_set (sm_new (sm_set (sm_new (sm_set (sm_new (sm_set (sm_new (sm_set (sm_new (sm_new (sm_rf _ _) ?_) ?_) ?_) ?_) ?_) ?_) ?_) ?_) ?_) ?_) ?_
  all_goals (first | omega | (simp only [gz_n_set, gz_n_new]; omega))
theorem nwX1_v (h : gz_H) (k : Nat) (hk : 1 ≤ k) (hk4 : k ≤ 4) (i : Nat) : gz_v (nwX1 h) (h.1 + (k + 1)) i = .int 0 := by
  have : k = 1 ∨ k = 2 ∨ k = 3 ∨ k = 4 := by omega
  rcases this with rfl | rfl | rfl | rfl <;> simp [nwX1, gz_v_set, gz_v_new, gz_n_set, gz_n_new]
theorem nwX1_f (h : gz_H) : gz_v (nwX1 h) h.1 6 = .null ∧ gz_v (nwX1 h) h.1 7 = .null ∧ gz_v (nwX1 h) h.1 8 = .int 0 ∧ gz_v (nwX1 h) h.1 9 = .int 0 ∧ gz_v (nwX1 h) h.1 10 = .int 0 := by
  have n1 : ¬ h.1 = h.1 + 1 := by omega
  have n2 : ¬ h.1 = h.1 + 2 := by omega
  have n3 : ¬ h.1 = h.1 + 3 := by omega
  have n4 : ¬ h.1 = h.1 + 4 := by omega
  have n5 : ¬ h.1 = h.1 + 5 := by omega
  have a : ∀ a b : Nat, h.1 + a + b = h.1 + (a + b) := fun a b => by omega
  refine ⟨?_, ?_, ?_, ?_, ?_⟩
  all_goals simp [nwX1, gz_v_set, gz_v_new, gz_k_set, gz_k_new, gz_n_set, gz_n_new, n1, n2, n3, n4, n5, a]
  all_goals rfl
theorem nwX1_jc (h : gz_H) : jc (nwX1 h) h.1 0 := by
  have t : ∀ k, 1 ≤ k → k ≤ 4 → ∀ i, gz_v (nwX1 h) (h.1 + (k + 1)) i = .int (gz_I (nwX1 h) (h.1 + (k + 1)) i) := fun k hk hk4 i => by
    rw [gz_I_of (nwX1_v h k hk hk4 i)]; exact nwX1_v h k hk hk4 i
  have n1 : ¬ h.1 = h.1 + 1 := by omega
  have n2 : ¬ h.1 = h.1 + 2 := by omega
  have n3 : ¬ h.1 = h.1 + 3 := by omega
  have n4 : ¬ h.1 = h.1 + 4 := by omega
  have n5 : ¬ h.1 = h.1 + 5 := by omega
  have a : ∀ a b : Nat, h.1 + a + b = h.1 + (a + b) := fun a b => by omega
  refine ⟨by rw [nwX1_n]; omega, by rw [nwX1_n]; omega, by rw [nwX1_n]; omega, by rw [nwX1_n]; omega, by rw [nwX1_n]; omega, by rw [nwX1_n]; omega, ?_, ?_, ?_, ?_, ?_, ?_, ?_, ?_, ?_, ?_, ?_, ?_, t 1 (by omega) (by omega), t 2 (by omega) (by omega), t 3 (by omega) (by omega), t 4 (by omega) (by omega)⟩
  all_goals simp [nwX1, gz_v_set, gz_v_new, gz_k_set, gz_k_new, gz_n_set, gz_n_new, n1, n2, n3, n4, n5, a]
  all_goals rfl
def gjn (g : gz_G) (n : Nat) : gz_G := fun a b => if a = 0 ∧ b = g 7 0 then n else if a = 7 ∧ b = 0 then g 7 0 + 1 else if a = 5 ∧ n ≤ b ∧ b < n + 6 then 1 + g 7 0 else g a b
set_option maxHeartbeats 8000000 in
theorem pb_junction : PB se_X7_junction se_X8_junction [] := by
  intro g T hc hr H
  have c := IV_cs H
  have m := IV_md H
  have h8 := IV_8 H
  obtain ⟨T1, T2, T3⟩ := IV_T H
  have T1' := gz_I_of T1
  have hJ := IV_J H
  have e8 : nI 8 = (8 : Int32) := rfl
  by_cases q8 : g 7 0 = 8
  · have k1 : ¬ nI (g 7 0) < 8 := by rw [q8]; decide
    have k2 : nI (g 7 0) = 8 := by rw [q8]; rfl
    refine ⟨.int (-1), hc, hr, g, T, ?_, ?_, fr8_rf _, fr7_rf _, H⟩
    · simp only [se_X7_junction, sm_X7_junction, gz_sem, gz_ae, Value.category, gz_i, gz_l, gz_nu, gz_li, gz_ll, gz_la, gz_ib, gz_iz, gz_lb, gz_lz, gz_ls, gz_lc, gz_i2l, gz_l2i, gz_get, gz_ald, gz_len, gz_dup, gz_d2, gz_nar, gz_a0, gz_a1, gz_cs, gz_cv, gz_mk, gz_te, gz_j1, gz_j2, gz_jn, gz_jk, gz_jo, gz_ja, gz_sat, gz_seti, gz_seta, gz_set2, gz_inc, gz_put, gz_ast, gz_pop, gz_vs, gz_vv, gz_sup, gz_rv, gz_ri, gz_rl, gz_ra, gz_if, gz_seq, gz_sw, gz_st, gz_st2, rok_I, rok_J, rok_V, rok_Z0, rok_Z1, rok_Zi, rok_R, rok_N, bi_rok, bi_0, bi_1, fit_I, fit_J, fit_Z0, fit_Z1, fit_Zi, fit_R, fit_N, fit_aR, aty_I, aty_Z0, aty_Z1, aty_Zi, aty_J, gz_ix, List.getElem?_cons_zero, List.getElem?_cons_succ, List.getElem?_nil, List.reverse_cons, List.reverse_nil, List.nil_append, List.cons_append, List.take_succ_cons, List.take_zero, List.take_nil, List.length_cons, List.length_nil, decide_true, decide_false, decide_not, Bool.not_true, Bool.not_false, gz_nle, if_true, if_false, and_true, true_and, and_self, and_false, false_and, or_true, true_or, or_false, false_or, Bool.false_eq_true, not_true, not_false_iff, Decidable.not_not, Nat.reduceLeDiff, Nat.reduceAdd, Nat.reduceEqDiff, Nat.reduceSub, Nat.reduceLT, Nat.zero_add, reduceCtorEq, reduceIte, eq_self, i32_10, i32_01, Nat.zero_le, Nat.one_ne_zero, c, k1]
    · simp only [se_X8_junction, sm_X8_junction, gz_sem, gz_ae, Value.category, gz_i, gz_l, gz_nu, gz_li, gz_ll, gz_la, gz_ib, gz_iz, gz_lb, gz_lz, gz_ls, gz_lc, gz_i2l, gz_l2i, gz_get, gz_ald, gz_len, gz_dup, gz_d2, gz_nar, gz_a0, gz_a1, gz_cs, gz_cv, gz_mk, gz_te, gz_j1, gz_j2, gz_jn, gz_jk, gz_jo, gz_ja, gz_sat, gz_seti, gz_seta, gz_set2, gz_inc, gz_put, gz_ast, gz_pop, gz_vs, gz_vv, gz_sup, gz_rv, gz_ri, gz_rl, gz_ra, gz_if, gz_seq, gz_sw, gz_st, gz_st2, rok_I, rok_J, rok_V, rok_Z0, rok_Z1, rok_Zi, rok_R, rok_N, bi_rok, bi_0, bi_1, fit_I, fit_J, fit_Z0, fit_Z1, fit_Zi, fit_R, fit_N, fit_aR, aty_I, aty_Z0, aty_Z1, aty_Zi, aty_J, gz_ix, List.getElem?_cons_zero, List.getElem?_cons_succ, List.getElem?_nil, List.reverse_cons, List.reverse_nil, List.nil_append, List.cons_append, List.take_succ_cons, List.take_zero, List.take_nil, List.length_cons, List.length_nil, decide_true, decide_false, decide_not, Bool.not_true, Bool.not_false, gz_nle, if_true, if_false, and_true, true_and, and_self, and_false, false_and, or_true, true_or, or_false, false_or, Bool.false_eq_true, not_true, not_false_iff, Decidable.not_not, Nat.reduceLeDiff, Nat.reduceAdd, Nat.reduceEqDiff, Nat.reduceSub, Nat.reduceLT, Nat.zero_add, reduceCtorEq, reduceIte, eq_self, i32_10, i32_01, Nat.zero_le, Nat.one_ne_zero, m, md_k, hJ, k2]
  have k1 : nI (g 7 0) < 8 := nI_lt (b := 8) (by omega) (by decide)
  have k2 : ¬ nI (g 7 0) = 8 := fun q => q8 ((nI_eq (b := 8) (by omega) (by decide)).mp q)
  by_cases qT : T = 0
  case neg =>
    have t1 : ¬ nI T = 0 := nI_ne0 (by omega) (by omega)
    have t2 : (0 : Int32) < nI T := nI_gt0 (by omega) (by omega)
    refine ⟨.int (-1), hc, hr, g, T, ?_, ?_, fr8_rf _, fr7_rf _, H⟩
    · simp only [se_X7_junction, sm_X7_junction, gz_sem, gz_ae, Value.category, gz_i, gz_l, gz_nu, gz_li, gz_ll, gz_la, gz_ib, gz_iz, gz_lb, gz_lz, gz_ls, gz_lc, gz_i2l, gz_l2i, gz_get, gz_ald, gz_len, gz_dup, gz_d2, gz_nar, gz_a0, gz_a1, gz_cs, gz_cv, gz_mk, gz_te, gz_j1, gz_j2, gz_jn, gz_jk, gz_jo, gz_ja, gz_sat, gz_seti, gz_seta, gz_set2, gz_inc, gz_put, gz_ast, gz_pop, gz_vs, gz_vv, gz_sup, gz_rv, gz_ri, gz_rl, gz_ra, gz_if, gz_seq, gz_sw, gz_st, gz_st2, rok_I, rok_J, rok_V, rok_Z0, rok_Z1, rok_Zi, rok_R, rok_N, bi_rok, bi_0, bi_1, fit_I, fit_J, fit_Z0, fit_Z1, fit_Zi, fit_R, fit_N, fit_aR, aty_I, aty_Z0, aty_Z1, aty_Zi, aty_J, gz_ix, List.getElem?_cons_zero, List.getElem?_cons_succ, List.getElem?_nil, List.reverse_cons, List.reverse_nil, List.nil_append, List.cons_append, List.take_succ_cons, List.take_zero, List.take_nil, List.length_cons, List.length_nil, decide_true, decide_false, decide_not, Bool.not_true, Bool.not_false, gz_nle, if_true, if_false, and_true, true_and, and_self, and_false, false_and, or_true, true_or, or_false, false_or, Bool.false_eq_true, not_true, not_false_iff, Decidable.not_not, Nat.reduceLeDiff, Nat.reduceAdd, Nat.reduceEqDiff, Nat.reduceSub, Nat.reduceLT, Nat.zero_add, reduceCtorEq, reduceIte, eq_self, i32_10, i32_01, Nat.zero_le, Nat.one_ne_zero, c, k1, T1', t1]
    · simp only [se_X8_junction, sm_X8_junction, gz_sem, gz_ae, Value.category, gz_i, gz_l, gz_nu, gz_li, gz_ll, gz_la, gz_ib, gz_iz, gz_lb, gz_lz, gz_ls, gz_lc, gz_i2l, gz_l2i, gz_get, gz_ald, gz_len, gz_dup, gz_d2, gz_nar, gz_a0, gz_a1, gz_cs, gz_cv, gz_mk, gz_te, gz_j1, gz_j2, gz_jn, gz_jk, gz_jo, gz_ja, gz_sat, gz_seti, gz_seta, gz_set2, gz_inc, gz_put, gz_ast, gz_pop, gz_vs, gz_vv, gz_sup, gz_rv, gz_ri, gz_rl, gz_ra, gz_if, gz_seq, gz_sw, gz_st, gz_st2, rok_I, rok_J, rok_V, rok_Z0, rok_Z1, rok_Zi, rok_R, rok_N, bi_rok, bi_0, bi_1, fit_I, fit_J, fit_Z0, fit_Z1, fit_Zi, fit_R, fit_N, fit_aR, aty_I, aty_Z0, aty_Z1, aty_Zi, aty_J, gz_ix, List.getElem?_cons_zero, List.getElem?_cons_succ, List.getElem?_nil, List.reverse_cons, List.reverse_nil, List.nil_append, List.cons_append, List.take_succ_cons, List.take_zero, List.take_nil, List.length_cons, List.length_nil, decide_true, decide_false, decide_not, Bool.not_true, Bool.not_false, gz_nle, if_true, if_false, and_true, true_and, and_self, and_false, false_and, or_true, true_or, or_false, false_or, Bool.false_eq_true, not_true, not_false_iff, Decidable.not_not, Nat.reduceLeDiff, Nat.reduceAdd, Nat.reduceEqDiff, Nat.reduceSub, Nat.reduceLT, Nat.zero_add, reduceCtorEq, reduceIte, eq_self, i32_10, i32_01, Nat.zero_le, Nat.one_ne_zero, m, md_k, hJ, k2, T2, t2]
  subst qT
  obtain ⟨F, HW, HJ, HG, HB, HZ⟩ := H
  obtain ⟨f1, f2, f3, f4, f5, f6, f7, f8, f9, f10, f11, f12, f13, f14, f15, f16⟩ := F
  have J8 : g 7 0 < 8 := by omega
  have nw := nw_X1 hc
  have lt : ∀ x, x < hc.1 → sm hc (nwX1 hc) x := fun x hx => nwX1_sm hc hx
  have s0 := lt 0 (by omega)
  have c' : cs (nwX1 hc) (g 7 0) := cs_fr (by rw [nwX1_n]; omega) (fun x hx => (lt x (by omega)).2) (fun f _ => by rw [s0.1]) (fun f h1 h2 => by rw [sm_I s0, s0.1]; exact c.2.2.2.2.2.2.2.2.2.2.2.2.2.2.2.2.2.2.2.2.2.1 f h1 h2) (fun i _ => by rw [(lt 1 (by omega)).1]) c
  have jk := nwX1_jc hc
  have d2 : ¬ nI (g 7 0) < 0 := nI_pos (by omega)
  have d3 : (nI (g 7 0)).toNatClampNeg = g 7 0 := nI_clamp (by omega)
  have pm : nI (g 7 0 + 1) - 1 = nI (g 7 0) := nI_pred _
  have z0 : nI 0 = (0 : Int32) := rfl
  have nlt : ¬ (0 : Int32) < 0 := by decide
  have at4 : gz_aty 104 (nwX1 hc) (.ref hc.1) = true := by
    show decide (_ ∧ _) = true
    rw [decide_eq_true_eq]
    exact ⟨jk.1, by rw [jk.2.2.2.2.2.2.1]⟩
  -- the two heaps
  have gx : ∀ x, x < hc.1 → gjn g hc.1 5 x = g 5 x := fun x hx => by unfold gjn; rw [if_neg (by omega), if_neg (by omega), if_neg (by omega)]
  have g0 : ∀ j, j < g 7 0 → gjn g hc.1 0 j = g 0 j := fun j hj => by unfold gjn; rw [if_neg (by omega), if_neg (by omega), if_neg (by omega)]
  have gJ : gjn g hc.1 0 (g 7 0) = hc.1 := by unfold gjn; rw [if_pos ⟨rfl, rfl⟩]
  have g7 : gjn g hc.1 7 0 = g 7 0 + 1 := by unfold gjn; rw [if_neg (by omega), if_pos ⟨rfl, rfl⟩]
  have go : ∀ a b, a ≠ 0 → a ≠ 5 → a ≠ 7 → gjn g hc.1 a b = g a b := fun a b h1 h2 h3 => by unfold gjn; rw [if_neg (by omega), if_neg (by omega), if_neg (by omega)]
  have gn : ∀ k, k ≤ 5 → gjn g hc.1 5 (hc.1 + k) = 1 + g 7 0 := fun k hk => by unfold gjn; rw [if_neg (by omega), if_neg (by omega), if_pos (by omega)]
  have X : ∀ s, EX (gjn g hc.1) s ↔ EX g s := fun s => by unfold EX; rw [go 6 _ (by omega) (by omega) (by omega)]
  have r7 : se_X7_junction [.ref 0] hc = some (some (.int (nI (g 7 0))), gz_set (gz_set (nwX1 hc) 1 (g 7 0) (.ref hc.1)) 0 4 (.int (nI (g 7 0 + 1)))) := by
    have c1 : ∀ x, gz_v (gz_set (nwX1 hc) 1 (g 7 0) (.ref hc.1)) 0 x = gz_v (nwX1 hc) 0 x := fun x => by rw [gz_v_set, if_neg (by omega)]
    have c2 : gz_v (gz_set (gz_set (nwX1 hc) 1 (g 7 0) (.ref hc.1)) 0 4 (.int (nI (g 7 0 + 1)))) 0 4 = .int (nI (g 7 0 + 1)) := by rw [gz_v_set, if_pos ⟨rfl, rfl⟩]
    simp only [se_X7_junction, sm_X7_junction, gz_sem, gz_ae, Value.category, gz_i, gz_l, gz_nu, gz_li, gz_ll, gz_la, gz_ib, gz_iz, gz_lb, gz_lz, gz_ls, gz_lc, gz_i2l, gz_l2i, gz_get, gz_ald, gz_len, gz_dup, gz_d2, gz_nar, gz_a0, gz_a1, gz_cs, gz_cv, gz_mk, gz_te, gz_j1, gz_j2, gz_jn, gz_jk, gz_jo, gz_ja, gz_sat, gz_seti, gz_seta, gz_set2, gz_inc, gz_put, gz_ast, gz_pop, gz_vs, gz_vv, gz_sup, gz_rv, gz_ri, gz_rl, gz_ra, gz_if, gz_seq, gz_sw, gz_st, gz_st2, rok_I, rok_J, rok_V, rok_Z0, rok_Z1, rok_Zi, rok_R, rok_N, bi_rok, bi_0, bi_1, fit_I, fit_J, fit_Z0, fit_Z1, fit_Zi, fit_R, fit_N, fit_aR, aty_I, aty_Z0, aty_Z1, aty_Zi, aty_J, gz_ix, List.getElem?_cons_zero, List.getElem?_cons_succ, List.getElem?_nil, List.reverse_cons, List.reverse_nil, List.nil_append, List.cons_append, List.take_succ_cons, List.take_zero, List.take_nil, List.length_cons, List.length_nil, decide_true, decide_false, decide_not, Bool.not_true, Bool.not_false, gz_nle, if_true, if_false, and_true, true_and, and_self, and_false, false_and, or_true, true_or, or_false, false_or, Bool.false_eq_true, not_true, not_false_iff, Decidable.not_not, Nat.reduceLeDiff, Nat.reduceAdd, Nat.reduceEqDiff, Nat.reduceSub, Nat.reduceLT, Nat.zero_add, reduceCtorEq, reduceIte, eq_self, i32_10, i32_01, Nat.zero_le, Nat.one_ne_zero, c, c', c1, c2, gz_n_set, gz_k_set, k1, T1', z0, nw, d2, d3, J8, at4, nI_1, pm]
  have r8 : se_X8_junction [.ref 15] hr = some (some (.int (nI (g 7 0))), gz_set hr 15 0 (.int (nI (g 7 0 + 1)))) := by
    have m1 := md_set15 m 0 (nI (g 7 0 + 1)) (by omega)
    have c2 : gz_I (gz_set hr 15 0 (.int (nI (g 7 0 + 1)))) 15 0 = nI (g 7 0 + 1) := by rw [I_set, if_pos ⟨rfl, rfl⟩]
    simp only [se_X8_junction, sm_X8_junction, gz_sem, gz_ae, Value.category, gz_i, gz_l, gz_nu, gz_li, gz_ll, gz_la, gz_ib, gz_iz, gz_lb, gz_lz, gz_ls, gz_lc, gz_i2l, gz_l2i, gz_get, gz_ald, gz_len, gz_dup, gz_d2, gz_nar, gz_a0, gz_a1, gz_cs, gz_cv, gz_mk, gz_te, gz_j1, gz_j2, gz_jn, gz_jk, gz_jo, gz_ja, gz_sat, gz_seti, gz_seta, gz_set2, gz_inc, gz_put, gz_ast, gz_pop, gz_vs, gz_vv, gz_sup, gz_rv, gz_ri, gz_rl, gz_ra, gz_if, gz_seq, gz_sw, gz_st, gz_st2, rok_I, rok_J, rok_V, rok_Z0, rok_Z1, rok_Zi, rok_R, rok_N, bi_rok, bi_0, bi_1, fit_I, fit_J, fit_Z0, fit_Z1, fit_Zi, fit_R, fit_N, fit_aR, aty_I, aty_Z0, aty_Z1, aty_Zi, aty_J, gz_ix, List.getElem?_cons_zero, List.getElem?_cons_succ, List.getElem?_nil, List.reverse_cons, List.reverse_nil, List.nil_append, List.cons_append, List.take_succ_cons, List.take_zero, List.take_nil, List.length_cons, List.length_nil, decide_true, decide_false, decide_not, Bool.not_true, Bool.not_false, gz_nle, if_true, if_false, and_true, true_and, and_self, and_false, false_and, or_true, true_or, or_false, false_or, Bool.false_eq_true, not_true, not_false_iff, Decidable.not_not, Nat.reduceLeDiff, Nat.reduceAdd, Nat.reduceEqDiff, Nat.reduceSub, Nat.reduceLT, Nat.zero_add, reduceCtorEq, reduceIte, eq_self, i32_10, i32_01, Nat.zero_le, Nat.one_ne_zero, m, m1, md_k, hJ, k2, T2, z0, nlt, nI_1, c2, pm]
  have sA : ∀ x, x < hc.1 → x ≠ 0 → x ≠ 1 → sm hc (gz_set (gz_set (nwX1 hc) 1 (g 7 0) (.ref hc.1)) 0 4 (.int (nI (g 7 0 + 1)))) x := fun x h1 h2 h3 => sm_set (sm_set (lt x h1) h3) h2
  have sB : ∀ x, x ≠ 0 → x ≠ 1 → sm (nwX1 hc) (gz_set (gz_set (nwX1 hc) 1 (g 7 0) (.ref hc.1)) 0 4 (.int (nI (g 7 0 + 1)))) x := fun x h2 h3 => sm_set (sm_set (sm_rf _ _) h3) h2
  have v0 : ∀ f, f ≠ 4 → gz_v (gz_set (gz_set (nwX1 hc) 1 (g 7 0) (.ref hc.1)) 0 4 (.int (nI (g 7 0 + 1)))) 0 f = gz_v hc 0 f := fun f hf => by
    rw [gz_v_set, if_neg (fun z => hf z.2), gz_v_set, if_neg (by omega), s0.1]
  have v04 : gz_v (gz_set (gz_set (nwX1 hc) 1 (g 7 0) (.ref hc.1)) 0 4 (.int (nI (g 7 0 + 1)))) 0 4 = .int (nI (g 7 0 + 1)) := by rw [gz_v_set, if_pos ⟨rfl, rfl⟩]
  have v1 : ∀ i, i ≠ g 7 0 → gz_v (gz_set (gz_set (nwX1 hc) 1 (g 7 0) (.ref hc.1)) 0 4 (.int (nI (g 7 0 + 1)))) 1 i = gz_v hc 1 i := fun i hi => by
    rw [gz_v_set, if_neg (by omega), gz_v_set, if_neg (fun z => hi z.2), (lt 1 (by omega)).1]
  have v1J : gz_v (gz_set (gz_set (nwX1 hc) 1 (g 7 0) (.ref hc.1)) 0 4 (.int (nI (g 7 0 + 1)))) 1 (g 7 0) = .ref hc.1 := by
    rw [gz_v_set, if_neg (by omega), gz_v_set, if_pos ⟨rfl, rfl⟩]
  have kk : ∀ x, x < hc.1 → gz_k (gz_set (gz_set (nwX1 hc) 1 (g 7 0) (.ref hc.1)) 0 4 (.int (nI (g 7 0 + 1)))) x = gz_k hc x := fun x hx => by
    rw [gz_k_set, gz_k_set, (lt x hx).2]
  have nn : (gz_set (gz_set (nwX1 hc) 1 (g 7 0) (.ref hc.1)) 0 4 (.int (nI (g 7 0 + 1)))).1 = hc.1 + 6 := rfl
  refine ⟨_, _, _, gjn g hc.1, 0, r7, r8, ⟨by rw [nn]; omega, fun x h1 h2 => sA x (by omega) (by omega) (by omega)⟩, fr7_set (fr7_rf _) (by omega), ?_⟩
  generalize hH : gz_set (gz_set (nwX1 hc) 1 (g 7 0) (.ref hc.1)) 0 4 (.int (nI (g 7 0 + 1))) = h2 at *
  have rr : ∀ b i, ¬ (b = 15 ∧ i = 0) → gz_v (gz_set hr 15 0 (.int (nI (g 7 0 + 1)))) b i = gz_v hr b i := fun b i h => by rw [gz_v_set, if_neg h]
  have R : ∀ i, i < 8 → ro hr (gz_set hr 15 0 (.int (nI (g 7 0 + 1)))) i := fun i hi => ro_set (ro_rf _ _) (by simp [rj] <;> omega)
  have RS : ∀ s, s < 64 → so hr (gz_set hr 15 0 (.int (nI (g 7 0 + 1)))) s := fun s hs => so_set (so_rf _ _) (by simp [rt] <;> omega)
  have mm : hc.1 ≤ h2.1 := by rw [nn]; omega
  have ec : ∀ x, x < hc.1 → g 5 x ≠ 50 → sm hc h2 x := fun x h1 h2 => sA x h1 (fun z => h2 (by rw [z]; exact f15 0 (by omega))) (fun z => h2 (by rw [z]; exact f15 1 (by omega)))
  have g6 : ∀ i, gjn g hc.1 6 i = g 6 i := fun i => go 6 i (by omega) (by omega) (by omega)
  refine ⟨⟨md_set15 m 0 _ (by omega), ?_, wc_sm mm (fun x h1 h2 => sA x (by omega) (by omega) (by omega)) f3, ac_sm (fun x h1 h2 => sA x (by omega) (by omega) (by omega)) f4, yc_sm (fun x h1 h2 => sA x (by omega) (by omega) (by omega)) f5, by rw [g7]; omega, by rw [g7, I_set, if_pos ⟨rfl, rfl⟩], (v0 5 (by omega)).trans f8, by rw [vI (rr _ _ (by omega))]; exact f9, f10, fun i hi => by rw [vI (rr _ _ (by omega)), g6]; exact f11 i hi, fun i => by rw [g6]; exact f12 i, fun i hi => by rw [g6]; exact f13 i (by omega), by omega, fun x hx => by rw [gx x (by omega)]; exact f15 x hx, fun x h1 h2 => by rw [gx x (by omega)]; exact f16 x h1 h2⟩, ?_, fun j hj => ?_, fun j hj => ?_, ?_, ?_⟩
  · obtain ⟨c0, c1, c2, c3, c4, c5, c6, c7, c8, c9, c10, c11, c12, c13, c14, c15, c16, c17, c18, c19, c20, c21, c22⟩ := c
    rw [g7]
    refine ⟨fun b hb => Nat.lt_of_lt_of_le (c0 b hb) mm, (kk 0 (by omega)).trans c1, (kk 1 (by omega)).trans c2, (kk 2 (by omega)).trans c3, (kk 3 (by omega)).trans c4, (kk 4 (by omega)).trans c5, (kk 5 (by omega)).trans c6, (kk 6 (by omega)).trans c7, (kk 7 (by omega)).trans c8, (kk 8 (by omega)).trans c9, (kk 9 (by omega)).trans c10, (kk 10 (by omega)).trans c11, (kk 11 (by omega)).trans c12, (kk 12 (by omega)).trans c13, (kk 13 (by omega)).trans c14, (kk 14 (by omega)).trans c15, (v0 0 (by omega)).trans c16, (v0 1 (by omega)).trans c17, (v0 2 (by omega)).trans c18, (v0 3 (by omega)).trans c19, v04, fun f h1 h2 => ?_, fun j hj => ?_⟩
    · rw [vI (v0 f (by omega)), v0 f (by omega)]; exact c21 f h1 h2
    · by_cases q : j = g 7 0
      · unfold gz_A; rw [q, v1J]
      · rw [gz_A_c (v1 j q), v1 j q]; exact c22 j (by omega)
  · unfold WV at *
    rw [v0 6 (by omega), v0 7 (by omega), v0 8 (by omega), vI (rr 15 18 (by omega)), vI (rr 15 19 (by omega)), vI (rr 15 20 (by omega)), vI (rr 15 21 (by omega))]
    exact HW
  · rw [g7] at hj
    by_cases q : j = g 7 0
    · subst q
      obtain ⟨z1, z2, z3, z4, z5, z6⟩ := HZ.1 (g 7 0) (Nat.le_refl _) J8
      have S0 : g 6 (g 7 0) = 0 := f13 _ (Nat.le_refl _)
      obtain ⟨w6, w7, w8, w9, w10⟩ := nwX1_f hc
      have sN : ∀ k, sm (nwX1 hc) h2 (hc.1 + k) := fun k => sB _ (by omega) (by omega)
      have sN0 := sN 0
      rw [Nat.add_zero] at sN0
      have r21 : ∀ i k, i < 8 → k < 8 → gz_I (gz_set hr 15 0 (.int (nI (g 7 0 + 1)))) 21 (64 * g 7 0 + 8 * i + k) = 0 := fun i k hi hk => by
        rw [vI (rr _ _ (by omega)), show 64 * g 7 0 + 8 * i + k = 64 * g 7 0 + (8 * i + k) by omega]
        exact (z5 _ (by omega)).1
      have r22 : ∀ i k, i < 8 → k < 8 → gz_I (gz_set hr 15 0 (.int (nI (g 7 0 + 1)))) 22 (64 * g 7 0 + 8 * i + k) = 0 := fun i k hi hk => by
        rw [vI (rr _ _ (by omega)), show 64 * g 7 0 + 8 * i + k = 64 * g 7 0 + (8 * i + k) by omega]
        exact (z5 _ (by omega)).2
      have ap0 : ∀ i k, i < 8 → k < 8 → ¬ 0 < md_ap (gz_set hr 15 0 (.int (nI (g 7 0 + 1)))) (g 7 0) i k := fun i k hi hk => by
        unfold md_ap
        rw [r22 i k hi hk, r22 k i hk hi, r21 i k hi hk]
        exact lt_irr _
      have row : ∀ k, 1 ≤ k → k ≤ 4 → ∀ i, gz_I h2 (hc.1 + (k + 1)) i = 0 := fun k h1 h4 i => by
        rw [sm_I (sN (k + 1))]; exact gz_I_of (nwX1_v hc k h1 h4 i)
      unfold JV
      rw [gJ]
      refine ⟨⟨by rw [gJ]; omega, ?_, by rw [gJ]; exact v1J, fun k hk => by rw [gJ]; exact gn k hk, fun i hi => ?_⟩, ⟨fun i k hi hk => ?_, fun i k hi hk => ⟨0, by omega, r21 i k hi hk⟩, fun i k hi hk _ => r21 k i hk hi, fun i hi => r21 i i hi hi, fun i k hi hk => ?_, fun i k hi hk => ?_, fun i k hi hk => ?_, fun i k hi hk => ?_, fun i hi => ap0 i i hi hi⟩, Or.inl ⟨?_, ?_⟩, Or.inl ⟨?_, ?_⟩, ⟨?_, ?_, ?_, ?_, fun u hu => ?_⟩⟩
      · rw [gJ, g6, S0]; exact jc_sm (h := nwX1 hc) (by rw [nn, nwX1_n]; exact Nat.le_refl _) (fun k _ => sN k) jk
      · rw [g6, S0] at hi; omega
      · rw [r21 i k hi hk]; exact row 1 (by omega) (by omega) _
      · rw [row 2 (by omega) (by omega), r22 i k hi hk, b_0]
        exact ⟨fun z => (by cases z), fun z => absurd rfl z⟩
      · rw [row 3 (by omega) (by omega), b_0]
        exact ⟨fun z => (by cases z), fun z => absurd z (ap0 i k hi hk)⟩
      · rw [row 3 (by omega) (by omega), b_0]
      · exact ⟨fun z => absurd z (ap0 i k hi hk), fun z => absurd z (ap0 k i hk hi)⟩
      · rw [vI (rr _ _ (by omega))]; exact z1
      · rw [gJ, sN0.1]; exact w6
      · rw [vI (rr _ _ (by omega))]; exact z2
      · rw [gJ, sN0.1]; exact w7
      · rw [sN0.1, vI (rr _ _ (by omega)), z4]; exact w8
      · rw [vI (rr _ _ (by omega))]; exact Or.inl z4
      · rw [sN0.1, vI (rr _ _ (by omega)), z3]; exact w9
      · rw [sm_I sN0, sN0.1, gz_I_of w10]; exact w10
      · rw [row 4 (by omega) (by omega), vI (rr _ _ (by omega)), z6 u hu]
    · exact JV_fr (by omega) mm ⟨g0 j (by omega), g6 j, fun i _ => go 1 _ (by omega) (by omega) (by omega), go 3 _ (by omega) (by omega) (by omega), go 3 _ (by omega) (by omega) (by omega)⟩ (fun x hx hg => ⟨gx x hx, ec x hx (by omega)⟩) (v1 j q) (R j (by omega)) (HJ j (by omega))
  · rw [g7] at hj
    by_cases q : j = g 7 0
    · subst q
      have S0 : g 6 (g 7 0) = 0 := f13 _ (Nat.le_refl _)
      obtain ⟨w6, w7, w8, w9, w10⟩ := nwX1_f hc
      refine ⟨fun i hi => by rw [g6, S0] at hi; omega, fun _ => ?_⟩
      have sN0 := sB hc.1 (by omega) (by omega)
      rw [gJ, sm_I sN0, gz_I_of w10]
    · have V := HJ j (by omega)
      have a1 := JV_lt V 0 (by omega)
      have a2 := V.1.2.2.2.1 0 (by omega)
      rw [Nat.add_zero] at a1 a2
      exact WG_fr (g0 j (by omega)) (g6 j) (by rw [(ec _ a1 (by omega)).1]) (fun i hi => rr _ _ (by omega)) (HG j (by omega))
  · exact BV_fr HZ mm X (fun s _ => go 1 s (by omega) (by omega) (by omega)) (fun s _ => go 2 s (by omega) (by omega) (by omega)) (fun x hx h1 h2 => ⟨gx x hx, ec x hx (by omega)⟩) RS HB
  · obtain ⟨z1, z2, z3⟩ := HZ
    refine ⟨fun j h1 h2 => ?_, fun s h1 h2 => ?_, fun s h1 h2 => ?_⟩
    · obtain ⟨a1, a2, a3, a4, a5, a6⟩ := z1 j (by omega) h2
      rw [vI (rr 23 j (by omega)), vI (rr 23 (8 + j) (by omega)), vI (rr 30 j (by omega)), vI (rr 31 j (by omega))]
      exact ⟨a1, a2, a3, a4, fun i hi => by rw [vI (rr 21 _ (by omega)), vI (rr 22 _ (by omega))]; exact a5 i hi, fun u hu => by rw [vI (rr 52 _ (by omega))]; exact a6 u hu⟩
    · obtain ⟨a1, a2, a3, a4, a5⟩ := z2 s h1 (fun q => h2 ((X s).mpr q))
      rw [vI (rr 37 s (by omega)), vI (rr 43 s (by omega)), vI (rr 44 s (by omega)), vI (rr 51 s (by omega))]
      exact ⟨a1, a2, a3, a4, fun b h3 h4 => by rw [vJ (rr b s (by omega))]; exact a5 b h3 h4⟩
    · rw [vI (rr 37 s (by omega))] at h2
      rw [vI (rr 41 s (by omega))]
      exact z3 s h1 h2
