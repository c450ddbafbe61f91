theorem sm_new {h h' : gz_H} {x : Nat} {k : Nat × Nat} {d : Nat → Value} (e : sm h h' x) (n : x < h'.1) : sm h (gz_new h' k d) x := ⟨by
  rw [← e.1]; funext i; rw [gz_v_new, if_neg (by omega)], by rw [gz_k_new, if_neg (by omega)]; exact e.2⟩
theorem in4 : ((4 : Int32) = Int32.ofNat 4) = True := by decide
theorem in8 : ((8 : Int32) = Int32.ofNat 8) = True := by decide
theorem in64 : ((64 : Int32) = Int32.ofNat 64) = True := by decide
theorem in90 : ((90 : Int32) = Int32.ofNat 90) = True := by decide
theorem in200 : ((200 : Int32) = Int32.ofNat 200) = True := by decide
theorem in61 : ((61 : Int32) = Int32.ofNat 61) = True := by decide
theorem na_lt (n k : Nat) : (n < n + (k + 1)) = True := by simp; 
theorem na_ne (n k : Nat) : (n = n + (k + 1)) = False := by simp
theorem na_1 (n : Nat) : n + 1 + 1 = n + 2 := rfl
def nwX2 (h : gz_H) : gz_H := gz_set (gz_new (gz_set (gz_new (gz_set (gz_new (gz_set (gz_new (gz_set (gz_new (gz_set (gz_new h (2, 9) (fun j => defaultValue (tyX2 j))) h.1 0 (.int 20)) (100, 4) (fun _ => .int 0)) h.1 4 (.ref (h.1 + 1))) (100, 4) (fun _ => .int 0)) h.1 5 (.ref (h.1 + 2))) (100, 4) (fun _ => .int 0)) h.1 6 (.ref (h.1 + 3))) (100, 4) (fun _ => .int 0)) h.1 7 (.ref (h.1 + 4))) (100, 90) (fun _ => .int 0)) h.1 8 (.ref (h.1 + 5))
set_option maxHeartbeats 4000000 in
theorem nw_X2 (h : gz_H) : se_X2_init [.ref h.1] (gz_new h (2, 9) (fun j => defaultValue (tyX2 j))) = some (none, nwX2 h) := by
  have l1 : h.1 < h.1 + 1 := by omega
  have l2 : h.1 < h.1 + 2 := by omega
  have l3 : h.1 < h.1 + 3 := by omega
  have l4 : h.1 < h.1 + 4 := by omega
  have l5 : h.1 < h.1 + 5 := by omega
  have l6 : h.1 < h.1 + 6 := by omega
  have n1 : ¬ h.1 = h.1 + 1 := by omega
  have n2 : ¬ h.1 = h.1 + 2 := by omega
  have n3 : ¬ h.1 = h.1 + 3 := by omega
  have n4 : ¬ h.1 = h.1 + 4 := by omega
  have n5 : ¬ h.1 = h.1 + 5 := by omega
  have a : ∀ a b : Nat, h.1 + a + b = h.1 + (a + b) := fun a b => by omega
  simp only [se_X2_init, sm_X2_init, gz_sem, gz_ae, Value.category, gz_i, gz_l, gz_nu, gz_li, gz_ll, gz_la, gz_ib, gz_iz, gz_lb, gz_lz, gz_ls, gz_lc, gz_i2l, gz_l2i, gz_get, gz_ald, gz_len, gz_dup, gz_d2, gz_nar, gz_a0, gz_a1, gz_cs, gz_cv, gz_mk, gz_te, gz_j1, gz_j2, gz_jn, gz_jk, gz_jo, gz_ja, gz_sat, gz_seti, gz_seta, gz_set2, gz_inc, gz_put, gz_ast, gz_pop, gz_vs, gz_vv, gz_sup, gz_rv, gz_ri, gz_rl, gz_ra, gz_if, gz_seq, gz_sw, gz_st, gz_st2, rok_I, rok_J, rok_V, rok_Z0, rok_Z1, rok_Zi, rok_R, rok_N, bi_rok, bi_0, bi_1, fit_I, fit_J, fit_Z0, fit_Z1, fit_Zi, fit_R, fit_N, fit_aR, aty_I, aty_Z0, aty_Z1, aty_Zi, aty_J, gz_ix, List.getElem?_cons_zero, List.getElem?_cons_succ, List.getElem?_nil, List.reverse_cons, List.reverse_nil, List.nil_append, List.cons_append, List.take_succ_cons, List.take_zero, List.take_nil, List.length_cons, List.length_nil, decide_true, decide_false, decide_not, Bool.not_true, Bool.not_false, gz_nle, if_true, if_false, and_true, true_and, and_self, and_false, false_and, or_true, true_or, or_false, false_or, Bool.false_eq_true, not_true, not_false_iff, Decidable.not_not, Nat.reduceLeDiff, Nat.reduceAdd, Nat.reduceEqDiff, Nat.reduceSub, Nat.reduceLT, Nat.zero_add, reduceCtorEq, reduceIte, eq_self, i32_10, i32_01, Nat.zero_le, Nat.one_ne_zero, gz_n_set, gz_n_new, gz_k_set, gz_k_new, in4, in90, a, l1, l2, l3, l4, l5, l6, n1, n2, n3, n4, n5, nwX2]
theorem nwX2_n (h : gz_H) : (nwX2 h).1 = h.1 + 6 := rfl
theorem nwX2_sm (h : gz_H) {x : Nat} (hx : x < h.1) : sm h (nwX2 h) x := by
  unfold nwX2
  refine sm_set (sm_new (sm_set (sm_new (sm_set (sm_new (sm_set (sm_new (sm_set (sm_new (sm_set (sm_new (sm_rf _ _) ?_) ?_) ?_) ?_) ?_) ?_) ?_) ?_) ?_) ?_) ?_) ?_
  all_goals (first | omega | (simp only [gz_n_set, gz_n_new]; omega))
theorem nwX2_pc (h : gz_H) : pc (nwX2 h) h.1 0 := by
  have v : ∀ k, k ≤ 4 → ∀ i, gz_v (nwX2 h) (h.1 + (k + 1)) i = .int 0 := by
    intro k hk i
    have : k = 0 ∨ k = 1 ∨ k = 2 ∨ k = 3 ∨ k = 4 := by omega
    rcases this with rfl | rfl | rfl | rfl | rfl <;> simp [nwX2, gz_v_set, gz_v_new, gz_n_set, gz_n_new]
  have t : ∀ k, k ≤ 4 → ∀ i, gz_v (nwX2 h) (h.1 + (k + 1)) i = .int (gz_I (nwX2 h) (h.1 + (k + 1)) i) := fun k hk i => by
    rw [gz_I_of (v k hk i)]; exact v k hk i
  have f : ∀ i x, gz_v (nwX2 h) h.1 i = .int x → gz_v (nwX2 h) h.1 i = .int (gz_I (nwX2 h) h.1 i) := fun i x e => by
    rw [gz_I_of e]; exact e
  have n1 : ¬ h.1 = h.1 + 1 := by omega
  have n2 : ¬ h.1 = h.1 + 2 := by omega
  have n3 : ¬ h.1 = h.1 + 3 := by omega
  have n4 : ¬ h.1 = h.1 + 4 := by omega
  have n5 : ¬ h.1 = h.1 + 5 := by omega
  have a : ∀ a b : Nat, h.1 + a + b = h.1 + (a + b) := fun a b => by omega
  refine ⟨by rw [nwX2_n]; omega, by rw [nwX2_n]; omega, by rw [nwX2_n]; omega, by rw [nwX2_n]; omega, by rw [nwX2_n]; omega, by rw [nwX2_n]; omega, ?_, ?_, ?_, ?_, ?_, ?_, f 0 20 ?_, f 1 0 ?_, ?_, f 3 0 ?_, ?_, ?_, ?_, ?_, ?_, t 0 (by omega), t 1 (by omega), t 2 (by omega), t 3 (by omega), t 4 (by omega)⟩
  all_goals simp [nwX2, gz_v_set, gz_v_new, gz_k_set, gz_k_new, gz_n_set, gz_n_new, n1, n2, n3, n4, n5, a]
  all_goals rfl
/-- the ghost with a new plan -/
def gpl (g : gz_G) (j n : Nat) : gz_G := fun a b => if a = 3 ∧ b = j then n else if a = 5 ∧ n ≤ b ∧ b < n + 6 then 300 + j else g a b
theorem gpl_k {g : gz_G} {j n : Nat} (hj : j < 8) : gk g (gpl g j n) j n := by
  refine ⟨?_, fun i => ?_, fun i => ?_, fun i => ?_, fun i => ?_, fun i h1 h2 => ⟨?_, ?_⟩, fun x hx _ _ _ => ?_⟩
  all_goals (unfold gpl; rw [if_neg (by omega), if_neg (by omega)])
set_option maxHeartbeats 8000000 in
theorem pb_plan (x y : Int32) : PB se_X7_plan se_X8_plan [.int x, .int y] := by
  intro g T hc hr H
  have c := IV_cs H
  have m := IV_md H
  have h8 := IV_8 H
  rcases ja_cs h8 x with hx | ⟨j, hj, rfl⟩
  · obtain ⟨j1, j2⟩ := ja_no H hx
    refine ⟨.int 0, hc, hr, g, T, ?_, ?_, fr8_rf _, fr7_rf _, H⟩
    · simp only [se_X7_plan, sm_X7_plan, gz_sem, gz_ae, Value.category, gz_i, gz_l, gz_nu, gz_li, gz_ll, gz_la, gz_ib, gz_iz, gz_lb, gz_lz, gz_ls, gz_lc, gz_i2l, gz_l2i, gz_get, gz_ald, gz_len, gz_dup, gz_d2, gz_nar, gz_a0, gz_a1, gz_cs, gz_cv, gz_mk, gz_te, gz_j1, gz_j2, gz_jn, gz_jk, gz_jo, gz_ja, gz_sat, gz_seti, gz_seta, gz_set2, gz_inc, gz_put, gz_ast, gz_pop, gz_vs, gz_vv, gz_sup, gz_rv, gz_ri, gz_rl, gz_ra, gz_if, gz_seq, gz_sw, gz_st, gz_st2, rok_I, rok_J, rok_V, rok_Z0, rok_Z1, rok_Zi, rok_R, rok_N, bi_rok, bi_0, bi_1, fit_I, fit_J, fit_Z0, fit_Z1, fit_Zi, fit_R, fit_N, fit_aR, aty_I, aty_Z0, aty_Z1, aty_Zi, aty_J, gz_ix, List.getElem?_cons_zero, List.getElem?_cons_succ, List.getElem?_nil, List.reverse_cons, List.reverse_nil, List.nil_append, List.cons_append, List.take_succ_cons, List.take_zero, List.take_nil, List.length_cons, List.length_nil, decide_true, decide_false, decide_not, Bool.not_true, Bool.not_false, gz_nle, if_true, if_false, and_true, true_and, and_self, and_false, false_and, or_true, true_or, or_false, false_or, Bool.false_eq_true, not_true, not_false_iff, Decidable.not_not, Nat.reduceLeDiff, Nat.reduceAdd, Nat.reduceEqDiff, Nat.reduceSub, Nat.reduceLT, Nat.zero_add, reduceCtorEq, reduceIte, eq_self, i32_10, i32_01, Nat.zero_le, Nat.one_ne_zero, c, j1]
    · simp only [se_X8_plan, sm_X8_plan, gz_sem, gz_ae, Value.category, gz_i, gz_l, gz_nu, gz_li, gz_ll, gz_la, gz_ib, gz_iz, gz_lb, gz_lz, gz_ls, gz_lc, gz_i2l, gz_l2i, gz_get, gz_ald, gz_len, gz_dup, gz_d2, gz_nar, gz_a0, gz_a1, gz_cs, gz_cv, gz_mk, gz_te, gz_j1, gz_j2, gz_jn, gz_jk, gz_jo, gz_ja, gz_sat, gz_seti, gz_seta, gz_set2, gz_inc, gz_put, gz_ast, gz_pop, gz_vs, gz_vv, gz_sup, gz_rv, gz_ri, gz_rl, gz_ra, gz_if, gz_seq, gz_sw, gz_st, gz_st2, rok_I, rok_J, rok_V, rok_Z0, rok_Z1, rok_Zi, rok_R, rok_N, bi_rok, bi_0, bi_1, fit_I, fit_J, fit_Z0, fit_Z1, fit_Zi, fit_R, fit_N, fit_aR, aty_I, aty_Z0, aty_Z1, aty_Zi, aty_J, gz_ix, List.getElem?_cons_zero, List.getElem?_cons_succ, List.getElem?_nil, List.reverse_cons, List.reverse_nil, List.nil_append, List.cons_append, List.take_succ_cons, List.take_zero, List.take_nil, List.length_cons, List.length_nil, decide_true, decide_false, decide_not, Bool.not_true, Bool.not_false, gz_nle, if_true, if_false, and_true, true_and, and_self, and_false, false_and, or_true, true_or, or_false, false_or, Bool.false_eq_true, not_true, not_false_iff, Decidable.not_not, Nat.reduceLeDiff, Nat.reduceAdd, Nat.reduceEqDiff, Nat.reduceSub, Nat.reduceLT, Nat.zero_add, reduceCtorEq, reduceIte, eq_self, i32_10, i32_01, Nat.zero_le, Nat.one_ne_zero, m, md_k, j2]
  obtain ⟨j1, j2⟩ := ja_yes H hj
  have jk := IV_jc H hj
  have e20 : nI 20 = (20 : Int32) := rfl
  have e90 : nI 90 = (90 : Int32) := rfl
  rcases in_cs 20 90 (by decide) (by decide) y with o | ⟨u, u0, u1, rfl⟩
  · obtain ⟨o1, o2⟩ := io_no o hc hr
    rw [e20, e90] at o1 o2
    refine ⟨.int 0, hc, hr, g, T, ?_, ?_, fr8_rf _, fr7_rf _, H⟩
    · simp only [se_X7_plan, sm_X7_plan, gz_sem, gz_ae, Value.category, gz_i, gz_l, gz_nu, gz_li, gz_ll, gz_la, gz_ib, gz_iz, gz_lb, gz_lz, gz_ls, gz_lc, gz_i2l, gz_l2i, gz_get, gz_ald, gz_len, gz_dup, gz_d2, gz_nar, gz_a0, gz_a1, gz_cs, gz_cv, gz_mk, gz_te, gz_j1, gz_j2, gz_jn, gz_jk, gz_jo, gz_ja, gz_sat, gz_seti, gz_seta, gz_set2, gz_inc, gz_put, gz_ast, gz_pop, gz_vs, gz_vv, gz_sup, gz_rv, gz_ri, gz_rl, gz_ra, gz_if, gz_seq, gz_sw, gz_st, gz_st2, rok_I, rok_J, rok_V, rok_Z0, rok_Z1, rok_Zi, rok_R, rok_N, bi_rok, bi_0, bi_1, fit_I, fit_J, fit_Z0, fit_Z1, fit_Zi, fit_R, fit_N, fit_aR, aty_I, aty_Z0, aty_Z1, aty_Zi, aty_J, gz_ix, List.getElem?_cons_zero, List.getElem?_cons_succ, List.getElem?_nil, List.reverse_cons, List.reverse_nil, List.nil_append, List.cons_append, List.take_succ_cons, List.take_zero, List.take_nil, List.length_cons, List.length_nil, decide_true, decide_false, decide_not, Bool.not_true, Bool.not_false, gz_nle, if_true, if_false, and_true, true_and, and_self, and_false, false_and, or_true, true_or, or_false, false_or, Bool.false_eq_true, not_true, not_false_iff, Decidable.not_not, Nat.reduceLeDiff, Nat.reduceAdd, Nat.reduceEqDiff, Nat.reduceSub, Nat.reduceLT, Nat.zero_add, reduceCtorEq, reduceIte, eq_self, i32_10, i32_01, Nat.zero_le, Nat.one_ne_zero, c, j1, o1]
    · simp only [se_X8_plan, sm_X8_plan, gz_sem, gz_ae, Value.category, gz_i, gz_l, gz_nu, gz_li, gz_ll, gz_la, gz_ib, gz_iz, gz_lb, gz_lz, gz_ls, gz_lc, gz_i2l, gz_l2i, gz_get, gz_ald, gz_len, gz_dup, gz_d2, gz_nar, gz_a0, gz_a1, gz_cs, gz_cv, gz_mk, gz_te, gz_j1, gz_j2, gz_jn, gz_jk, gz_jo, gz_ja, gz_sat, gz_seti, gz_seta, gz_set2, gz_inc, gz_put, gz_ast, gz_pop, gz_vs, gz_vv, gz_sup, gz_rv, gz_ri, gz_rl, gz_ra, gz_if, gz_seq, gz_sw, gz_st, gz_st2, rok_I, rok_J, rok_V, rok_Z0, rok_Z1, rok_Zi, rok_R, rok_N, bi_rok, bi_0, bi_1, fit_I, fit_J, fit_Z0, fit_Z1, fit_Zi, fit_R, fit_N, fit_aR, aty_I, aty_Z0, aty_Z1, aty_Zi, aty_J, gz_ix, List.getElem?_cons_zero, List.getElem?_cons_succ, List.getElem?_nil, List.reverse_cons, List.reverse_nil, List.nil_append, List.cons_append, List.take_succ_cons, List.take_zero, List.take_nil, List.length_cons, List.length_nil, decide_true, decide_false, decide_not, Bool.not_true, Bool.not_false, gz_nle, if_true, if_false, and_true, true_and, and_self, and_false, false_and, or_true, true_or, or_false, false_or, Bool.false_eq_true, not_true, not_false_iff, Decidable.not_not, Nat.reduceLeDiff, Nat.reduceAdd, Nat.reduceEqDiff, Nat.reduceSub, Nat.reduceLT, Nat.zero_add, reduceCtorEq, reduceIte, eq_self, i32_10, i32_01, Nat.zero_le, Nat.one_ne_zero, m, md_k, j2, o2]
  obtain ⟨o1, o2⟩ := io_yes u0 u1 (by decide) hc hr
  rw [e20, e90] at o1 o2
  have d2 : ¬ nI j < 0 := nI_pos (by omega)
  have d3 : (nI j).toNatClampNeg = j := nI_clamp (by omega)
  have d4 : j < 16 := by omega
  have m1 := md_setI m 23 j 1 (by omega)
  have m2 := md_setI m1 24 j (nI u) (by omega)
  have r8 : se_X8_plan [.ref 15, .int (nI j), .int (nI u)] hr = some (some (.int 1), gz_set (gz_set (gz_set hr 23 j (.int 1)) 24 j (.int (nI u))) 25 j (.int 0)) := by
    simp only [se_X8_plan, sm_X8_plan, gz_sem, gz_ae, Value.category, gz_i, gz_l, gz_nu, gz_li, gz_ll, gz_la, gz_ib, gz_iz, gz_lb, gz_lz, gz_ls, gz_lc, gz_i2l, gz_l2i, gz_get, gz_ald, gz_len, gz_dup, gz_d2, gz_nar, gz_a0, gz_a1, gz_cs, gz_cv, gz_mk, gz_te, gz_j1, gz_j2, gz_jn, gz_jk, gz_jo, gz_ja, gz_sat, gz_seti, gz_seta, gz_set2, gz_inc, gz_put, gz_ast, gz_pop, gz_vs, gz_vv, gz_sup, gz_rv, gz_ri, gz_rl, gz_ra, gz_if, gz_seq, gz_sw, gz_st, gz_st2, rok_I, rok_J, rok_V, rok_Z0, rok_Z1, rok_Zi, rok_R, rok_N, bi_rok, bi_0, bi_1, fit_I, fit_J, fit_Z0, fit_Z1, fit_Zi, fit_R, fit_N, fit_aR, aty_I, aty_Z0, aty_Z1, aty_Zi, aty_J, gz_ix, List.getElem?_cons_zero, List.getElem?_cons_succ, List.getElem?_nil, List.reverse_cons, List.reverse_nil, List.nil_append, List.cons_append, List.take_succ_cons, List.take_zero, List.take_nil, List.length_cons, List.length_nil, decide_true, decide_false, decide_not, Bool.not_true, Bool.not_false, gz_nle, if_true, if_false, and_true, true_and, and_self, and_false, false_and, or_true, true_or, or_false, false_or, Bool.false_eq_true, not_true, not_false_iff, Decidable.not_not, Nat.reduceLeDiff, Nat.reduceAdd, Nat.reduceEqDiff, Nat.reduceSub, Nat.reduceLT, Nat.zero_add, reduceCtorEq, reduceIte, eq_self, i32_10, i32_01, Nat.zero_le, Nat.one_ne_zero, m, m1, m2, md_k, j2, o2, d2, d3, d4]
  have rr : ∀ b i, b ≠ 23 → b ≠ 24 → b ≠ 25 → gz_v (gz_set (gz_set (gz_set hr 23 j (.int 1)) 24 j (.int (nI u))) 25 j (.int 0)) b i = gz_v hr b i := fun b i h1 h2 h3 => by rw [gz_v_set, if_neg (fun z => h3 z.1), gz_v_set, if_neg (fun z => h2 z.1), gz_v_set, if_neg (fun z => h1 z.1)]
  have e23 : gz_I (gz_set (gz_set (gz_set hr 23 j (.int 1)) 24 j (.int (nI u))) 25 j (.int 0)) 23 j = 1 := by
    rw [I_seto _ _ _ _ _ _ (by omega), I_seto _ _ _ _ _ _ (by omega), I_set, if_pos ⟨rfl, rfl⟩]
  have e24 : gz_I (gz_set (gz_set (gz_set hr 23 j (.int 1)) 24 j (.int (nI u))) 25 j (.int 0)) 24 j = nI u := by
    rw [I_seto _ _ _ _ _ _ (by omega), I_set, if_pos ⟨rfl, rfl⟩]
  have e25 : gz_I (gz_set (gz_set (gz_set hr 23 j (.int 1)) 24 j (.int (nI u))) 25 j (.int 0)) 25 j = nI 0 := by
    rw [I_set, if_pos ⟨rfl, rfl⟩]; rfl
  have ro3 : ∀ i, i < 8 → i ≠ j → ro hr (gz_set (gz_set (gz_set hr 23 j (.int 1)) 24 j (.int (nI u))) 25 j (.int 0)) i := fun i h1 h2 => ro_set (ro_set (ro_set (ro_rf _ _) (by simp [rj] <;> omega)) (by simp [rj] <;> omega)) (by simp [rj] <;> omega)
  have so3 : ∀ s, s < 64 → so hr (gz_set (gz_set (gz_set hr 23 j (.int 1)) 24 j (.int (nI u))) 25 j (.int 0)) s := fun s hs => so_set (so_set (so_set (so_rf _ _) (by simp [rt] <;> omega)) (by simp [rt] <;> omega)) (by simp [rt] <;> omega)
  have ra3 : ∀ d, d ≠ 8 * j + 2 → ra hr (gz_set (gz_set (gz_set hr 23 j (.int 1)) 24 j (.int (nI u))) 25 j (.int 0)) d := fun d hd => ra_set (ra_set (ra_set (ra_rf _ _) (by simp [rq] <;> omega)) (by simp [rq] <;> omega)) (by simp [rq] <;> omega)
  have M := md_setI m2 25 j 0 (by omega)
  have f7 : fr7 hr (gz_set (gz_set (gz_set hr 23 j (.int 1)) 24 j (.int (nI u))) 25 j (.int 0)) := fr7_set (fr7_set (fr7_set (fr7_rf _) (by omega)) (by omega)) (by omega)
  have V := H.2.2.1 j hj
  have a55 := V.1.1
  have al := JV_lt V 0 (by omega)
  rw [Nat.add_zero] at al
  rcases bg_cs H hj with ⟨q1, q2, b⟩ | ⟨q1, q2, b, po, n, cy, pv⟩
  · -- a new plan
    have nw := nw_X2 hc
    have lt : ∀ x, x < hc.1 → sm hc (nwX2 hc) x := fun x hx => nwX2_sm hc hx
    have jk1 : jc (nwX2 hc) (g 0 j) (g 6 j) := jc_sm (by rw [nwX2_n]; omega) (fun k hk => lt _ (JV_lt V k hk)) jk
    have pk := nwX2_pc hc
    have an : g 0 j ≠ hc.1 := by omega
    have jk2 := jc_f jk1 6 (.ref hc.1) (by omega)
    have s0 : ∀ x, x ≠ g 0 j → sm (nwX2 hc) (gz_set (nwX2 hc) (g 0 j) 6 (.ref hc.1)) x := fun x h => sm_set (sm_rf _ _) h
    have pk2 : pc (gz_set (nwX2 hc) (g 0 j) 6 (.ref hc.1)) hc.1 0 := pc_sm (h := nwX2 hc) (Nat.le_refl _) (fun k hk => s0 _ (by omega)) pk
    have pk3 := pc_f pk2 0 (nI u) (by omega)
    have pk4 := pc_n pk3 0
    have v6 : gz_v (gz_set (nwX2 hc) (g 0 j) 6 (.ref hc.1)) (g 0 j) 6 = .ref hc.1 := by rw [gz_v_set, if_pos ⟨rfl, rfl⟩]
    have jk3 : jc (gz_set (gz_set (nwX2 hc) (g 0 j) 6 (.ref hc.1)) hc.1 0 (.int (nI u))) (g 0 j) (g 6 j) := jc_setI jk2 _ _ _ (by omega)
    have v6' : gz_v (gz_set (gz_set (nwX2 hc) (g 0 j) 6 (.ref hc.1)) hc.1 0 (.int (nI u))) (g 0 j) 6 = .ref hc.1 := by rw [gz_v_set, if_neg (fun z => an z.1)]; exact v6
    have sA : ∀ x, x < hc.1 → x ≠ g 0 j → sm hc (gz_set (gz_set (gz_set (nwX2 hc) (g 0 j) 6 (.ref hc.1)) hc.1 0 (.int (nI u))) hc.1 2 (.int (nI 0))) x := fun x h1 h2 => sm_set (sm_set (sm_set (lt x h1) h2) (by omega)) (by omega)
    have vA : ∀ f, f ≠ 6 → gz_v (gz_set (gz_set (gz_set (nwX2 hc) (g 0 j) 6 (.ref hc.1)) hc.1 0 (.int (nI u))) hc.1 2 (.int (nI 0))) (g 0 j) f = gz_v hc (g 0 j) f := fun f hf => by
      rw [gz_v_set, if_neg (fun z => an z.1), gz_v_set, if_neg (fun z => an z.1), gz_v_set, if_neg (fun z => hf z.2), (lt _ al).1]
    refine ⟨.int 1, gz_set (gz_set (gz_set (nwX2 hc) (g 0 j) 6 (.ref hc.1)) hc.1 0 (.int (nI u))) hc.1 2 (.int (nI 0)), _, gpl g j hc.1, T, ?_, r8, ⟨by simp only [gz_n_set, nwX2_n]; omega, fun x h1 h2 => sA x (by have := H.1.2.2.2.2.2.2.2.2.2.2.2.2.2.1; omega) (by omega)⟩, f7, ?_⟩
    · simp only [se_X7_plan, sm_X7_plan, gz_sem, gz_ae, Value.category, gz_i, gz_l, gz_nu, gz_li, gz_ll, gz_la, gz_ib, gz_iz, gz_lb, gz_lz, gz_ls, gz_lc, gz_i2l, gz_l2i, gz_get, gz_ald, gz_len, gz_dup, gz_d2, gz_nar, gz_a0, gz_a1, gz_cs, gz_cv, gz_mk, gz_te, gz_j1, gz_j2, gz_jn, gz_jk, gz_jo, gz_ja, gz_sat, gz_seti, gz_seta, gz_set2, gz_inc, gz_put, gz_ast, gz_pop, gz_vs, gz_vv, gz_sup, gz_rv, gz_ri, gz_rl, gz_ra, gz_if, gz_seq, gz_sw, gz_st, gz_st2, rok_I, rok_J, rok_V, rok_Z0, rok_Z1, rok_Zi, rok_R, rok_N, bi_rok, bi_0, bi_1, fit_I, fit_J, fit_Z0, fit_Z1, fit_Zi, fit_R, fit_N, fit_aR, aty_I, aty_Z0, aty_Z1, aty_Zi, aty_J, gz_ix, List.getElem?_cons_zero, List.getElem?_cons_succ, List.getElem?_nil, List.reverse_cons, List.reverse_nil, List.nil_append, List.cons_append, List.take_succ_cons, List.take_zero, List.take_nil, List.length_cons, List.length_nil, decide_true, decide_false, decide_not, Bool.not_true, Bool.not_false, gz_nle, if_true, if_false, and_true, true_and, and_self, and_false, false_and, or_true, true_or, or_false, false_or, Bool.false_eq_true, not_true, not_false_iff, Decidable.not_not, Nat.reduceLeDiff, Nat.reduceAdd, Nat.reduceEqDiff, Nat.reduceSub, Nat.reduceLT, Nat.zero_add, reduceCtorEq, reduceIte, eq_self, i32_10, i32_01, Nat.zero_le, Nat.one_ne_zero, c, jk, jk1, jk2, jk3, pk2, pk3, j1, o1, q2, nw, v6, v6', nI_0]
    · obtain ⟨V1, V2, V3, V4, V5⟩ := V
      have co : ∀ k, k ≤ 5 → g 5 (g 0 j + k) = 1 + j := V1.2.2.2.1
      have c0 := co 0 (by omega)
      rw [Nat.add_zero] at c0
      have gx : ∀ x, x < hc.1 → gpl g j hc.1 5 x = g 5 x := fun x hx => by unfold gpl; rw [if_neg (by omega), if_neg (by omega)]
      have gn : ∀ k, k ≤ 5 → gpl g j hc.1 5 (hc.1 + k) = 300 + j := fun k hk => by unfold gpl; rw [if_neg (by omega), if_pos (by omega)]
      have gq : gpl g j hc.1 3 j = hc.1 := by unfold gpl; rw [if_pos ⟨rfl, rfl⟩]
      have g0 : gpl g j hc.1 0 j = g 0 j := by unfold gpl; rw [if_neg (by omega), if_neg (by omega)]
      have gk' := gpl_k (g := g) (j := j) (n := hc.1) (by omega)
      have mm : hc.1 ≤ (gz_set (gz_set (gz_set (nwX2 hc) (g 0 j) 6 (.ref hc.1)) hc.1 0 (.int (nI u))) hc.1 2 (.int (nI 0))).1 := by simp only [gz_n_set, nwX2_n]; omega
      have sr : ∀ k, 1 ≤ k → k ≤ 5 → sm hc (gz_set (gz_set (gz_set (nwX2 hc) (g 0 j) 6 (.ref hc.1)) hc.1 0 (.int (nI u))) hc.1 2 (.int (nI 0))) (g 0 j + k) := fun k h1 h2 => sA _ (JV_lt (H.2.2.1 j hj) k h2) (by omega)
      refine IV_k H hj mm gk' (fun x hx h1 _ _ => sA x hx (fun z => h1 (by rw [z]; exact c0))) M (fun i => rr _ _ (by decide) (by decide) (by decide)) (fun i => rr _ _ (by decide) (by decide) (by decide)) ro3 so3 ⟨?_, ?_, ?_, ?_, ?_⟩ (vA 10 (by omega))
      · obtain ⟨h1, h2, h3, h4, h5⟩ := V1
        unfold J1
        rw [g0, gk'.2.1]
        refine ⟨h1, jc_setI jk3 _ _ _ (by omega), ?_, fun k hk => ?_, fun i hi => ?_⟩
        · rw [(sA 1 (by omega) (by omega)).1]; exact h3
        · rw [gx _ (JV_lt (H.2.2.1 j hj) k hk)]; exact h4 k hk
        · rw [(sr 1 (by omega) (by omega)).1, gk'.2.2.1]; exact h5 i hi
      · rw [g0]
        exact J2_fr (sr 2 (by omega) (by omega)) (sr 3 (by omega) (by omega)) (sr 4 (by omega) (by omega)) (ra3 _ (by omega)) V2
      · refine Or.inr ⟨e23, ?_, ⟨by rw [gq]; omega, fun k hk => by rw [gq]; exact gn k hk⟩, 0, u, ?_⟩
        · rw [g0, gq, gz_v_set, if_neg (fun z => an z.1)]; exact v6'
        · rw [gq]
          refine ⟨by omega, u0, u1, pk4, ?_, e24, e25, fun s hs => by omega⟩
          rw [I_seto _ _ _ _ _ _ (by omega), I_set, if_pos ⟨rfl, rfl⟩]
      · exact J4_fr (by omega) mm g0 (gk'.2.1 j) (by unfold gpl; rw [if_neg (by omega), if_neg (by omega)]) (fun x hx hg => ⟨(gx x hx).trans hg, sA x hx (fun z => by rw [z, c0] at hg; omega)⟩) (vA 7 (by omega)) (ra3 _ (by omega)) (ra3 _ (by omega)) (ra3 _ (by omega)) V4
      · rw [g0]
        exact J5_fr (fun f h1 h2 => vA f (by omega)) (sr 5 (by omega) (by omega)) (ra3 _ (by omega)) V5
  · -- the plan that was begun
    obtain ⟨v1, v2, v3, k, v5, v6, v7, v8⟩ := pv
    have p0 := po.2 0 (by omega)
    rw [Nat.add_zero] at p0
    have a0 : g 0 j ≠ g 3 j := fun z => by
      have := V.1.2.2.2.1 0 (by omega)
      rw [Nat.add_zero, z, p0] at this
      omega
    have k1 := pc_f k 0 (nI u) (by omega)
    have k2 := pc_n k1 0
    have q2' : gz_v (gz_set hc (g 3 j) 0 (.int (nI u))) (g 0 j) 6 = .ref (g 3 j) := by rw [gz_v_set, if_neg (fun z => a0 z.1)]; exact q2
    have jk1 : jc (gz_set hc (g 3 j) 0 (.int (nI u))) (g 0 j) (g 6 j) := jc_setI jk _ _ _ (Ne.symm a0)
    refine ⟨.int 1, gz_set (gz_set hc (g 3 j) 0 (.int (nI u))) (g 3 j) 2 (.int (nI 0)), _, g, T, ?_, r8, ⟨Nat.le_refl _, fun x h1 h2 => sm_set (sm_set (sm_rf _ _) (by have := po.1; omega)) (by have := po.1; omega)⟩, f7, ?_⟩
    · simp only [se_X7_plan, sm_X7_plan, gz_sem, gz_ae, Value.category, gz_i, gz_l, gz_nu, gz_li, gz_ll, gz_la, gz_ib, gz_iz, gz_lb, gz_lz, gz_ls, gz_lc, gz_i2l, gz_l2i, gz_get, gz_ald, gz_len, gz_dup, gz_d2, gz_nar, gz_a0, gz_a1, gz_cs, gz_cv, gz_mk, gz_te, gz_j1, gz_j2, gz_jn, gz_jk, gz_jo, gz_ja, gz_sat, gz_seti, gz_seta, gz_set2, gz_inc, gz_put, gz_ast, gz_pop, gz_vs, gz_vv, gz_sup, gz_rv, gz_ri, gz_rl, gz_ra, gz_if, gz_seq, gz_sw, gz_st, gz_st2, rok_I, rok_J, rok_V, rok_Z0, rok_Z1, rok_Zi, rok_R, rok_N, bi_rok, bi_0, bi_1, fit_I, fit_J, fit_Z0, fit_Z1, fit_Zi, fit_R, fit_N, fit_aR, aty_I, aty_Z0, aty_Z1, aty_Zi, aty_J, gz_ix, List.getElem?_cons_zero, List.getElem?_cons_succ, List.getElem?_nil, List.reverse_cons, List.reverse_nil, List.nil_append, List.cons_append, List.take_succ_cons, List.take_zero, List.take_nil, List.length_cons, List.length_nil, decide_true, decide_false, decide_not, Bool.not_true, Bool.not_false, gz_nle, if_true, if_false, and_true, true_and, and_self, and_false, false_and, or_true, true_or, or_false, false_or, Bool.false_eq_true, not_true, not_false_iff, Decidable.not_not, Nat.reduceLeDiff, Nat.reduceAdd, Nat.reduceEqDiff, Nat.reduceSub, Nat.reduceLT, Nat.zero_add, reduceCtorEq, reduceIte, eq_self, i32_10, i32_01, Nat.zero_le, Nat.one_ne_zero, c, jk, jk1, j1, o1, q2, q2', k, k1, nI_0]
    · refine IV_bg H hj (Nat.le_refl _) (fun x hx h => sm_set (sm_set (sm_rf _ _) (fun z => h (by rw [z]; exact p0))) (fun z => h (by rw [z]; exact p0))) M (fun i => rr _ _ (by decide) (by decide) (by decide)) (fun i => rr _ _ (by decide) (by decide) (by decide)) ro3 so3 (ra3 _ (by omega)) (ra3 _ (by omega)) (ra3 _ (by omega)) (ra3 _ (by omega)) (Or.inr ⟨e23, ?_, po, 0, u, by omega, u0, u1, k2, ?_, e24, e25, fun s hs => by omega⟩)
      · rw [gz_v_set, if_neg (fun z => a0 z.1)]; exact q2'
      · rw [I_seto _ _ _ _ _ _ (by omega), I_set, if_pos ⟨rfl, rfl⟩]
