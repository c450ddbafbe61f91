theorem wc_set {h : gz_H} (w : wc h 2) (f : Nat) (x : Int32) (hf : f = 1 ∨ f = 2) : wc (gz_set h 2 f (.int x)) 2 := by
  obtain ⟨w1, w2, w3, w4, w5, w6, w7, w8⟩ := w
  have ty : ∀ b i, gz_v h b i = .int (gz_I h b i) → gz_v (gz_set h 2 f (.int x)) b i = .int (gz_I (gz_set h 2 f (.int x)) b i) := fun b i hx => by
    rw [gz_v_set, I_set]
    by_cases q : b = 2 ∧ i = f
    · rw [if_pos q, if_pos q]
    · rw [if_neg q, if_neg q]; exact hx
  exact ⟨w1, w2, w3, w4, by rw [gz_v_set, if_neg (by omega)]; exact w5, ty _ _ w6, ty _ _ w7, fun i => ty _ i (w8 i)⟩
theorem wh_sm (h : gz_H) (bs : Nat → Int32) (m : Nat) {x : Nat} (hx : x ≠ 3) : sm h (wh h bs m) x := sm_wr (sm_rf _ _) hx
theorem IV_wh {g : gz_G} {T : Nat} {P : Nat → Nat} {hc hr : gz_H} (H : IV g T P hc hr) (bs : Nat → Int32) (m : Nat) : IV g T P (wh hc bs m) hr := IV_w H rfl (fun _ => rfl) (fun x _ h => wh_sm hc bs m h) (wc_wr H.1.2.2.1 _ _ _ _ (by decide))
theorem IV_waT {g : gz_G} {T : Nat} {P : Nat → Nat} {hc hr : gz_H} (H : IV g T P hc hr) (i k : Nat) : IV g T P (wa_T hc 2 i k) hr := IV_w H rfl (fun _ => rfl) (fun x h _ => sm_set (sm_set (sm_rf _ _) h) h) (wc_set (wc_set H.1.2.2.1 1 _ (Or.inl rfl)) 2 _ (Or.inr rfl))
theorem fr8_sm {h h' : gz_H} (n : h'.1 = h.1) (e : ∀ x, 15 ≤ x → x < 55 → sm h h' x) : fr8 h h' := ⟨by omega, e⟩
theorem fr8_tr {h h' h'' : gz_H} (a : fr8 h h') (b : fr8 h' h'') : fr8 h h'' := ⟨Nat.le_trans a.1 b.1, fun x h1 h2 => ⟨(b.2 x h1 h2).1.trans (a.2 x h1 h2).1, (b.2 x h1 h2).2.trans (a.2 x h1 h2).2⟩⟩
theorem fr8_set {h h' : gz_H} {b i : Nat} {v : Value} (e : fr8 h h') (hb : b < 15 ∨ 55 ≤ b) : fr8 h (gz_set h' b i v) := ⟨e.1, fun x h1 h2 => sm_set (e.2 x h1 h2) (by omega)⟩
theorem fr8_wr {h h' : gz_H} {b lo hi : Nat} {f : Nat → Int32} (e : fr8 h h') (hb : b < 15 ∨ 55 ≤ b) : fr8 h (gz_wr h' b lo hi f) := ⟨e.1, fun x h1 h2 => sm_wr (e.2 x h1 h2) (by omega)⟩
set_option maxHeartbeats 4000000 in
theorem lp_X8_take_59 (hc hr : gz_H) (m : md hr) (j n q : Nat) (hj : j < 8) (hn : n ≤ 4) (hN : gz_I hr 25 j = nI n) (e : ∀ s, s < n → gz_I hc q s = gz_I hr 27 (4 * j + s)) (o b0 : Int32) : ((∀ s, s < n → ¬ gz_I hr 27 (4 * j + s) < 1) → gz_loop 59 6 lb_X8_take_59 [.ref 15, .int (nI j), .int o, .int (nI j), .int b0, .int 0] hr = some (.inl (109, [.ref 15, .int (nI j), .int o, .int (nI j), .int (b0 + gz_sum hc q n), .int (nI n)], hr))) ∧ ((∃ s, s < n ∧ gz_I hr 27 (4 * j + s) < 1) → gz_loop 59 6 lb_X8_take_59 [.ref 15, .int (nI j), .int o, .int (nI j), .int b0, .int 0] hr = some (.inr (some (.int 3), hr))) := by
  have d2 : ¬ nI j < 0 := nI_pos (by omega)
  have d3 : (nI j).toNatClampNeg = j := nI_clamp (by omega)
  have d4 : j < 16 := by omega
  have z0 : b0 + gz_sum hc q 0 = b0 := Int32.add_zero b0
  have body : ∀ s, s < n → (¬ gz_I hr 27 (4 * j + s) < 1 → lb_X8_take_59 ([Value.ref 15, .int (nI j), .int o, .int (nI j), .int (b0 + gz_sum hc q s), .int (nI s)].take 6) hr = some (.inl (59, [.ref 15, .int (nI j), .int o, .int (nI j), .int (b0 + gz_sum hc q (s + 1)), .int (nI (s + 1))], hr))) ∧ (gz_I hr 27 (4 * j + s) < 1 → lb_X8_take_59 ([Value.ref 15, .int (nI j), .int o, .int (nI j), .int (b0 + gz_sum hc q s), .int (nI s)].take 6) hr = some (.inr (some (.int 3), hr))) := by
    intro s hs
    have k1 : nI s < nI n := nI_lt hs (by omega)
    have w1 : 4 * nI j + nI s = nI (4 * j + s) := by
      rw [show (4 : Int32) = nI 4 from rfl, pk_mul, nI_add]
    have a2 : ¬ nI (4 * j + s) < 0 := nI_pos (by omega)
    have a3 : (nI (4 * j + s)).toNatClampNeg = 4 * j + s := nI_clamp (by omega)
    have a4 : 4 * j + s < 64 := by omega
    constructor
    · intro g
      simp only [lb_X8_take_59, gz_sem, gz_ae, Value.category, gz_i, gz_l, gz_nu, gz_li, gz_ll, gz_la, gz_ib, gz_iz, gz_lb, gz_lz, gz_ls, gz_lc, gz_i2l, gz_l2i, gz_get, gz_ald, gz_len, gz_dup, gz_d2, gz_nar, gz_a0, gz_a1, gz_cs, gz_cv, gz_mk, gz_te, gz_j1, gz_j2, gz_jn, gz_jk, gz_jo, gz_ja, gz_sat, gz_seti, gz_seta, gz_set2, gz_inc, gz_put, gz_ast, gz_pop, gz_vs, gz_vv, gz_sup, gz_rv, gz_ri, gz_rl, gz_ra, gz_if, gz_seq, gz_sw, gz_st, gz_st2, rok_I, rok_J, rok_V, rok_Z0, rok_Z1, rok_Zi, rok_R, rok_N, bi_rok, bi_0, bi_1, fit_I, fit_J, fit_Z0, fit_Z1, fit_Zi, fit_R, fit_N, fit_aR, aty_I, aty_Z0, aty_Z1, aty_Zi, aty_J, gz_ix, List.getElem?_cons_zero, List.getElem?_cons_succ, List.getElem?_nil, List.reverse_cons, List.reverse_nil, List.nil_append, List.cons_append, List.take_succ_cons, List.take_zero, List.take_nil, List.length_cons, List.length_nil, decide_true, decide_false, decide_not, Bool.not_true, Bool.not_false, gz_nle, if_true, if_false, and_true, true_and, and_self, and_false, false_and, or_true, true_or, or_false, false_or, Bool.false_eq_true, not_true, not_false_iff, Decidable.not_not, Nat.reduceLeDiff, Nat.reduceAdd, Nat.reduceEqDiff, Nat.reduceSub, Nat.reduceLT, Nat.zero_add, reduceCtorEq, reduceIte, eq_self, i32_10, i32_01, Nat.zero_le, Nat.one_ne_zero, m, md_k, d2, d3, d4, hN, k1, w1, a2, a3, a4, g, nI_1, gz_sum, e s hs, Int32.add_assoc]
    · intro g
      simp only [lb_X8_take_59, gz_sem, gz_ae, Value.category, gz_i, gz_l, gz_nu, gz_li, gz_ll, gz_la, gz_ib, gz_iz, gz_lb, gz_lz, gz_ls, gz_lc, gz_i2l, gz_l2i, gz_get, gz_ald, gz_len, gz_dup, gz_d2, gz_nar, gz_a0, gz_a1, gz_cs, gz_cv, gz_mk, gz_te, gz_j1, gz_j2, gz_jn, gz_jk, gz_jo, gz_ja, gz_sat, gz_seti, gz_seta, gz_set2, gz_inc, gz_put, gz_ast, gz_pop, gz_vs, gz_vv, gz_sup, gz_rv, gz_ri, gz_rl, gz_ra, gz_if, gz_seq, gz_sw, gz_st, gz_st2, rok_I, rok_J, rok_V, rok_Z0, rok_Z1, rok_Zi, rok_R, rok_N, bi_rok, bi_0, bi_1, fit_I, fit_J, fit_Z0, fit_Z1, fit_Zi, fit_R, fit_N, fit_aR, aty_I, aty_Z0, aty_Z1, aty_Zi, aty_J, gz_ix, List.getElem?_cons_zero, List.getElem?_cons_succ, List.getElem?_nil, List.reverse_cons, List.reverse_nil, List.nil_append, List.cons_append, List.take_succ_cons, List.take_zero, List.take_nil, List.length_cons, List.length_nil, decide_true, decide_false, decide_not, Bool.not_true, Bool.not_false, gz_nle, if_true, if_false, and_true, true_and, and_self, and_false, false_and, or_true, true_or, or_false, false_or, Bool.false_eq_true, not_true, not_false_iff, Decidable.not_not, Nat.reduceLeDiff, Nat.reduceAdd, Nat.reduceEqDiff, Nat.reduceSub, Nat.reduceLT, Nat.zero_add, reduceCtorEq, reduceIte, eq_self, i32_10, i32_01, Nat.zero_le, Nat.one_ne_zero, m, md_k, d2, d3, d4, hN, k1, w1, a2, a3, a4, g]
  constructor
  · intro no
    have l := gz_seekN (L := 59) (k := 6) (X := 109) (a := lb_X8_take_59) (h := hr) n (fun s => gz_I hr 27 (4 * j + s) < 1) (fun s => [.ref 15, .int (nI j), .int o, .int (nI j), .int (b0 + gz_sum hc q s), .int (nI s)]) (env' := [.ref 15, .int (nI j), .int o, .int (nI j), .int (b0 + gz_sum hc q n), .int (nI n)]) (h' := hr) (by decide) (fun s hs g => (body s hs).1 g) (by
      have k1 : ¬ nI n < nI n := nI_nlt (Nat.le_refl _) (by omega)
      simp only [lb_X8_take_59, gz_sem, gz_ae, Value.category, gz_i, gz_l, gz_nu, gz_li, gz_ll, gz_la, gz_ib, gz_iz, gz_lb, gz_lz, gz_ls, gz_lc, gz_i2l, gz_l2i, gz_get, gz_ald, gz_len, gz_dup, gz_d2, gz_nar, gz_a0, gz_a1, gz_cs, gz_cv, gz_mk, gz_te, gz_j1, gz_j2, gz_jn, gz_jk, gz_jo, gz_ja, gz_sat, gz_seti, gz_seta, gz_set2, gz_inc, gz_put, gz_ast, gz_pop, gz_vs, gz_vv, gz_sup, gz_rv, gz_ri, gz_rl, gz_ra, gz_if, gz_seq, gz_sw, gz_st, gz_st2, rok_I, rok_J, rok_V, rok_Z0, rok_Z1, rok_Zi, rok_R, rok_N, bi_rok, bi_0, bi_1, fit_I, fit_J, fit_Z0, fit_Z1, fit_Zi, fit_R, fit_N, fit_aR, aty_I, aty_Z0, aty_Z1, aty_Zi, aty_J, gz_ix, List.getElem?_cons_zero, List.getElem?_cons_succ, List.getElem?_nil, List.reverse_cons, List.reverse_nil, List.nil_append, List.cons_append, List.take_succ_cons, List.take_zero, List.take_nil, List.length_cons, List.length_nil, decide_true, decide_false, decide_not, Bool.not_true, Bool.not_false, gz_nle, if_true, if_false, and_true, true_and, and_self, and_false, false_and, or_true, true_or, or_false, false_or, Bool.false_eq_true, not_true, not_false_iff, Decidable.not_not, Nat.reduceLeDiff, Nat.reduceAdd, Nat.reduceEqDiff, Nat.reduceSub, Nat.reduceLT, Nat.zero_add, reduceCtorEq, reduceIte, eq_self, i32_10, i32_01, Nat.zero_le, Nat.one_ne_zero, m, md_k, d2, d3, d4, hN, k1]) no
    rw [z0, nI_0] at l
    exact l
  · intro ex
    obtain ⟨s, s1, s2, s3⟩ := gz_least (fun s => gz_I hr 27 (4 * j + s) < 1) n ex
    have l := gz_seek0 (L := 59) (k := 6) (a := lb_X8_take_59) (h := hr) n (fun s => gz_I hr 27 (4 * j + s) < 1) (fun s => [.ref 15, .int (nI j), .int o, .int (nI j), .int (b0 + gz_sum hc q s), .int (nI s)]) (fun _ => (some (.int 3), hr)) (fun s hs g => (body s hs).1 g) (fun s hs g => (body s hs).2 g) s s2 s1 s3
    rw [z0, nI_0] at l
    exact l
set_option maxHeartbeats 16000000 in
theorem pb_take (x y : Int32) : PB se_X7_take se_X8_take [.int x, .int y] := by
  intro g T hc hr H
  have c := IV_cs H
  have m := IV_md H
  have h8 := IV_8 H
  obtain ⟨T1, T2, T3⟩ := IV_T H
  have T1' := gz_I_of T1
  rcases ja_cs h8 x with hx | ⟨j, hj, rfl⟩
  · obtain ⟨j1, j2⟩ := ja_no H hx
    have b := bg_no H hx
    refine ⟨.int 1, hc, hr, g, T, ?_, ?_, fr8_rf _, fr7_rf _, H⟩
    · simp only [se_X7_take, sm_X7_take, gz_sem, gz_ae, Value.category, gz_i, gz_l, gz_nu, gz_li, gz_ll, gz_la, gz_ib, gz_iz, gz_lb, gz_lz, gz_ls, gz_lc, gz_i2l, gz_l2i, gz_get, gz_ald, gz_len, gz_dup, gz_d2, gz_nar, gz_a0, gz_a1, gz_cs, gz_cv, gz_mk, gz_te, gz_j1, gz_j2, gz_jn, gz_jk, gz_jo, gz_ja, gz_sat, gz_seti, gz_seta, gz_set2, gz_inc, gz_put, gz_ast, gz_pop, gz_vs, gz_vv, gz_sup, gz_rv, gz_ri, gz_rl, gz_ra, gz_if, gz_seq, gz_sw, gz_st, gz_st2, rok_I, rok_J, rok_V, rok_Z0, rok_Z1, rok_Zi, rok_R, rok_N, bi_rok, bi_0, bi_1, fit_I, fit_J, fit_Z0, fit_Z1, fit_Zi, fit_R, fit_N, fit_aR, aty_I, aty_Z0, aty_Z1, aty_Zi, aty_J, gz_ix, List.getElem?_cons_zero, List.getElem?_cons_succ, List.getElem?_nil, List.reverse_cons, List.reverse_nil, List.nil_append, List.cons_append, List.take_succ_cons, List.take_zero, List.take_nil, List.length_cons, List.length_nil, decide_true, decide_false, decide_not, Bool.not_true, Bool.not_false, gz_nle, if_true, if_false, and_true, true_and, and_self, and_false, false_and, or_true, true_or, or_false, false_or, Bool.false_eq_true, not_true, not_false_iff, Decidable.not_not, Nat.reduceLeDiff, Nat.reduceAdd, Nat.reduceEqDiff, Nat.reduceSub, Nat.reduceLT, Nat.zero_add, reduceCtorEq, reduceIte, eq_self, i32_10, i32_01, Nat.zero_le, Nat.one_ne_zero, c, j1, b]
    · simp only [se_X8_take, sm_X8_take, gz_sem, gz_ae, Value.category, gz_i, gz_l, gz_nu, gz_li, gz_ll, gz_la, gz_ib, gz_iz, gz_lb, gz_lz, gz_ls, gz_lc, gz_i2l, gz_l2i, gz_get, gz_ald, gz_len, gz_dup, gz_d2, gz_nar, gz_a0, gz_a1, gz_cs, gz_cv, gz_mk, gz_te, gz_j1, gz_j2, gz_jn, gz_jk, gz_jo, gz_ja, gz_sat, gz_seti, gz_seta, gz_set2, gz_inc, gz_put, gz_ast, gz_pop, gz_vs, gz_vv, gz_sup, gz_rv, gz_ri, gz_rl, gz_ra, gz_if, gz_seq, gz_sw, gz_st, gz_st2, rok_I, rok_J, rok_V, rok_Z0, rok_Z1, rok_Zi, rok_R, rok_N, bi_rok, bi_0, bi_1, fit_I, fit_J, fit_Z0, fit_Z1, fit_Zi, fit_R, fit_N, fit_aR, aty_I, aty_Z0, aty_Z1, aty_Zi, aty_J, gz_ix, List.getElem?_cons_zero, List.getElem?_cons_succ, List.getElem?_nil, List.reverse_cons, List.reverse_nil, List.nil_append, List.cons_append, List.take_succ_cons, List.take_zero, List.take_nil, List.length_cons, List.length_nil, decide_true, decide_false, decide_not, Bool.not_true, Bool.not_false, gz_nle, if_true, if_false, and_true, true_and, and_self, and_false, false_and, or_true, true_or, or_false, false_or, Bool.false_eq_true, not_true, not_false_iff, Decidable.not_not, Nat.reduceLeDiff, Nat.reduceAdd, Nat.reduceEqDiff, Nat.reduceSub, Nat.reduceLT, Nat.zero_add, reduceCtorEq, reduceIte, eq_self, i32_10, i32_01, Nat.zero_le, Nat.one_ne_zero, m, md_k, j2]
  obtain ⟨j1, j2⟩ := ja_yes H hj
  have jk := IV_jc H hj
  have hS := IV_S H j
  have d2 : ¬ nI j < 0 := nI_pos (by omega)
  have d3 : (nI j).toNatClampNeg = j := nI_clamp (by omega)
  have d4 : j < 16 := by omega
  have d8 : j < 8 := by omega
  rcases bg_cs H hj with ⟨q1, q2, b⟩ | ⟨q1, q2, b, po, n, cy, pv⟩
  · refine ⟨.int 1, hc, hr, g, T, ?_, ?_, fr8_rf _, fr7_rf _, H⟩
    · simp only [se_X7_take, sm_X7_take, gz_sem, gz_ae, Value.category, gz_i, gz_l, gz_nu, gz_li, gz_ll, gz_la, gz_ib, gz_iz, gz_lb, gz_lz, gz_ls, gz_lc, gz_i2l, gz_l2i, gz_get, gz_ald, gz_len, gz_dup, gz_d2, gz_nar, gz_a0, gz_a1, gz_cs, gz_cv, gz_mk, gz_te, gz_j1, gz_j2, gz_jn, gz_jk, gz_jo, gz_ja, gz_sat, gz_seti, gz_seta, gz_set2, gz_inc, gz_put, gz_ast, gz_pop, gz_vs, gz_vv, gz_sup, gz_rv, gz_ri, gz_rl, gz_ra, gz_if, gz_seq, gz_sw, gz_st, gz_st2, rok_I, rok_J, rok_V, rok_Z0, rok_Z1, rok_Zi, rok_R, rok_N, bi_rok, bi_0, bi_1, fit_I, fit_J, fit_Z0, fit_Z1, fit_Zi, fit_R, fit_N, fit_aR, aty_I, aty_Z0, aty_Z1, aty_Zi, aty_J, gz_ix, List.getElem?_cons_zero, List.getElem?_cons_succ, List.getElem?_nil, List.reverse_cons, List.reverse_nil, List.nil_append, List.cons_append, List.take_succ_cons, List.take_zero, List.take_nil, List.length_cons, List.length_nil, decide_true, decide_false, decide_not, Bool.not_true, Bool.not_false, gz_nle, if_true, if_false, and_true, true_and, and_self, and_false, false_and, or_true, true_or, or_false, false_or, Bool.false_eq_true, not_true, not_false_iff, Decidable.not_not, Nat.reduceLeDiff, Nat.reduceAdd, Nat.reduceEqDiff, Nat.reduceSub, Nat.reduceLT, Nat.zero_add, reduceCtorEq, reduceIte, eq_self, i32_10, i32_01, Nat.zero_le, Nat.one_ne_zero, c, j1, b]
    · simp only [se_X8_take, sm_X8_take, gz_sem, gz_ae, Value.category, gz_i, gz_l, gz_nu, gz_li, gz_ll, gz_la, gz_ib, gz_iz, gz_lb, gz_lz, gz_ls, gz_lc, gz_i2l, gz_l2i, gz_get, gz_ald, gz_len, gz_dup, gz_d2, gz_nar, gz_a0, gz_a1, gz_cs, gz_cv, gz_mk, gz_te, gz_j1, gz_j2, gz_jn, gz_jk, gz_jo, gz_ja, gz_sat, gz_seti, gz_seta, gz_set2, gz_inc, gz_put, gz_ast, gz_pop, gz_vs, gz_vv, gz_sup, gz_rv, gz_ri, gz_rl, gz_ra, gz_if, gz_seq, gz_sw, gz_st, gz_st2, rok_I, rok_J, rok_V, rok_Z0, rok_Z1, rok_Zi, rok_R, rok_N, bi_rok, bi_0, bi_1, fit_I, fit_J, fit_Z0, fit_Z1, fit_Zi, fit_R, fit_N, fit_aR, aty_I, aty_Z0, aty_Z1, aty_Zi, aty_J, gz_ix, List.getElem?_cons_zero, List.getElem?_cons_succ, List.getElem?_nil, List.reverse_cons, List.reverse_nil, List.nil_append, List.cons_append, List.take_succ_cons, List.take_zero, List.take_nil, List.length_cons, List.length_nil, decide_true, decide_false, decide_not, Bool.not_true, Bool.not_false, gz_nle, if_true, if_false, and_true, true_and, and_self, and_false, false_and, or_true, true_or, or_false, false_or, Bool.false_eq_true, not_true, not_false_iff, Decidable.not_not, Nat.reduceLeDiff, Nat.reduceAdd, Nat.reduceEqDiff, Nat.reduceSub, Nat.reduceLT, Nat.zero_add, reduceCtorEq, reduceIte, eq_self, i32_10, i32_01, Nat.zero_le, Nat.one_ne_zero, m, md_k, j2, d2, d3, d4, q1]
  have pv' := pv
  have V := H.2.2.1 j hj
  obtain ⟨G, B, hG, hB⟩ := gb_of (Nat.mod_eq_of_lt d8) V.2.1 pv
  obtain ⟨v1, v2, v3, k, v5, v6, v7, v8⟩ := pv
  have cm : nI cy - 1 = nI (cy - 1) := pk_sub (b := 1) (by omega)
  rcases in_cs 0 (cy - 1) (by omega) (by omega) y with o | ⟨u, u0, u1, rfl⟩
  · obtain ⟨o1, o2⟩ := io_no o hc hr
    rw [nI_0] at o1 o2
    refine ⟨.int 1, hc, hr, g, T, ?_, ?_, fr8_rf _, fr7_rf _, H⟩
    · simp only [se_X7_take, sm_X7_take, gz_sem, gz_ae, Value.category, gz_i, gz_l, gz_nu, gz_li, gz_ll, gz_la, gz_ib, gz_iz, gz_lb, gz_lz, gz_ls, gz_lc, gz_i2l, gz_l2i, gz_get, gz_ald, gz_len, gz_dup, gz_d2, gz_nar, gz_a0, gz_a1, gz_cs, gz_cv, gz_mk, gz_te, gz_j1, gz_j2, gz_jn, gz_jk, gz_jo, gz_ja, gz_sat, gz_seti, gz_seta, gz_set2, gz_inc, gz_put, gz_ast, gz_pop, gz_vs, gz_vv, gz_sup, gz_rv, gz_ri, gz_rl, gz_ra, gz_if, gz_seq, gz_sw, gz_st, gz_st2, rok_I, rok_J, rok_V, rok_Z0, rok_Z1, rok_Zi, rok_R, rok_N, bi_rok, bi_0, bi_1, fit_I, fit_J, fit_Z0, fit_Z1, fit_Zi, fit_R, fit_N, fit_aR, aty_I, aty_Z0, aty_Z1, aty_Zi, aty_J, gz_ix, List.getElem?_cons_zero, List.getElem?_cons_succ, List.getElem?_nil, List.reverse_cons, List.reverse_nil, List.nil_append, List.cons_append, List.take_succ_cons, List.take_zero, List.take_nil, List.length_cons, List.length_nil, decide_true, decide_false, decide_not, Bool.not_true, Bool.not_false, gz_nle, if_true, if_false, and_true, true_and, and_self, and_false, false_and, or_true, true_or, or_false, false_or, Bool.false_eq_true, not_true, not_false_iff, Decidable.not_not, Nat.reduceLeDiff, Nat.reduceAdd, Nat.reduceEqDiff, Nat.reduceSub, Nat.reduceLT, Nat.zero_add, reduceCtorEq, reduceIte, eq_self, i32_10, i32_01, Nat.zero_le, Nat.one_ne_zero, c, j1, b, k, v5, cm, o1]
    · simp only [se_X8_take, sm_X8_take, gz_sem, gz_ae, Value.category, gz_i, gz_l, gz_nu, gz_li, gz_ll, gz_la, gz_ib, gz_iz, gz_lb, gz_lz, gz_ls, gz_lc, gz_i2l, gz_l2i, gz_get, gz_ald, gz_len, gz_dup, gz_d2, gz_nar, gz_a0, gz_a1, gz_cs, gz_cv, gz_mk, gz_te, gz_j1, gz_j2, gz_jn, gz_jk, gz_jo, gz_ja, gz_sat, gz_seti, gz_seta, gz_set2, gz_inc, gz_put, gz_ast, gz_pop, gz_vs, gz_vv, gz_sup, gz_rv, gz_ri, gz_rl, gz_ra, gz_if, gz_seq, gz_sw, gz_st, gz_st2, rok_I, rok_J, rok_V, rok_Z0, rok_Z1, rok_Zi, rok_R, rok_N, bi_rok, bi_0, bi_1, fit_I, fit_J, fit_Z0, fit_Z1, fit_Zi, fit_R, fit_N, fit_aR, aty_I, aty_Z0, aty_Z1, aty_Zi, aty_J, gz_ix, List.getElem?_cons_zero, List.getElem?_cons_succ, List.getElem?_nil, List.reverse_cons, List.reverse_nil, List.nil_append, List.cons_append, List.take_succ_cons, List.take_zero, List.take_nil, List.length_cons, List.length_nil, decide_true, decide_false, decide_not, Bool.not_true, Bool.not_false, gz_nle, if_true, if_false, and_true, true_and, and_self, and_false, false_and, or_true, true_or, or_false, false_or, Bool.false_eq_true, not_true, not_false_iff, Decidable.not_not, Nat.reduceLeDiff, Nat.reduceAdd, Nat.reduceEqDiff, Nat.reduceSub, Nat.reduceLT, Nat.zero_add, reduceCtorEq, reduceIte, eq_self, i32_10, i32_01, Nat.zero_le, Nat.one_ne_zero, m, md_k, j2, d2, d3, d4, q1, v6, cm, o2]
  obtain ⟨o1, o2⟩ := io_yes u0 u1 (by omega) hc hr
  rw [nI_0] at o1 o2
  by_cases n2 : n < 2
  · have n2' : nI n < 2 := nI_lt (b := 2) n2 (by decide)
    refine ⟨.int 2, hc, hr, g, T, ?_, ?_, fr8_rf _, fr7_rf _, H⟩
    · simp only [se_X7_take, sm_X7_take, gz_sem, gz_ae, Value.category, gz_i, gz_l, gz_nu, gz_li, gz_ll, gz_la, gz_ib, gz_iz, gz_lb, gz_lz, gz_ls, gz_lc, gz_i2l, gz_l2i, gz_get, gz_ald, gz_len, gz_dup, gz_d2, gz_nar, gz_a0, gz_a1, gz_cs, gz_cv, gz_mk, gz_te, gz_j1, gz_j2, gz_jn, gz_jk, gz_jo, gz_ja, gz_sat, gz_seti, gz_seta, gz_set2, gz_inc, gz_put, gz_ast, gz_pop, gz_vs, gz_vv, gz_sup, gz_rv, gz_ri, gz_rl, gz_ra, gz_if, gz_seq, gz_sw, gz_st, gz_st2, rok_I, rok_J, rok_V, rok_Z0, rok_Z1, rok_Zi, rok_R, rok_N, bi_rok, bi_0, bi_1, fit_I, fit_J, fit_Z0, fit_Z1, fit_Zi, fit_R, fit_N, fit_aR, aty_I, aty_Z0, aty_Z1, aty_Zi, aty_J, gz_ix, List.getElem?_cons_zero, List.getElem?_cons_succ, List.getElem?_nil, List.reverse_cons, List.reverse_nil, List.nil_append, List.cons_append, List.take_succ_cons, List.take_zero, List.take_nil, List.length_cons, List.length_nil, decide_true, decide_false, decide_not, Bool.not_true, Bool.not_false, gz_nle, if_true, if_false, and_true, true_and, and_self, and_false, false_and, or_true, true_or, or_false, false_or, Bool.false_eq_true, not_true, not_false_iff, Decidable.not_not, Nat.reduceLeDiff, Nat.reduceAdd, Nat.reduceEqDiff, Nat.reduceSub, Nat.reduceLT, Nat.zero_add, reduceCtorEq, reduceIte, eq_self, i32_10, i32_01, Nat.zero_le, Nat.one_ne_zero, c, j1, b, k, v5, cm, o1, n2']
    · simp only [se_X8_take, sm_X8_take, gz_sem, gz_ae, Value.category, gz_i, gz_l, gz_nu, gz_li, gz_ll, gz_la, gz_ib, gz_iz, gz_lb, gz_lz, gz_ls, gz_lc, gz_i2l, gz_l2i, gz_get, gz_ald, gz_len, gz_dup, gz_d2, gz_nar, gz_a0, gz_a1, gz_cs, gz_cv, gz_mk, gz_te, gz_j1, gz_j2, gz_jn, gz_jk, gz_jo, gz_ja, gz_sat, gz_seti, gz_seta, gz_set2, gz_inc, gz_put, gz_ast, gz_pop, gz_vs, gz_vv, gz_sup, gz_rv, gz_ri, gz_rl, gz_ra, gz_if, gz_seq, gz_sw, gz_st, gz_st2, rok_I, rok_J, rok_V, rok_Z0, rok_Z1, rok_Zi, rok_R, rok_N, bi_rok, bi_0, bi_1, fit_I, fit_J, fit_Z0, fit_Z1, fit_Zi, fit_R, fit_N, fit_aR, aty_I, aty_Z0, aty_Z1, aty_Zi, aty_J, gz_ix, List.getElem?_cons_zero, List.getElem?_cons_succ, List.getElem?_nil, List.reverse_cons, List.reverse_nil, List.nil_append, List.cons_append, List.take_succ_cons, List.take_zero, List.take_nil, List.length_cons, List.length_nil, decide_true, decide_false, decide_not, Bool.not_true, Bool.not_false, gz_nle, if_true, if_false, and_true, true_and, and_self, and_false, false_and, or_true, true_or, or_false, false_or, Bool.false_eq_true, not_true, not_false_iff, Decidable.not_not, Nat.reduceLeDiff, Nat.reduceAdd, Nat.reduceEqDiff, Nat.reduceSub, Nat.reduceLT, Nat.zero_add, reduceCtorEq, reduceIte, eq_self, i32_10, i32_01, Nat.zero_le, Nat.one_ne_zero, m, md_k, j2, d2, d3, d4, q1, v6, cm, o2, v7, n2']
  have n2' : ¬ nI n < 2 := nI_nlt (b := 2) (by omega) (by omega)
  have wg := st_X2_hasStageWithoutGreen hc (g 3 j) n k v1
  have eg : ∀ s, s < n → gz_I hc (g 3 j + 2) s = gz_I hr 27 (4 * j + s) := fun s hs => (v8 s hs).2.2.2.1
  have bb := st_X8_betweens hr m j n d4 v1 v7
  obtain ⟨lp1, lp2⟩ := lp_X8_take_59 hc hr m j n (g 3 j + 2) d8 v1 v7 eg (nI u) (md_bs hr j n n)
  by_cases ex : ∃ s, s < n ∧ gz_I hc (g 3 j + 2) s < 1
  · rw [bi_t ex] at wg
    have l := lp2 (by
      obtain ⟨s, s1, s2⟩ := ex
      exact ⟨s, s1, by rw [← eg s s1]; exact s2⟩)
    refine ⟨.int 3, hc, hr, g, T, ?_, ?_, fr8_rf _, fr7_rf _, H⟩
    · simp only [se_X7_take, sm_X7_take, gz_sem, gz_ae, Value.category, gz_i, gz_l, gz_nu, gz_li, gz_ll, gz_la, gz_ib, gz_iz, gz_lb, gz_lz, gz_ls, gz_lc, gz_i2l, gz_l2i, gz_get, gz_ald, gz_len, gz_dup, gz_d2, gz_nar, gz_a0, gz_a1, gz_cs, gz_cv, gz_mk, gz_te, gz_j1, gz_j2, gz_jn, gz_jk, gz_jo, gz_ja, gz_sat, gz_seti, gz_seta, gz_set2, gz_inc, gz_put, gz_ast, gz_pop, gz_vs, gz_vv, gz_sup, gz_rv, gz_ri, gz_rl, gz_ra, gz_if, gz_seq, gz_sw, gz_st, gz_st2, rok_I, rok_J, rok_V, rok_Z0, rok_Z1, rok_Zi, rok_R, rok_N, bi_rok, bi_0, bi_1, fit_I, fit_J, fit_Z0, fit_Z1, fit_Zi, fit_R, fit_N, fit_aR, aty_I, aty_Z0, aty_Z1, aty_Zi, aty_J, gz_ix, List.getElem?_cons_zero, List.getElem?_cons_succ, List.getElem?_nil, List.reverse_cons, List.reverse_nil, List.nil_append, List.cons_append, List.take_succ_cons, List.take_zero, List.take_nil, List.length_cons, List.length_nil, decide_true, decide_false, decide_not, Bool.not_true, Bool.not_false, gz_nle, if_true, if_false, and_true, true_and, and_self, and_false, false_and, or_true, true_or, or_false, false_or, Bool.false_eq_true, not_true, not_false_iff, Decidable.not_not, Nat.reduceLeDiff, Nat.reduceAdd, Nat.reduceEqDiff, Nat.reduceSub, Nat.reduceLT, Nat.zero_add, reduceCtorEq, reduceIte, eq_self, i32_10, i32_01, Nat.zero_le, Nat.one_ne_zero, c, j1, b, k, v5, cm, o1, n2', wg]
    · simp only [se_X8_take, sm_X8_take, gz_sem, gz_ae, Value.category, gz_i, gz_l, gz_nu, gz_li, gz_ll, gz_la, gz_ib, gz_iz, gz_lb, gz_lz, gz_ls, gz_lc, gz_i2l, gz_l2i, gz_get, gz_ald, gz_len, gz_dup, gz_d2, gz_nar, gz_a0, gz_a1, gz_cs, gz_cv, gz_mk, gz_te, gz_j1, gz_j2, gz_jn, gz_jk, gz_jo, gz_ja, gz_sat, gz_seti, gz_seta, gz_set2, gz_inc, gz_put, gz_ast, gz_pop, gz_vs, gz_vv, gz_sup, gz_rv, gz_ri, gz_rl, gz_ra, gz_if, gz_seq, gz_sw, gz_st, gz_st2, rok_I, rok_J, rok_V, rok_Z0, rok_Z1, rok_Zi, rok_R, rok_N, bi_rok, bi_0, bi_1, fit_I, fit_J, fit_Z0, fit_Z1, fit_Zi, fit_R, fit_N, fit_aR, aty_I, aty_Z0, aty_Z1, aty_Zi, aty_J, gz_ix, List.getElem?_cons_zero, List.getElem?_cons_succ, List.getElem?_nil, List.reverse_cons, List.reverse_nil, List.nil_append, List.cons_append, List.take_succ_cons, List.take_zero, List.take_nil, List.length_cons, List.length_nil, decide_true, decide_false, decide_not, Bool.not_true, Bool.not_false, gz_nle, if_true, if_false, and_true, true_and, and_self, and_false, false_and, or_true, true_or, or_false, false_or, Bool.false_eq_true, not_true, not_false_iff, Decidable.not_not, Nat.reduceLeDiff, Nat.reduceAdd, Nat.reduceEqDiff, Nat.reduceSub, Nat.reduceLT, Nat.zero_add, reduceCtorEq, reduceIte, eq_self, i32_10, i32_01, Nat.zero_le, Nat.one_ne_zero, m, md_k, j2, d2, d3, d4, q1, v6, cm, o2, v7, n2', bb, l]
  rw [bi_f ex] at wg
  have l := lp1 (fun s hs z => ex ⟨s, hs, by rw [eg s hs]; exact z⟩)
  have g1 : ∀ s, s < n → 1 ≤ G s := fun s hs => Nat.pos_of_ne_zero (fun z => ex ⟨s, hs, by rw [(hG s hs).1, z]; decide⟩)
  have ag := st_X2_greens hc (g 3 j) n k v1
  have ab := st_X2_allBetweens hc (g 3 j) n k v1
  have sp := sum_ps (fun s hs => (hG s hs).1) (fun s hs => (hB s hs).1) n (Nat.le_refl n)
  have pb := ps_bd (fun s hs => (hG s hs).2.2) (fun s hs => (hB s hs).2.2) n (Nat.le_refl n)
  have sbs := sum_bs (hc := hc) (hr := hr) (a := g 3 j + 3) (p := j) (n := n) (fun s hs => (v8 s hs).2.2.2.2.2) n (Nat.le_refl n)
  have acc : md_bs hr j n n + gz_sum hc (g 3 j + 2) n = nI (gz_ps G B n) := by rw [← sbs, Int32.add_comm]; exact sp
  rw [acc] at l
  by_cases ec : gz_ps G B n = cy
  case neg =>
    have ec' : ¬ nI (gz_ps G B n) = nI cy := fun z => ec ((nI_eq (by omega) (by omega)).mp z)
    refine ⟨.int 4, hc, hr, g, T, ?_, ?_, fr8_rf _, fr7_rf _, H⟩
    · simp only [se_X7_take, sm_X7_take, gz_sem, gz_ae, Value.category, gz_i, gz_l, gz_nu, gz_li, gz_ll, gz_la, gz_ib, gz_iz, gz_lb, gz_lz, gz_ls, gz_lc, gz_i2l, gz_l2i, gz_get, gz_ald, gz_len, gz_dup, gz_d2, gz_nar, gz_a0, gz_a1, gz_cs, gz_cv, gz_mk, gz_te, gz_j1, gz_j2, gz_jn, gz_jk, gz_jo, gz_ja, gz_sat, gz_seti, gz_seta, gz_set2, gz_inc, gz_put, gz_ast, gz_pop, gz_vs, gz_vv, gz_sup, gz_rv, gz_ri, gz_rl, gz_ra, gz_if, gz_seq, gz_sw, gz_st, gz_st2, rok_I, rok_J, rok_V, rok_Z0, rok_Z1, rok_Zi, rok_R, rok_N, bi_rok, bi_0, bi_1, fit_I, fit_J, fit_Z0, fit_Z1, fit_Zi, fit_R, fit_N, fit_aR, aty_I, aty_Z0, aty_Z1, aty_Zi, aty_J, gz_ix, List.getElem?_cons_zero, List.getElem?_cons_succ, List.getElem?_nil, List.reverse_cons, List.reverse_nil, List.nil_append, List.cons_append, List.take_succ_cons, List.take_zero, List.take_nil, List.length_cons, List.length_nil, decide_true, decide_false, decide_not, Bool.not_true, Bool.not_false, gz_nle, if_true, if_false, and_true, true_and, and_self, and_false, false_and, or_true, true_or, or_false, false_or, Bool.false_eq_true, not_true, not_false_iff, Decidable.not_not, Nat.reduceLeDiff, Nat.reduceAdd, Nat.reduceEqDiff, Nat.reduceSub, Nat.reduceLT, Nat.zero_add, reduceCtorEq, reduceIte, eq_self, i32_10, i32_01, Nat.zero_le, Nat.one_ne_zero, c, j1, b, k, v5, cm, o1, n2', wg, ag, ab, sp, ec']
    · simp only [se_X8_take, sm_X8_take, gz_sem, gz_ae, Value.category, gz_i, gz_l, gz_nu, gz_li, gz_ll, gz_la, gz_ib, gz_iz, gz_lb, gz_lz, gz_ls, gz_lc, gz_i2l, gz_l2i, gz_get, gz_ald, gz_len, gz_dup, gz_d2, gz_nar, gz_a0, gz_a1, gz_cs, gz_cv, gz_mk, gz_te, gz_j1, gz_j2, gz_jn, gz_jk, gz_jo, gz_ja, gz_sat, gz_seti, gz_seta, gz_set2, gz_inc, gz_put, gz_ast, gz_pop, gz_vs, gz_vv, gz_sup, gz_rv, gz_ri, gz_rl, gz_ra, gz_if, gz_seq, gz_sw, gz_st, gz_st2, rok_I, rok_J, rok_V, rok_Z0, rok_Z1, rok_Zi, rok_R, rok_N, bi_rok, bi_0, bi_1, fit_I, fit_J, fit_Z0, fit_Z1, fit_Zi, fit_R, fit_N, fit_aR, aty_I, aty_Z0, aty_Z1, aty_Zi, aty_J, gz_ix, List.getElem?_cons_zero, List.getElem?_cons_succ, List.getElem?_nil, List.reverse_cons, List.reverse_nil, List.nil_append, List.cons_append, List.take_succ_cons, List.take_zero, List.take_nil, List.length_cons, List.length_nil, decide_true, decide_false, decide_not, Bool.not_true, Bool.not_false, gz_nle, if_true, if_false, and_true, true_and, and_self, and_false, false_and, or_true, true_or, or_false, false_or, Bool.false_eq_true, not_true, not_false_iff, Decidable.not_not, Nat.reduceLeDiff, Nat.reduceAdd, Nat.reduceEqDiff, Nat.reduceSub, Nat.reduceLT, Nat.zero_add, reduceCtorEq, reduceIte, eq_self, i32_10, i32_01, Nat.zero_le, Nat.one_ne_zero, m, md_k, j2, d2, d3, d4, q1, v6, cm, o2, v7, n2', bb, l, ec']
  -- the lamps are laid
  obtain ⟨L, hL⟩ := ex_L n G B (fun s => gz_I hc (g 3 j + 1) s)
  obtain ⟨St, hSt⟩ := ex_T n G B
  have hL8 : gz_LS n G B (fun s => gz_I hr 26 (4 * j + s)) L := LS_c (fun s hs => (v8 s hs).1.symm) hL
  have la := st_X2_layLamps hc (g 3 j) n k v1 G B (fun s hs => (hG s hs).1) (fun s hs => (hB s hs).1) L hL (by omega)
  have lo := st_X8_layOut hr m j n d4 v1 v7 G B (fun s hs => (hG s hs).2.1) (fun s hs => (hB s hs).2.1) L St hL8 hSt (by omega)
  rw [ec] at la lo sp l
  generalize hE : (fun u => nI (gz_ps G B (u + 1))) = E at la
  have pcode : ∀ u, u ≤ 5 → g 5 (g 3 j + u) = 300 + j := po.2
  have p0 := pcode 0 (by omega)
  rw [Nat.add_zero] at p0
  have acode : ∀ u, u ≤ 5 → g 5 (g 0 j + u) = 1 + j := V.1.2.2.2.1
  have a0 : g 0 j ≠ g 3 j := fun z => by
    have := acode 0 (by omega)
    rw [Nat.add_zero, z, p0] at this
    omega
  have q55 := po.1
  have a55 := V.1.1
  have sl7 : ∀ x, g 5 x ≠ 300 + j → sm hc (gz_lh hc (g 3 j) cy n L E) x := fun x hx => sm_wr (sm_wr (sm_rf _ _) (fun z => hx (by rw [z]; exact pcode 5 (by omega)))) (fun z => hx (by rw [z]; exact pcode 4 (by omega)))
  have o8 : ∀ b i, b ≠ 32 → b ≠ 33 → gz_v (gz_lo hr j cy L St) b i = gz_v hr b i := fun b i h1 h2 => by unfold gz_lo; rw [wr_o _ h2, wr_o _ h1]
  have ra3 : ∀ d, d ≠ 8 * j + 2 → ra hr (gz_lo hr j cy L St) d := fun d hd => ra_wr (ra_wr (ra_rf _ _) (fun i h1 h2 => by simp [rq]; omega)) (fun i h1 h2 => by simp [rq]; omega)
  have pkL := lh_pc k cy n L E
  have IA : IV g T (fun _ => 0) (gz_lh hc (g 3 j) cy n L E) (gz_lo hr j cy L St) := by
    refine IV_bg H hj (Nat.le_refl _) (fun x _ hx => sl7 x hx) (lo_md m _ _ _ _) (fun i => o8 _ _ (by decide) (by decide)) (fun i => o8 _ _ (by decide) (by decide)) (fun i h1 h2 => ro_wr (ro_wr (ro_rf _ _) (fun u w1 w2 => by simp [rj]; omega)) (fun u w1 w2 => by simp [rj]; omega)) (fun s hs => so_wr (so_wr (so_rf _ _) (fun u w1 w2 => by simp [rt]; omega)) (fun u w1 w2 => by simp [rt]; omega)) (ra3 _ (by omega)) (ra3 _ (by omega)) (ra3 _ (by omega)) (ra3 _ (by omega)) (Or.inr ⟨?_, ?_, po, n, cy, PV_up pkL (lh_I (by omega) (by omega)) (fun u s h1 h2 => lh_I (by omega) (by omega)) (vI (o8 _ _ (by decide) (by decide))) (vI (o8 _ _ (by decide) (by decide))) (fun s _ => vI (o8 _ _ (by decide) (by decide))) (fun s _ => vI (o8 _ _ (by decide) (by decide))) (fun i k' _ _ => ap_o (fun x i hx => o8 _ _ (by omega) (by omega)) _ _ _) pv'⟩)
    · rw [vI (o8 _ _ (by decide) (by decide))]; exact q1
    · have := acode 0 (by omega)
      rw [Nat.add_zero] at this
      rw [(sl7 (g 0 j) (by omega)).1]; exact q2
  have pvL : PV (gz_lh hc (g 3 j) cy n L E) (gz_lo hr j cy L St) (g 6 j) (g 3 j) j n cy := PV_up pkL (lh_I (by omega) (by omega)) (fun u s h1 h2 => lh_I (by omega) (by omega)) (vI (o8 _ _ (by decide) (by decide))) (vI (o8 _ _ (by decide) (by decide))) (fun s _ => vI (o8 _ _ (by decide) (by decide))) (fun s _ => vI (o8 _ _ (by decide) (by decide))) (fun i k' _ _ => ap_o (fun x i hx => o8 _ _ (by omega) (by omega)) _ _ _) pv'
  have lamL : ∀ t, t < cy → gz_I (gz_lh hc (g 3 j) cy n L E) (g 3 j + 5) t = L t := fun t ht => by
    unfold gz_lh; rw [wr_Io (by omega), wr_I, if_pos ⟨rfl, by omega, ht⟩]
  have enL : ∀ s, s < n → gz_I (gz_lh hc (g 3 j) cy n L E) (g 3 j + 4) s = nI (gz_ps G B (s + 1)) := fun s hs => by
    unfold gz_lh; rw [wr_I, if_pos ⟨rfl, by omega, hs⟩, ← hE]
  have lamR : ∀ t, t < cy → gz_I (gz_lo hr j cy L St) 32 (90 * j + t) = L t := fun t ht => by
    unfold gz_lo; rw [wr_Io (by omega), wr_I, if_pos ⟨rfl, by omega, by omega⟩, show 90 * j + t - 90 * j = t by omega]
  have q2L : gz_v (gz_lh hc (g 3 j) cy n L E) (g 0 j) 6 = .ref (g 3 j) := by
    have := acode 0 (by omega)
    rw [Nat.add_zero] at this
    rw [(sl7 (g 0 j) (by omega)).1]; exact q2
  have f8L : fr8 hc (gz_lh hc (g 3 j) cy n L E) := fr8_wr (fr8_wr (fr8_rf _) (by omega)) (by omega)
  have f7L : fr7 hr (gz_lo hr j cy L St) := fr7_wr (fr7_wr (fr7_rf _) (by omega)) (by omega)
  have mL := IV_md IA
  have r24 : gz_I (gz_lo hr j cy L St) 24 j = nI cy := by rw [vI (o8 _ _ (by decide) (by decide))]; exact v6
  have r25 : gz_I (gz_lo hr j cy L St) 25 j = nI n := by rw [vI (o8 _ _ (by decide) (by decide))]; exact v7
  generalize hcL : gz_lh hc (g 3 j) cy n L E = h1 at *
  generalize hrL : gz_lo hr j cy L St = k0 at *
  have cL := IV_cs IA
  have jkL := IV_jc IA hj
  have wL := IA.1.2.2.1
  have VL := IA.2.2.1 j hj
  have c0L : gz_I h1 (g 3 j) 0 = nI cy := pvL.2.2.2.2.1
  -- the streams' leasts
  have exl : ∀ i, ∃ l, i < g 6 j → gz_I k0 20 (8 * j + i) = nI l ∧ l ≤ 30 ∧ sl h1 (g 0 j) i l := fun i => by
    by_cases hi : i < g 6 j
    · obtain ⟨so, sv, -, -⟩ := IA.2.2.2.2.1.1 _ (EX_of IA hj hi)
      obtain ⟨sk, -, -, -, ⟨e3, l, l1, l2, l3⟩, -⟩ := sv
      have ra := VL.1.2.2.2.2 i hi
      have eA : gz_A h1 (g 0 j + 1) i = g 1 (8 * j + i) := by unfold gz_A; rw [ra]
      refine ⟨l, fun _ => ⟨l3, l2, ?_⟩⟩
      unfold sl
      rw [eA]
      exact ⟨ra, sk.1, sk.2.1, by rw [sk.2.2.1 3 (by omega), e3, l3]⟩
    · exact ⟨0, fun z => absurd z hi⟩
  have hln : ∃ l : Nat → Nat, ∀ i, i < g 6 j → gz_I k0 20 (8 * j + i) = nI (l i) ∧ l i ≤ 30 ∧ sl h1 (g 0 j) i (l i) := ⟨fun i => (exl i).choose, fun i hi => (exl i).choose_spec hi⟩
  obtain ⟨ln, hln⟩ := hln
  have gG : ∀ i t, pc_G h1 (g 3 j) cy i t ↔ md_G k0 j cy i t := fun i t => by
    unfold pc_G md_G
    rw [lamL _ (Nat.mod_lt _ (by omega)), lamR _ (Nat.mod_lt _ (by omega))]
  have gs : ∀ t i l, pc_short h1 (g 3 j) cy t i l ↔ md_short k0 j cy t i l := fun t i l => by
    unfold pc_short md_short
    rw [gG, gG]
    refine and_congr_right (fun _ => and_congr_right (fun _ => ⟨?_, ?_⟩))
    · rintro ⟨k', h1, h2⟩; exact ⟨k', h1, fun z => h2 ((gG _ _).mpr z)⟩
    · rintro ⟨k', h1, h2⟩; exact ⟨k', h1, fun z => h2 ((gG _ _).mp z)⟩
  obtain ⟨ts1, ts2⟩ := st_X7_tellsShortGreen h1 (g 7 0) (g 0 j) (g 6 j) (g 3 j) n cy ln cL jkL hS pkL c0L (by omega) v3 (fun i hi => ⟨(hln i hi).2.2, (hln i hi).2.1⟩)
  have ecn : ¬ nI cy = nI cy ↔ False := ⟨fun z => z rfl, False.elim⟩
  by_cases sh : ∃ t, t < cy ∧ ∃ i, i < g 6 j ∧ pc_short h1 (g 3 j) cy t i (ln i)
  · obtain ⟨t, t1, t2, t3⟩ := gz_least (fun t => ∃ i, i < g 6 j ∧ pc_short h1 (g 3 j) cy t i (ln i)) cy sh
    obtain ⟨i, i1, i2, i3⟩ := gz_least (fun i => pc_short h1 (g 3 j) cy t i (ln i)) (g 6 j) t2
    have ts := ts2 t i t1 i1 i2 i3 (fun t' h' i hi z => t3 t' h' ⟨i, hi, z⟩)
    have hl := yes_X8_hasLeast k0 j cy (g 6 j) ln mL d8 r24 (by omega) v3 (IV_16 IA d8) hS (fun i hi => ⟨(hln i hi).1, (hln i hi).2.1⟩) t i t1 i1 ((gs _ _ _).mp i2) (fun k' hk z => i3 k' hk ((gs _ _ _).mpr z)) (fun u hu ⟨k', hk, z⟩ => t3 u hu ⟨k', hk, (gs _ _ _).mpr z⟩)
    refine ⟨.int 5, _, _, g, T, ?_, ?_, fr8_set (fr8_set (fr8_set f8L (by omega)) (by omega)) (by omega), ?_, IV_why IA 5 (nI t) (nI i) (-1) (by decide)⟩
    · simp only [se_X7_take, sm_X7_take, gz_sem, gz_ae, Value.category, gz_i, gz_l, gz_nu, gz_li, gz_ll, gz_la, gz_ib, gz_iz, gz_lb, gz_lz, gz_ls, gz_lc, gz_i2l, gz_l2i, gz_get, gz_ald, gz_len, gz_dup, gz_d2, gz_nar, gz_a0, gz_a1, gz_cs, gz_cv, gz_mk, gz_te, gz_j1, gz_j2, gz_jn, gz_jk, gz_jo, gz_ja, gz_sat, gz_seti, gz_seta, gz_set2, gz_inc, gz_put, gz_ast, gz_pop, gz_vs, gz_vv, gz_sup, gz_rv, gz_ri, gz_rl, gz_ra, gz_if, gz_seq, gz_sw, gz_st, gz_st2, rok_I, rok_J, rok_V, rok_Z0, rok_Z1, rok_Zi, rok_R, rok_N, bi_rok, bi_0, bi_1, fit_I, fit_J, fit_Z0, fit_Z1, fit_Zi, fit_R, fit_N, fit_aR, aty_I, aty_Z0, aty_Z1, aty_Zi, aty_J, gz_ix, List.getElem?_cons_zero, List.getElem?_cons_succ, List.getElem?_nil, List.reverse_cons, List.reverse_nil, List.nil_append, List.cons_append, List.take_succ_cons, List.take_zero, List.take_nil, List.length_cons, List.length_nil, decide_true, decide_false, decide_not, Bool.not_true, Bool.not_false, gz_nle, if_true, if_false, and_true, true_and, and_self, and_false, false_and, or_true, true_or, or_false, false_or, Bool.false_eq_true, not_true, not_false_iff, Decidable.not_not, Nat.reduceLeDiff, Nat.reduceAdd, Nat.reduceEqDiff, Nat.reduceSub, Nat.reduceLT, Nat.zero_add, reduceCtorEq, reduceIte, eq_self, i32_10, i32_01, Nat.zero_le, Nat.one_ne_zero, c, cL, j1, b, k, v5, cm, o1, n2', wg, ag, ab, sp, la, ts]
    · simp only [se_X8_take, sm_X8_take, gz_sem, gz_ae, Value.category, gz_i, gz_l, gz_nu, gz_li, gz_ll, gz_la, gz_ib, gz_iz, gz_lb, gz_lz, gz_ls, gz_lc, gz_i2l, gz_l2i, gz_get, gz_ald, gz_len, gz_dup, gz_d2, gz_nar, gz_a0, gz_a1, gz_cs, gz_cv, gz_mk, gz_te, gz_j1, gz_j2, gz_jn, gz_jk, gz_jo, gz_ja, gz_sat, gz_seti, gz_seta, gz_set2, gz_inc, gz_put, gz_ast, gz_pop, gz_vs, gz_vv, gz_sup, gz_rv, gz_ri, gz_rl, gz_ra, gz_if, gz_seq, gz_sw, gz_st, gz_st2, rok_I, rok_J, rok_V, rok_Z0, rok_Z1, rok_Zi, rok_R, rok_N, bi_rok, bi_0, bi_1, fit_I, fit_J, fit_Z0, fit_Z1, fit_Zi, fit_R, fit_N, fit_aR, aty_I, aty_Z0, aty_Z1, aty_Zi, aty_J, gz_ix, List.getElem?_cons_zero, List.getElem?_cons_succ, List.getElem?_nil, List.reverse_cons, List.reverse_nil, List.nil_append, List.cons_append, List.take_succ_cons, List.take_zero, List.take_nil, List.length_cons, List.length_nil, decide_true, decide_false, decide_not, Bool.not_true, Bool.not_false, gz_nle, if_true, if_false, and_true, true_and, and_self, and_false, false_and, or_true, true_or, or_false, false_or, Bool.false_eq_true, not_true, not_false_iff, Decidable.not_not, Nat.reduceLeDiff, Nat.reduceAdd, Nat.reduceEqDiff, Nat.reduceSub, Nat.reduceLT, Nat.zero_add, reduceCtorEq, reduceIte, eq_self, i32_10, i32_01, Nat.zero_le, Nat.one_ne_zero, m, mL, md_k, j2, d2, d3, d4, q1, v6, cm, o2, v7, n2', bb, l, lo, hl]
    · exact fr7_set (fr7_set (fr7_set (fr7_set f7L (by omega)) (by omega)) (by omega)) (by omega)
  have ts := ts1 (fun t ht i hi z => sh ⟨t, ht, i, hi, z⟩)
  have hl := no_X8_hasLeast k0 j cy (g 6 j) ln mL d8 r24 (by omega) v3 (IV_16 IA d8) hS (fun i hi => ⟨(hln i hi).1, (hln i hi).2.1⟩) (fun t ht ⟨i, hi, z⟩ => sh ⟨t, ht, i, hi, (gs _ _ _).mpr z⟩)
  -- the clashes
  have exa : ∃ ap : Nat → Nat → Nat, ∀ i k', i < 8 → k' < 8 → md_ap k0 j i k' = nI (ap i k') ∧ ap i k' ≤ 20 := by
    have e1 : ∀ i k', ∃ a, i < 8 → k' < 8 → md_ap k0 j i k' = nI a ∧ a ≤ 20 := fun i k' => by
      by_cases hi : i < 8
      · by_cases hk : k' < 8
        · obtain ⟨a, a1, a2⟩ := ap_20 VL.2.1 hi hk
          exact ⟨a, fun _ _ => ⟨a2, a1⟩⟩
        · exact ⟨0, fun _ z => absurd z hk⟩
      · exact ⟨0, fun z => absurd z hi⟩
    exact ⟨fun i k' => (e1 i k').choose, fun i k' h1 h2 => (e1 i k').choose_spec h1 h2⟩
  obtain ⟨ap, hap⟩ := exa
  have exb : ∃ bs : Nat → Int32, ∀ t, t < cy → bs t = L t ∧ bs (cy + t) = L t := ⟨fun u => L (u % cy), fun t ht => ⟨by
    show L (t % cy) = L t; rw [Nat.mod_eq_of_lt ht], by
    show L ((cy + t) % cy) = L t; rw [Nat.add_mod_left, Nat.mod_eq_of_lt ht]⟩⟩
  obtain ⟨bs, hbs⟩ := exb
  have hbs' : ∀ t, t < cy → bs t = gz_I h1 (g 3 j + 5) t ∧ bs (cy + t) = gz_I h1 (g 3 j + 5) t := fun t ht => by
    rw [lamL t ht]; exact hbs t ht
  obtain ⟨fc1, fc2⟩ := st_X5_firstClashOf h1 (g 0 j) (g 6 j) (g 3 j) n cy wL jkL hS a55 pkL q55 c0L (by omega) v3 bs hbs'
  have AP : md_AP k0 j cy (g 6 j) ap := ⟨d8, r24, v2, v3, IV_16 IA d8, hS, hap⟩
  have rbL := VL.2.1.2.2.2.2.2
  have gaL := gap_ap VL.2.1
  have EC : ∀ t k' i, t < cy → k' < 8 → i < 8 → (cl_E h1 (g 0 j) bs (cy + t + 1) k' i ↔ md_C1 k0 j cy ap t k' i) := fun t k' i h1' h2' h3' => cl_md v2 rbL gaL hap hbs lamR h1' v3 h2' h3'
  have CC : ∀ t k', t < cy → k' < 8 → (bt (bs (cy + t)) k' = true ↔ md_G k0 j cy k' t) ∧ (cl_C h1 (g 0 j) (g 6 j) bs (cy + t) k' ↔ md_C2 k0 j cy (g 6 j) ap t k') := fun t k' h1' h2' => clC_md hS v2 rbL gaL hap hbs lamR h1' v3 h2'
  by_cases cl : ∃ t, t < cy ∧ ∃ k', k' < g 6 j ∧ md_C2 k0 j cy (g 6 j) ap t k'
  · obtain ⟨t, t1, t2, t3⟩ := gz_least (fun t => ∃ k', k' < g 6 j ∧ md_C2 k0 j cy (g 6 j) ap t k') cy cl
    obtain ⟨kk, k1, k2, k3⟩ := gz_least (fun k' => md_C2 k0 j cy (g 6 j) ap t k') (g 6 j) t2
    obtain ⟨i, i1, i2, i3⟩ := gz_least (fun i => md_C1 k0 j cy ap t kk i) (g 6 j) k2.2
    have fc := fc2 t kk i t1 k1 i1 ((CC t kk t1 (by omega)).1.mpr k2.1) ((EC t kk i t1 (by omega) (by omega)).mpr i2) (fun u hu z => i3 u hu ((EC t kk u t1 (by omega) (by omega)).mp z)) (fun u hu z => k3 u hu ((CC t u t1 (by omega)).2.mp z)) (fun u hu k' hk z => t3 u hu ⟨k', hk, (CC u k' (by omega) (by omega)).2.mp z⟩)
    have IW := IV_wh IA bs (cy + t + 1)
    have tc := yes_X7_tellsClash h1 (wh h1 bs (cy + t + 1)) (g 7 0) (g 0 j) (g 3 j) t i kk cL wL (IV_cs IW) IW.1.2.2.1 (by omega) fc
    have ia := yes_X8_isApart mL AP t kk i t1 k1 i1 k2.1 i2 i3 k3 t3
    refine ⟨.int 6, _, _, g, T, ?_, ?_, ?_, ?_, IV_why (IV_waT IW i kk) 6 (nI t) (nI i) (nI kk) (by decide)⟩
    · simp only [se_X7_take, sm_X7_take, gz_sem, gz_ae, Value.category, gz_i, gz_l, gz_nu, gz_li, gz_ll, gz_la, gz_ib, gz_iz, gz_lb, gz_lz, gz_ls, gz_lc, gz_i2l, gz_l2i, gz_get, gz_ald, gz_len, gz_dup, gz_d2, gz_nar, gz_a0, gz_a1, gz_cs, gz_cv, gz_mk, gz_te, gz_j1, gz_j2, gz_jn, gz_jk, gz_jo, gz_ja, gz_sat, gz_seti, gz_seta, gz_set2, gz_inc, gz_put, gz_ast, gz_pop, gz_vs, gz_vv, gz_sup, gz_rv, gz_ri, gz_rl, gz_ra, gz_if, gz_seq, gz_sw, gz_st, gz_st2, rok_I, rok_J, rok_V, rok_Z0, rok_Z1, rok_Zi, rok_R, rok_N, bi_rok, bi_0, bi_1, fit_I, fit_J, fit_Z0, fit_Z1, fit_Zi, fit_R, fit_N, fit_aR, aty_I, aty_Z0, aty_Z1, aty_Zi, aty_J, gz_ix, List.getElem?_cons_zero, List.getElem?_cons_succ, List.getElem?_nil, List.reverse_cons, List.reverse_nil, List.nil_append, List.cons_append, List.take_succ_cons, List.take_zero, List.take_nil, List.length_cons, List.length_nil, decide_true, decide_false, decide_not, Bool.not_true, Bool.not_false, gz_nle, if_true, if_false, and_true, true_and, and_self, and_false, false_and, or_true, true_or, or_false, false_or, Bool.false_eq_true, not_true, not_false_iff, Decidable.not_not, Nat.reduceLeDiff, Nat.reduceAdd, Nat.reduceEqDiff, Nat.reduceSub, Nat.reduceLT, Nat.zero_add, reduceCtorEq, reduceIte, eq_self, i32_10, i32_01, Nat.zero_le, Nat.one_ne_zero, c, cL, j1, b, k, v5, cm, o1, n2', wg, ag, ab, sp, la, ts, tc]
    · simp only [se_X8_take, sm_X8_take, gz_sem, gz_ae, Value.category, gz_i, gz_l, gz_nu, gz_li, gz_ll, gz_la, gz_ib, gz_iz, gz_lb, gz_lz, gz_ls, gz_lc, gz_i2l, gz_l2i, gz_get, gz_ald, gz_len, gz_dup, gz_d2, gz_nar, gz_a0, gz_a1, gz_cs, gz_cv, gz_mk, gz_te, gz_j1, gz_j2, gz_jn, gz_jk, gz_jo, gz_ja, gz_sat, gz_seti, gz_seta, gz_set2, gz_inc, gz_put, gz_ast, gz_pop, gz_vs, gz_vv, gz_sup, gz_rv, gz_ri, gz_rl, gz_ra, gz_if, gz_seq, gz_sw, gz_st, gz_st2, rok_I, rok_J, rok_V, rok_Z0, rok_Z1, rok_Zi, rok_R, rok_N, bi_rok, bi_0, bi_1, fit_I, fit_J, fit_Z0, fit_Z1, fit_Zi, fit_R, fit_N, fit_aR, aty_I, aty_Z0, aty_Z1, aty_Zi, aty_J, gz_ix, List.getElem?_cons_zero, List.getElem?_cons_succ, List.getElem?_nil, List.reverse_cons, List.reverse_nil, List.nil_append, List.cons_append, List.take_succ_cons, List.take_zero, List.take_nil, List.length_cons, List.length_nil, decide_true, decide_false, decide_not, Bool.not_true, Bool.not_false, gz_nle, if_true, if_false, and_true, true_and, and_self, and_false, false_and, or_true, true_or, or_false, false_or, Bool.false_eq_true, not_true, not_false_iff, Decidable.not_not, Nat.reduceLeDiff, Nat.reduceAdd, Nat.reduceEqDiff, Nat.reduceSub, Nat.reduceLT, Nat.zero_add, reduceCtorEq, reduceIte, eq_self, i32_10, i32_01, Nat.zero_le, Nat.one_ne_zero, m, mL, md_k, j2, d2, d3, d4, q1, v6, cm, o2, v7, n2', bb, l, lo, hl, ia]
    · exact fr8_set (fr8_set (fr8_set (fr8_set (fr8_set (fr8_wr f8L (by omega)) (by omega)) (by omega)) (by omega)) (by omega)) (by omega)
    · exact fr7_set (fr7_set (fr7_set (fr7_set f7L (by omega)) (by omega)) (by omega)) (by omega)
  have fc := fc1 (fun t ht k' hk z => cl ⟨t, ht, k', hk, (CC t k' ht (by omega)).2.mp z⟩)
  have tc := no_X7_tellsClash h1 _ (g 7 0) (g 0 j) (g 3 j) cL wL fc
  have ia := no_X8_isApart mL AP (fun t ht ⟨k', hk, z⟩ => cl ⟨t, ht, k', hk, z⟩)
  have IW := IV_wh IA bs (cy + cy)
  have sw : ∀ x, x ≠ 3 → sm h1 (wh h1 bs (cy + cy)) x := fun x hx => wh_sm h1 bs (cy + cy) hx
  have ad := st_X1_adopt (wh h1 bs (cy + cy)) (g 0 j) (g 6 j) (g 3 j) n T (nI u) (IV_jc IW hj) (pc_wr pkL _ _ _ _ (by omega)) (by rw [(sw (g 0 j) (by omega)).1]; exact q2L) a0 T3
  have pvW : PV (wh h1 bs (cy + cy)) k0 (g 6 j) (g 3 j) j n cy := PV_fr (hc := h1) (Nat.le_refl _) (fun u' hu => sw _ (by omega)) (ra_rf _ _) (ra_rf _ _) pvL
  have ID := IV_ad (o := u) (L := L) (S := St) IW hj (by rw [(sw (g 0 j) (by omega)).1]; exact q2L) po pvW (by omega) (by omega) (fun t ht => by rw [sm_I (sw (g 3 j + 5) (by omega))]; exact lamL t ht) (fun s hs => by rw [sm_I (sw (g 3 j + 4) (by omega))]; exact enL s hs) ec g1 hSt
  have cW := IV_cs IW
  have tW := gz_I_of (IV_T IW).1
  have jW := IV_jc IW hj
  -- the reference goes on
  have f1 : 8 + nI j = nI (8 + j) := nI_add 8 j
  have f2 : ¬ nI (8 + j) < 0 := nI_pos (by omega)
  have f3 : (nI (8 + j)).toNatClampNeg = 8 + j := nI_clamp (by omega)
  have f4 : 8 + j < 16 := by omega
  have x1 := md_setI mL 23 (8 + j) 1 (by omega)
  have y24 : gz_I (gz_set k0 23 (8 + j) (.int 1)) 24 j = nI cy := by rw [I_seto _ _ _ _ _ _ (by omega)]; exact r24
  have x2 := md_setI x1 24 (8 + j) (nI cy) (by omega)
  have y25 : gz_I (gz_set (gz_set k0 23 (8 + j) (.int 1)) 24 (8 + j) (.int (nI cy))) 25 j = nI n := by rw [I_seto _ _ _ _ _ _ (by omega), I_seto _ _ _ _ _ _ (by omega)]; exact r25
  have x3 := md_setI x2 25 (8 + j) (nI n) (by omega)
  have lp := lp_X8_take_191 (gz_set (gz_set (gz_set k0 23 (8 + j) (.int 1)) 24 (8 + j) (.int (nI cy))) 25 (8 + j) (.int (nI n))) x3 j d8 (nI u) (nI j) (nI cy) rfl
  have x4 := cp8_md x3 j 4
  have w26 : ∀ s, s < 4 → gz_I (cp8 (gz_set (gz_set (gz_set k0 23 (8 + j) (.int 1)) 24 (8 + j) (.int (nI cy))) 25 (8 + j) (.int (nI n))) j 4) 26 (4 * (8 + j) + s) = gz_I k0 26 (4 * j + s) := fun s hs => by
    rw [cp8_26, if_pos (by omega), show 4 * (8 + j) + s - 32 = 4 * j + s by omega, I_seto _ _ _ _ _ _ (by omega), I_seto _ _ _ _ _ _ (by omega), I_seto _ _ _ _ _ _ (by omega)]
  have w27 : ∀ s, s < 4 → gz_I (cp8 (gz_set (gz_set (gz_set k0 23 (8 + j) (.int 1)) 24 (8 + j) (.int (nI cy))) 25 (8 + j) (.int (nI n))) j 4) 27 (4 * (8 + j) + s) = gz_I k0 27 (4 * j + s) := fun s hs => by
    rw [cp8_27, if_pos (by omega), show 4 * (8 + j) + s - 32 = 4 * j + s by omega, I_seto _ _ _ _ _ _ (by omega), I_seto _ _ _ _ _ _ (by omega), I_seto _ _ _ _ _ _ (by omega)]
  have w25 : gz_I (cp8 (gz_set (gz_set (gz_set k0 23 (8 + j) (.int 1)) 24 (8 + j) (.int (nI cy))) 25 (8 + j) (.int (nI n))) j 4) 25 (8 + j) = nI n := by
    rw [vI (cp8_o (by omega) (by omega)), I_set, if_pos ⟨rfl, rfl⟩]
  have wap : ∀ i k', md_ap (cp8 (gz_set (gz_set (gz_set k0 23 (8 + j) (.int 1)) 24 (8 + j) (.int (nI cy))) 25 (8 + j) (.int (nI n))) j 4) j i k' = md_ap k0 j i k' := fun i k' => ap_o (fun x i hx => by rw [cp8_o (by omega) (by omega), gz_v_set, if_neg (by omega), gz_v_set, if_neg (by omega), gz_v_set, if_neg (by omega)]) _ _ _
  have GBL := fun s hs => (pvL.2.2.2.2.2.2.2 s hs)
  have k27 : ∀ s, s < n → gz_I k0 27 (4 * j + s) = nI (G s) := fun s hs => by
    rw [← hrL] at *
    rw [vI (o8 _ _ (by decide) (by decide))]; exact (hG s hs).2.1
  have k26 : ∀ s, s < 4 → gz_I k0 26 (4 * j + s) = gz_I hr 26 (4 * j + s) := fun s hs => vI (o8 _ _ (by decide) (by decide))
  have kap : ∀ i k', md_ap k0 j i k' = md_ap hr j i k' := fun i k' => ap_o (fun x i hx => o8 _ _ (by omega) (by omega)) _ _ _
  have lo2 := st_X8_layOut (cp8 (gz_set (gz_set (gz_set k0 23 (8 + j) (.int 1)) 24 (8 + j) (.int (nI cy))) 25 (8 + j) (.int (nI n))) j 4) x4 (8 + j) n f4 v1 w25 G B (fun s hs => by rw [w27 s (by omega)]; exact k27 s hs) (fun s hs => by
    have hm := Nat.mod_lt (s + 1) (show 0 < n by omega)
    rw [w26 s (by omega), w26 _ (by omega), show (8 + j) % 8 = j by omega, bw_ap (fun i k' _ _ => (wap i k').trans (kap i k')), k26 s (by omega), k26 _ (by omega)]
    have := (hB s hs).2.1
    unfold bw at this
    rw [Nat.mod_eq_of_lt d8] at this
    exact this) L St (LS_c (fun s hs => by rw [w26 s (by omega), k26 s (by omega)]) hL8) hSt (by omega)
  rw [ec] at lo2
  have x5 := lo_md x4 (8 + j) cy L St
  have x6 := md_setI x5 23 j 0 (by omega)
  have x7 := md_setI x6 28 (8 + j) (nI u) (by omega)
  have y25' : gz_I (gz_set (gz_set (gz_lo (cp8 (gz_set (gz_set (gz_set k0 23 (8 + j) (.int 1)) 24 (8 + j) (.int (nI cy))) 25 (8 + j) (.int (nI n))) j 4) (8 + j) cy L St) 23 j (.int 0)) 28 (8 + j) (.int (nI u))) 25 (8 + j) = nI n := by
    rw [I_seto _ _ _ _ _ _ (by omega), I_seto _ _ _ _ _ _ (by omega), lo_I (by decide) (by decide)]; exact w25
  have x8 := md_setI x7 29 j (nI n) (by omega)
  have x9 := md_setI x8 31 j 0 (by omega)
  have tR : gz_I (gz_set (gz_set (gz_set (gz_set (gz_lo (cp8 (gz_set (gz_set (gz_set k0 23 (8 + j) (.int 1)) 24 (8 + j) (.int (nI cy))) 25 (8 + j) (.int (nI n))) j 4) (8 + j) cy L St) 23 j (.int 0)) 28 (8 + j) (.int (nI u))) 29 j (.int (nI n))) 31 j (.int 0)) 15 1 = nI T := (IV_T ID).2.1
  by_cases z : T = 0
  · rw [if_pos z] at ad
    have zT : ¬ (0 : Int32) < nI T := by rw [z]; decide
    refine ⟨.int 0, _, _, gad g j, T, ?_, ?_, ?_, ?_, ID⟩
    · simp only [se_X7_take, sm_X7_take, gz_sem, gz_ae, Value.category, gz_i, gz_l, gz_nu, gz_li, gz_ll, gz_la, gz_ib, gz_iz, gz_lb, gz_lz, gz_ls, gz_lc, gz_i2l, gz_l2i, gz_get, gz_ald, gz_len, gz_dup, gz_d2, gz_nar, gz_a0, gz_a1, gz_cs, gz_cv, gz_mk, gz_te, gz_j1, gz_j2, gz_jn, gz_jk, gz_jo, gz_ja, gz_sat, gz_seti, gz_seta, gz_set2, gz_inc, gz_put, gz_ast, gz_pop, gz_vs, gz_vv, gz_sup, gz_rv, gz_ri, gz_rl, gz_ra, gz_if, gz_seq, gz_sw, gz_st, gz_st2, rok_I, rok_J, rok_V, rok_Z0, rok_Z1, rok_Zi, rok_R, rok_N, bi_rok, bi_0, bi_1, fit_I, fit_J, fit_Z0, fit_Z1, fit_Zi, fit_R, fit_N, fit_aR, aty_I, aty_Z0, aty_Z1, aty_Zi, aty_J, gz_ix, List.getElem?_cons_zero, List.getElem?_cons_succ, List.getElem?_nil, List.reverse_cons, List.reverse_nil, List.nil_append, List.cons_append, List.take_succ_cons, List.take_zero, List.take_nil, List.length_cons, List.length_nil, decide_true, decide_false, decide_not, Bool.not_true, Bool.not_false, gz_nle, if_true, if_false, and_true, true_and, and_self, and_false, false_and, or_true, true_or, or_false, false_or, Bool.false_eq_true, not_true, not_false_iff, Decidable.not_not, Nat.reduceLeDiff, Nat.reduceAdd, Nat.reduceEqDiff, Nat.reduceSub, Nat.reduceLT, Nat.zero_add, reduceCtorEq, reduceIte, eq_self, i32_10, i32_01, Nat.zero_le, Nat.one_ne_zero, c, cL, cW, jW, tW, j1, b, k, v5, cm, o1, n2', wg, ag, ab, sp, la, ts, tc, ad]
    · simp only [se_X8_take, sm_X8_take, gz_sem, gz_ae, Value.category, gz_i, gz_l, gz_nu, gz_li, gz_ll, gz_la, gz_ib, gz_iz, gz_lb, gz_lz, gz_ls, gz_lc, gz_i2l, gz_l2i, gz_get, gz_ald, gz_len, gz_dup, gz_d2, gz_nar, gz_a0, gz_a1, gz_cs, gz_cv, gz_mk, gz_te, gz_j1, gz_j2, gz_jn, gz_jk, gz_jo, gz_ja, gz_sat, gz_seti, gz_seta, gz_set2, gz_inc, gz_put, gz_ast, gz_pop, gz_vs, gz_vv, gz_sup, gz_rv, gz_ri, gz_rl, gz_ra, gz_if, gz_seq, gz_sw, gz_st, gz_st2, rok_I, rok_J, rok_V, rok_Z0, rok_Z1, rok_Zi, rok_R, rok_N, bi_rok, bi_0, bi_1, fit_I, fit_J, fit_Z0, fit_Z1, fit_Zi, fit_R, fit_N, fit_aR, aty_I, aty_Z0, aty_Z1, aty_Zi, aty_J, gz_ix, List.getElem?_cons_zero, List.getElem?_cons_succ, List.getElem?_nil, List.reverse_cons, List.reverse_nil, List.nil_append, List.cons_append, List.take_succ_cons, List.take_zero, List.take_nil, List.length_cons, List.length_nil, decide_true, decide_false, decide_not, Bool.not_true, Bool.not_false, gz_nle, if_true, if_false, and_true, true_and, and_self, and_false, false_and, or_true, true_or, or_false, false_or, Bool.false_eq_true, not_true, not_false_iff, Decidable.not_not, Nat.reduceLeDiff, Nat.reduceAdd, Nat.reduceEqDiff, Nat.reduceSub, Nat.reduceLT, Nat.zero_add, reduceCtorEq, reduceIte, eq_self, i32_10, i32_01, Nat.zero_le, Nat.one_ne_zero, m, mL, md_k, j2, d2, d3, d4, d8, q1, v6, cm, o2, v7, n2', bb, l, lo, hl, ia, f1, f2, f3, f4, x1, y24, x2, y25, x3, lp, x4, lo2, x5, x6, x7, y25', x8, x9, tR, zT, rd8]
    · unfold ad7
      exact fr8_set (fr8_set (fr8_set (fr8_set (fr8_set (fr8_wr f8L (by omega)) (by omega)) (by omega)) (by omega)) (by omega)) (by omega)
    · exact ⟨rd8_7.1.trans f7L.1, fun x hx => ⟨(rd8_7.2 x hx).1.trans (f7L.2 x hx).1, (rd8_7.2 x hx).2.trans (f7L.2 x hx).2⟩⟩
  · rw [if_neg z] at ad
    have zT : (0 : Int32) < nI T := nI_gt0 (by omega) (by omega)
    have e20 : nI T + 20 = nI (T + 20) := nI_add T 20
    have IC := IV_clr ID (j := j) (by have : gad g j 7 0 = g 7 0 := by unfold gad; rw [if_neg (by omega), if_neg (by omega), if_neg (by omega)]
                                      rw [this]; exact hj) (nI (T + 20))
    have g0 : gad g j 0 j = g 0 j := by unfold gad; rw [if_neg (by omega), if_neg (by omega), if_neg (by omega)]
    rw [g0] at IC
    refine ⟨.int 0, _, _, gad g j, T, ?_, ?_, ?_, ?_, IC⟩
    · simp only [se_X7_take, sm_X7_take, gz_sem, gz_ae, Value.category, gz_i, gz_l, gz_nu, gz_li, gz_ll, gz_la, gz_ib, gz_iz, gz_lb, gz_lz, gz_ls, gz_lc, gz_i2l, gz_l2i, gz_get, gz_ald, gz_len, gz_dup, gz_d2, gz_nar, gz_a0, gz_a1, gz_cs, gz_cv, gz_mk, gz_te, gz_j1, gz_j2, gz_jn, gz_jk, gz_jo, gz_ja, gz_sat, gz_seti, gz_seta, gz_set2, gz_inc, gz_put, gz_ast, gz_pop, gz_vs, gz_vv, gz_sup, gz_rv, gz_ri, gz_rl, gz_ra, gz_if, gz_seq, gz_sw, gz_st, gz_st2, rok_I, rok_J, rok_V, rok_Z0, rok_Z1, rok_Zi, rok_R, rok_N, bi_rok, bi_0, bi_1, fit_I, fit_J, fit_Z0, fit_Z1, fit_Zi, fit_R, fit_N, fit_aR, aty_I, aty_Z0, aty_Z1, aty_Zi, aty_J, gz_ix, List.getElem?_cons_zero, List.getElem?_cons_succ, List.getElem?_nil, List.reverse_cons, List.reverse_nil, List.nil_append, List.cons_append, List.take_succ_cons, List.take_zero, List.take_nil, List.length_cons, List.length_nil, decide_true, decide_false, decide_not, Bool.not_true, Bool.not_false, gz_nle, if_true, if_false, and_true, true_and, and_self, and_false, false_and, or_true, true_or, or_false, false_or, Bool.false_eq_true, not_true, not_false_iff, Decidable.not_not, Nat.reduceLeDiff, Nat.reduceAdd, Nat.reduceEqDiff, Nat.reduceSub, Nat.reduceLT, Nat.zero_add, reduceCtorEq, reduceIte, eq_self, i32_10, i32_01, Nat.zero_le, Nat.one_ne_zero, c, cL, cW, jW, tW, j1, b, k, v5, cm, o1, n2', wg, ag, ab, sp, la, ts, tc, ad]
    · simp only [se_X8_take, sm_X8_take, gz_sem, gz_ae, Value.category, gz_i, gz_l, gz_nu, gz_li, gz_ll, gz_la, gz_ib, gz_iz, gz_lb, gz_lz, gz_ls, gz_lc, gz_i2l, gz_l2i, gz_get, gz_ald, gz_len, gz_dup, gz_d2, gz_nar, gz_a0, gz_a1, gz_cs, gz_cv, gz_mk, gz_te, gz_j1, gz_j2, gz_jn, gz_jk, gz_jo, gz_ja, gz_sat, gz_seti, gz_seta, gz_set2, gz_inc, gz_put, gz_ast, gz_pop, gz_vs, gz_vv, gz_sup, gz_rv, gz_ri, gz_rl, gz_ra, gz_if, gz_seq, gz_sw, gz_st, gz_st2, rok_I, rok_J, rok_V, rok_Z0, rok_Z1, rok_Zi, rok_R, rok_N, bi_rok, bi_0, bi_1, fit_I, fit_J, fit_Z0, fit_Z1, fit_Zi, fit_R, fit_N, fit_aR, aty_I, aty_Z0, aty_Z1, aty_Zi, aty_J, gz_ix, List.getElem?_cons_zero, List.getElem?_cons_succ, List.getElem?_nil, List.reverse_cons, List.reverse_nil, List.nil_append, List.cons_append, List.take_succ_cons, List.take_zero, List.take_nil, List.length_cons, List.length_nil, decide_true, decide_false, decide_not, Bool.not_true, Bool.not_false, gz_nle, if_true, if_false, and_true, true_and, and_self, and_false, false_and, or_true, true_or, or_false, false_or, Bool.false_eq_true, not_true, not_false_iff, Decidable.not_not, Nat.reduceLeDiff, Nat.reduceAdd, Nat.reduceEqDiff, Nat.reduceSub, Nat.reduceLT, Nat.zero_add, reduceCtorEq, reduceIte, eq_self, i32_10, i32_01, Nat.zero_le, Nat.one_ne_zero, m, mL, md_k, j2, d2, d3, d4, d8, q1, v6, cm, o2, v7, n2', bb, l, lo, hl, ia, f1, f2, f3, f4, x1, y24, x2, y25, x3, lp, x4, lo2, x5, x6, x7, y25', x8, x9, tR, zT, e20, rd8]
    · unfold ad7
      exact fr8_set (fr8_set (fr8_set (fr8_set (fr8_set (fr8_set (fr8_wr f8L (by omega)) (by omega)) (by omega)) (by omega)) (by omega)) (by omega)) (by omega)
    · refine fr7_set ?_ (by omega)
      exact ⟨rd8_7.1.trans f7L.1, fun x hx => ⟨(rd8_7.2 x hx).1.trans (f7L.2 x hx).1, (rd8_7.2 x hx).2.trans (f7L.2 x hx).2⟩⟩
