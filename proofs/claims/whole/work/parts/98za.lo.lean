theorem md_s1 {m c : Nat} (h : m % c + 1 < c) : (m + 1) % c = m % c + 1 := by rw [← Nat.mod_add_mod, Nat.mod_eq_of_lt h]
theorem md_s2 {m c : Nat} (h0 : 0 < c) (h : ¬ m % c + 1 < c) : (m + 1) % c = 0 := by
  have l := Nat.mod_lt m h0
  rw [← Nat.mod_add_mod, show m % c + 1 = c by omega, Nat.mod_self]
def lf (h : gz_H) (q S tm cy o t : Nat) : Bool := bt (gz_I h (q + 5) ((t + tm + cy - o) % cy)) S
set_option maxHeartbeats 4000000 in
theorem lo_step {h : gz_H} {JJ : Nat} (c : cs h JJ) (yy : yc h) (leg q n cy S tm o row t : Nat) (hl : leg < 6) (pk : pc h q n) (p0 : gz_I h q 0 = nI cy) (e11 : gz_I h 11 leg = nI S) (hS : S < 8) (ho : o < cy) (c9 : cy ≤ 90) (hr : row < 540) (ht : t < cy) (a13 : gz_J h 13 row = lN (bm (lf h q S tm cy o) (min t 45))) (a14 : gz_J h 14 row = lN (bm (fun t => lf h q S tm cy o (45 + t)) (t - 45))) : ∃ e' h', lb_X6_layOffsets_54 [.ref 9, .int (nI leg), .ref q, .int (nI o), .int (nI row), .int (nI ((t + tm + cy - o) % cy)), .int (nI t)] h = some (.inl (54, e', h')) ∧ e'.take 7 = [.ref 9, .int (nI leg), .ref q, .int (nI o), .int (nI row), .int (nI ((t + 1 + tm + cy - o) % cy)), .int (nI (t + 1))] ∧ LF (fun i => i = row) h h' ∧ gz_J h' 13 row = lN (bm (lf h q S tm cy o) (min (t + 1) 45)) ∧ gz_J h' 14 row = lN (bm (fun t => lf h q S tm cy o (45 + t)) (t + 1 - 45)) := by
  have c0 : 0 < cy := by omega
  have k1 : nI t < nI cy := nI_lt ht (by omega)
  have pl := Nat.mod_lt (t + tm + cy - o) c0
  have pe : t + 1 + tm + cy - o = t + tm + cy - o + 1 := by omega
  have gr : (gz_I h (q + 5) ((t + tm + cy - o) % cy) >>> (nI S &&& 31) &&& 1).toInt64 = lN (if lf h q S tm cy o t = true then 1 else 0) := by
    rw [bt_t (by omega)]
    show _ = lN (if bt _ _ = true then 1 else 0)
    split <;> rfl
  have sh : ∀ m, m < 64 → lN (if lf h q S tm cy o t = true then 1 else 0) <<< ((nI m).toInt64 &&& 63) = lN (if lf h q S tm cy o t = true then 2 ^ m else 0) := fun m hm => by
    rw [wb_shl _ hm]
    split
    · rw [Nat.one_mul]
    · rw [Nat.zero_mul]
  generalize hp : (t + tm + cy - o) % cy = p at *
  have d1 : ¬ nI p < 0 := nI_pos (by omega)
  have d2 : (nI p).toNatClampNeg = p := nI_clamp (by omega)
  have d3 : p < 90 := by omega
  have d4 : ¬ nI leg < 0 := nI_pos (by omega)
  have d5 : (nI leg).toNatClampNeg = leg := nI_clamp (by omega)
  have d6 : ¬ nI row < 0 := nI_pos (by omega)
  have d7 : (nI row).toNatClampNeg = row := nI_clamp (by omega)
  have i1 : nI p + 1 = nI (p + 1) := nI_add p 1
  have i2 : nI t + 1 = nI (t + 1) := nI_add t 1
  obtain ⟨pn, hpn, hte⟩ : ∃ pn, pn = (t + 1 + tm + cy - o) % cy ∧ ((nI (p + 1) < nI cy ∧ nI (p + 1) = nI pn) ∨ (¬ nI (p + 1) < nI cy ∧ (0 : Int32) = nI pn)) := by
    refine ⟨_, rfl, ?_⟩
    rw [pe]
    by_cases q1 : p + 1 < cy
    · refine Or.inl ⟨nI_lt q1 (by omega), ?_⟩
      rw [md_s1 (by rw [hp]; exact q1), hp]
    · refine Or.inr ⟨nI_nlt (by omega) (by omega), ?_⟩
      rw [md_s2 c0 (by rw [hp]; exact q1)]
      rfl
  rw [← hpn]
  by_cases q45 : t < 45
  · have k45 : nI t < 45 := nI_lt q45 (by decide)
    have s1 := sh t (by omega)
    have o1 : gz_J h 13 row ||| lN (if lf h q S tm cy o t = true then 2 ^ t else 0) = lN (bm (lf h q S tm cy o) (min (t + 1) 45)) := by
      rw [a13, fb_orL, Nat.min_eq_left (by omega), Nat.min_eq_left (by omega), bm_or]
    have v1 : ∀ b i, b ≠ 13 → gz_v (gz_set h 13 row (.long (lN (bm (lf h q S tm cy o) (min (t + 1) 45))))) b i = gz_v h b i := fun b i hb => by rw [gz_v_set, if_neg (by omega)]
    have q13 : q ≠ 13 := fun z => by have := pk.2.2.2.2.2.2.1; rw [z] at this; rw [c.2.2.2.2.2.2.2.2.2.2.2.2.2.2.1] at this; exact absurd this (by decide)
    have vq := v1 q 0 q13
    refine ⟨[.ref 9, .int (nI leg), .ref q, .int (nI o), .int (nI row), .int (nI pn), .int (nI (t + 1))], gz_set h 13 row (.long (lN (bm (lf h q S tm cy o) (min (t + 1) 45)))), ?_, rfl, LF_set (LF_rf yy) _ (Or.inl rfl) rfl, ?_, ?_⟩
    · rcases hte with ⟨t1, t2⟩ | ⟨t1, t2⟩
      · rw [← t2]
        simp only [lb_X6_layOffsets_54, gz_sem, gz_ae, Value.category, gz_i, gz_l, gz_nu, gz_li, gz_ll, gz_la, gz_ib, gz_iz, gz_lb, gz_lz, gz_ls, gz_lc, gz_i2l, gz_l2i, gz_get, gz_ald, gz_len, gz_dup, gz_d2, gz_nar, gz_a0, gz_a1, gz_cs, gz_cv, gz_mk, gz_te, gz_j1, gz_j2, gz_jn, gz_jk, gz_jo, gz_ja, gz_sat, gz_seti, gz_seta, gz_set2, gz_inc, gz_put, gz_ast, gz_pop, gz_vs, gz_vv, gz_sup, gz_rv, gz_ri, gz_rl, gz_ra, gz_if, gz_seq, gz_sw, gz_st, gz_st2, rok_I, rok_J, rok_V, rok_Z0, rok_Z1, rok_Zi, rok_R, rok_N, bi_rok, bi_0, bi_1, fit_I, fit_J, fit_Z0, fit_Z1, fit_Zi, fit_R, fit_N, fit_aR, aty_I, aty_Z0, aty_Z1, aty_Zi, aty_J, gz_ix, List.getElem?_cons_zero, List.getElem?_cons_succ, List.getElem?_nil, List.reverse_cons, List.reverse_nil, List.nil_append, List.cons_append, List.take_succ_cons, List.take_zero, List.take_nil, List.length_cons, List.length_nil, decide_true, decide_false, decide_not, Bool.not_true, Bool.not_false, gz_nle, if_true, if_false, and_true, true_and, and_self, and_false, false_and, or_true, true_or, or_false, false_or, Bool.false_eq_true, not_true, not_false_iff, Decidable.not_not, Nat.reduceLeDiff, Nat.reduceAdd, Nat.reduceEqDiff, Nat.reduceSub, Nat.reduceLT, Nat.zero_add, reduceCtorEq, reduceIte, eq_self, i32_10, i32_01, Nat.zero_le, Nat.one_ne_zero, c, yy, pk, p0, e11, k1, d1, d2, d3, d4, d5, d6, d7, hl, hr, gr, k45, s1, o1, vq, i1, i2, t1, gz_n_set, gz_k_set]
      · rw [← t2]
        simp only [lb_X6_layOffsets_54, gz_sem, gz_ae, Value.category, gz_i, gz_l, gz_nu, gz_li, gz_ll, gz_la, gz_ib, gz_iz, gz_lb, gz_lz, gz_ls, gz_lc, gz_i2l, gz_l2i, gz_get, gz_ald, gz_len, gz_dup, gz_d2, gz_nar, gz_a0, gz_a1, gz_cs, gz_cv, gz_mk, gz_te, gz_j1, gz_j2, gz_jn, gz_jk, gz_jo, gz_ja, gz_sat, gz_seti, gz_seta, gz_set2, gz_inc, gz_put, gz_ast, gz_pop, gz_vs, gz_vv, gz_sup, gz_rv, gz_ri, gz_rl, gz_ra, gz_if, gz_seq, gz_sw, gz_st, gz_st2, rok_I, rok_J, rok_V, rok_Z0, rok_Z1, rok_Zi, rok_R, rok_N, bi_rok, bi_0, bi_1, fit_I, fit_J, fit_Z0, fit_Z1, fit_Zi, fit_R, fit_N, fit_aR, aty_I, aty_Z0, aty_Z1, aty_Zi, aty_J, gz_ix, List.getElem?_cons_zero, List.getElem?_cons_succ, List.getElem?_nil, List.reverse_cons, List.reverse_nil, List.nil_append, List.cons_append, List.take_succ_cons, List.take_zero, List.take_nil, List.length_cons, List.length_nil, decide_true, decide_false, decide_not, Bool.not_true, Bool.not_false, gz_nle, if_true, if_false, and_true, true_and, and_self, and_false, false_and, or_true, true_or, or_false, false_or, Bool.false_eq_true, not_true, not_false_iff, Decidable.not_not, Nat.reduceLeDiff, Nat.reduceAdd, Nat.reduceEqDiff, Nat.reduceSub, Nat.reduceLT, Nat.zero_add, reduceCtorEq, reduceIte, eq_self, i32_10, i32_01, Nat.zero_le, Nat.one_ne_zero, c, yy, pk, p0, e11, k1, d1, d2, d3, d4, d5, d6, d7, hl, hr, gr, k45, s1, o1, vq, i1, i2, t1, gz_n_set, gz_k_set]
    · rw [J_set, if_pos ⟨rfl, rfl⟩]
    · rw [J_seto _ _ _ _ _ _ (by omega), a14, show t + 1 - 45 = t - 45 by omega]
  · have k45 : ¬ nI t < 45 := nI_nlt (b := 45) (by omega) (by omega)
    have u45 : nI t - 45 = nI (t - 45) := pk_sub (b := 45) (by omega)
    have s1 := sh (t - 45) (by omega)
    have o1 : gz_J h 14 row ||| lN (if lf h q S tm cy o t = true then 2 ^ (t - 45) else 0) = lN (bm (fun t => lf h q S tm cy o (45 + t)) (t + 1 - 45)) := by
      rw [a14, fb_orL, show t + 1 - 45 = t - 45 + 1 by omega, ← bm_or, show 45 + (t - 45) = t by omega]
    have v1 : ∀ b i, b ≠ 14 → gz_v (gz_set h 14 row (.long (lN (bm (fun t => lf h q S tm cy o (45 + t)) (t + 1 - 45))))) b i = gz_v h b i := fun b i hb => by rw [gz_v_set, if_neg (by omega)]
    have q14 : q ≠ 14 := fun z => by have := pk.2.2.2.2.2.2.1; rw [z] at this; rw [c.2.2.2.2.2.2.2.2.2.2.2.2.2.2.2.1] at this; exact absurd this (by decide)
    have vq := v1 q 0 q14
    refine ⟨[.ref 9, .int (nI leg), .ref q, .int (nI o), .int (nI row), .int (nI pn), .int (nI (t + 1))], gz_set h 14 row (.long (lN (bm (fun t => lf h q S tm cy o (45 + t)) (t + 1 - 45)))), ?_, rfl, LF_set (LF_rf yy) _ (Or.inr rfl) rfl, ?_, ?_⟩
    · rcases hte with ⟨t1, t2⟩ | ⟨t1, t2⟩
      · rw [← t2]
        simp only [lb_X6_layOffsets_54, gz_sem, gz_ae, Value.category, gz_i, gz_l, gz_nu, gz_li, gz_ll, gz_la, gz_ib, gz_iz, gz_lb, gz_lz, gz_ls, gz_lc, gz_i2l, gz_l2i, gz_get, gz_ald, gz_len, gz_dup, gz_d2, gz_nar, gz_a0, gz_a1, gz_cs, gz_cv, gz_mk, gz_te, gz_j1, gz_j2, gz_jn, gz_jk, gz_jo, gz_ja, gz_sat, gz_seti, gz_seta, gz_set2, gz_inc, gz_put, gz_ast, gz_pop, gz_vs, gz_vv, gz_sup, gz_rv, gz_ri, gz_rl, gz_ra, gz_if, gz_seq, gz_sw, gz_st, gz_st2, rok_I, rok_J, rok_V, rok_Z0, rok_Z1, rok_Zi, rok_R, rok_N, bi_rok, bi_0, bi_1, fit_I, fit_J, fit_Z0, fit_Z1, fit_Zi, fit_R, fit_N, fit_aR, aty_I, aty_Z0, aty_Z1, aty_Zi, aty_J, gz_ix, List.getElem?_cons_zero, List.getElem?_cons_succ, List.getElem?_nil, List.reverse_cons, List.reverse_nil, List.nil_append, List.cons_append, List.take_succ_cons, List.take_zero, List.take_nil, List.length_cons, List.length_nil, decide_true, decide_false, decide_not, Bool.not_true, Bool.not_false, gz_nle, if_true, if_false, and_true, true_and, and_self, and_false, false_and, or_true, true_or, or_false, false_or, Bool.false_eq_true, not_true, not_false_iff, Decidable.not_not, Nat.reduceLeDiff, Nat.reduceAdd, Nat.reduceEqDiff, Nat.reduceSub, Nat.reduceLT, Nat.zero_add, reduceCtorEq, reduceIte, eq_self, i32_10, i32_01, Nat.zero_le, Nat.one_ne_zero, c, yy, pk, p0, e11, k1, d1, d2, d3, d4, d5, d6, d7, hl, hr, gr, k45, u45, s1, o1, vq, i1, i2, t1, gz_n_set, gz_k_set]
      · rw [← t2]
        simp only [lb_X6_layOffsets_54, gz_sem, gz_ae, Value.category, gz_i, gz_l, gz_nu, gz_li, gz_ll, gz_la, gz_ib, gz_iz, gz_lb, gz_lz, gz_ls, gz_lc, gz_i2l, gz_l2i, gz_get, gz_ald, gz_len, gz_dup, gz_d2, gz_nar, gz_a0, gz_a1, gz_cs, gz_cv, gz_mk, gz_te, gz_j1, gz_j2, gz_jn, gz_jk, gz_jo, gz_ja, gz_sat, gz_seti, gz_seta, gz_set2, gz_inc, gz_put, gz_ast, gz_pop, gz_vs, gz_vv, gz_sup, gz_rv, gz_ri, gz_rl, gz_ra, gz_if, gz_seq, gz_sw, gz_st, gz_st2, rok_I, rok_J, rok_V, rok_Z0, rok_Z1, rok_Zi, rok_R, rok_N, bi_rok, bi_0, bi_1, fit_I, fit_J, fit_Z0, fit_Z1, fit_Zi, fit_R, fit_N, fit_aR, aty_I, aty_Z0, aty_Z1, aty_Zi, aty_J, gz_ix, List.getElem?_cons_zero, List.getElem?_cons_succ, List.getElem?_nil, List.reverse_cons, List.reverse_nil, List.nil_append, List.cons_append, List.take_succ_cons, List.take_zero, List.take_nil, List.length_cons, List.length_nil, decide_true, decide_false, decide_not, Bool.not_true, Bool.not_false, gz_nle, if_true, if_false, and_true, true_and, and_self, and_false, false_and, or_true, true_or, or_false, false_or, Bool.false_eq_true, not_true, not_false_iff, Decidable.not_not, Nat.reduceLeDiff, Nat.reduceAdd, Nat.reduceEqDiff, Nat.reduceSub, Nat.reduceLT, Nat.zero_add, reduceCtorEq, reduceIte, eq_self, i32_10, i32_01, Nat.zero_le, Nat.one_ne_zero, c, yy, pk, p0, e11, k1, d1, d2, d3, d4, d5, d6, d7, hl, hr, gr, k45, u45, s1, o1, vq, i1, i2, t1, gz_n_set, gz_k_set]
    · rw [J_seto _ _ _ _ _ _ (by omega), a13, Nat.min_eq_right (by omega), Nat.min_eq_right (by omega)]
    · rw [J_set, if_pos ⟨rfl, rfl⟩]
