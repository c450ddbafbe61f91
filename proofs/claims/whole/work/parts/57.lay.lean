/-- a stretch of a row, written over -/
def gz_wr (h : gz_H) (a lo hi : Nat) (f : Nat → Int32) : gz_H := (h.1, h.2.1, fun x i => if x = a ∧ lo ≤ i ∧ i < hi then .int (f i) else h.2.2 x i)
theorem wr_n (h : gz_H) (a lo hi : Nat) (f : Nat → Int32) : (gz_wr h a lo hi f).1 = h.1 := rfl
theorem wr_k (h : gz_H) (a lo hi : Nat) (f : Nat → Int32) (b : Nat) : gz_k (gz_wr h a lo hi f) b = gz_k h b := rfl
theorem wr_v (h : gz_H) (a lo hi : Nat) (f : Nat → Int32) (b i : Nat) : gz_v (gz_wr h a lo hi f) b i = if b = a ∧ lo ≤ i ∧ i < hi then .int (f i) else gz_v h b i := rfl
theorem wr_o (h : gz_H) {a lo hi : Nat} {f : Nat → Int32} {b : Nat} (hb : b ≠ a) (i : Nat) : gz_v (gz_wr h a lo hi f) b i = gz_v h b i := by rw [wr_v, if_neg (fun q => hb q.1)]
theorem wr_0 (h : gz_H) (a lo : Nat) (f : Nat → Int32) : gz_wr h a lo lo f = h := by
  unfold gz_wr
  have e : (fun x i => if x = a ∧ lo ≤ i ∧ i < lo then Value.int (f i) else h.2.2 x i) = h.2.2 := by
    funext x i
    rw [if_neg]
    rintro ⟨-, q1, q2⟩
    omega
  rw [e]
theorem wr_s {h : gz_H} {a lo hi : Nat} {f : Nat → Int32} (hl : lo ≤ hi) : gz_set (gz_wr h a lo hi f) a hi (.int (f hi)) = gz_wr h a lo (hi + 1) f := by
  unfold gz_set gz_wr
  have e : (fun x j => if x = a ∧ j = hi then Value.int (f hi) else (if x = a ∧ lo ≤ j ∧ j < hi then Value.int (f j) else h.2.2 x j)) = (fun x i => if x = a ∧ lo ≤ i ∧ i < hi + 1 then Value.int (f i) else h.2.2 x i) := by
    funext x j
    by_cases h1 : x = a
    · by_cases h2 : j = hi
      · subst h2
        rw [if_pos ⟨h1, rfl⟩, if_pos ⟨h1, hl, by omega⟩]
      · rw [if_neg (fun q => h2 q.2)]
        by_cases h3 : lo ≤ j ∧ j < hi
        · rw [if_pos ⟨h1, h3⟩, if_pos ⟨h1, h3.1, by omega⟩]
        · rw [if_neg (fun q => h3 q.2), if_neg (fun q => h3 ⟨q.2.1, by omega⟩)]
    · rw [if_neg (fun q => h1 q.1), if_neg (fun q => h1 q.1), if_neg (fun q => h1 q.1)]
  rw [e]
theorem wr_j {h : gz_H} {a lo mi hi : Nat} {f g : Nat → Int32} (h1 : lo ≤ mi) (h2 : mi ≤ hi) (hg : ∀ t, mi ≤ t → t < hi → g t = f t) : gz_wr (gz_wr h a lo mi f) a mi hi g = gz_wr h a lo hi f := by
  unfold gz_wr
  have e : (fun x i => if x = a ∧ mi ≤ i ∧ i < hi then Value.int (g i) else (if x = a ∧ lo ≤ i ∧ i < mi then Value.int (f i) else h.2.2 x i)) = (fun x i => if x = a ∧ lo ≤ i ∧ i < hi then Value.int (f i) else h.2.2 x i) := by
    funext x i
    by_cases q1 : x = a ∧ mi ≤ i ∧ i < hi
    · rw [if_pos q1, if_pos ⟨q1.1, by omega, q1.2.2⟩, hg i q1.2.1 q1.2.2]
    · rw [if_neg q1]
      by_cases q2 : x = a ∧ lo ≤ i ∧ i < mi
      · rw [if_pos q2, if_pos ⟨q2.1, q2.2.1, by omega⟩]
      · rw [if_neg q2, if_neg]
        rintro ⟨z1, z2, z3⟩
        rcases Nat.lt_or_ge i mi with q | q
        · exact q2 ⟨z1, z2, q⟩
        · exact q1 ⟨z1, q, z3⟩
  rw [e]
theorem wr_c {h : gz_H} {a b la ha lb hb : Nat} {f g : Nat → Int32} (hab : a ≠ b) : gz_wr (gz_wr h a la ha f) b lb hb g = gz_wr (gz_wr h b lb hb g) a la ha f := by
  unfold gz_wr
  have e : (fun x i => if x = b ∧ lb ≤ i ∧ i < hb then Value.int (g i) else (if x = a ∧ la ≤ i ∧ i < ha then Value.int (f i) else h.2.2 x i)) = (fun x i => if x = a ∧ la ≤ i ∧ i < ha then Value.int (f i) else (if x = b ∧ lb ≤ i ∧ i < hb then Value.int (g i) else h.2.2 x i)) := by
    funext x i
    by_cases q1 : x = b ∧ lb ≤ i ∧ i < hb
    · rw [if_pos q1, if_neg (fun z => hab (z.1.symm.trans q1.1)), if_pos q1]
    · rw [if_neg q1, if_neg q1]
  rw [e]
theorem wr_I {h : gz_H} {a lo hi : Nat} {f : Nat → Int32} {b i : Nat} : gz_I (gz_wr h a lo hi f) b i = if b = a ∧ lo ≤ i ∧ i < hi then f i else gz_I h b i := by
  unfold gz_I
  rw [wr_v]
  by_cases q : b = a ∧ lo ≤ i ∧ i < hi
  · rw [if_pos q, if_pos q]
  · rw [if_neg q, if_neg q]
/-- a plan of the class at a, of n stages: its cells -/
abbrev pc (h : gz_H) (a n : Nat) : Prop := a < h.1 ∧ a + 1 < h.1 ∧ a + 2 < h.1 ∧ a + 3 < h.1 ∧ a + 4 < h.1 ∧ a + 5 < h.1 ∧ gz_k h a = (2, 9) ∧ gz_k h (a + 1) = (100, 4) ∧ gz_k h (a + 2) = (100, 4) ∧ gz_k h (a + 3) = (100, 4) ∧ gz_k h (a + 4) = (100, 4) ∧ gz_k h (a + 5) = (100, 90) ∧ gz_v h a 0 = .int (gz_I h a 0) ∧ gz_v h a 1 = .int (gz_I h a 1) ∧ gz_v h a 2 = .int (nI n) ∧ gz_v h a 3 = .int (gz_I h a 3) ∧ gz_v h a 4 = .ref (a + 1) ∧ gz_v h a 5 = .ref (a + 2) ∧ gz_v h a 6 = .ref (a + 3) ∧ gz_v h a 7 = .ref (a + 4) ∧ gz_v h a 8 = .ref (a + 5) ∧ (∀ i, gz_v h (a + 1) i = .int (gz_I h (a + 1) i)) ∧ (∀ i, gz_v h (a + 2) i = .int (gz_I h (a + 2) i)) ∧ (∀ i, gz_v h (a + 3) i = .int (gz_I h (a + 3) i)) ∧ (∀ i, gz_v h (a + 4) i = .int (gz_I h (a + 4) i)) ∧ (∀ i, gz_v h (a + 5) i = .int (gz_I h (a + 5) i))
/-- a plan's cells stand, where only rows of its own are written -/
theorem pc_wr {h : gz_H} {a n : Nat} (c : pc h a n) (b lo hi : Nat) (f : Nat → Int32) (hb : b ≠ a) : pc (gz_wr h b lo hi f) a n := by
  obtain ⟨c1, c2, c3, c4, c5, c6, k1, k2, k3, k4, k5, k6, v0, v1, v2, v3, v4, v5, v6, v7, v8, t1, t2, t3, t4, t5⟩ := c
  have ty : ∀ x, (∀ i, gz_v h x i = .int (gz_I h x i)) → ∀ i, gz_v (gz_wr h b lo hi f) x i = .int (gz_I (gz_wr h b lo hi f) x i) := fun x hx i => by
    rw [wr_v, wr_I]
    by_cases q : x = b ∧ lo ≤ i ∧ i < hi
    · rw [if_pos q, if_pos q]
    · rw [if_neg q, if_neg q]; exact hx i
  have iv : ∀ i, gz_v (gz_wr h b lo hi f) a i = gz_v h a i := fun i => wr_o h (Ne.symm hb) i
  have ii : ∀ i, gz_I (gz_wr h b lo hi f) a i = gz_I h a i := fun i => by unfold gz_I; rw [iv]
  exact ⟨c1, c2, c3, c4, c5, c6, k1, k2, k3, k4, k5, k6, by rw [iv, ii]; exact v0, by rw [iv, ii]; exact v1, by rw [iv]; exact v2, by rw [iv, ii]; exact v3, by rw [iv]; exact v4, by rw [iv]; exact v5, by rw [iv]; exact v6, by rw [iv]; exact v7, by rw [iv]; exact v8, ty _ t1, ty _ t2, ty _ t3, ty _ t4, ty _ t5⟩
set_option maxHeartbeats 4000000 in
theorem st_X2_layRow (h : gz_H) (a n lo hi : Nat) (c : pc h a n) (b : Int32) (hl : lo ≤ hi) (hh : hi ≤ 90) : se_X2_layRow [.ref a, .int (nI lo), .int (nI hi), .int b] h = some (none, gz_wr h (a + 5) lo hi (fun _ => b)) := by
  have l := gz_for (L := 3) (k := 5) (X := 30) (a := lb_X2_layRow_3) hi (fun t => [.ref a, .int (nI lo), .int (nI hi), .int b, .int (nI t)]) (fun t => gz_wr h (a + 5) lo t (fun _ => b)) (env' := [.ref a, .int (nI lo), .int (nI hi), .int b, .int (nI hi)]) (h' := gz_wr h (a + 5) lo hi (fun _ => b)) (by decide)
  by_cases he : lo = hi
  · subst he
    have k1 : ¬ nI lo < nI lo := nI_nlt (Nat.le_refl _) (by omega)
    have l2 : gz_loop 3 5 lb_X2_layRow_3 [.ref a, .int (nI lo), .int (nI lo), .int b, .int (nI lo)] h = some (.inl (30, [.ref a, .int (nI lo), .int (nI lo), .int b, .int (nI lo)], h)) := by
      refine gz_loop_exit ?_ (by decide)
      simp only [lb_X2_layRow_3, gz_sem, gz_ae, Value.category, gz_i, gz_l, gz_nu, gz_li, gz_ll, gz_la, gz_ib, gz_iz, gz_lb, gz_lz, gz_ls, gz_lc, gz_i2l, gz_l2i, gz_get, gz_ald, gz_len, gz_dup, gz_d2, gz_nar, gz_a0, gz_a1, gz_cs, gz_cv, gz_mk, gz_te, gz_j1, gz_j2, gz_jn, gz_jk, gz_jo, gz_ja, gz_sat, gz_seti, gz_seta, gz_set2, gz_inc, gz_put, gz_ast, gz_pop, gz_vs, gz_vv, gz_sup, gz_rv, gz_ri, gz_rl, gz_ra, gz_if, gz_seq, gz_sw, gz_st, gz_st2, rok_I, rok_J, rok_V, rok_Z0, rok_Z1, rok_Zi, rok_R, rok_N, bi_rok, bi_0, bi_1, fit_I, fit_J, fit_Z0, fit_Z1, fit_Zi, fit_R, fit_N, fit_aR, aty_I, aty_Z0, aty_Z1, aty_Zi, aty_J, gz_ix, List.getElem?_cons_zero, List.getElem?_cons_succ, List.getElem?_nil, List.reverse_cons, List.reverse_nil, List.nil_append, List.cons_append, List.take_succ_cons, List.take_zero, List.take_nil, List.length_cons, List.length_nil, decide_true, decide_false, decide_not, Bool.not_true, Bool.not_false, gz_nle, if_true, if_false, and_true, true_and, and_self, and_false, false_and, or_true, true_or, or_false, false_or, Bool.false_eq_true, not_true, not_false_iff, Decidable.not_not, Nat.reduceLeDiff, Nat.reduceAdd, Nat.reduceEqDiff, Nat.reduceSub, Nat.reduceLT, Nat.zero_add, reduceCtorEq, reduceIte, eq_self, i32_10, i32_01, Nat.zero_le, Nat.one_ne_zero, c, k1]
    rw [wr_0]
    simp only [se_X2_layRow, sm_X2_layRow, gz_sem, gz_ae, Value.category, gz_i, gz_l, gz_nu, gz_li, gz_ll, gz_la, gz_ib, gz_iz, gz_lb, gz_lz, gz_ls, gz_lc, gz_i2l, gz_l2i, gz_get, gz_ald, gz_len, gz_dup, gz_d2, gz_nar, gz_a0, gz_a1, gz_cs, gz_cv, gz_mk, gz_te, gz_j1, gz_j2, gz_jn, gz_jk, gz_jo, gz_ja, gz_sat, gz_seti, gz_seta, gz_set2, gz_inc, gz_put, gz_ast, gz_pop, gz_vs, gz_vv, gz_sup, gz_rv, gz_ri, gz_rl, gz_ra, gz_if, gz_seq, gz_sw, gz_st, gz_st2, rok_I, rok_J, rok_V, rok_Z0, rok_Z1, rok_Zi, rok_R, rok_N, bi_rok, bi_0, bi_1, fit_I, fit_J, fit_Z0, fit_Z1, fit_Zi, fit_R, fit_N, fit_aR, aty_I, aty_Z0, aty_Z1, aty_Zi, aty_J, gz_ix, List.getElem?_cons_zero, List.getElem?_cons_succ, List.getElem?_nil, List.reverse_cons, List.reverse_nil, List.nil_append, List.cons_append, List.take_succ_cons, List.take_zero, List.take_nil, List.length_cons, List.length_nil, decide_true, decide_false, decide_not, Bool.not_true, Bool.not_false, gz_nle, if_true, if_false, and_true, true_and, and_self, and_false, false_and, or_true, true_or, or_false, false_or, Bool.false_eq_true, not_true, not_false_iff, Decidable.not_not, Nat.reduceLeDiff, Nat.reduceAdd, Nat.reduceEqDiff, Nat.reduceSub, Nat.reduceLT, Nat.zero_add, reduceCtorEq, reduceIte, eq_self, i32_10, i32_01, Nat.zero_le, Nat.one_ne_zero, l2]
  · have st : ∀ t, lo ≤ t → t < hi → lb_X2_layRow_3 ([Value.ref a, .int (nI lo), .int (nI hi), .int b, .int (nI t)].take 5) (gz_wr h (a + 5) lo t (fun _ => b)) = some (.inl (3, [.ref a, .int (nI lo), .int (nI hi), .int b, .int (nI (t + 1))], gz_wr h (a + 5) lo (t + 1) (fun _ => b))) := by
      intro t h1 h2
      have k1 : nI t < nI hi := nI_lt h2 (by omega)
      have k2 : nI t < 90 := nI_lt (b := 90) (by omega) (by omega)
      have d2 : ¬ nI t < 0 := nI_pos (by omega)
      have d3 : (nI t).toNatClampNeg = t := nI_clamp (by omega)
      have d4 : t < 90 := by omega
      have cw := pc_wr c (a + 5) lo t (fun _ => b) (by omega)
      have w := wr_s (h := h) (a := a + 5) (f := fun _ => b) h1
      simp only [lb_X2_layRow_3, gz_sem, gz_ae, Value.category, gz_i, gz_l, gz_nu, gz_li, gz_ll, gz_la, gz_ib, gz_iz, gz_lb, gz_lz, gz_ls, gz_lc, gz_i2l, gz_l2i, gz_get, gz_ald, gz_len, gz_dup, gz_d2, gz_nar, gz_a0, gz_a1, gz_cs, gz_cv, gz_mk, gz_te, gz_j1, gz_j2, gz_jn, gz_jk, gz_jo, gz_ja, gz_sat, gz_seti, gz_seta, gz_set2, gz_inc, gz_put, gz_ast, gz_pop, gz_vs, gz_vv, gz_sup, gz_rv, gz_ri, gz_rl, gz_ra, gz_if, gz_seq, gz_sw, gz_st, gz_st2, rok_I, rok_J, rok_V, rok_Z0, rok_Z1, rok_Zi, rok_R, rok_N, bi_rok, bi_0, bi_1, fit_I, fit_J, fit_Z0, fit_Z1, fit_Zi, fit_R, fit_N, fit_aR, aty_I, aty_Z0, aty_Z1, aty_Zi, aty_J, gz_ix, List.getElem?_cons_zero, List.getElem?_cons_succ, List.getElem?_nil, List.reverse_cons, List.reverse_nil, List.nil_append, List.cons_append, List.take_succ_cons, List.take_zero, List.take_nil, List.length_cons, List.length_nil, decide_true, decide_false, decide_not, Bool.not_true, Bool.not_false, gz_nle, if_true, if_false, and_true, true_and, and_self, and_false, false_and, or_true, true_or, or_false, false_or, Bool.false_eq_true, not_true, not_false_iff, Decidable.not_not, Nat.reduceLeDiff, Nat.reduceAdd, Nat.reduceEqDiff, Nat.reduceSub, Nat.reduceLT, Nat.zero_add, reduceCtorEq, reduceIte, eq_self, i32_10, i32_01, Nat.zero_le, Nat.one_ne_zero, cw, k1, k2, d2, d3, d4, nI_1, w]
    have ex : lb_X2_layRow_3 ([Value.ref a, .int (nI lo), .int (nI hi), .int b, .int (nI hi)].take 5) (gz_wr h (a + 5) lo hi (fun _ => b)) = some (.inl (30, [.ref a, .int (nI lo), .int (nI hi), .int b, .int (nI hi)], gz_wr h (a + 5) lo hi (fun _ => b))) := by
      have k1 : ¬ nI hi < nI hi := nI_nlt (Nat.le_refl _) (by omega)
      have cw := pc_wr c (a + 5) lo hi (fun _ => b) (by omega)
      simp only [lb_X2_layRow_3, gz_sem, gz_ae, Value.category, gz_i, gz_l, gz_nu, gz_li, gz_ll, gz_la, gz_ib, gz_iz, gz_lb, gz_lz, gz_ls, gz_lc, gz_i2l, gz_l2i, gz_get, gz_ald, gz_len, gz_dup, gz_d2, gz_nar, gz_a0, gz_a1, gz_cs, gz_cv, gz_mk, gz_te, gz_j1, gz_j2, gz_jn, gz_jk, gz_jo, gz_ja, gz_sat, gz_seti, gz_seta, gz_set2, gz_inc, gz_put, gz_ast, gz_pop, gz_vs, gz_vv, gz_sup, gz_rv, gz_ri, gz_rl, gz_ra, gz_if, gz_seq, gz_sw, gz_st, gz_st2, rok_I, rok_J, rok_V, rok_Z0, rok_Z1, rok_Zi, rok_R, rok_N, bi_rok, bi_0, bi_1, fit_I, fit_J, fit_Z0, fit_Z1, fit_Zi, fit_R, fit_N, fit_aR, aty_I, aty_Z0, aty_Z1, aty_Zi, aty_J, gz_ix, List.getElem?_cons_zero, List.getElem?_cons_succ, List.getElem?_nil, List.reverse_cons, List.reverse_nil, List.nil_append, List.cons_append, List.take_succ_cons, List.take_zero, List.take_nil, List.length_cons, List.length_nil, decide_true, decide_false, decide_not, Bool.not_true, Bool.not_false, gz_nle, if_true, if_false, and_true, true_and, and_self, and_false, false_and, or_true, true_or, or_false, false_or, Bool.false_eq_true, not_true, not_false_iff, Decidable.not_not, Nat.reduceLeDiff, Nat.reduceAdd, Nat.reduceEqDiff, Nat.reduceSub, Nat.reduceLT, Nat.zero_add, reduceCtorEq, reduceIte, eq_self, i32_10, i32_01, Nat.zero_le, Nat.one_ne_zero, cw, k1]
    have key : ∀ d t, lo ≤ t → t + d = hi → gz_loop 3 5 lb_X2_layRow_3 [.ref a, .int (nI lo), .int (nI hi), .int b, .int (nI t)] (gz_wr h (a + 5) lo t (fun _ => b)) = some (.inl (30, [.ref a, .int (nI lo), .int (nI hi), .int b, .int (nI hi)], gz_wr h (a + 5) lo hi (fun _ => b))) := by
      intro d
      induction d with
      | zero => intro t h1 h2; rw [show t = hi by omega]; exact gz_loop_exit ex (by decide)
      | succ d ih => intro t h1 h2; exact gz_loop_next (st t h1 (by omega)) (ih (t + 1) (by omega) (by omega))
    have l2 := key (hi - lo) lo (Nat.le_refl _) (by omega)
    rw [wr_0] at l2
    simp only [se_X2_layRow, sm_X2_layRow, gz_sem, gz_ae, Value.category, gz_i, gz_l, gz_nu, gz_li, gz_ll, gz_la, gz_ib, gz_iz, gz_lb, gz_lz, gz_ls, gz_lc, gz_i2l, gz_l2i, gz_get, gz_ald, gz_len, gz_dup, gz_d2, gz_nar, gz_a0, gz_a1, gz_cs, gz_cv, gz_mk, gz_te, gz_j1, gz_j2, gz_jn, gz_jk, gz_jo, gz_ja, gz_sat, gz_seti, gz_seta, gz_set2, gz_inc, gz_put, gz_ast, gz_pop, gz_vs, gz_vv, gz_sup, gz_rv, gz_ri, gz_rl, gz_ra, gz_if, gz_seq, gz_sw, gz_st, gz_st2, rok_I, rok_J, rok_V, rok_Z0, rok_Z1, rok_Zi, rok_R, rok_N, bi_rok, bi_0, bi_1, fit_I, fit_J, fit_Z0, fit_Z1, fit_Zi, fit_R, fit_N, fit_aR, aty_I, aty_Z0, aty_Z1, aty_Zi, aty_J, gz_ix, List.getElem?_cons_zero, List.getElem?_cons_succ, List.getElem?_nil, List.reverse_cons, List.reverse_nil, List.nil_append, List.cons_append, List.take_succ_cons, List.take_zero, List.take_nil, List.length_cons, List.length_nil, decide_true, decide_false, decide_not, Bool.not_true, Bool.not_false, gz_nle, if_true, if_false, and_true, true_and, and_self, and_false, false_and, or_true, true_or, or_false, false_or, Bool.false_eq_true, not_true, not_false_iff, Decidable.not_not, Nat.reduceLeDiff, Nat.reduceAdd, Nat.reduceEqDiff, Nat.reduceSub, Nat.reduceLT, Nat.zero_add, reduceCtorEq, reduceIte, eq_self, i32_10, i32_01, Nat.zero_le, Nat.one_ne_zero, l2]
