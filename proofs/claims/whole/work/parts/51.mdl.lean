/-- the kinds of the reference's cells -/
def md_k (b : Nat) : Nat × Nat := match b with
  | 15 => (8, 48)
  | 16 => (100, 8)
  | 17 => (100, 64)
  | 18 => (100, 64)
  | 19 => (100, 64)
  | 20 => (100, 64)
  | 21 => (100, 512)
  | 22 => (101, 512)
  | 23 => (101, 16)
  | 24 => (100, 16)
  | 25 => (100, 16)
  | 26 => (100, 64)
  | 27 => (100, 64)
  | 28 => (100, 16)
  | 29 => (100, 8)
  | 30 => (100, 8)
  | 31 => (101, 8)
  | 32 => (100, 1440)
  | 33 => (100, 1440)
  | 34 => (100, 16)
  | 35 => (100, 4)
  | 36 => (100, 4)
  | 37 => (101, 64)
  | 38 => (100, 64)
  | 39 => (100, 64)
  | 40 => (100, 64)
  | 41 => (100, 64)
  | 42 => (100, 3840)
  | 43 => (100, 64)
  | 44 => (100, 64)
  | 45 => (102, 64)
  | 46 => (102, 64)
  | 47 => (102, 64)
  | 48 => (102, 64)
  | 49 => (102, 64)
  | 50 => (102, 64)
  | 51 => (101, 64)
  | 52 => (100, 1600)
  | 53 => (100, 3)
  | _ => (100, 3)
def gz_J (h : gz_H) (a i : Nat) : Int64 := match gz_v h a i with
  | .long x => x
  | _ => 0
/-- the reference's cells stand as they were made, and hold what they may -/
abbrev md (h : gz_H) : Prop := (∀ b, b < 55 → b < h.1) ∧ (∀ b, 15 ≤ b → b ≤ 54 → gz_k h b = md_k b) ∧ (∀ f, 2 ≤ f → f ≤ 17 → gz_v h 15 f = .ref (f + 14)) ∧ (∀ f, 22 ≤ f → f ≤ 26 → gz_v h 15 f = .ref (f + 10)) ∧ (∀ f, 29 ≤ f → f ≤ 46 → gz_v h 15 f = .ref (f + 8)) ∧ (∀ b i, 16 ≤ b → b ≤ 44 → gz_v h b i = .int (gz_I h b i)) ∧ (∀ b i, 45 ≤ b → b ≤ 50 → gz_v h b i = .long (gz_J h b i)) ∧ (∀ b i, 51 ≤ b → b ≤ 54 → gz_v h b i = .int (gz_I h b i)) ∧ (∀ f, f ≤ 1 → gz_v h 15 f = .int (gz_I h 15 f)) ∧ (∀ f, 18 ≤ f → f ≤ 21 → gz_v h 15 f = .int (gz_I h 15 f)) ∧ (∀ f, 27 ≤ f → f ≤ 28 → gz_v h 15 f = .long (gz_J h 15 f)) ∧ gz_v h 15 47 = .int (gz_I h 15 47)
/-- a number as a place -/
theorem gz_nat {j : Int32} {n : Nat} (h0 : ¬ j < 0) (h1 : j < nI n) (hn : n < 2 ^ 31) : ∃ k, k < n ∧ j = nI k := by
  have h2 : ¬ nI n ≤ j := fun q => by
    rw [Int32.lt_iff_toInt_lt] at h1
    rw [Int32.le_iff_toInt_le] at q
    omega
  rcases pk_ix j hn with q | q | q
  · exact absurd q h0
  · exact absurd q h2
  · exact q
set_option maxHeartbeats 4000000 in
theorem st_X8_isJunction (h : gz_H) (m : md h) (j : Int32) : se_X8_isJunction [.ref 15, .int j] h = some (some (.int (if ¬ j < 0 ∧ j < gz_I h 15 0 then 1 else 0)), h) := by
  by_cases h1 : j < 0 <;> by_cases h2 : j < gz_I h 15 0 <;> simp only [se_X8_isJunction, sm_X8_isJunction, gz_sem, gz_ae, Value.category, gz_i, gz_l, gz_nu, gz_li, gz_ll, gz_la, gz_ib, gz_iz, gz_lb, gz_lz, gz_ls, gz_lc, gz_i2l, gz_l2i, gz_get, gz_ald, gz_len, gz_dup, gz_d2, gz_nar, gz_a0, gz_a1, gz_cs, gz_cv, gz_mk, gz_te, gz_j1, gz_j2, gz_jn, gz_jk, gz_jo, gz_ja, gz_sat, gz_seti, gz_seta, gz_set2, gz_inc, gz_put, gz_ast, gz_pop, gz_vs, gz_vv, gz_sup, gz_rv, gz_ri, gz_rl, gz_ra, gz_if, gz_seq, gz_sw, gz_st, gz_st2, rok_I, rok_J, rok_V, rok_Z0, rok_Z1, rok_Zi, rok_R, rok_N, bi_rok, bi_0, bi_1, fit_I, fit_J, fit_Z0, fit_Z1, fit_Zi, fit_R, fit_N, fit_aR, aty_I, aty_Z0, aty_Z1, aty_Zi, aty_J, gz_ix, List.getElem?_cons_zero, List.getElem?_cons_succ, List.getElem?_nil, List.reverse_cons, List.reverse_nil, List.nil_append, List.cons_append, List.take_succ_cons, List.take_zero, List.take_nil, List.length_cons, List.length_nil, decide_true, decide_false, decide_not, Bool.not_true, Bool.not_false, gz_nle, if_true, if_false, and_true, true_and, and_self, and_false, false_and, or_true, true_or, or_false, false_or, Bool.false_eq_true, not_true, not_false_iff, Decidable.not_not, Nat.reduceLeDiff, Nat.reduceAdd, Nat.reduceEqDiff, Nat.reduceSub, Nat.reduceLT, Nat.zero_add, reduceCtorEq, reduceIte, eq_self, i32_10, i32_01, Nat.zero_le, Nat.one_ne_zero, m, md_k, h1, h2]
set_option maxHeartbeats 4000000 in
theorem st_X8_isStream (h : gz_H) (m : md h) (j i : Int32) (hj : ¬ j < 0 → j < gz_I h 15 0 → j.toNatClampNeg < 8) : se_X8_isStream [.ref 15, .int j, .int i] h = some (some (.int (if (¬ j < 0 ∧ j < gz_I h 15 0) ∧ ¬ i < 0 ∧ i < gz_I h 16 j.toNatClampNeg then 1 else 0)), h) := by
  by_cases h1 : j < 0 <;> by_cases h2 : j < gz_I h 15 0 <;> by_cases h3 : i < 0 <;> by_cases h4 : i < gz_I h 16 j.toNatClampNeg <;> simp only [se_X8_isStream, sm_X8_isStream, gz_sem, gz_ae, Value.category, gz_i, gz_l, gz_nu, gz_li, gz_ll, gz_la, gz_ib, gz_iz, gz_lb, gz_lz, gz_ls, gz_lc, gz_i2l, gz_l2i, gz_get, gz_ald, gz_len, gz_dup, gz_d2, gz_nar, gz_a0, gz_a1, gz_cs, gz_cv, gz_mk, gz_te, gz_j1, gz_j2, gz_jn, gz_jk, gz_jo, gz_ja, gz_sat, gz_seti, gz_seta, gz_set2, gz_inc, gz_put, gz_ast, gz_pop, gz_vs, gz_vv, gz_sup, gz_rv, gz_ri, gz_rl, gz_ra, gz_if, gz_seq, gz_sw, gz_st, gz_st2, rok_I, rok_J, rok_V, rok_Z0, rok_Z1, rok_Zi, rok_R, rok_N, bi_rok, bi_0, bi_1, fit_I, fit_J, fit_Z0, fit_Z1, fit_Zi, fit_R, fit_N, fit_aR, aty_I, aty_Z0, aty_Z1, aty_Zi, aty_J, gz_ix, List.getElem?_cons_zero, List.getElem?_cons_succ, List.getElem?_nil, List.reverse_cons, List.reverse_nil, List.nil_append, List.cons_append, List.take_succ_cons, List.take_zero, List.take_nil, List.length_cons, List.length_nil, decide_true, decide_false, decide_not, Bool.not_true, Bool.not_false, gz_nle, if_true, if_false, and_true, true_and, and_self, and_false, false_and, or_true, true_or, or_false, false_or, Bool.false_eq_true, not_true, not_false_iff, Decidable.not_not, Nat.reduceLeDiff, Nat.reduceAdd, Nat.reduceEqDiff, Nat.reduceSub, Nat.reduceLT, Nat.zero_add, reduceCtorEq, reduceIte, eq_self, i32_10, i32_01, Nat.zero_le, Nat.one_ne_zero, st_X8_isJunction h m, m, md_k, h1, h2, h3, h4, hj]


set_option maxHeartbeats 4000000 in
theorem st_X8_isPlanned (h : gz_H) (m : md h) (j : Nat) (hj : j < 8) : se_X8_isPlanned [.ref 15, .int (nI j)] h = some (some (.int (if gz_I h 23 j = 0 ∧ gz_I h 23 (8 + j) = 0 then 0 else 1)), h) := by
  have c2 : ¬ nI j < 0 := nI_pos (by omega)
  have c3 : (nI j).toNatClampNeg = j := nI_clamp (by omega)
  have c4 : j < 16 := by omega
  have d1 : 8 + nI j = nI (8 + j) := nI_add 8 j
  have d2 : ¬ nI (8 + j) < 0 := nI_pos (by omega)
  have d3 : (nI (8 + j)).toNatClampNeg = 8 + j := nI_clamp (by omega)
  have d4 : 8 + j < 16 := by omega
  by_cases h1 : gz_I h 23 j = 0 <;> by_cases h2 : gz_I h 23 (8 + j) = 0 <;> simp only [se_X8_isPlanned, sm_X8_isPlanned, gz_sem, gz_ae, Value.category, gz_i, gz_l, gz_nu, gz_li, gz_ll, gz_la, gz_ib, gz_iz, gz_lb, gz_lz, gz_ls, gz_lc, gz_i2l, gz_l2i, gz_get, gz_ald, gz_len, gz_dup, gz_d2, gz_nar, gz_a0, gz_a1, gz_cs, gz_cv, gz_mk, gz_te, gz_j1, gz_j2, gz_jn, gz_jk, gz_jo, gz_ja, gz_sat, gz_seti, gz_seta, gz_set2, gz_inc, gz_put, gz_ast, gz_pop, gz_vs, gz_vv, gz_sup, gz_rv, gz_ri, gz_rl, gz_ra, gz_if, gz_seq, gz_sw, gz_st, gz_st2, rok_I, rok_J, rok_V, rok_Z0, rok_Z1, rok_Zi, rok_R, rok_N, bi_rok, bi_0, bi_1, fit_I, fit_J, fit_Z0, fit_Z1, fit_Zi, fit_R, fit_N, fit_aR, aty_I, aty_Z0, aty_Z1, aty_Zi, aty_J, gz_ix, List.getElem?_cons_zero, List.getElem?_cons_succ, List.getElem?_nil, List.reverse_cons, List.reverse_nil, List.nil_append, List.cons_append, List.take_succ_cons, List.take_zero, List.take_nil, List.length_cons, List.length_nil, decide_true, decide_false, decide_not, Bool.not_true, Bool.not_false, gz_nle, if_true, if_false, and_true, true_and, and_self, and_false, false_and, or_true, true_or, or_false, false_or, Bool.false_eq_true, not_true, not_false_iff, Decidable.not_not, Nat.reduceLeDiff, Nat.reduceAdd, Nat.reduceEqDiff, Nat.reduceSub, Nat.reduceLT, Nat.zero_add, reduceCtorEq, reduceIte, eq_self, i32_10, i32_01, Nat.zero_le, Nat.one_ne_zero, m, md_k, c2, c3, c4, d1, d2, d3, d4, h1, h2]
set_option maxHeartbeats 4000000 in
theorem st_X8_seconds (h : gz_H) (m : md h) (j i k : Nat) (hj : j < 8) (hi : i < 8) (hk : k < 8) : se_X8_seconds [.ref 15, .int (nI j), .int (nI i), .int (nI k)] h = some (some (.int (gz_I h 21 (64 * j + 8 * i + k))), h) := by
  have d1 : 64 * nI j + 8 * nI i + nI k = nI (64 * j + 8 * i + k) := by
    rw [show (64 : Int32) = nI 64 from rfl, show (8 : Int32) = nI 8 from rfl, pk_mul, pk_mul, nI_add, nI_add]
  have d2 : ¬ nI (64 * j + 8 * i + k) < 0 := nI_pos (by omega)
  have d3 : (nI (64 * j + 8 * i + k)).toNatClampNeg = 64 * j + 8 * i + k := nI_clamp (by omega)
  have d4 : 64 * j + 8 * i + k < 512 := by omega
  simp only [se_X8_seconds, sm_X8_seconds, gz_sem, gz_ae, Value.category, gz_i, gz_l, gz_nu, gz_li, gz_ll, gz_la, gz_ib, gz_iz, gz_lb, gz_lz, gz_ls, gz_lc, gz_i2l, gz_l2i, gz_get, gz_ald, gz_len, gz_dup, gz_d2, gz_nar, gz_a0, gz_a1, gz_cs, gz_cv, gz_mk, gz_te, gz_j1, gz_j2, gz_jn, gz_jk, gz_jo, gz_ja, gz_sat, gz_seti, gz_seta, gz_set2, gz_inc, gz_put, gz_ast, gz_pop, gz_vs, gz_vv, gz_sup, gz_rv, gz_ri, gz_rl, gz_ra, gz_if, gz_seq, gz_sw, gz_st, gz_st2, rok_I, rok_J, rok_V, rok_Z0, rok_Z1, rok_Zi, rok_R, rok_N, bi_rok, bi_0, bi_1, fit_I, fit_J, fit_Z0, fit_Z1, fit_Zi, fit_R, fit_N, fit_aR, aty_I, aty_Z0, aty_Z1, aty_Zi, aty_J, gz_ix, List.getElem?_cons_zero, List.getElem?_cons_succ, List.getElem?_nil, List.reverse_cons, List.reverse_nil, List.nil_append, List.cons_append, List.take_succ_cons, List.take_zero, List.take_nil, List.length_cons, List.length_nil, decide_true, decide_false, decide_not, Bool.not_true, Bool.not_false, gz_nle, if_true, if_false, and_true, true_and, and_self, and_false, false_and, or_true, true_or, or_false, false_or, Bool.false_eq_true, not_true, not_false_iff, Decidable.not_not, Nat.reduceLeDiff, Nat.reduceAdd, Nat.reduceEqDiff, Nat.reduceSub, Nat.reduceLT, Nat.zero_add, reduceCtorEq, reduceIte, eq_self, i32_10, i32_01, Nat.zero_le, Nat.one_ne_zero, m, md_k, d1, d2, d3, d4]
set_option maxHeartbeats 4000000 in
theorem st_X8_isYielding (h : gz_H) (m : md h) (j i k : Nat) (hj : j < 8) (hi : i < 8) (hk : k < 8) : se_X8_isYielding [.ref 15, .int (nI j), .int (nI i), .int (nI k)] h = some (some (.int (if gz_I h 22 (64 * j + 8 * i + k) = 0 ∧ gz_I h 22 (64 * j + 8 * k + i) = 0 then 0 else 1)), h) := by
  have dd : ∀ a b c : Nat, 64 * nI a + 8 * nI b + nI c = nI (64 * a + 8 * b + c) := fun a b c => by
    rw [show (64 : Int32) = nI 64 from rfl, show (8 : Int32) = nI 8 from rfl, pk_mul, pk_mul, nI_add, nI_add]
  have d2 : ¬ nI (64 * j + 8 * i + k) < 0 := nI_pos (by omega)
  have d3 : (nI (64 * j + 8 * i + k)).toNatClampNeg = 64 * j + 8 * i + k := nI_clamp (by omega)
  have d4 : 64 * j + 8 * i + k < 512 := by omega
  have e2 : ¬ nI (64 * j + 8 * k + i) < 0 := nI_pos (by omega)
  have e3 : (nI (64 * j + 8 * k + i)).toNatClampNeg = 64 * j + 8 * k + i := nI_clamp (by omega)
  have e4 : 64 * j + 8 * k + i < 512 := by omega
  by_cases h1 : gz_I h 22 (64 * j + 8 * i + k) = 0 <;> by_cases h2 : gz_I h 22 (64 * j + 8 * k + i) = 0 <;> simp only [se_X8_isYielding, sm_X8_isYielding, gz_sem, gz_ae, Value.category, gz_i, gz_l, gz_nu, gz_li, gz_ll, gz_la, gz_ib, gz_iz, gz_lb, gz_lz, gz_ls, gz_lc, gz_i2l, gz_l2i, gz_get, gz_ald, gz_len, gz_dup, gz_d2, gz_nar, gz_a0, gz_a1, gz_cs, gz_cv, gz_mk, gz_te, gz_j1, gz_j2, gz_jn, gz_jk, gz_jo, gz_ja, gz_sat, gz_seti, gz_seta, gz_set2, gz_inc, gz_put, gz_ast, gz_pop, gz_vs, gz_vv, gz_sup, gz_rv, gz_ri, gz_rl, gz_ra, gz_if, gz_seq, gz_sw, gz_st, gz_st2, rok_I, rok_J, rok_V, rok_Z0, rok_Z1, rok_Zi, rok_R, rok_N, bi_rok, bi_0, bi_1, fit_I, fit_J, fit_Z0, fit_Z1, fit_Zi, fit_R, fit_N, fit_aR, aty_I, aty_Z0, aty_Z1, aty_Zi, aty_J, gz_ix, List.getElem?_cons_zero, List.getElem?_cons_succ, List.getElem?_nil, List.reverse_cons, List.reverse_nil, List.nil_append, List.cons_append, List.take_succ_cons, List.take_zero, List.take_nil, List.length_cons, List.length_nil, decide_true, decide_false, decide_not, Bool.not_true, Bool.not_false, gz_nle, if_true, if_false, and_true, true_and, and_self, and_false, false_and, or_true, true_or, or_false, false_or, Bool.false_eq_true, not_true, not_false_iff, Decidable.not_not, Nat.reduceLeDiff, Nat.reduceAdd, Nat.reduceEqDiff, Nat.reduceSub, Nat.reduceLT, Nat.zero_add, reduceCtorEq, reduceIte, eq_self, i32_10, i32_01, Nat.zero_le, Nat.one_ne_zero, m, md_k, dd, d2, d3, d4, e2, e3, e4, h1, h2]
/-- the seconds between two that may not go together; 0 for others -/
def md_ap (h : gz_H) (j i k : Nat) : Int32 := if gz_I h 22 (64 * j + 8 * i + k) = 0 ∧ gz_I h 22 (64 * j + 8 * k + i) = 0 then gz_I h 21 (64 * j + 8 * i + k) else 0
set_option maxHeartbeats 4000000 in
theorem st_X8_apart (h : gz_H) (m : md h) (j i k : Nat) (hj : j < 8) (hi : i < 8) (hk : k < 8) : se_X8_apart [.ref 15, .int (nI j), .int (nI i), .int (nI k)] h = some (some (.int (md_ap h j i k)), h) := by
  by_cases h1 : gz_I h 22 (64 * j + 8 * i + k) = 0 ∧ gz_I h 22 (64 * j + 8 * k + i) = 0 <;> simp only [se_X8_apart, sm_X8_apart, gz_sem, gz_ae, Value.category, gz_i, gz_l, gz_nu, gz_li, gz_ll, gz_la, gz_ib, gz_iz, gz_lb, gz_lz, gz_ls, gz_lc, gz_i2l, gz_l2i, gz_get, gz_ald, gz_len, gz_dup, gz_d2, gz_nar, gz_a0, gz_a1, gz_cs, gz_cv, gz_mk, gz_te, gz_j1, gz_j2, gz_jn, gz_jk, gz_jo, gz_ja, gz_sat, gz_seti, gz_seta, gz_set2, gz_inc, gz_put, gz_ast, gz_pop, gz_vs, gz_vv, gz_sup, gz_rv, gz_ri, gz_rl, gz_ra, gz_if, gz_seq, gz_sw, gz_st, gz_st2, rok_I, rok_J, rok_V, rok_Z0, rok_Z1, rok_Zi, rok_R, rok_N, bi_rok, bi_0, bi_1, fit_I, fit_J, fit_Z0, fit_Z1, fit_Zi, fit_R, fit_N, fit_aR, aty_I, aty_Z0, aty_Z1, aty_Zi, aty_J, gz_ix, List.getElem?_cons_zero, List.getElem?_cons_succ, List.getElem?_nil, List.reverse_cons, List.reverse_nil, List.nil_append, List.cons_append, List.take_succ_cons, List.take_zero, List.take_nil, List.length_cons, List.length_nil, decide_true, decide_false, decide_not, Bool.not_true, Bool.not_false, gz_nle, if_true, if_false, and_true, true_and, and_self, and_false, false_and, or_true, true_or, or_false, false_or, Bool.false_eq_true, not_true, not_false_iff, Decidable.not_not, Nat.reduceLeDiff, Nat.reduceAdd, Nat.reduceEqDiff, Nat.reduceSub, Nat.reduceLT, Nat.zero_add, reduceCtorEq, reduceIte, eq_self, i32_10, i32_01, Nat.zero_le, Nat.one_ne_zero, m, md_k, st_X8_isYielding h m j i k hj hi hk, st_X8_seconds h m j i k hj hi hk, h1, md_ap]
