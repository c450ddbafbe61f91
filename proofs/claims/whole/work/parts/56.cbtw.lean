def jc_af (h : gz_H) (a : Nat) (e b : Int32) (i : Nat) : Int32 := if bt e i = true then gz_I h (a + 4) i &&& b else 0
def jc_bw (h : gz_H) (a S : Nat) (e b : Int32) : Int32 := gz_fo (fun i x => gz_fo (fun k x => if bt (jc_af h a e b i) k = true then gz_mx x (gz_I h (a + 2) (8 * i + k)) else x) x S) 0 S
theorem fo_id {f : Nat → Int32 → Int32} {x : Int32} : ∀ n, (∀ i, i < n → f i x = x) → gz_fo f x n = x := by
  intro n
  induction n with
  | zero => intro _; rfl
  | succ n ih => intro h; show f n (gz_fo f x n) = x; rw [ih (fun i hi => h i (by omega)), h n (by omega)]
set_option maxHeartbeats 4000000 in
theorem st_X1_between (h : gz_H) (a S : Nat) (c : jc h a S) (h8 : S ≤ 8) (e b : Int32) : se_X1_between [.ref a, .int e, .int b] h = some (some (.int (jc_bw h a S e b)), h) := by
  have inner : ∀ (i : Nat) (x : Int32), i < S → ∃ t : Int32, gz_loop 41 7 lb_X1_between_41 [.ref a, .int e, .int b, .int x, .int (nI i), .int (jc_af h a e b i), .int 0] h = some (.inl (89, [.ref a, .int e, .int b, .int (gz_fo (fun k x => if bt (jc_af h a e b i) k = true then gz_mx x (gz_I h (a + 2) (8 * i + k)) else x) x S), .int (nI i), .int (jc_af h a e b i), .int t], h)) := by
    intro i x hi
    generalize hf : jc_af h a e b i = af
    by_cases h0 : af = 0
    · subst h0
      have q : gz_fo (fun k x => if bt 0 k = true then gz_mx x (gz_I h (a + 2) (8 * i + k)) else x) x S = x := fo_id S (fun k _ => by rw [b_0]; rfl)
      refine ⟨0, ?_⟩
      rw [q]
      refine gz_loop_exit ?_ (by decide)
      by_cases h1 : (0 : Int32) < nI S <;> simp only [lb_X1_between_41, gz_sem, gz_ae, Value.category, gz_i, gz_l, gz_nu, gz_li, gz_ll, gz_la, gz_ib, gz_iz, gz_lb, gz_lz, gz_ls, gz_lc, gz_i2l, gz_l2i, gz_get, gz_ald, gz_len, gz_dup, gz_d2, gz_nar, gz_a0, gz_a1, gz_cs, gz_cv, gz_mk, gz_te, gz_j1, gz_j2, gz_jn, gz_jk, gz_jo, gz_ja, gz_sat, gz_seti, gz_seta, gz_set2, gz_inc, gz_put, gz_ast, gz_pop, gz_vs, gz_vv, gz_sup, gz_rv, gz_ri, gz_rl, gz_ra, gz_if, gz_seq, gz_sw, gz_st, gz_st2, rok_I, rok_J, rok_V, rok_Z0, rok_Z1, rok_Zi, rok_R, rok_N, bi_rok, bi_0, bi_1, fit_I, fit_J, fit_Z0, fit_Z1, fit_Zi, fit_R, fit_N, fit_aR, aty_I, aty_Z0, aty_Z1, aty_Zi, aty_J, gz_ix, List.getElem?_cons_zero, List.getElem?_cons_succ, List.getElem?_nil, List.reverse_cons, List.reverse_nil, List.nil_append, List.cons_append, List.take_succ_cons, List.take_zero, List.take_nil, List.length_cons, List.length_nil, decide_true, decide_false, decide_not, Bool.not_true, Bool.not_false, gz_nle, if_true, if_false, and_true, true_and, and_self, and_false, false_and, or_true, true_or, or_false, false_or, Bool.false_eq_true, not_true, not_false_iff, Decidable.not_not, Nat.reduceLeDiff, Nat.reduceAdd, Nat.reduceEqDiff, Nat.reduceSub, Nat.reduceLT, Nat.zero_add, reduceCtorEq, reduceIte, eq_self, i32_10, i32_01, Nat.zero_le, Nat.one_ne_zero, c, h1]
    · refine ⟨nI S, ?_⟩
      refine gz_for0 (L := 41) (k := 7) (X := 89) (a := lb_X1_between_41) S (fun k => [.ref a, .int e, .int b, .int (gz_fo (fun k x => if bt af k = true then gz_mx x (gz_I h (a + 2) (8 * i + k)) else x) x k), .int (nI i), .int af, .int (nI k)]) (fun _ => h) (by decide) (fun k hk => ?_) ?_
      · have k1 : nI k < nI S := nI_lt hk (by omega)
        have b1 := bt_t (i := k) (by omega) af
        have d1 : nI i * 8 + nI k = nI (8 * i + k) := by
          rw [show (8 : Int32) = nI 8 from rfl, pk_mul, nI_add, Nat.mul_comm]
        have d2 : ¬ nI (8 * i + k) < 0 := nI_pos (by omega)
        have d3 : (nI (8 * i + k)).toNatClampNeg = 8 * i + k := nI_clamp (by omega)
        have d4 : 8 * i + k < 64 := by omega
        by_cases h1 : bt af k = true <;> simp only [lb_X1_between_41, gz_sem, gz_ae, Value.category, gz_i, gz_l, gz_nu, gz_li, gz_ll, gz_la, gz_ib, gz_iz, gz_lb, gz_lz, gz_ls, gz_lc, gz_i2l, gz_l2i, gz_get, gz_ald, gz_len, gz_dup, gz_d2, gz_nar, gz_a0, gz_a1, gz_cs, gz_cv, gz_mk, gz_te, gz_j1, gz_j2, gz_jn, gz_jk, gz_jo, gz_ja, gz_sat, gz_seti, gz_seta, gz_set2, gz_inc, gz_put, gz_ast, gz_pop, gz_vs, gz_vv, gz_sup, gz_rv, gz_ri, gz_rl, gz_ra, gz_if, gz_seq, gz_sw, gz_st, gz_st2, rok_I, rok_J, rok_V, rok_Z0, rok_Z1, rok_Zi, rok_R, rok_N, bi_rok, bi_0, bi_1, fit_I, fit_J, fit_Z0, fit_Z1, fit_Zi, fit_R, fit_N, fit_aR, aty_I, aty_Z0, aty_Z1, aty_Zi, aty_J, gz_ix, List.getElem?_cons_zero, List.getElem?_cons_succ, List.getElem?_nil, List.reverse_cons, List.reverse_nil, List.nil_append, List.cons_append, List.take_succ_cons, List.take_zero, List.take_nil, List.length_cons, List.length_nil, decide_true, decide_false, decide_not, Bool.not_true, Bool.not_false, gz_nle, if_true, if_false, and_true, true_and, and_self, and_false, false_and, or_true, true_or, or_false, false_or, Bool.false_eq_true, not_true, not_false_iff, Decidable.not_not, Nat.reduceLeDiff, Nat.reduceAdd, Nat.reduceEqDiff, Nat.reduceSub, Nat.reduceLT, Nat.zero_add, reduceCtorEq, reduceIte, eq_self, i32_10, i32_01, Nat.zero_le, Nat.one_ne_zero, c, k1, b1, h0, h1, d1, d2, d3, d4, st_max, nI_1, gz_fo]
      · have k1 : ¬ nI S < nI S := nI_nlt (Nat.le_refl _) (by omega)
        simp only [lb_X1_between_41, gz_sem, gz_ae, Value.category, gz_i, gz_l, gz_nu, gz_li, gz_ll, gz_la, gz_ib, gz_iz, gz_lb, gz_lz, gz_ls, gz_lc, gz_i2l, gz_l2i, gz_get, gz_ald, gz_len, gz_dup, gz_d2, gz_nar, gz_a0, gz_a1, gz_cs, gz_cv, gz_mk, gz_te, gz_j1, gz_j2, gz_jn, gz_jk, gz_jo, gz_ja, gz_sat, gz_seti, gz_seta, gz_set2, gz_inc, gz_put, gz_ast, gz_pop, gz_vs, gz_vv, gz_sup, gz_rv, gz_ri, gz_rl, gz_ra, gz_if, gz_seq, gz_sw, gz_st, gz_st2, rok_I, rok_J, rok_V, rok_Z0, rok_Z1, rok_Zi, rok_R, rok_N, bi_rok, bi_0, bi_1, fit_I, fit_J, fit_Z0, fit_Z1, fit_Zi, fit_R, fit_N, fit_aR, aty_I, aty_Z0, aty_Z1, aty_Zi, aty_J, gz_ix, List.getElem?_cons_zero, List.getElem?_cons_succ, List.getElem?_nil, List.reverse_cons, List.reverse_nil, List.nil_append, List.cons_append, List.take_succ_cons, List.take_zero, List.take_nil, List.length_cons, List.length_nil, decide_true, decide_false, decide_not, Bool.not_true, Bool.not_false, gz_nle, if_true, if_false, and_true, true_and, and_self, and_false, false_and, or_true, true_or, or_false, false_or, Bool.false_eq_true, not_true, not_false_iff, Decidable.not_not, Nat.reduceLeDiff, Nat.reduceAdd, Nat.reduceEqDiff, Nat.reduceSub, Nat.reduceLT, Nat.zero_add, reduceCtorEq, reduceIte, eq_self, i32_10, i32_01, Nat.zero_le, Nat.one_ne_zero, c, k1]
  have outer : ∀ d i, i + d = S → gz_loop 5 5 lb_X1_between_5 [.ref a, .int e, .int b, .int (gz_fo (fun i x => gz_fo (fun k x => if bt (jc_af h a e b i) k = true then gz_mx x (gz_I h (a + 2) (8 * i + k)) else x) x S) 0 i), .int (nI i)] h = some (.inl (95, [.ref a, .int e, .int b, .int (jc_bw h a S e b), .int (nI S)], h)) := by
    intro d
    induction d with
    | zero =>
      intro i hi
      have hi : i = S := by omega
      subst hi
      refine gz_loop_exit ?_ (by decide)
      have k1 : ¬ nI i < nI i := nI_nlt (Nat.le_refl _) (by omega)
      simp only [lb_X1_between_5, gz_sem, gz_ae, Value.category, gz_i, gz_l, gz_nu, gz_li, gz_ll, gz_la, gz_ib, gz_iz, gz_lb, gz_lz, gz_ls, gz_lc, gz_i2l, gz_l2i, gz_get, gz_ald, gz_len, gz_dup, gz_d2, gz_nar, gz_a0, gz_a1, gz_cs, gz_cv, gz_mk, gz_te, gz_j1, gz_j2, gz_jn, gz_jk, gz_jo, gz_ja, gz_sat, gz_seti, gz_seta, gz_set2, gz_inc, gz_put, gz_ast, gz_pop, gz_vs, gz_vv, gz_sup, gz_rv, gz_ri, gz_rl, gz_ra, gz_if, gz_seq, gz_sw, gz_st, gz_st2, rok_I, rok_J, rok_V, rok_Z0, rok_Z1, rok_Zi, rok_R, rok_N, bi_rok, bi_0, bi_1, fit_I, fit_J, fit_Z0, fit_Z1, fit_Zi, fit_R, fit_N, fit_aR, aty_I, aty_Z0, aty_Z1, aty_Zi, aty_J, gz_ix, List.getElem?_cons_zero, List.getElem?_cons_succ, List.getElem?_nil, List.reverse_cons, List.reverse_nil, List.nil_append, List.cons_append, List.take_succ_cons, List.take_zero, List.take_nil, List.length_cons, List.length_nil, decide_true, decide_false, decide_not, Bool.not_true, Bool.not_false, gz_nle, if_true, if_false, and_true, true_and, and_self, and_false, false_and, or_true, true_or, or_false, false_or, Bool.false_eq_true, not_true, not_false_iff, Decidable.not_not, Nat.reduceLeDiff, Nat.reduceAdd, Nat.reduceEqDiff, Nat.reduceSub, Nat.reduceLT, Nat.zero_add, reduceCtorEq, reduceIte, eq_self, i32_10, i32_01, Nat.zero_le, Nat.one_ne_zero, c, k1, jc_bw]
    | succ d ih =>
      intro i hi
      have k1 : nI i < nI S := nI_lt (by omega) (by omega)
      obtain ⟨t, l⟩ := inner i (gz_fo (fun i x => gz_fo (fun k x => if bt (jc_af h a e b i) k = true then gz_mx x (gz_I h (a + 2) (8 * i + k)) else x) x S) 0 i) (by omega)
      have b1 := bt_t (i := i) (by omega) e
      have d2 : ¬ nI i < 0 := nI_pos (by omega)
      have d3 : (nI i).toNatClampNeg = i := nI_clamp (by omega)
      have d4 : i < 8 := by omega
      refine gz_loop_next (env1 := [.ref a, .int e, .int b, .int (gz_fo (fun i x => gz_fo (fun k x => if bt (jc_af h a e b i) k = true then gz_mx x (gz_I h (a + 2) (8 * i + k)) else x) x S) 0 (i + 1)), .int (nI (i + 1))]) ?_ (ih (i + 1) (by omega))
      by_cases h1 : bt e i = true
      · have af : jc_af h a e b i = gz_I h (a + 4) i &&& b := by unfold jc_af; rw [if_pos h1]
        rw [af] at l
        simp only [lb_X1_between_5, gz_sem, gz_ae, Value.category, gz_i, gz_l, gz_nu, gz_li, gz_ll, gz_la, gz_ib, gz_iz, gz_lb, gz_lz, gz_ls, gz_lc, gz_i2l, gz_l2i, gz_get, gz_ald, gz_len, gz_dup, gz_d2, gz_nar, gz_a0, gz_a1, gz_cs, gz_cv, gz_mk, gz_te, gz_j1, gz_j2, gz_jn, gz_jk, gz_jo, gz_ja, gz_sat, gz_seti, gz_seta, gz_set2, gz_inc, gz_put, gz_ast, gz_pop, gz_vs, gz_vv, gz_sup, gz_rv, gz_ri, gz_rl, gz_ra, gz_if, gz_seq, gz_sw, gz_st, gz_st2, rok_I, rok_J, rok_V, rok_Z0, rok_Z1, rok_Zi, rok_R, rok_N, bi_rok, bi_0, bi_1, fit_I, fit_J, fit_Z0, fit_Z1, fit_Zi, fit_R, fit_N, fit_aR, aty_I, aty_Z0, aty_Z1, aty_Zi, aty_J, gz_ix, List.getElem?_cons_zero, List.getElem?_cons_succ, List.getElem?_nil, List.reverse_cons, List.reverse_nil, List.nil_append, List.cons_append, List.take_succ_cons, List.take_zero, List.take_nil, List.length_cons, List.length_nil, decide_true, decide_false, decide_not, Bool.not_true, Bool.not_false, gz_nle, if_true, if_false, and_true, true_and, and_self, and_false, false_and, or_true, true_or, or_false, false_or, Bool.false_eq_true, not_true, not_false_iff, Decidable.not_not, Nat.reduceLeDiff, Nat.reduceAdd, Nat.reduceEqDiff, Nat.reduceSub, Nat.reduceLT, Nat.zero_add, reduceCtorEq, reduceIte, eq_self, i32_10, i32_01, Nat.zero_le, Nat.one_ne_zero, c, k1, b1, h1, d2, d3, d4, l, nI_1]
        rw [← af]
        rfl
      · have af : jc_af h a e b i = 0 := by unfold jc_af; rw [if_neg h1]
        rw [af] at l
        simp only [lb_X1_between_5, gz_sem, gz_ae, Value.category, gz_i, gz_l, gz_nu, gz_li, gz_ll, gz_la, gz_ib, gz_iz, gz_lb, gz_lz, gz_ls, gz_lc, gz_i2l, gz_l2i, gz_get, gz_ald, gz_len, gz_dup, gz_d2, gz_nar, gz_a0, gz_a1, gz_cs, gz_cv, gz_mk, gz_te, gz_j1, gz_j2, gz_jn, gz_jk, gz_jo, gz_ja, gz_sat, gz_seti, gz_seta, gz_set2, gz_inc, gz_put, gz_ast, gz_pop, gz_vs, gz_vv, gz_sup, gz_rv, gz_ri, gz_rl, gz_ra, gz_if, gz_seq, gz_sw, gz_st, gz_st2, rok_I, rok_J, rok_V, rok_Z0, rok_Z1, rok_Zi, rok_R, rok_N, bi_rok, bi_0, bi_1, fit_I, fit_J, fit_Z0, fit_Z1, fit_Zi, fit_R, fit_N, fit_aR, aty_I, aty_Z0, aty_Z1, aty_Zi, aty_J, gz_ix, List.getElem?_cons_zero, List.getElem?_cons_succ, List.getElem?_nil, List.reverse_cons, List.reverse_nil, List.nil_append, List.cons_append, List.take_succ_cons, List.take_zero, List.take_nil, List.length_cons, List.length_nil, decide_true, decide_false, decide_not, Bool.not_true, Bool.not_false, gz_nle, if_true, if_false, and_true, true_and, and_self, and_false, false_and, or_true, true_or, or_false, false_or, Bool.false_eq_true, not_true, not_false_iff, Decidable.not_not, Nat.reduceLeDiff, Nat.reduceAdd, Nat.reduceEqDiff, Nat.reduceSub, Nat.reduceLT, Nat.zero_add, reduceCtorEq, reduceIte, eq_self, i32_10, i32_01, Nat.zero_le, Nat.one_ne_zero, c, k1, b1, h1, d2, d3, d4, l, nI_1]
        rw [← af]
        rfl
  have l := outer S 0 (by omega)
  have z0 : ∀ f : Nat → Int32 → Int32, gz_fo f 0 0 = 0 := fun _ => rfl
  simp only [z0, nI_0] at l
  simp only [se_X1_between, sm_X1_between, gz_sem, gz_ae, Value.category, gz_i, gz_l, gz_nu, gz_li, gz_ll, gz_la, gz_ib, gz_iz, gz_lb, gz_lz, gz_ls, gz_lc, gz_i2l, gz_l2i, gz_get, gz_ald, gz_len, gz_dup, gz_d2, gz_nar, gz_a0, gz_a1, gz_cs, gz_cv, gz_mk, gz_te, gz_j1, gz_j2, gz_jn, gz_jk, gz_jo, gz_ja, gz_sat, gz_seti, gz_seta, gz_set2, gz_inc, gz_put, gz_ast, gz_pop, gz_vs, gz_vv, gz_sup, gz_rv, gz_ri, gz_rl, gz_ra, gz_if, gz_seq, gz_sw, gz_st, gz_st2, rok_I, rok_J, rok_V, rok_Z0, rok_Z1, rok_Zi, rok_R, rok_N, bi_rok, bi_0, bi_1, fit_I, fit_J, fit_Z0, fit_Z1, fit_Zi, fit_R, fit_N, fit_aR, aty_I, aty_Z0, aty_Z1, aty_Zi, aty_J, gz_ix, List.getElem?_cons_zero, List.getElem?_cons_succ, List.getElem?_nil, List.reverse_cons, List.reverse_nil, List.nil_append, List.cons_append, List.take_succ_cons, List.take_zero, List.take_nil, List.length_cons, List.length_nil, decide_true, decide_false, decide_not, Bool.not_true, Bool.not_false, gz_nle, if_true, if_false, and_true, true_and, and_self, and_false, false_and, or_true, true_or, or_false, false_or, Bool.false_eq_true, not_true, not_false_iff, Decidable.not_not, Nat.reduceLeDiff, Nat.reduceAdd, Nat.reduceEqDiff, Nat.reduceSub, Nat.reduceLT, Nat.zero_add, reduceCtorEq, reduceIte, eq_self, i32_10, i32_01, Nat.zero_le, Nat.one_ne_zero, c, l]
theorem mx_nn {x y : Int32} (h : ¬ x < 0) : ¬ gz_mx x y < 0 := by
  unfold gz_mx
  by_cases q : x < y
  · rw [if_pos q]
    rw [Int32.lt_iff_toInt_lt] at *
    omega
  · rw [if_neg q]; exact h
theorem mx_no {x y : Int32} (h : ¬ x < 0) (hy : ¬ 0 < y) : gz_mx x y = x := by
  unfold gz_mx
  rw [if_neg]
  rw [Int32.lt_iff_toInt_lt] at *
  omega
theorem fo_eq {f g : Nat → Int32 → Int32} : ∀ n, (∀ i, i < n → ∀ x, ¬ x < 0 → f i x = g i x ∧ ¬ f i x < 0) → ∀ x, ¬ x < 0 → gz_fo f x n = gz_fo g x n ∧ ¬ gz_fo f x n < 0 := by
  intro n
  induction n with
  | zero => intro _ x hx; exact ⟨rfl, hx⟩
  | succ n ih =>
    intro h x hx
    obtain ⟨i1, i2⟩ := ih (fun i hi => h i (by omega)) x hx
    obtain ⟨g1, g2⟩ := h n (by omega) (gz_fo f x n) i2
    exact ⟨by show f n (gz_fo f x n) = g n (gz_fo g x n); rw [g1, i1], g2⟩
theorem fo_more {f : Nat → Int32 → Int32} {S : Nat} (hf : ∀ i, S ≤ i → ∀ x, f i x = x) : ∀ d x, gz_fo f x (S + d) = gz_fo f x S := by
  intro d
  induction d with
  | zero => intro x; rfl
  | succ d ih => intro x; show f (S + d) (gz_fo f x (S + d)) = _; rw [hf (S + d) (by omega), ih]
theorem eq_bw {h h' : gz_H} {j a S : Nat} (r : rb h h' j a) (hg : ∀ i k, i < 8 → k < 8 → 0 < md_ap h' j i k → gz_I h (a + 2) (8 * i + k) = md_ap h' j i k) (h8 : S ≤ 8) {e b : Int32} (he : ∀ i, S ≤ i → bt e i = false) (hb : ∀ i, S ≤ i → bt b i = false) : jc_bw h a S e b = md_bw h' j e b := by
  obtain ⟨r1, r2, r3, r4⟩ := r
  have key : ∀ i, i < S → ∀ x, ¬ x < 0 → gz_fo (fun k x => if bt (jc_af h a e b i) k = true then gz_mx x (gz_I h (a + 2) (8 * i + k)) else x) x S = gz_fo (fun k x => if bt e i = true ∧ bt b k = true then gz_mx x (md_ap h' j i k) else x) x 8 ∧ ¬ gz_fo (fun k x => if bt (jc_af h a e b i) k = true then gz_mx x (gz_I h (a + 2) (8 * i + k)) else x) x S < 0 := by
    intro i hi x hx
    have h1 : gz_fo (fun k x => if bt e i = true ∧ bt b k = true then gz_mx x (md_ap h' j i k) else x) x 8 = gz_fo (fun k x => if bt e i = true ∧ bt b k = true then gz_mx x (md_ap h' j i k) else x) x S := by
      rw [show 8 = S + (8 - S) by omega]
      exact fo_more (fun k hk x => by rw [if_neg]; rintro ⟨-, q⟩; rw [hb k hk] at q; cases q) _ x
    rw [h1]
    refine fo_eq S (fun k hk x hx => ?_) x hx
    have hbt : bt (jc_af h a e b i) k = true ↔ (bt e i = true ∧ bt b k = true) ∧ 0 < md_ap h' j i k := by
      unfold jc_af
      by_cases q : bt e i = true
      · rw [if_pos q, b_and, Bool.and_eq_true, r1 i k (by omega) (by omega)]
        exact ⟨fun z => ⟨⟨q, z.2⟩, z.1⟩, fun z => ⟨z.2, z.1.2⟩⟩
      · rw [if_neg q, b_0]
        exact ⟨fun z => (by cases z), fun z => absurd z.1.1 q⟩
    by_cases q1 : bt e i = true ∧ bt b k = true
    · by_cases q2 : 0 < md_ap h' j i k
      · rw [if_pos (hbt.mpr ⟨q1, q2⟩), if_pos q1, hg i k (by omega) (by omega) q2]
        exact ⟨rfl, mx_nn hx⟩
      · rw [if_neg (fun z => q2 (hbt.mp z).2), if_pos q1, mx_no hx q2]
        exact ⟨rfl, hx⟩
    · rw [if_neg (fun z => q1 (hbt.mp z).1), if_neg q1]
      exact ⟨rfl, hx⟩
  unfold jc_bw md_bw
  have h2 : gz_fo (fun i x => gz_fo (fun k x => if bt e i = true ∧ bt b k = true then gz_mx x (md_ap h' j i k) else x) x 8) 0 8 = gz_fo (fun i x => gz_fo (fun k x => if bt e i = true ∧ bt b k = true then gz_mx x (md_ap h' j i k) else x) x 8) 0 S := by
    rw [show gz_fo (fun i x => gz_fo (fun k x => if bt e i = true ∧ bt b k = true then gz_mx x (md_ap h' j i k) else x) x 8) 0 8 = gz_fo (fun i x => gz_fo (fun k x => if bt e i = true ∧ bt b k = true then gz_mx x (md_ap h' j i k) else x) x 8) 0 (S + (8 - S)) by rw [show S + (8 - S) = 8 by omega]]
    exact fo_more (fun i hi x => fo_id 8 (fun k _ => by rw [if_neg]; rintro ⟨q, -⟩; rw [he i hi] at q; cases q)) _ 0
  rw [h2]
  exact (fo_eq S key 0 (by decide)).1
