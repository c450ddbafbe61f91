/-- how long ago each was green, behind m rows of lamps -/
def sn (bs : Nat → Int32) : Nat → Nat → Nat
  | 0, _ => 1000
  | m + 1, i => if bt (bs m) i = true then 0 else sn bs m i + 1
theorem sn_le (bs : Nat → Int32) (i n : Nat) (hn : n < 1000) : ∀ M, sn bs M i ≤ n ↔ ∃ d, d ≤ n ∧ d < M ∧ bt (bs (M - 1 - d)) i = true := by
  intro M
  induction M generalizing n with
  | zero => exact ⟨fun q => by unfold sn at q; omega, fun ⟨d, _, q, _⟩ => by omega⟩
  | succ M ih =>
    unfold sn
    by_cases g : bt (bs M) i = true
    · rw [if_pos g]
      exact ⟨fun _ => ⟨0, by omega, by omega, by rw [show M + 1 - 1 - 0 = M by omega]; exact g⟩, fun _ => by omega⟩
    · rw [if_neg g]
      constructor
      · intro q
        obtain ⟨d, d1, d2, d3⟩ := (ih (n - 1) (by omega)).mp (by omega)
        exact ⟨d + 1, by omega, by omega, by rw [show M + 1 - 1 - (d + 1) = M - 1 - d by omega]; exact d3⟩
      · rintro ⟨d, d1, d2, d3⟩
        cases d with
        | zero => rw [show M + 1 - 1 - 0 = M by omega] at d3; exact absurd d3 g
        | succ d =>
          rw [show M + 1 - 1 - (d + 1) = M - 1 - d by omega] at d3
          have := (ih (n - 1) (by omega)).mpr ⟨d, by omega, by omega, d3⟩
          omega
theorem sn_b (bs : Nat → Int32) (i : Nat) : ∀ M, sn bs M i ≤ 1000 + M := by
  intro M
  induction M with
  | zero => exact Nat.le_refl _
  | succ M ih => unfold sn; split <;> omega
theorem wr_ov {h : gz_H} {a lo hi : Nat} {f g : Nat → Int32} : gz_wr (gz_wr h a lo hi f) a lo hi g = gz_wr h a lo hi g := by
  unfold gz_wr
  have e : (fun x i => if x = a ∧ lo ≤ i ∧ i < hi then Value.int (g i) else (if x = a ∧ lo ≤ i ∧ i < hi then Value.int (f i) else h.2.2 x i)) = (fun x i => if x = a ∧ lo ≤ i ∧ i < hi then Value.int (g i) else h.2.2 x i) := by
    funext x i
    by_cases q : x = a ∧ lo ≤ i ∧ i < hi
    · rw [if_pos q, if_pos q]
    · rw [if_neg q, if_neg q, if_neg q]
  rw [e]
theorem wr_ext {h : gz_H} {a lo hi : Nat} {f g : Nat → Int32} (e : ∀ i, lo ≤ i → i < hi → f i = g i) : gz_wr h a lo hi f = gz_wr h a lo hi g := by
  unfold gz_wr
  have e : (fun x i => if x = a ∧ lo ≤ i ∧ i < hi then Value.int (f i) else h.2.2 x i) = (fun x i => if x = a ∧ lo ≤ i ∧ i < hi then Value.int (g i) else h.2.2 x i) := by
    funext x i
    by_cases q : x = a ∧ lo ≤ i ∧ i < hi
    · rw [if_pos q, if_pos q, e i q.2.1 q.2.2]
    · rw [if_neg q, if_neg q]
  rw [e]
theorem jc_wr {h : gz_H} {a S : Nat} (c : jc h a S) (b lo hi : Nat) (f : Nat → Int32) (hb : b ≠ a) : jc (gz_wr h b lo hi f) a S := by
  obtain ⟨c1, c2, c3, c4, c5, c6, k1, k2, k3, k4, k5, k6, v0, v1, v2, v3, v4, v5, t1, t2, t3, t4⟩ := c
  have ty : ∀ x, (∀ i, gz_v h x i = .int (gz_I h x i)) → ∀ i, gz_v (gz_wr h b lo hi f) x i = .int (gz_I (gz_wr h b lo hi f) x i) := fun x hx i => by
    rw [wr_v, wr_I]
    by_cases q : x = b ∧ lo ≤ i ∧ i < hi
    · rw [if_pos q, if_pos q]
    · rw [if_neg q, if_neg q]; exact hx i
  have iv : ∀ i, gz_v (gz_wr h b lo hi f) a i = gz_v h a i := fun i => wr_o h (Ne.symm hb) i
  exact ⟨c1, c2, c3, c4, c5, c6, k1, k2, k3, k4, k5, k6, by rw [iv]; exact v0, by rw [iv]; exact v1, by rw [iv]; exact v2, by rw [iv]; exact v3, by rw [iv]; exact v4, by rw [iv]; exact v5, ty _ t1, ty _ t2, ty _ t3, ty _ t4⟩
/-- the watch with its row behind m rows of lamps -/
def wh (h : gz_H) (bs : Nat → Int32) (m : Nat) : gz_H := gz_wr h 3 0 8 (fun i => nI (sn bs m i))
theorem wh_see {h : gz_H} (c : wc h 2) (bs : Nat → Int32) (m : Nat) : se_X5_see [.ref 2, .int (bs m)] (wh h bs m) = some (none, wh h bs (m + 1)) := by
  have cw : wc (wh h bs m) 2 := wc_wr c 3 0 8 _ (by decide)
  rw [st_X5_see _ 2 cw]
  have e : gz_wr (wh h bs m) (2 + 1) 0 8 (fun i => if bt (bs m) i = true then 0 else gz_I (wh h bs m) (2 + 1) i + 1) = wh h bs (m + 1) := by
    have r : ∀ i, i < 8 → gz_I (wh h bs m) 3 i = nI (sn bs m i) := fun i hi => by unfold wh; rw [wr_I, if_pos ⟨rfl, Nat.zero_le _, hi⟩]
    show gz_wr (gz_wr h 3 0 8 _) 3 0 8 _ = gz_wr h 3 0 8 _
    rw [wr_ov]
    refine wr_ext (fun i _ hi => ?_)
    show (if bt (bs m) i = true then 0 else gz_I (wh h bs m) 3 i + 1) = nI (if bt (bs m) i = true then 0 else sn bs m i + 1)
    rw [r i hi]
    by_cases g : bt (bs m) i = true
    · simp only [g, if_true, nI_0]
    · simp only [g, if_false, nI_1]
      rfl
  rw [e]
/-- i, barred to k, was green too near behind m rows -/
def cl_E (h : gz_H) (a : Nat) (bs : Nat → Int32) (m k i : Nat) : Prop := bt (gz_I h (a + 4) k) i = true ∧ ¬ gz_I h (a + 2) (8 * i + k) < nI (sn bs m i)
theorem wa_cl {h : gz_H} {a : Nat} {bs : Nat → Int32} {m k i : Nat} (ha : 55 ≤ a) (hi : i < 8) : wa_E (wh h bs m) 2 a k i ↔ cl_E h a bs m k i := by
  unfold wa_E cl_E wh
  rw [wr_Io (by omega), wr_Io (by omega), show (2 + 1 : Nat) = 3 from rfl, wr_I, if_pos ⟨rfl, Nat.zero_le _, hi⟩]
def cl_C (h : gz_H) (a S : Nat) (bs : Nat → Int32) (m : Nat) (k : Nat) : Prop := bt (bs m) k = true ∧ ∃ i, i < S ∧ cl_E h a bs (m + 1) k i
set_option maxHeartbeats 4000000 in
theorem st_X5_firstClashOf (h : gz_H) (a S q n c : Nat) (w : wc h 2) (j : jc h a S) (h8 : S ≤ 8) (ha : 55 ≤ a) (pq : pc h q n) (hq : 55 ≤ q) (hc : gz_I h q 0 = nI c) (h0 : 0 < c) (h9 : c ≤ 90) (bs : Nat → Int32) (hbs : ∀ t, t < c → bs t = gz_I h (q + 5) t ∧ bs (c + t) = gz_I h (q + 5) t) : ((∀ t, t < c → ∀ k, k < S → ¬ cl_C h a S bs (c + t) k) → se_X5_firstClashOf [.ref 2, .ref a, .ref q] h = some (some (.int (-1)), wh h bs (c + c))) ∧ (∀ t k i, t < c → k < S → i < S → bt (bs (c + t)) k = true → cl_E h a bs (c + t + 1) k i → (∀ u, u < i → ¬ cl_E h a bs (c + t + 1) k u) → (∀ u, u < k → ¬ cl_C h a S bs (c + t) u) → (∀ u, u < t → ∀ k, k < S → ¬ cl_C h a S bs (c + u) k) → se_X5_firstClashOf [.ref 2, .ref a, .ref q] h = some (some (.int (nI t)), wa_T (wh h bs (c + t + 1)) 2 i k)) := by
  have pw : ∀ m, pc (wh h bs m) q n := fun m => pc_wr pq 3 0 8 _ (by omega)
  have jw : ∀ m, jc (wh h bs m) a S := fun m => jc_wr j 3 0 8 _ (by omega)
  have ww : ∀ m, wc (wh h bs m) 2 := fun m => wc_wr w 3 0 8 _ (by decide)
  have cw : ∀ m, gz_I (wh h bs m) q 0 = nI c := fun m => by unfold wh; rw [wr_Io (by omega)]; exact hc
  have lw : ∀ m t, gz_I (wh h bs m) (q + 5) t = gz_I h (q + 5) t := fun m t => by unfold wh; rw [wr_Io (by omega)]
  have l1 := gz_for0 (L := 6) (k := 4) (X := 30) (a := lb_X5_firstClashOf_6) c (fun t => [.ref 2, .ref a, .ref q, .int (nI t)]) (fun t => wh h bs t) (env' := [.ref 2, .ref a, .ref q, .int (nI c)]) (h' := wh h bs c) (by decide) (fun t ht => by
    have k1 : nI t < nI c := nI_lt ht (by omega)
    have d2 : ¬ nI t < 0 := nI_pos (by omega)
    have d3 : (nI t).toNatClampNeg = t := nI_clamp (by omega)
    have d4 : t < 90 := by omega
    have se := wh_see w bs t
    rw [(hbs t ht).1] at se
    simp only [lb_X5_firstClashOf_6, gz_sem, gz_ae, Value.category, gz_i, gz_l, gz_nu, gz_li, gz_ll, gz_la, gz_ib, gz_iz, gz_lb, gz_lz, gz_ls, gz_lc, gz_i2l, gz_l2i, gz_get, gz_ald, gz_len, gz_dup, gz_d2, gz_nar, gz_a0, gz_a1, gz_cs, gz_cv, gz_mk, gz_te, gz_j1, gz_j2, gz_jn, gz_jk, gz_jo, gz_ja, gz_sat, gz_seti, gz_seta, gz_set2, gz_inc, gz_put, gz_ast, gz_pop, gz_vs, gz_vv, gz_sup, gz_rv, gz_ri, gz_rl, gz_ra, gz_if, gz_seq, gz_sw, gz_st, gz_st2, rok_I, rok_J, rok_V, rok_Z0, rok_Z1, rok_Zi, rok_R, rok_N, bi_rok, bi_0, bi_1, fit_I, fit_J, fit_Z0, fit_Z1, fit_Zi, fit_R, fit_N, fit_aR, aty_I, aty_Z0, aty_Z1, aty_Zi, aty_J, gz_ix, List.getElem?_cons_zero, List.getElem?_cons_succ, List.getElem?_nil, List.reverse_cons, List.reverse_nil, List.nil_append, List.cons_append, List.take_succ_cons, List.take_zero, List.take_nil, List.length_cons, List.length_nil, decide_true, decide_false, decide_not, Bool.not_true, Bool.not_false, gz_nle, if_true, if_false, and_true, true_and, and_self, and_false, false_and, or_true, true_or, or_false, false_or, Bool.false_eq_true, not_true, not_false_iff, Decidable.not_not, Nat.reduceLeDiff, Nat.reduceAdd, Nat.reduceEqDiff, Nat.reduceSub, Nat.reduceLT, Nat.zero_add, reduceCtorEq, reduceIte, eq_self, i32_10, i32_01, Nat.zero_le, Nat.one_ne_zero, pw t, ww t, cw t, lw t, k1, d2, d3, d4, se, nI_1]) (by
    have k1 : ¬ nI c < nI c := nI_nlt (Nat.le_refl _) (by omega)
    simp only [lb_X5_firstClashOf_6, gz_sem, gz_ae, Value.category, gz_i, gz_l, gz_nu, gz_li, gz_ll, gz_la, gz_ib, gz_iz, gz_lb, gz_lz, gz_ls, gz_lc, gz_i2l, gz_l2i, gz_get, gz_ald, gz_len, gz_dup, gz_d2, gz_nar, gz_a0, gz_a1, gz_cs, gz_cv, gz_mk, gz_te, gz_j1, gz_j2, gz_jn, gz_jk, gz_jo, gz_ja, gz_sat, gz_seti, gz_seta, gz_set2, gz_inc, gz_put, gz_ast, gz_pop, gz_vs, gz_vv, gz_sup, gz_rv, gz_ri, gz_rl, gz_ra, gz_if, gz_seq, gz_sw, gz_st, gz_st2, rok_I, rok_J, rok_V, rok_Z0, rok_Z1, rok_Zi, rok_R, rok_N, bi_rok, bi_0, bi_1, fit_I, fit_J, fit_Z0, fit_Z1, fit_Zi, fit_R, fit_N, fit_aR, aty_I, aty_Z0, aty_Z1, aty_Zi, aty_J, gz_ix, List.getElem?_cons_zero, List.getElem?_cons_succ, List.getElem?_nil, List.reverse_cons, List.reverse_nil, List.nil_append, List.cons_append, List.take_succ_cons, List.take_zero, List.take_nil, List.length_cons, List.length_nil, decide_true, decide_false, decide_not, Bool.not_true, Bool.not_false, gz_nle, if_true, if_false, and_true, true_and, and_self, and_false, false_and, or_true, true_or, or_false, false_or, Bool.false_eq_true, not_true, not_false_iff, Decidable.not_not, Nat.reduceLeDiff, Nat.reduceAdd, Nat.reduceEqDiff, Nat.reduceSub, Nat.reduceLT, Nat.zero_add, reduceCtorEq, reduceIte, eq_self, i32_10, i32_01, Nat.zero_le, Nat.one_ne_zero, pw c, cw c, k1])
  rw [nI_0] at l1
  have f0 := st_X5_forget h 2 w
  rw [show gz_wr h (2 + 1) 0 8 (fun _ => 1000) = wh h bs 0 from rfl] at f0
  have step : ∀ t, t < c → (∀ k, k < S → ¬ cl_C h a S bs (c + t) k) → lb_X5_firstClashOf_32 ([Value.ref 2, .ref a, .ref q, .int (nI t)].take 4) (wh h bs (c + t)) = some (.inl (32, [.ref 2, .ref a, .ref q, .int (nI (t + 1))], wh h bs (c + (t + 1)))) := by
    intro t ht hn
    have k1 : nI t < nI c := nI_lt ht (by omega)
    have d2 : ¬ nI t < 0 := nI_pos (by omega)
    have d3 : (nI t).toNatClampNeg = t := nI_clamp (by omega)
    have d4 : t < 90 := by omega
    have se := wh_see w bs (c + t)
    rw [(hbs t ht).2] at se
    have fc := (st_X5_findsClash (wh h bs (c + t + 1)) 2 a S (ww _) (jw _) h8 (gz_I h (q + 5) t)).1 (fun k hk ⟨z1, i, hi, z2⟩ => hn k hk ⟨by rw [(hbs t ht).2]; exact z1, i, hi, (wa_cl ha (by omega)).mp z2⟩)
    simp only [lb_X5_firstClashOf_32, gz_sem, gz_ae, Value.category, gz_i, gz_l, gz_nu, gz_li, gz_ll, gz_la, gz_ib, gz_iz, gz_lb, gz_lz, gz_ls, gz_lc, gz_i2l, gz_l2i, gz_get, gz_ald, gz_len, gz_dup, gz_d2, gz_nar, gz_a0, gz_a1, gz_cs, gz_cv, gz_mk, gz_te, gz_j1, gz_j2, gz_jn, gz_jk, gz_jo, gz_ja, gz_sat, gz_seti, gz_seta, gz_set2, gz_inc, gz_put, gz_ast, gz_pop, gz_vs, gz_vv, gz_sup, gz_rv, gz_ri, gz_rl, gz_ra, gz_if, gz_seq, gz_sw, gz_st, gz_st2, rok_I, rok_J, rok_V, rok_Z0, rok_Z1, rok_Zi, rok_R, rok_N, bi_rok, bi_0, bi_1, fit_I, fit_J, fit_Z0, fit_Z1, fit_Zi, fit_R, fit_N, fit_aR, aty_I, aty_Z0, aty_Z1, aty_Zi, aty_J, gz_ix, List.getElem?_cons_zero, List.getElem?_cons_succ, List.getElem?_nil, List.reverse_cons, List.reverse_nil, List.nil_append, List.cons_append, List.take_succ_cons, List.take_zero, List.take_nil, List.length_cons, List.length_nil, decide_true, decide_false, decide_not, Bool.not_true, Bool.not_false, gz_nle, if_true, if_false, and_true, true_and, and_self, and_false, false_and, or_true, true_or, or_false, false_or, Bool.false_eq_true, not_true, not_false_iff, Decidable.not_not, Nat.reduceLeDiff, Nat.reduceAdd, Nat.reduceEqDiff, Nat.reduceSub, Nat.reduceLT, Nat.zero_add, reduceCtorEq, reduceIte, eq_self, i32_10, i32_01, Nat.zero_le, Nat.one_ne_zero, pw (c + t), pw (c + t + 1), ww (c + t), ww (c + t + 1), cw (c + t), lw (c + t), lw (c + t + 1), k1, d2, d3, d4, se, fc, nI_1]
    rfl
  constructor
  · intro hno
    have l2 := gz_for0 (L := 32) (k := 4) (X := 72) (a := lb_X5_firstClashOf_32) c (fun t => [.ref 2, .ref a, .ref q, .int (nI t)]) (fun t => wh h bs (c + t)) (env' := [.ref 2, .ref a, .ref q, .int (nI c)]) (h' := wh h bs (c + c)) (by decide) (fun t ht => step t ht (hno t ht)) (by
      have k1 : ¬ nI c < nI c := nI_nlt (Nat.le_refl _) (by omega)
      simp only [lb_X5_firstClashOf_32, gz_sem, gz_ae, Value.category, gz_i, gz_l, gz_nu, gz_li, gz_ll, gz_la, gz_ib, gz_iz, gz_lb, gz_lz, gz_ls, gz_lc, gz_i2l, gz_l2i, gz_get, gz_ald, gz_len, gz_dup, gz_d2, gz_nar, gz_a0, gz_a1, gz_cs, gz_cv, gz_mk, gz_te, gz_j1, gz_j2, gz_jn, gz_jk, gz_jo, gz_ja, gz_sat, gz_seti, gz_seta, gz_set2, gz_inc, gz_put, gz_ast, gz_pop, gz_vs, gz_vv, gz_sup, gz_rv, gz_ri, gz_rl, gz_ra, gz_if, gz_seq, gz_sw, gz_st, gz_st2, rok_I, rok_J, rok_V, rok_Z0, rok_Z1, rok_Zi, rok_R, rok_N, bi_rok, bi_0, bi_1, fit_I, fit_J, fit_Z0, fit_Z1, fit_Zi, fit_R, fit_N, fit_aR, aty_I, aty_Z0, aty_Z1, aty_Zi, aty_J, gz_ix, List.getElem?_cons_zero, List.getElem?_cons_succ, List.getElem?_nil, List.reverse_cons, List.reverse_nil, List.nil_append, List.cons_append, List.take_succ_cons, List.take_zero, List.take_nil, List.length_cons, List.length_nil, decide_true, decide_false, decide_not, Bool.not_true, Bool.not_false, gz_nle, if_true, if_false, and_true, true_and, and_self, and_false, false_and, or_true, true_or, or_false, false_or, Bool.false_eq_true, not_true, not_false_iff, Decidable.not_not, Nat.reduceLeDiff, Nat.reduceAdd, Nat.reduceEqDiff, Nat.reduceSub, Nat.reduceLT, Nat.zero_add, reduceCtorEq, reduceIte, eq_self, i32_10, i32_01, Nat.zero_le, Nat.one_ne_zero, pw (c + c), cw (c + c), k1])
    rw [nI_0, Nat.add_zero] at l2
    simp only [se_X5_firstClashOf, sm_X5_firstClashOf, gz_sem, gz_ae, Value.category, gz_i, gz_l, gz_nu, gz_li, gz_ll, gz_la, gz_ib, gz_iz, gz_lb, gz_lz, gz_ls, gz_lc, gz_i2l, gz_l2i, gz_get, gz_ald, gz_len, gz_dup, gz_d2, gz_nar, gz_a0, gz_a1, gz_cs, gz_cv, gz_mk, gz_te, gz_j1, gz_j2, gz_jn, gz_jk, gz_jo, gz_ja, gz_sat, gz_seti, gz_seta, gz_set2, gz_inc, gz_put, gz_ast, gz_pop, gz_vs, gz_vv, gz_sup, gz_rv, gz_ri, gz_rl, gz_ra, gz_if, gz_seq, gz_sw, gz_st, gz_st2, rok_I, rok_J, rok_V, rok_Z0, rok_Z1, rok_Zi, rok_R, rok_N, bi_rok, bi_0, bi_1, fit_I, fit_J, fit_Z0, fit_Z1, fit_Zi, fit_R, fit_N, fit_aR, aty_I, aty_Z0, aty_Z1, aty_Zi, aty_J, gz_ix, List.getElem?_cons_zero, List.getElem?_cons_succ, List.getElem?_nil, List.reverse_cons, List.reverse_nil, List.nil_append, List.cons_append, List.take_succ_cons, List.take_zero, List.take_nil, List.length_cons, List.length_nil, decide_true, decide_false, decide_not, Bool.not_true, Bool.not_false, gz_nle, if_true, if_false, and_true, true_and, and_self, and_false, false_and, or_true, true_or, or_false, false_or, Bool.false_eq_true, not_true, not_false_iff, Decidable.not_not, Nat.reduceLeDiff, Nat.reduceAdd, Nat.reduceEqDiff, Nat.reduceSub, Nat.reduceLT, Nat.zero_add, reduceCtorEq, reduceIte, eq_self, i32_10, i32_01, Nat.zero_le, Nat.one_ne_zero, w, f0, l1, l2]
  · intro t k i ht hk hi g hE hF hF2 hF3
    have k1 : nI t < nI c := nI_lt ht (by omega)
    have d2 : ¬ nI t < 0 := nI_pos (by omega)
    have d3 : (nI t).toNatClampNeg = t := nI_clamp (by omega)
    have d4 : t < 90 := by omega
    have se := wh_see w bs (c + t)
    rw [(hbs t ht).2] at se
    have fc := (st_X5_findsClash (wh h bs (c + t + 1)) 2 a S (ww _) (jw _) h8 (gz_I h (q + 5) t)).2 k i hk hi (by rw [← (hbs t ht).2]; exact g) ((wa_cl ha (by omega)).mpr hE) (fun u hu z => hF u hu ((wa_cl ha (by omega)).mp z)) (fun u hu ⟨z1, i, hi, z2⟩ => hF2 u hu ⟨by rw [(hbs t ht).2]; exact z1, i, hi, (wa_cl ha (by omega)).mp z2⟩)
    have hit : lb_X5_firstClashOf_32 ([Value.ref 2, .ref a, .ref q, .int (nI t)].take 4) (wh h bs (c + t)) = some (.inr (some (.int (nI t)), wa_T (wh h bs (c + t + 1)) 2 i k)) := by
      simp only [lb_X5_firstClashOf_32, gz_sem, gz_ae, Value.category, gz_i, gz_l, gz_nu, gz_li, gz_ll, gz_la, gz_ib, gz_iz, gz_lb, gz_lz, gz_ls, gz_lc, gz_i2l, gz_l2i, gz_get, gz_ald, gz_len, gz_dup, gz_d2, gz_nar, gz_a0, gz_a1, gz_cs, gz_cv, gz_mk, gz_te, gz_j1, gz_j2, gz_jn, gz_jk, gz_jo, gz_ja, gz_sat, gz_seti, gz_seta, gz_set2, gz_inc, gz_put, gz_ast, gz_pop, gz_vs, gz_vv, gz_sup, gz_rv, gz_ri, gz_rl, gz_ra, gz_if, gz_seq, gz_sw, gz_st, gz_st2, rok_I, rok_J, rok_V, rok_Z0, rok_Z1, rok_Zi, rok_R, rok_N, bi_rok, bi_0, bi_1, fit_I, fit_J, fit_Z0, fit_Z1, fit_Zi, fit_R, fit_N, fit_aR, aty_I, aty_Z0, aty_Z1, aty_Zi, aty_J, gz_ix, List.getElem?_cons_zero, List.getElem?_cons_succ, List.getElem?_nil, List.reverse_cons, List.reverse_nil, List.nil_append, List.cons_append, List.take_succ_cons, List.take_zero, List.take_nil, List.length_cons, List.length_nil, decide_true, decide_false, decide_not, Bool.not_true, Bool.not_false, gz_nle, if_true, if_false, and_true, true_and, and_self, and_false, false_and, or_true, true_or, or_false, false_or, Bool.false_eq_true, not_true, not_false_iff, Decidable.not_not, Nat.reduceLeDiff, Nat.reduceAdd, Nat.reduceEqDiff, Nat.reduceSub, Nat.reduceLT, Nat.zero_add, reduceCtorEq, reduceIte, eq_self, i32_10, i32_01, Nat.zero_le, Nat.one_ne_zero, pw (c + t), pw (c + t + 1), ww (c + t), ww (c + t + 1), cw (c + t), lw (c + t), lw (c + t + 1), k1, d2, d3, d4, se, fc, nI_1]
    have l2 : ∀ d s, s + d = t → gz_loop 32 4 lb_X5_firstClashOf_32 [.ref 2, .ref a, .ref q, .int (nI s)] (wh h bs (c + s)) = some (.inr (some (.int (nI t)), wa_T (wh h bs (c + t + 1)) 2 i k)) := by
      intro d
      induction d with
      | zero => intro s e; rw [show s = t by omega]; exact gz_loop_ret hit
      | succ d ih => intro s e; exact gz_loop_next (step s (by omega) (hF3 s (by omega))) (ih (s + 1) (by omega))
    have l2 := l2 t 0 (by omega)
    rw [nI_0, Nat.add_zero] at l2
    simp only [se_X5_firstClashOf, sm_X5_firstClashOf, gz_sem, gz_ae, Value.category, gz_i, gz_l, gz_nu, gz_li, gz_ll, gz_la, gz_ib, gz_iz, gz_lb, gz_lz, gz_ls, gz_lc, gz_i2l, gz_l2i, gz_get, gz_ald, gz_len, gz_dup, gz_d2, gz_nar, gz_a0, gz_a1, gz_cs, gz_cv, gz_mk, gz_te, gz_j1, gz_j2, gz_jn, gz_jk, gz_jo, gz_ja, gz_sat, gz_seti, gz_seta, gz_set2, gz_inc, gz_put, gz_ast, gz_pop, gz_vs, gz_vv, gz_sup, gz_rv, gz_ri, gz_rl, gz_ra, gz_if, gz_seq, gz_sw, gz_st, gz_st2, rok_I, rok_J, rok_V, rok_Z0, rok_Z1, rok_Zi, rok_R, rok_N, bi_rok, bi_0, bi_1, fit_I, fit_J, fit_Z0, fit_Z1, fit_Zi, fit_R, fit_N, fit_aR, aty_I, aty_Z0, aty_Z1, aty_Zi, aty_J, gz_ix, List.getElem?_cons_zero, List.getElem?_cons_succ, List.getElem?_nil, List.reverse_cons, List.reverse_nil, List.nil_append, List.cons_append, List.take_succ_cons, List.take_zero, List.take_nil, List.length_cons, List.length_nil, decide_true, decide_false, decide_not, Bool.not_true, Bool.not_false, gz_nle, if_true, if_false, and_true, true_and, and_self, and_false, false_and, or_true, true_or, or_false, false_or, Bool.false_eq_true, not_true, not_false_iff, Decidable.not_not, Nat.reduceLeDiff, Nat.reduceAdd, Nat.reduceEqDiff, Nat.reduceSub, Nat.reduceLT, Nat.zero_add, reduceCtorEq, reduceIte, eq_self, i32_10, i32_01, Nat.zero_le, Nat.one_ne_zero, w, f0, l1, l2]
