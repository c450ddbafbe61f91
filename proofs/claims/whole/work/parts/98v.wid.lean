/-- green at a stop of a way -/
def wG (hr : gz_H) (J of tm : Nat → Nat) (v cy t k : Nat) : Prop := bt (gz_I hr 32 (90 * (8 + J k) + gz_fm (nI (t + tm k) - nI (of k)) cy)) (dg v k) = true
set_option maxHeartbeats 4000000 in
theorem st_X8_digit (v k : Nat) (hv : v < 1000) (hk : k < 3) (h : gz_H) : se_X8_digit [.int (nI v), .int (nI k)] h = some (some (.int (nI (dg v k))), h) := by
  have g10 : ((10 : Int32) = 0) = False := by decide
  have g100 : ((100 : Int32) = 0) = False := by decide
  have v10 : ∀ n, n ≤ 999 → nI n / 10 = nI (n / 10) := fun n hn => pk_div (d := 10) (by omega) (by omega) (by omega)
  have v100 : nI v / 100 = nI (v / 100) := pk_div (d := 100) (by omega) (by omega) (by omega)
  have r10 : ∀ n, n ≤ 999 → nI n - nI (n / 10) * 10 = nI (n % 10) := fun n hn => by rw [← v10 n hn]; exact pk_rem (d := 10) (by omega) (by omega) (by omega)
  have a1 := v10 v (by omega)
  have a2 := v10 (v / 10) (by omega)
  have a3 := r10 v (by omega)
  have a4 := r10 (v / 10) (by omega)
  have e0 : nI 0 = (0 : Int32) := rfl
  have e1 : nI 1 = (1 : Int32) := rfl
  have e2 : nI 2 = (2 : Int32) := rfl
  have x20 : ((2 : Int32) = 0) = False := by decide
  have x21 : ((2 : Int32) = 1) = False := by decide
  have : k = 0 ∨ k = 1 ∨ k = 2 := by omega
  rcases this with rfl | rfl | rfl
  · have d : dg v 0 = v % 10 := rfl
    rw [d]
    simp only [se_X8_digit, sm_X8_digit, gz_sem, gz_ae, Value.category, gz_i, gz_l, gz_nu, gz_li, gz_ll, gz_la, gz_ib, gz_iz, gz_lb, gz_lz, gz_ls, gz_lc, gz_i2l, gz_l2i, gz_get, gz_ald, gz_len, gz_dup, gz_d2, gz_nar, gz_a0, gz_a1, gz_cs, gz_cv, gz_mk, gz_te, gz_j1, gz_j2, gz_jn, gz_jk, gz_jo, gz_ja, gz_sat, gz_seti, gz_seta, gz_set2, gz_inc, gz_put, gz_ast, gz_pop, gz_vs, gz_vv, gz_sup, gz_rv, gz_ri, gz_rl, gz_ra, gz_if, gz_seq, gz_sw, gz_st, gz_st2, rok_I, rok_J, rok_V, rok_Z0, rok_Z1, rok_Zi, rok_R, rok_N, bi_rok, bi_0, bi_1, fit_I, fit_J, fit_Z0, fit_Z1, fit_Zi, fit_R, fit_N, fit_aR, aty_I, aty_Z0, aty_Z1, aty_Zi, aty_J, gz_ix, List.getElem?_cons_zero, List.getElem?_cons_succ, List.getElem?_nil, List.reverse_cons, List.reverse_nil, List.nil_append, List.cons_append, List.take_succ_cons, List.take_zero, List.take_nil, List.length_cons, List.length_nil, decide_true, decide_false, decide_not, Bool.not_true, Bool.not_false, gz_nle, if_true, if_false, and_true, true_and, and_self, and_false, false_and, or_true, true_or, or_false, false_or, Bool.false_eq_true, not_true, not_false_iff, Decidable.not_not, Nat.reduceLeDiff, Nat.reduceAdd, Nat.reduceEqDiff, Nat.reduceSub, Nat.reduceLT, Nat.zero_add, reduceCtorEq, reduceIte, eq_self, i32_10, i32_01, Nat.zero_le, Nat.one_ne_zero, e0, g10, a1, a3]
  · have d : dg v 1 = v / 10 % 10 := rfl
    rw [d]
    simp only [se_X8_digit, sm_X8_digit, gz_sem, gz_ae, Value.category, gz_i, gz_l, gz_nu, gz_li, gz_ll, gz_la, gz_ib, gz_iz, gz_lb, gz_lz, gz_ls, gz_lc, gz_i2l, gz_l2i, gz_get, gz_ald, gz_len, gz_dup, gz_d2, gz_nar, gz_a0, gz_a1, gz_cs, gz_cv, gz_mk, gz_te, gz_j1, gz_j2, gz_jn, gz_jk, gz_jo, gz_ja, gz_sat, gz_seti, gz_seta, gz_set2, gz_inc, gz_put, gz_ast, gz_pop, gz_vs, gz_vv, gz_sup, gz_rv, gz_ri, gz_rl, gz_ra, gz_if, gz_seq, gz_sw, gz_st, gz_st2, rok_I, rok_J, rok_V, rok_Z0, rok_Z1, rok_Zi, rok_R, rok_N, bi_rok, bi_0, bi_1, fit_I, fit_J, fit_Z0, fit_Z1, fit_Zi, fit_R, fit_N, fit_aR, aty_I, aty_Z0, aty_Z1, aty_Zi, aty_J, gz_ix, List.getElem?_cons_zero, List.getElem?_cons_succ, List.getElem?_nil, List.reverse_cons, List.reverse_nil, List.nil_append, List.cons_append, List.take_succ_cons, List.take_zero, List.take_nil, List.length_cons, List.length_nil, decide_true, decide_false, decide_not, Bool.not_true, Bool.not_false, gz_nle, if_true, if_false, and_true, true_and, and_self, and_false, false_and, or_true, true_or, or_false, false_or, Bool.false_eq_true, not_true, not_false_iff, Decidable.not_not, Nat.reduceLeDiff, Nat.reduceAdd, Nat.reduceEqDiff, Nat.reduceSub, Nat.reduceLT, Nat.zero_add, reduceCtorEq, reduceIte, eq_self, i32_10, i32_01, Nat.zero_le, Nat.one_ne_zero, e1, g10, a1, a2, a4]
  · have d : dg v 2 = v / 100 := rfl
    rw [d]
    simp only [se_X8_digit, sm_X8_digit, gz_sem, gz_ae, Value.category, gz_i, gz_l, gz_nu, gz_li, gz_ll, gz_la, gz_ib, gz_iz, gz_lb, gz_lz, gz_ls, gz_lc, gz_i2l, gz_l2i, gz_get, gz_ald, gz_len, gz_dup, gz_d2, gz_nar, gz_a0, gz_a1, gz_cs, gz_cv, gz_mk, gz_te, gz_j1, gz_j2, gz_jn, gz_jk, gz_jo, gz_ja, gz_sat, gz_seti, gz_seta, gz_set2, gz_inc, gz_put, gz_ast, gz_pop, gz_vs, gz_vv, gz_sup, gz_rv, gz_ri, gz_rl, gz_ra, gz_if, gz_seq, gz_sw, gz_st, gz_st2, rok_I, rok_J, rok_V, rok_Z0, rok_Z1, rok_Zi, rok_R, rok_N, bi_rok, bi_0, bi_1, fit_I, fit_J, fit_Z0, fit_Z1, fit_Zi, fit_R, fit_N, fit_aR, aty_I, aty_Z0, aty_Z1, aty_Zi, aty_J, gz_ix, List.getElem?_cons_zero, List.getElem?_cons_succ, List.getElem?_nil, List.reverse_cons, List.reverse_nil, List.nil_append, List.cons_append, List.take_succ_cons, List.take_zero, List.take_nil, List.length_cons, List.length_nil, decide_true, decide_false, decide_not, Bool.not_true, Bool.not_false, gz_nle, if_true, if_false, and_true, true_and, and_self, and_false, false_and, or_true, true_or, or_false, false_or, Bool.false_eq_true, not_true, not_false_iff, Decidable.not_not, Nat.reduceLeDiff, Nat.reduceAdd, Nat.reduceEqDiff, Nat.reduceSub, Nat.reduceLT, Nat.zero_add, reduceCtorEq, reduceIte, eq_self, i32_10, i32_01, Nat.zero_le, Nat.one_ne_zero, e2, x20, x21, g100, v100]
set_option maxHeartbeats 8000000 in
theorem st_X8_passing (h hr : gz_H) (w : RW hr h) (K v pn qn cy bk : Nat) (J of : Nat → Nat) (hK : K = 2 ∨ K = 3) (hq : K = 2 → qn = 0) (hbk : bk = 0 ∨ bk = 1) (e47 : gz_I h 15 47 = nI K) (e53 : ∀ k, k < K → gz_I h 53 k = nI (J k)) (e54 : ∀ k, k < K → gz_I h 54 k = nI (of k)) (hJ : ∀ k, k < K → J k < 8) (hcy : ∀ k, k < K → gz_I hr 24 (8 + J k) = nI cy) (c0 : 0 < cy) (c9 : cy ≤ 90) (hv : v < 1000) (pb : pn ≤ 120) (qb : qn ≤ 120) (hd : ∀ k, k < K → dg v k < 8) : se_X8_passing [.ref 15, .int (nI v), .int (nI pn), .int (nI qn), .int (nI bk)] h = some (some (.int (gz_cnt (fun b => ∀ k, k < K → wG hr J of (fun k => if bk = 0 then wT0 pn qn k else wT1 pn qn k) v cy (b - 1) k) cy)), h) := by
  have m := w.1
  have r24 : ∀ i, gz_I h 24 i = gz_I hr 24 i := fun i => vI (w.2.2 _ _ (by omega) (by omega) (by omega))
  have r32 : ∀ i, gz_I h 32 i = gz_I hr 32 i := fun i => vI (w.2.2 _ _ (by omega) (by omega) (by omega))
  have K3 : K ≤ 3 := by omega
  have e0 : nI 0 = (0 : Int32) := rfl
  have e1 : nI 1 = (1 : Int32) := rfl
  have e2 : nI 2 = (2 : Int32) := rfl
  have x20 : ((2 : Int32) = 0) = False := by decide
  have x21 : ((2 : Int32) = 1) = False := by decide
  have x32 : ((3 : Int32) = 2) = False := by decide
  have x10 : ((1 : Int32) = 0) = False := by decide
  have pq : nI pn + nI qn = nI (pn + qn) := nI_add _ _
  have qp : nI qn + nI pn = nI (pn + qn) := by rw [nI_add, Nat.add_comm]
  -- one stop
  have body : ∀ t k (n : Int32), t < cy → k < K → ∃ e : List Value, e.take 9 = ([Value.ref 15, .int (nI v), .int (nI pn), .int (nI qn), .int (nI bk), .int n, .int (nI t), .int (gz_bi (wG hr J of (fun k => if bk = 0 then wT0 pn qn k else wT1 pn qn k) v cy t k)), .int (nI (k + 1))] : List Value).take 9 ∧ lb_X8_passing_31 ([Value.ref 15, .int (nI v), .int (nI pn), .int (nI qn), .int (nI bk), .int n, .int (nI t), .int 1, .int (nI k)].take 9) h = some (.inl (31, e, h)) := by
    intro t k n ht hk
    have hJk := hJ k hk
    obtain ⟨tm, htm⟩ : ∃ tm, tm = if bk = 0 then wT0 pn qn k else wT1 pn qn k := ⟨_, rfl⟩
    have k1 : nI k < nI K := nI_lt hk (by omega)
    have d2 : ¬ nI k < 0 := nI_pos (by omega)
    have d3 : (nI k).toNatClampNeg = k := nI_clamp (by omega)
    have d4 : k < 3 := by omega
    have f1 : 8 + nI (J k) = nI (8 + J k) := nI_add 8 _
    have dgk := st_X8_digit v k hv (by omega) h
    have gr := st_X8_isGreen h m (8 + J k) cy (dg v k) (nI (t + tm) - nI (of k)) (by omega) (hd k hk) (by rw [r24]; exact hcy k hk) c0 c9
    have ge : md_g h (8 + J k) cy (dg v k) (nI (t + tm) - nI (of k)) ↔ wG hr J of (fun k => if bk = 0 then wT0 pn qn k else wT1 pn qn k) v cy t k := by
      unfold md_g wG
      rw [r32, htm]
    rw [bi_c ge] at gr
    have ta : nI t + nI tm = nI (t + tm) := nI_add _ _
    have e5 := e53 k hk
    have e6 := e54 k hk
    have kc : k = 0 ∨ k = 1 ∨ k = 2 := by omega
    have n10 : ¬ (1 : Int32) = 0 := by decide
    have mk : ∀ L : Int32, nI t + L = nI (t + tm) → (lb_X8_passing_31 ([Value.ref 15, .int (nI v), .int (nI pn), .int (nI qn), .int (nI bk), .int n, .int (nI t), .int 1, .int (nI k)].take 9) h = some (.inl (31, [.ref 15, .int (nI v), .int (nI pn), .int (nI qn), .int (nI bk), .int n, .int (nI t), .int (gz_bi (wG hr J of (fun k => if bk = 0 then wT0 pn qn k else wT1 pn qn k) v cy t k)), .int (nI (k + 1)), .int L], h))) → ∃ e : List Value, e.take 9 = ([Value.ref 15, .int (nI v), .int (nI pn), .int (nI qn), .int (nI bk), .int n, .int (nI t), .int (gz_bi (wG hr J of (fun k => if bk = 0 then wT0 pn qn k else wT1 pn qn k) v cy t k)), .int (nI (k + 1))] : List Value).take 9 ∧ lb_X8_passing_31 ([Value.ref 15, .int (nI v), .int (nI pn), .int (nI qn), .int (nI bk), .int n, .int (nI t), .int 1, .int (nI k)].take 9) h = some (.inl (31, e, h)) := fun L _ r => ⟨[.ref 15, .int (nI v), .int (nI pn), .int (nI qn), .int (nI bk), .int n, .int (nI t), .int (gz_bi (wG hr J of (fun k => if bk = 0 then wT0 pn qn k else wT1 pn qn k) v cy t k)), .int (nI (k + 1)), .int L], rfl, r⟩
    generalize hW : gz_bi (wG hr J of (fun k => if bk = 0 then wT0 pn qn k else wT1 pn qn k) v cy t k) = W at *
    have a0 : nI k = 0 ↔ k = 0 := nI_eq (b := 0) (by omega) (by omega)
    have a1 : nI k = 1 ↔ k = 1 := nI_eq (b := 1) (by omega) (by omega)
    have b0 : nI bk = 0 ↔ bk = 0 := nI_eq (b := 0) (by omega) (by omega)
    have kw : nI K - 1 = nI (K - 1) := pk_sub (b := 1) (by omega)
    have a3 : nI k = nI (K - 1) ↔ k = K - 1 := nI_eq (by omega) (by omega)
    have a4 : nI K = 2 ↔ K = 2 := nI_eq (b := 2) (by omega) (by omega)
    have tz : nI t + 0 = nI (t + 0) := Int32.add_zero _
    rcases hbk with hb | hb
    · have hb' := eq_true (b0.mpr hb)
      rw [if_pos hb] at htm
      rcases kc with hk0 | hk0 | hk0
      · have c0' := eq_true (a0.mpr hk0)
        have z : tm = 0 := by rw [htm, hk0]; rfl
        rw [z] at ta gr
        refine mk 0 (by rw [z]; exact tz) ?_
        simp only [lb_X8_passing_31, gz_sem, gz_ae, Value.category, gz_i, gz_l, gz_nu, gz_li, gz_ll, gz_la, gz_ib, gz_iz, gz_lb, gz_lz, gz_ls, gz_lc, gz_i2l, gz_l2i, gz_get, gz_ald, gz_len, gz_dup, gz_d2, gz_nar, gz_a0, gz_a1, gz_cs, gz_cv, gz_mk, gz_te, gz_j1, gz_j2, gz_jn, gz_jk, gz_jo, gz_ja, gz_sat, gz_seti, gz_seta, gz_set2, gz_inc, gz_put, gz_ast, gz_pop, gz_vs, gz_vv, gz_sup, gz_rv, gz_ri, gz_rl, gz_ra, gz_if, gz_seq, gz_sw, gz_st, gz_st2, rok_I, rok_J, rok_V, rok_Z0, rok_Z1, rok_Zi, rok_R, rok_N, bi_rok, bi_0, bi_1, fit_I, fit_J, fit_Z0, fit_Z1, fit_Zi, fit_R, fit_N, fit_aR, aty_I, aty_Z0, aty_Z1, aty_Zi, aty_J, gz_ix, List.getElem?_cons_zero, List.getElem?_cons_succ, List.getElem?_nil, List.reverse_cons, List.reverse_nil, List.nil_append, List.cons_append, List.take_succ_cons, List.take_zero, List.take_nil, List.length_cons, List.length_nil, decide_true, decide_false, decide_not, Bool.not_true, Bool.not_false, gz_nle, if_true, if_false, and_true, true_and, and_self, and_false, false_and, or_true, true_or, or_false, false_or, Bool.false_eq_true, not_true, not_false_iff, Decidable.not_not, Nat.reduceLeDiff, Nat.reduceAdd, Nat.reduceEqDiff, Nat.reduceSub, Nat.reduceLT, Nat.zero_add, reduceCtorEq, reduceIte, eq_self, i32_10, i32_01, Nat.zero_le, Nat.one_ne_zero, m, md_k, e47, k1, d2, d3, d4, e5, e6, f1, dgk, tz, gr, nI_1, hb', c0']
      · have c0' : ¬ nI k = 0 := fun u => by have := a0.mp u; omega
        have c1' := eq_true (a1.mpr hk0)
        have z : tm = pn := by rw [htm, hk0]; rfl
        rw [z] at ta gr
        refine mk (nI pn) (by rw [z]; exact ta) ?_
        simp only [lb_X8_passing_31, gz_sem, gz_ae, Value.category, gz_i, gz_l, gz_nu, gz_li, gz_ll, gz_la, gz_ib, gz_iz, gz_lb, gz_lz, gz_ls, gz_lc, gz_i2l, gz_l2i, gz_get, gz_ald, gz_len, gz_dup, gz_d2, gz_nar, gz_a0, gz_a1, gz_cs, gz_cv, gz_mk, gz_te, gz_j1, gz_j2, gz_jn, gz_jk, gz_jo, gz_ja, gz_sat, gz_seti, gz_seta, gz_set2, gz_inc, gz_put, gz_ast, gz_pop, gz_vs, gz_vv, gz_sup, gz_rv, gz_ri, gz_rl, gz_ra, gz_if, gz_seq, gz_sw, gz_st, gz_st2, rok_I, rok_J, rok_V, rok_Z0, rok_Z1, rok_Zi, rok_R, rok_N, bi_rok, bi_0, bi_1, fit_I, fit_J, fit_Z0, fit_Z1, fit_Zi, fit_R, fit_N, fit_aR, aty_I, aty_Z0, aty_Z1, aty_Zi, aty_J, gz_ix, List.getElem?_cons_zero, List.getElem?_cons_succ, List.getElem?_nil, List.reverse_cons, List.reverse_nil, List.nil_append, List.cons_append, List.take_succ_cons, List.take_zero, List.take_nil, List.length_cons, List.length_nil, decide_true, decide_false, decide_not, Bool.not_true, Bool.not_false, gz_nle, if_true, if_false, and_true, true_and, and_self, and_false, false_and, or_true, true_or, or_false, false_or, Bool.false_eq_true, not_true, not_false_iff, Decidable.not_not, Nat.reduceLeDiff, Nat.reduceAdd, Nat.reduceEqDiff, Nat.reduceSub, Nat.reduceLT, Nat.zero_add, reduceCtorEq, reduceIte, eq_self, i32_10, i32_01, Nat.zero_le, Nat.one_ne_zero, m, md_k, e47, k1, d2, d3, d4, e5, e6, f1, dgk, ta, gr, nI_1, hb', c0', c1']
      · have c0' : ¬ nI k = 0 := fun u => by have := a0.mp u; omega
        have c1' : ¬ nI k = 1 := fun u => by have := a1.mp u; omega
        have z : tm = pn + qn := by rw [htm, hk0]; rfl
        rw [z] at ta gr
        refine mk (nI (pn + qn)) (by rw [z]; exact ta) ?_
        simp only [lb_X8_passing_31, gz_sem, gz_ae, Value.category, gz_i, gz_l, gz_nu, gz_li, gz_ll, gz_la, gz_ib, gz_iz, gz_lb, gz_lz, gz_ls, gz_lc, gz_i2l, gz_l2i, gz_get, gz_ald, gz_len, gz_dup, gz_d2, gz_nar, gz_a0, gz_a1, gz_cs, gz_cv, gz_mk, gz_te, gz_j1, gz_j2, gz_jn, gz_jk, gz_jo, gz_ja, gz_sat, gz_seti, gz_seta, gz_set2, gz_inc, gz_put, gz_ast, gz_pop, gz_vs, gz_vv, gz_sup, gz_rv, gz_ri, gz_rl, gz_ra, gz_if, gz_seq, gz_sw, gz_st, gz_st2, rok_I, rok_J, rok_V, rok_Z0, rok_Z1, rok_Zi, rok_R, rok_N, bi_rok, bi_0, bi_1, fit_I, fit_J, fit_Z0, fit_Z1, fit_Zi, fit_R, fit_N, fit_aR, aty_I, aty_Z0, aty_Z1, aty_Zi, aty_J, gz_ix, List.getElem?_cons_zero, List.getElem?_cons_succ, List.getElem?_nil, List.reverse_cons, List.reverse_nil, List.nil_append, List.cons_append, List.take_succ_cons, List.take_zero, List.take_nil, List.length_cons, List.length_nil, decide_true, decide_false, decide_not, Bool.not_true, Bool.not_false, gz_nle, if_true, if_false, and_true, true_and, and_self, and_false, false_and, or_true, true_or, or_false, false_or, Bool.false_eq_true, not_true, not_false_iff, Decidable.not_not, Nat.reduceLeDiff, Nat.reduceAdd, Nat.reduceEqDiff, Nat.reduceSub, Nat.reduceLT, Nat.zero_add, reduceCtorEq, reduceIte, eq_self, i32_10, i32_01, Nat.zero_le, Nat.one_ne_zero, m, md_k, e47, k1, d2, d3, d4, e5, e6, f1, dgk, pq, ta, gr, nI_1, hb', c0', c1']
    · have hb' : ¬ nI bk = 0 := fun u => by have := b0.mp u; omega
      rw [if_neg (by omega)] at htm
      by_cases kl : k = K - 1
      · have c3' := eq_true (a3.mpr kl)
        have z : tm = 0 := by
          rw [htm]
          unfold wT1
          rcases hK with hK | hK
          · rw [if_neg (by omega), if_pos (by omega)]; exact hq hK
          · rw [if_neg (by omega), if_neg (by omega)]
        rw [z] at ta gr
        refine mk 0 (by rw [z]; exact tz) ?_
        simp only [lb_X8_passing_31, gz_sem, gz_ae, Value.category, gz_i, gz_l, gz_nu, gz_li, gz_ll, gz_la, gz_ib, gz_iz, gz_lb, gz_lz, gz_ls, gz_lc, gz_i2l, gz_l2i, gz_get, gz_ald, gz_len, gz_dup, gz_d2, gz_nar, gz_a0, gz_a1, gz_cs, gz_cv, gz_mk, gz_te, gz_j1, gz_j2, gz_jn, gz_jk, gz_jo, gz_ja, gz_sat, gz_seti, gz_seta, gz_set2, gz_inc, gz_put, gz_ast, gz_pop, gz_vs, gz_vv, gz_sup, gz_rv, gz_ri, gz_rl, gz_ra, gz_if, gz_seq, gz_sw, gz_st, gz_st2, rok_I, rok_J, rok_V, rok_Z0, rok_Z1, rok_Zi, rok_R, rok_N, bi_rok, bi_0, bi_1, fit_I, fit_J, fit_Z0, fit_Z1, fit_Zi, fit_R, fit_N, fit_aR, aty_I, aty_Z0, aty_Z1, aty_Zi, aty_J, gz_ix, List.getElem?_cons_zero, List.getElem?_cons_succ, List.getElem?_nil, List.reverse_cons, List.reverse_nil, List.nil_append, List.cons_append, List.take_succ_cons, List.take_zero, List.take_nil, List.length_cons, List.length_nil, decide_true, decide_false, decide_not, Bool.not_true, Bool.not_false, gz_nle, if_true, if_false, and_true, true_and, and_self, and_false, false_and, or_true, true_or, or_false, false_or, Bool.false_eq_true, not_true, not_false_iff, Decidable.not_not, Nat.reduceLeDiff, Nat.reduceAdd, Nat.reduceEqDiff, Nat.reduceSub, Nat.reduceLT, Nat.zero_add, reduceCtorEq, reduceIte, eq_self, i32_10, i32_01, Nat.zero_le, Nat.one_ne_zero, m, md_k, e47, k1, d2, d3, d4, e5, e6, f1, dgk, kw, tz, gr, nI_1, hb', c3']
      · have c3' : ¬ nI k = nI (K - 1) := fun u => kl (a3.mp u)
        by_cases k1' : k = 1
        · have c1' := eq_true (a1.mpr k1')
          have z : tm = qn := by rw [htm, k1']; rfl
          rw [z] at ta gr
          refine mk (nI qn) (by rw [z]; exact ta) ?_
          simp only [lb_X8_passing_31, gz_sem, gz_ae, Value.category, gz_i, gz_l, gz_nu, gz_li, gz_ll, gz_la, gz_ib, gz_iz, gz_lb, gz_lz, gz_ls, gz_lc, gz_i2l, gz_l2i, gz_get, gz_ald, gz_len, gz_dup, gz_d2, gz_nar, gz_a0, gz_a1, gz_cs, gz_cv, gz_mk, gz_te, gz_j1, gz_j2, gz_jn, gz_jk, gz_jo, gz_ja, gz_sat, gz_seti, gz_seta, gz_set2, gz_inc, gz_put, gz_ast, gz_pop, gz_vs, gz_vv, gz_sup, gz_rv, gz_ri, gz_rl, gz_ra, gz_if, gz_seq, gz_sw, gz_st, gz_st2, rok_I, rok_J, rok_V, rok_Z0, rok_Z1, rok_Zi, rok_R, rok_N, bi_rok, bi_0, bi_1, fit_I, fit_J, fit_Z0, fit_Z1, fit_Zi, fit_R, fit_N, fit_aR, aty_I, aty_Z0, aty_Z1, aty_Zi, aty_J, gz_ix, List.getElem?_cons_zero, List.getElem?_cons_succ, List.getElem?_nil, List.reverse_cons, List.reverse_nil, List.nil_append, List.cons_append, List.take_succ_cons, List.take_zero, List.take_nil, List.length_cons, List.length_nil, decide_true, decide_false, decide_not, Bool.not_true, Bool.not_false, gz_nle, if_true, if_false, and_true, true_and, and_self, and_false, false_and, or_true, true_or, or_false, false_or, Bool.false_eq_true, not_true, not_false_iff, Decidable.not_not, Nat.reduceLeDiff, Nat.reduceAdd, Nat.reduceEqDiff, Nat.reduceSub, Nat.reduceLT, Nat.zero_add, reduceCtorEq, reduceIte, eq_self, i32_10, i32_01, Nat.zero_le, Nat.one_ne_zero, m, md_k, e47, k1, d2, d3, d4, e5, e6, f1, dgk, kw, ta, gr, nI_1, hb', c3', c1']
        · have c1' : ¬ nI k = 1 := fun u => k1' (a1.mp u)
          have z : tm = pn + qn := by rw [htm]; unfold wT1; rw [if_pos (by omega)]
          by_cases K2 : K = 2
          · have c4' := eq_true (a4.mpr K2)
            have zz : tm = pn := by rw [z, hq K2, Nat.add_zero]
            rw [zz] at ta gr
            refine mk (nI pn) (by rw [zz]; exact ta) ?_
            simp only [lb_X8_passing_31, gz_sem, gz_ae, Value.category, gz_i, gz_l, gz_nu, gz_li, gz_ll, gz_la, gz_ib, gz_iz, gz_lb, gz_lz, gz_ls, gz_lc, gz_i2l, gz_l2i, gz_get, gz_ald, gz_len, gz_dup, gz_d2, gz_nar, gz_a0, gz_a1, gz_cs, gz_cv, gz_mk, gz_te, gz_j1, gz_j2, gz_jn, gz_jk, gz_jo, gz_ja, gz_sat, gz_seti, gz_seta, gz_set2, gz_inc, gz_put, gz_ast, gz_pop, gz_vs, gz_vv, gz_sup, gz_rv, gz_ri, gz_rl, gz_ra, gz_if, gz_seq, gz_sw, gz_st, gz_st2, rok_I, rok_J, rok_V, rok_Z0, rok_Z1, rok_Zi, rok_R, rok_N, bi_rok, bi_0, bi_1, fit_I, fit_J, fit_Z0, fit_Z1, fit_Zi, fit_R, fit_N, fit_aR, aty_I, aty_Z0, aty_Z1, aty_Zi, aty_J, gz_ix, List.getElem?_cons_zero, List.getElem?_cons_succ, List.getElem?_nil, List.reverse_cons, List.reverse_nil, List.nil_append, List.cons_append, List.take_succ_cons, List.take_zero, List.take_nil, List.length_cons, List.length_nil, decide_true, decide_false, decide_not, Bool.not_true, Bool.not_false, gz_nle, if_true, if_false, and_true, true_and, and_self, and_false, false_and, or_true, true_or, or_false, false_or, Bool.false_eq_true, not_true, not_false_iff, Decidable.not_not, Nat.reduceLeDiff, Nat.reduceAdd, Nat.reduceEqDiff, Nat.reduceSub, Nat.reduceLT, Nat.zero_add, reduceCtorEq, reduceIte, eq_self, i32_10, i32_01, Nat.zero_le, Nat.one_ne_zero, m, md_k, e47, k1, d2, d3, d4, e5, e6, f1, dgk, kw, ta, gr, nI_1, hb', c3', c1', c4']
          · have c4' : ¬ nI K = 2 := fun u => K2 (a4.mp u)
            rw [z] at ta gr
            refine mk (nI (pn + qn)) (by rw [z]; exact ta) ?_
            simp only [lb_X8_passing_31, gz_sem, gz_ae, Value.category, gz_i, gz_l, gz_nu, gz_li, gz_ll, gz_la, gz_ib, gz_iz, gz_lb, gz_lz, gz_ls, gz_lc, gz_i2l, gz_l2i, gz_get, gz_ald, gz_len, gz_dup, gz_d2, gz_nar, gz_a0, gz_a1, gz_cs, gz_cv, gz_mk, gz_te, gz_j1, gz_j2, gz_jn, gz_jk, gz_jo, gz_ja, gz_sat, gz_seti, gz_seta, gz_set2, gz_inc, gz_put, gz_ast, gz_pop, gz_vs, gz_vv, gz_sup, gz_rv, gz_ri, gz_rl, gz_ra, gz_if, gz_seq, gz_sw, gz_st, gz_st2, rok_I, rok_J, rok_V, rok_Z0, rok_Z1, rok_Zi, rok_R, rok_N, bi_rok, bi_0, bi_1, fit_I, fit_J, fit_Z0, fit_Z1, fit_Zi, fit_R, fit_N, fit_aR, aty_I, aty_Z0, aty_Z1, aty_Zi, aty_J, gz_ix, List.getElem?_cons_zero, List.getElem?_cons_succ, List.getElem?_nil, List.reverse_cons, List.reverse_nil, List.nil_append, List.cons_append, List.take_succ_cons, List.take_zero, List.take_nil, List.length_cons, List.length_nil, decide_true, decide_false, decide_not, Bool.not_true, Bool.not_false, gz_nle, if_true, if_false, and_true, true_and, and_self, and_false, false_and, or_true, true_or, or_false, false_or, Bool.false_eq_true, not_true, not_false_iff, Decidable.not_not, Nat.reduceLeDiff, Nat.reduceAdd, Nat.reduceEqDiff, Nat.reduceSub, Nat.reduceLT, Nat.zero_add, reduceCtorEq, reduceIte, eq_self, i32_10, i32_01, Nat.zero_le, Nat.one_ne_zero, m, md_k, e47, k1, d2, d3, d4, e5, e6, f1, dgk, kw, qp, ta, gr, nI_1, hb', c3', c1', c4']
  generalize hG : wG hr J of (fun k => if bk = 0 then wT0 pn qn k else wT1 pn qn k) v cy = G at *
  have n10 : ¬ (1 : Int32) = 0 := by decide
  have inner : ∀ (t : Nat) (n : Int32), t < cy → ∀ dd k, k + dd = K → ∃ e : List Value, gz_loop 31 9 lb_X8_passing_31 [.ref 15, .int (nI v), .int (nI pn), .int (nI qn), .int (nI bk), .int n, .int (nI t), .int 1, .int (nI k)] h = some (.inl (158, e, h)) ∧ e.take 8 = [.ref 15, .int (nI v), .int (nI pn), .int (nI qn), .int (nI bk), .int n, .int (nI t), .int (gz_bi (∀ i, k ≤ i → i < K → G t i))] := by
    intro t n ht dd
    induction dd with
    | zero =>
      intro k hk
      have k1 : ¬ nI k < nI K := nI_nlt (by omega) (by omega)
      refine ⟨[.ref 15, .int (nI v), .int (nI pn), .int (nI qn), .int (nI bk), .int n, .int (nI t), .int 1, .int (nI k)], gz_loop_exit ?_ (by decide), ?_⟩
      · simp only [lb_X8_passing_31, gz_sem, gz_ae, Value.category, gz_i, gz_l, gz_nu, gz_li, gz_ll, gz_la, gz_ib, gz_iz, gz_lb, gz_lz, gz_ls, gz_lc, gz_i2l, gz_l2i, gz_get, gz_ald, gz_len, gz_dup, gz_d2, gz_nar, gz_a0, gz_a1, gz_cs, gz_cv, gz_mk, gz_te, gz_j1, gz_j2, gz_jn, gz_jk, gz_jo, gz_ja, gz_sat, gz_seti, gz_seta, gz_set2, gz_inc, gz_put, gz_ast, gz_pop, gz_vs, gz_vv, gz_sup, gz_rv, gz_ri, gz_rl, gz_ra, gz_if, gz_seq, gz_sw, gz_st, gz_st2, rok_I, rok_J, rok_V, rok_Z0, rok_Z1, rok_Zi, rok_R, rok_N, bi_rok, bi_0, bi_1, fit_I, fit_J, fit_Z0, fit_Z1, fit_Zi, fit_R, fit_N, fit_aR, aty_I, aty_Z0, aty_Z1, aty_Zi, aty_J, gz_ix, List.getElem?_cons_zero, List.getElem?_cons_succ, List.getElem?_nil, List.reverse_cons, List.reverse_nil, List.nil_append, List.cons_append, List.take_succ_cons, List.take_zero, List.take_nil, List.length_cons, List.length_nil, decide_true, decide_false, decide_not, Bool.not_true, Bool.not_false, gz_nle, if_true, if_false, and_true, true_and, and_self, and_false, false_and, or_true, true_or, or_false, false_or, Bool.false_eq_true, not_true, not_false_iff, Decidable.not_not, Nat.reduceLeDiff, Nat.reduceAdd, Nat.reduceEqDiff, Nat.reduceSub, Nat.reduceLT, Nat.zero_add, reduceCtorEq, reduceIte, eq_self, i32_10, i32_01, Nat.zero_le, Nat.one_ne_zero, m, md_k, e47, k1]
      · rw [bi_t (fun i h1 h2 => by omega)]; rfl
    | succ dd ih =>
      intro k hk
      obtain ⟨e, e1, e2⟩ := body t k n ht (by omega)
      by_cases g : G t k
      · rw [bi_t g] at e1
        obtain ⟨e', f1, f2⟩ := ih (k + 1) (by omega)
        refine ⟨e', gz_loop_next e2 (by rw [gz_loop_tk e1]; exact f1), ?_⟩
        rw [f2]
        have : (∀ i, k + 1 ≤ i → i < K → G t i) ↔ (∀ i, k ≤ i → i < K → G t i) := ⟨fun z i h1 h2 => by
          by_cases u : i = k
          · rw [u]; exact g
          · exact z i (by omega) h2, fun z i h1 h2 => z i (by omega) h2⟩
        rw [bi_c this]
      · rw [bi_f g] at e1
        refine ⟨[.ref 15, .int (nI v), .int (nI pn), .int (nI qn), .int (nI bk), .int n, .int (nI t), .int 0, .int (nI (k + 1))], gz_loop_next e2 (by rw [gz_loop_tk e1]; exact gz_loop_exit (l := 158) (env1 := [.ref 15, .int (nI v), .int (nI pn), .int (nI qn), .int (nI bk), .int n, .int (nI t), .int 0, .int (nI (k + 1))]) (h1 := h) (by
          by_cases k1 : nI (k + 1) < nI K
          · simp only [lb_X8_passing_31, gz_sem, gz_ae, Value.category, gz_i, gz_l, gz_nu, gz_li, gz_ll, gz_la, gz_ib, gz_iz, gz_lb, gz_lz, gz_ls, gz_lc, gz_i2l, gz_l2i, gz_get, gz_ald, gz_len, gz_dup, gz_d2, gz_nar, gz_a0, gz_a1, gz_cs, gz_cv, gz_mk, gz_te, gz_j1, gz_j2, gz_jn, gz_jk, gz_jo, gz_ja, gz_sat, gz_seti, gz_seta, gz_set2, gz_inc, gz_put, gz_ast, gz_pop, gz_vs, gz_vv, gz_sup, gz_rv, gz_ri, gz_rl, gz_ra, gz_if, gz_seq, gz_sw, gz_st, gz_st2, rok_I, rok_J, rok_V, rok_Z0, rok_Z1, rok_Zi, rok_R, rok_N, bi_rok, bi_0, bi_1, fit_I, fit_J, fit_Z0, fit_Z1, fit_Zi, fit_R, fit_N, fit_aR, aty_I, aty_Z0, aty_Z1, aty_Zi, aty_J, gz_ix, List.getElem?_cons_zero, List.getElem?_cons_succ, List.getElem?_nil, List.reverse_cons, List.reverse_nil, List.nil_append, List.cons_append, List.take_succ_cons, List.take_zero, List.take_nil, List.length_cons, List.length_nil, decide_true, decide_false, decide_not, Bool.not_true, Bool.not_false, gz_nle, if_true, if_false, and_true, true_and, and_self, and_false, false_and, or_true, true_or, or_false, false_or, Bool.false_eq_true, not_true, not_false_iff, Decidable.not_not, Nat.reduceLeDiff, Nat.reduceAdd, Nat.reduceEqDiff, Nat.reduceSub, Nat.reduceLT, Nat.zero_add, reduceCtorEq, reduceIte, eq_self, i32_10, i32_01, Nat.zero_le, Nat.one_ne_zero, m, md_k, e47, k1]
          · simp only [lb_X8_passing_31, gz_sem, gz_ae, Value.category, gz_i, gz_l, gz_nu, gz_li, gz_ll, gz_la, gz_ib, gz_iz, gz_lb, gz_lz, gz_ls, gz_lc, gz_i2l, gz_l2i, gz_get, gz_ald, gz_len, gz_dup, gz_d2, gz_nar, gz_a0, gz_a1, gz_cs, gz_cv, gz_mk, gz_te, gz_j1, gz_j2, gz_jn, gz_jk, gz_jo, gz_ja, gz_sat, gz_seti, gz_seta, gz_set2, gz_inc, gz_put, gz_ast, gz_pop, gz_vs, gz_vv, gz_sup, gz_rv, gz_ri, gz_rl, gz_ra, gz_if, gz_seq, gz_sw, gz_st, gz_st2, rok_I, rok_J, rok_V, rok_Z0, rok_Z1, rok_Zi, rok_R, rok_N, bi_rok, bi_0, bi_1, fit_I, fit_J, fit_Z0, fit_Z1, fit_Zi, fit_R, fit_N, fit_aR, aty_I, aty_Z0, aty_Z1, aty_Zi, aty_J, gz_ix, List.getElem?_cons_zero, List.getElem?_cons_succ, List.getElem?_nil, List.reverse_cons, List.reverse_nil, List.nil_append, List.cons_append, List.take_succ_cons, List.take_zero, List.take_nil, List.length_cons, List.length_nil, decide_true, decide_false, decide_not, Bool.not_true, Bool.not_false, gz_nle, if_true, if_false, and_true, true_and, and_self, and_false, false_and, or_true, true_or, or_false, false_or, Bool.false_eq_true, not_true, not_false_iff, Decidable.not_not, Nat.reduceLeDiff, Nat.reduceAdd, Nat.reduceEqDiff, Nat.reduceSub, Nat.reduceLT, Nat.zero_add, reduceCtorEq, reduceIte, eq_self, i32_10, i32_01, Nat.zero_le, Nat.one_ne_zero, m, md_k, e47, k1]) (by decide)), ?_⟩
        rw [bi_f (fun z => g (z k (Nat.le_refl _) (by omega)))]; rfl
  have f0 : 8 + nI (J 0) = nI (8 + J 0) := nI_add 8 _
  have J0 := hJ 0 (by omega)
  have f2 : ¬ nI (8 + J 0) < 0 := nI_pos (by omega)
  have f3 : (nI (8 + J 0)).toNatClampNeg = 8 + J 0 := nI_clamp (by omega)
  have f4 : 8 + J 0 < 16 := by omega
  have e530 := e53 0 (by omega)
  have e240 : gz_I h 24 (8 + J 0) = nI cy := by rw [r24]; exact hcy 0 (by omega)
  have l00 : ¬ (0 : Int32) < 0 := by decide
  have c00 : (0 : Int32).toNatClampNeg = 0 := rfl
  have q03 : 0 < 3 := by decide
  have z0 : ∀ x : Int32, x + 0 = x := fun x => Int32.add_zero x
  have cw : ∀ b, (∀ k, k < K → G (b - 1) k) ↔ (∀ k, 0 ≤ k → k < K → G (b - 1) k) := fun b => ⟨fun z k _ h => z k h, fun z k h => z k (Nat.zero_le _) h⟩
  have step : ∀ t, t < cy → ∃ e : List Value, e.take 7 = ([Value.ref 15, .int (nI v), .int (nI pn), .int (nI qn), .int (nI bk), .int (gz_cnt (fun b => ∀ k, k < K → G (b - 1) k) (t + 1)), .int (nI (t + 1))] : List Value).take 7 ∧ lb_X8_passing_6 ([Value.ref 15, .int (nI v), .int (nI pn), .int (nI qn), .int (nI bk), .int (gz_cnt (fun b => ∀ k, k < K → G (b - 1) k) t), .int (nI t)].take 7) h = some (.inl (6, e, h)) := by
    intro t ht
    have k1 : nI t < nI cy := nI_lt ht (by omega)
    obtain ⟨e, l1, l2⟩ := inner t (gz_cnt (fun b => ∀ k, k < K → G (b - 1) k) t) ht K 0 (by omega)
    rw [e0] at l1
    have ce : gz_cnt (fun b => ∀ k, k < K → G (b - 1) k) (t + 1) = gz_cnt (fun b => ∀ k, k < K → G (b - 1) k) t + gz_bi (∀ k, 0 ≤ k → k < K → G t k) := by
      show _ + gz_bi (∀ k, k < K → G (t + 1 - 1) k) = _
      rw [bi_c (cw (t + 1)), Nat.add_sub_cancel]
    rw [ce]
    rcases bi_01 (∀ k, 0 ≤ k → k < K → G t k) with ⟨-, hb⟩ | ⟨-, hb⟩
    · rw [hb] at l2 ⊢
      refine ⟨[.ref 15, .int (nI v), .int (nI pn), .int (nI qn), .int (nI bk), .int (gz_cnt (fun b => ∀ k, k < K → G (b - 1) k) t + 1), .int (nI (t + 1)), .int 1], rfl, ?_⟩
      simp only [lb_X8_passing_6, gz_sem, gz_ae, Value.category, gz_i, gz_l, gz_nu, gz_li, gz_ll, gz_la, gz_ib, gz_iz, gz_lb, gz_lz, gz_ls, gz_lc, gz_i2l, gz_l2i, gz_get, gz_ald, gz_len, gz_dup, gz_d2, gz_nar, gz_a0, gz_a1, gz_cs, gz_cv, gz_mk, gz_te, gz_j1, gz_j2, gz_jn, gz_jk, gz_jo, gz_ja, gz_sat, gz_seti, gz_seta, gz_set2, gz_inc, gz_put, gz_ast, gz_pop, gz_vs, gz_vv, gz_sup, gz_rv, gz_ri, gz_rl, gz_ra, gz_if, gz_seq, gz_sw, gz_st, gz_st2, rok_I, rok_J, rok_V, rok_Z0, rok_Z1, rok_Zi, rok_R, rok_N, bi_rok, bi_0, bi_1, fit_I, fit_J, fit_Z0, fit_Z1, fit_Zi, fit_R, fit_N, fit_aR, aty_I, aty_Z0, aty_Z1, aty_Zi, aty_J, gz_ix, List.getElem?_cons_zero, List.getElem?_cons_succ, List.getElem?_nil, List.reverse_cons, List.reverse_nil, List.nil_append, List.cons_append, List.take_succ_cons, List.take_zero, List.take_nil, List.length_cons, List.length_nil, decide_true, decide_false, decide_not, Bool.not_true, Bool.not_false, gz_nle, if_true, if_false, and_true, true_and, and_self, and_false, false_and, or_true, true_or, or_false, false_or, Bool.false_eq_true, not_true, not_false_iff, Decidable.not_not, Nat.reduceLeDiff, Nat.reduceAdd, Nat.reduceEqDiff, Nat.reduceSub, Nat.reduceLT, Nat.zero_add, reduceCtorEq, reduceIte, eq_self, i32_10, i32_01, Nat.zero_le, Nat.one_ne_zero, m, md_k, l00, c00, q03, e530, f0, f2, f3, f4, e240, k1, l1, l2, nI_1]
    · rw [hb] at l2 ⊢
      refine ⟨[.ref 15, .int (nI v), .int (nI pn), .int (nI qn), .int (nI bk), .int (gz_cnt (fun b => ∀ k, k < K → G (b - 1) k) t + 0), .int (nI (t + 1)), .int 0], rfl, ?_⟩
      simp only [lb_X8_passing_6, gz_sem, gz_ae, Value.category, gz_i, gz_l, gz_nu, gz_li, gz_ll, gz_la, gz_ib, gz_iz, gz_lb, gz_lz, gz_ls, gz_lc, gz_i2l, gz_l2i, gz_get, gz_ald, gz_len, gz_dup, gz_d2, gz_nar, gz_a0, gz_a1, gz_cs, gz_cv, gz_mk, gz_te, gz_j1, gz_j2, gz_jn, gz_jk, gz_jo, gz_ja, gz_sat, gz_seti, gz_seta, gz_set2, gz_inc, gz_put, gz_ast, gz_pop, gz_vs, gz_vv, gz_sup, gz_rv, gz_ri, gz_rl, gz_ra, gz_if, gz_seq, gz_sw, gz_st, gz_st2, rok_I, rok_J, rok_V, rok_Z0, rok_Z1, rok_Zi, rok_R, rok_N, bi_rok, bi_0, bi_1, fit_I, fit_J, fit_Z0, fit_Z1, fit_Zi, fit_R, fit_N, fit_aR, aty_I, aty_Z0, aty_Z1, aty_Zi, aty_J, gz_ix, List.getElem?_cons_zero, List.getElem?_cons_succ, List.getElem?_nil, List.reverse_cons, List.reverse_nil, List.nil_append, List.cons_append, List.take_succ_cons, List.take_zero, List.take_nil, List.length_cons, List.length_nil, decide_true, decide_false, decide_not, Bool.not_true, Bool.not_false, gz_nle, if_true, if_false, and_true, true_and, and_self, and_false, false_and, or_true, true_or, or_false, false_or, Bool.false_eq_true, not_true, not_false_iff, Decidable.not_not, Nat.reduceLeDiff, Nat.reduceAdd, Nat.reduceEqDiff, Nat.reduceSub, Nat.reduceLT, Nat.zero_add, reduceCtorEq, reduceIte, eq_self, i32_10, i32_01, Nat.zero_le, Nat.one_ne_zero, m, md_k, l00, c00, q03, e530, f0, f2, f3, f4, e240, k1, l1, l2, nI_1]
  have lp := gz_seekNE (L := 6) (k := 7) (X := 179) (a := lb_X8_passing_6) (h := h) cy (fun _ => False) (fun t => [.ref 15, .int (nI v), .int (nI pn), .int (nI qn), .int (nI bk), .int (gz_cnt (fun b => ∀ k, k < K → G (b - 1) k) t), .int (nI t)]) (env' := [.ref 15, .int (nI v), .int (nI pn), .int (nI qn), .int (nI bk), .int (gz_cnt (fun b => ∀ k, k < K → G (b - 1) k) cy), .int (nI cy)]) (h' := h) (by decide) (fun t ht _ => step t ht) (by
    have k1 : ¬ nI cy < nI cy := nI_nlt (Nat.le_refl _) (by omega)
    simp only [lb_X8_passing_6, gz_sem, gz_ae, Value.category, gz_i, gz_l, gz_nu, gz_li, gz_ll, gz_la, gz_ib, gz_iz, gz_lb, gz_lz, gz_ls, gz_lc, gz_i2l, gz_l2i, gz_get, gz_ald, gz_len, gz_dup, gz_d2, gz_nar, gz_a0, gz_a1, gz_cs, gz_cv, gz_mk, gz_te, gz_j1, gz_j2, gz_jn, gz_jk, gz_jo, gz_ja, gz_sat, gz_seti, gz_seta, gz_set2, gz_inc, gz_put, gz_ast, gz_pop, gz_vs, gz_vv, gz_sup, gz_rv, gz_ri, gz_rl, gz_ra, gz_if, gz_seq, gz_sw, gz_st, gz_st2, rok_I, rok_J, rok_V, rok_Z0, rok_Z1, rok_Zi, rok_R, rok_N, bi_rok, bi_0, bi_1, fit_I, fit_J, fit_Z0, fit_Z1, fit_Zi, fit_R, fit_N, fit_aR, aty_I, aty_Z0, aty_Z1, aty_Zi, aty_J, gz_ix, List.getElem?_cons_zero, List.getElem?_cons_succ, List.getElem?_nil, List.reverse_cons, List.reverse_nil, List.nil_append, List.cons_append, List.take_succ_cons, List.take_zero, List.take_nil, List.length_cons, List.length_nil, decide_true, decide_false, decide_not, Bool.not_true, Bool.not_false, gz_nle, if_true, if_false, and_true, true_and, and_self, and_false, false_and, or_true, true_or, or_false, false_or, Bool.false_eq_true, not_true, not_false_iff, Decidable.not_not, Nat.reduceLeDiff, Nat.reduceAdd, Nat.reduceEqDiff, Nat.reduceSub, Nat.reduceLT, Nat.zero_add, reduceCtorEq, reduceIte, eq_self, i32_10, i32_01, Nat.zero_le, Nat.one_ne_zero, m, md_k, l00, c00, q03, e530, f0, f2, f3, f4, e240, k1]) (fun _ _ z => z)
  have z1 : gz_cnt (fun b => ∀ k, k < K → G (b - 1) k) 0 = 0 := rfl
  rw [z1, e0] at lp
  simp only [se_X8_passing, sm_X8_passing, gz_sem, gz_ae, Value.category, gz_i, gz_l, gz_nu, gz_li, gz_ll, gz_la, gz_ib, gz_iz, gz_lb, gz_lz, gz_ls, gz_lc, gz_i2l, gz_l2i, gz_get, gz_ald, gz_len, gz_dup, gz_d2, gz_nar, gz_a0, gz_a1, gz_cs, gz_cv, gz_mk, gz_te, gz_j1, gz_j2, gz_jn, gz_jk, gz_jo, gz_ja, gz_sat, gz_seti, gz_seta, gz_set2, gz_inc, gz_put, gz_ast, gz_pop, gz_vs, gz_vv, gz_sup, gz_rv, gz_ri, gz_rl, gz_ra, gz_if, gz_seq, gz_sw, gz_st, gz_st2, rok_I, rok_J, rok_V, rok_Z0, rok_Z1, rok_Zi, rok_R, rok_N, bi_rok, bi_0, bi_1, fit_I, fit_J, fit_Z0, fit_Z1, fit_Zi, fit_R, fit_N, fit_aR, aty_I, aty_Z0, aty_Z1, aty_Zi, aty_J, gz_ix, List.getElem?_cons_zero, List.getElem?_cons_succ, List.getElem?_nil, List.reverse_cons, List.reverse_nil, List.nil_append, List.cons_append, List.take_succ_cons, List.take_zero, List.take_nil, List.length_cons, List.length_nil, decide_true, decide_false, decide_not, Bool.not_true, Bool.not_false, gz_nle, if_true, if_false, and_true, true_and, and_self, and_false, false_and, or_true, true_or, or_false, false_or, Bool.false_eq_true, not_true, not_false_iff, Decidable.not_not, Nat.reduceLeDiff, Nat.reduceAdd, Nat.reduceEqDiff, Nat.reduceSub, Nat.reduceLT, Nat.zero_add, reduceCtorEq, reduceIte, eq_self, i32_10, i32_01, Nat.zero_le, Nat.one_ne_zero, lp]
