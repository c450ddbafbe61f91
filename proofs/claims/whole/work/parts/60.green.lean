theorem neg_bt (x : Int32) : x < 0 ↔ bt x 31 = true := by
  rw [Int32.lt_iff_toInt_lt]
  show x.toBitVec.toInt < 0 ↔ _
  unfold bt
  rw [show x.toBitVec.getLsbD 31 = x.toBitVec.msb from (BitVec.msb_eq_getLsbD_last x.toBitVec).symm, BitVec.msb_eq_toInt, decide_eq_true_eq]
theorem xor_neg {x y : Int32} (hy : ¬ y < 0) : x ^^^ y < 0 ↔ x < 0 := by
  rw [neg_bt, neg_bt, b_xor]
  rw [neg_bt, Bool.not_eq_true] at hy
  rw [hy]
  simp
/-- the remainder from 0 on -/
def gz_fm (x : Int32) (c : Nat) : Nat := (x.toInt % (c : Int)).toNat
theorem fm_lt (x : Int32) {c : Nat} (hc : 0 < c) : gz_fm x c < c := by
  unfold gz_fm
  have h1 := Int.emod_nonneg x.toInt (b := (c : Int)) (by omega)
  have h2 := Int.emod_lt_of_pos x.toInt (b := (c : Int)) (by omega)
  omega
theorem fm_int (x : Int32) {c : Nat} (hc : 0 < c) : ((gz_fm x c : Nat) : Int) = x.toInt % (c : Int) := by
  unfold gz_fm
  exact Int.toNat_of_nonneg (Int.emod_nonneg _ (by omega))
theorem tm_em {a : Int} {c : Int} (hc : 0 < c) : (0 ≤ a → a.tmod c = a % c) ∧ (a < 0 → (a.tmod c = 0 → a % c = 0) ∧ (a.tmod c ≠ 0 → a % c = a.tmod c + c)) := by
  refine ⟨fun h => Int.tmod_eq_emod_of_nonneg h, fun h => ?_⟩
  have hb := tmod_bounds (a := a) hc
  have hle : a.tmod c ≤ 0 := by
    have := Int.tmod_nonneg (a := -a) c (by omega)
    rw [Int.neg_tmod] at this
    omega
  have hd : a % c = a.tmod c % c := by
    conv => lhs; rw [← Int.mul_tdiv_add_tmod a c]
    rw [Int.add_comm, Int.add_mul_emod_self_left]
  constructor
  · intro q; rw [hd, q]; exact Int.zero_emod c
  · intro q
    rw [hd, ← Int.add_emod_right]
    exact Int.emod_eq_of_lt (by omega) (by omega)
set_option maxHeartbeats 4000000 in
theorem st_fm (x : Int32) (c : Nat) (h0 : 0 < c) (h1 : c < 2 ^ 30) (h : gz_H) : se_J9_floorMod_7cf53 [.int x, .int (nI c)] h = some (some (.int (nI (gz_fm x c))), h) := by
  have y0 : ¬ nI c = 0 := nI_ne0 h0 (by omega)
  have yp : ¬ nI c < 0 := nI_pos (by omega)
  have hr : (x - x / nI c * nI c).toInt = x.toInt.tmod (c : Int) := by rw [rem_toInt, nI_toInt (by omega)]
  have hf := fm_int x h0
  have hfl := fm_lt x h0
  have hn : (nI (gz_fm x c)).toInt = ((gz_fm x c : Nat) : Int) := nI_toInt (by omega)
  obtain ⟨t1, t2⟩ := tm_em (a := x.toInt) (c := (c : Int)) (by omega)
  have xs := xor_neg (x := x) yp
  have x0 : x < 0 ↔ x.toInt < 0 := by rw [Int32.lt_iff_toInt_lt]; exact Iff.rfl
  by_cases hx : x < 0
  · have hx' := x0.mp hx
    obtain ⟨t3, t4⟩ := t2 hx'
    have hxx := xs.mpr hx
    by_cases hz : x - x / nI c * nI c = 0
    · have e : nI (gz_fm x c) = 0 := by
        rw [hz] at hr
        have := t3 hr.symm
        apply Int32.toInt_inj.mp
        rw [hn, hf, this]
        rfl
      simp only [se_J9_floorMod_7cf53, sm_J9_floorMod_7cf53, gz_sem, gz_ae, Value.category, gz_i, gz_l, gz_nu, gz_li, gz_ll, gz_la, gz_ib, gz_iz, gz_lb, gz_lz, gz_ls, gz_lc, gz_i2l, gz_l2i, gz_get, gz_ald, gz_len, gz_dup, gz_d2, gz_nar, gz_a0, gz_a1, gz_cs, gz_cv, gz_mk, gz_te, gz_j1, gz_j2, gz_jn, gz_jk, gz_jo, gz_ja, gz_sat, gz_seti, gz_seta, gz_set2, gz_inc, gz_put, gz_ast, gz_pop, gz_vs, gz_vv, gz_sup, gz_rv, gz_ri, gz_rl, gz_ra, gz_if, gz_seq, gz_sw, gz_st, gz_st2, rok_I, rok_J, rok_V, rok_Z0, rok_Z1, rok_Zi, rok_R, rok_N, bi_rok, bi_0, bi_1, fit_I, fit_J, fit_Z0, fit_Z1, fit_Zi, fit_R, fit_N, fit_aR, aty_I, aty_Z0, aty_Z1, aty_Zi, aty_J, gz_ix, List.getElem?_cons_zero, List.getElem?_cons_succ, List.getElem?_nil, List.reverse_cons, List.reverse_nil, List.nil_append, List.cons_append, List.take_succ_cons, List.take_zero, List.take_nil, List.length_cons, List.length_nil, decide_true, decide_false, decide_not, Bool.not_true, Bool.not_false, gz_nle, if_true, if_false, and_true, true_and, and_self, and_false, false_and, or_true, true_or, or_false, false_or, Bool.false_eq_true, not_true, not_false_iff, Decidable.not_not, Nat.reduceLeDiff, Nat.reduceAdd, Nat.reduceEqDiff, Nat.reduceSub, Nat.reduceLT, Nat.zero_add, reduceCtorEq, reduceIte, eq_self, i32_10, i32_01, Nat.zero_le, Nat.one_ne_zero, y0, hxx, hz, e]
    · have e : x - x / nI c * nI c + nI c = nI (gz_fm x c) := by
        have q : x.toInt.tmod (c : Int) ≠ 0 := fun q => hz (by apply Int32.toInt_inj.mp; rw [hr, q]; rfl)
        have := t4 q
        apply Int32.toInt_inj.mp
        rw [hn, hf, this, Int32.toInt_add, hr, nI_toInt (by omega)]
        have hb := tmod_bounds (a := x.toInt) (M := (c : Int)) (by omega)
        rw [Int.bmod_eq_of_le (by omega) (by omega)]
      simp only [se_J9_floorMod_7cf53, sm_J9_floorMod_7cf53, gz_sem, gz_ae, Value.category, gz_i, gz_l, gz_nu, gz_li, gz_ll, gz_la, gz_ib, gz_iz, gz_lb, gz_lz, gz_ls, gz_lc, gz_i2l, gz_l2i, gz_get, gz_ald, gz_len, gz_dup, gz_d2, gz_nar, gz_a0, gz_a1, gz_cs, gz_cv, gz_mk, gz_te, gz_j1, gz_j2, gz_jn, gz_jk, gz_jo, gz_ja, gz_sat, gz_seti, gz_seta, gz_set2, gz_inc, gz_put, gz_ast, gz_pop, gz_vs, gz_vv, gz_sup, gz_rv, gz_ri, gz_rl, gz_ra, gz_if, gz_seq, gz_sw, gz_st, gz_st2, rok_I, rok_J, rok_V, rok_Z0, rok_Z1, rok_Zi, rok_R, rok_N, bi_rok, bi_0, bi_1, fit_I, fit_J, fit_Z0, fit_Z1, fit_Zi, fit_R, fit_N, fit_aR, aty_I, aty_Z0, aty_Z1, aty_Zi, aty_J, gz_ix, List.getElem?_cons_zero, List.getElem?_cons_succ, List.getElem?_nil, List.reverse_cons, List.reverse_nil, List.nil_append, List.cons_append, List.take_succ_cons, List.take_zero, List.take_nil, List.length_cons, List.length_nil, decide_true, decide_false, decide_not, Bool.not_true, Bool.not_false, gz_nle, if_true, if_false, and_true, true_and, and_self, and_false, false_and, or_true, true_or, or_false, false_or, Bool.false_eq_true, not_true, not_false_iff, Decidable.not_not, Nat.reduceLeDiff, Nat.reduceAdd, Nat.reduceEqDiff, Nat.reduceSub, Nat.reduceLT, Nat.zero_add, reduceCtorEq, reduceIte, eq_self, i32_10, i32_01, Nat.zero_le, Nat.one_ne_zero, y0, hxx, hz, e]
  · have hxx : ¬ x ^^^ nI c < 0 := fun q => hx (xs.mp q)
    have e : x - x / nI c * nI c = nI (gz_fm x c) := by
      apply Int32.toInt_inj.mp
      rw [hr, hn, hf]
      exact t1 (by rw [x0] at hx; omega)
    simp only [se_J9_floorMod_7cf53, sm_J9_floorMod_7cf53, gz_sem, gz_ae, Value.category, gz_i, gz_l, gz_nu, gz_li, gz_ll, gz_la, gz_ib, gz_iz, gz_lb, gz_lz, gz_ls, gz_lc, gz_i2l, gz_l2i, gz_get, gz_ald, gz_len, gz_dup, gz_d2, gz_nar, gz_a0, gz_a1, gz_cs, gz_cv, gz_mk, gz_te, gz_j1, gz_j2, gz_jn, gz_jk, gz_jo, gz_ja, gz_sat, gz_seti, gz_seta, gz_set2, gz_inc, gz_put, gz_ast, gz_pop, gz_vs, gz_vv, gz_sup, gz_rv, gz_ri, gz_rl, gz_ra, gz_if, gz_seq, gz_sw, gz_st, gz_st2, rok_I, rok_J, rok_V, rok_Z0, rok_Z1, rok_Zi, rok_R, rok_N, bi_rok, bi_0, bi_1, fit_I, fit_J, fit_Z0, fit_Z1, fit_Zi, fit_R, fit_N, fit_aR, aty_I, aty_Z0, aty_Z1, aty_Zi, aty_J, gz_ix, List.getElem?_cons_zero, List.getElem?_cons_succ, List.getElem?_nil, List.reverse_cons, List.reverse_nil, List.nil_append, List.cons_append, List.take_succ_cons, List.take_zero, List.take_nil, List.length_cons, List.length_nil, decide_true, decide_false, decide_not, Bool.not_true, Bool.not_false, gz_nle, if_true, if_false, and_true, true_and, and_self, and_false, false_and, or_true, true_or, or_false, false_or, Bool.false_eq_true, not_true, not_false_iff, Decidable.not_not, Nat.reduceLeDiff, Nat.reduceAdd, Nat.reduceEqDiff, Nat.reduceSub, Nat.reduceLT, Nat.zero_add, reduceCtorEq, reduceIte, eq_self, i32_10, i32_01, Nat.zero_le, Nat.one_ne_zero, y0, hxx, e]
/-- green, in the reference, of plan p at a second -/
def md_g (h : gz_H) (p c i : Nat) (x : Int32) : Prop := bt (gz_I h 32 (90 * p + gz_fm x c)) i = true
set_option maxHeartbeats 4000000 in
theorem st_X8_isGreen (h : gz_H) (m : md h) (p c i : Nat) (x : Int32) (hp : p < 16) (hi : i < 8) (hc : gz_I h 24 p = nI c) (h0 : 0 < c) (h9 : c ≤ 90) : se_X8_isGreen [.ref 15, .int (nI p), .int (nI i), .int x] h = some (some (.int (gz_bi (md_g h p c i x))), h) := by
  have c2 : ¬ nI p < 0 := nI_pos (by omega)
  have c3 : (nI p).toNatClampNeg = p := nI_clamp (by omega)
  have hf := fm_lt x h0
  have d0 : 90 * nI p = nI (90 * p) := pk_mul 90 p
  have d1 : nI (90 * p) + nI (gz_fm x c) = nI (90 * p + gz_fm x c) := nI_add _ _
  have d2 : ¬ nI (90 * p + gz_fm x c) < 0 := nI_pos (by omega)
  have d3 : (nI (90 * p + gz_fm x c)).toNatClampNeg = 90 * p + gz_fm x c := nI_clamp (by omega)
  have d4 : 90 * p + gz_fm x c < 1440 := by omega
  have b1 := bt_t (i := i) (by omega) (gz_I h 32 (90 * p + gz_fm x c))
  have fm := st_fm x c h0 (by omega)
  by_cases q : bt (gz_I h 32 (90 * p + gz_fm x c)) i = true
  · have e : gz_bi (md_g h p c i x) = 1 := bi_t q
    simp only [se_X8_isGreen, sm_X8_isGreen, gz_sem, gz_ae, Value.category, gz_i, gz_l, gz_nu, gz_li, gz_ll, gz_la, gz_ib, gz_iz, gz_lb, gz_lz, gz_ls, gz_lc, gz_i2l, gz_l2i, gz_get, gz_ald, gz_len, gz_dup, gz_d2, gz_nar, gz_a0, gz_a1, gz_cs, gz_cv, gz_mk, gz_te, gz_j1, gz_j2, gz_jn, gz_jk, gz_jo, gz_ja, gz_sat, gz_seti, gz_seta, gz_set2, gz_inc, gz_put, gz_ast, gz_pop, gz_vs, gz_vv, gz_sup, gz_rv, gz_ri, gz_rl, gz_ra, gz_if, gz_seq, gz_sw, gz_st, gz_st2, rok_I, rok_J, rok_V, rok_Z0, rok_Z1, rok_Zi, rok_R, rok_N, bi_rok, bi_0, bi_1, fit_I, fit_J, fit_Z0, fit_Z1, fit_Zi, fit_R, fit_N, fit_aR, aty_I, aty_Z0, aty_Z1, aty_Zi, aty_J, gz_ix, List.getElem?_cons_zero, List.getElem?_cons_succ, List.getElem?_nil, List.reverse_cons, List.reverse_nil, List.nil_append, List.cons_append, List.take_succ_cons, List.take_zero, List.take_nil, List.length_cons, List.length_nil, decide_true, decide_false, decide_not, Bool.not_true, Bool.not_false, gz_nle, if_true, if_false, and_true, true_and, and_self, and_false, false_and, or_true, true_or, or_false, false_or, Bool.false_eq_true, not_true, not_false_iff, Decidable.not_not, Nat.reduceLeDiff, Nat.reduceAdd, Nat.reduceEqDiff, Nat.reduceSub, Nat.reduceLT, Nat.zero_add, reduceCtorEq, reduceIte, eq_self, i32_10, i32_01, Nat.zero_le, Nat.one_ne_zero, m, md_k, c2, c3, hp, hc, fm, d0, d1, d2, d3, d4, b1, q, e]
  · have e : gz_bi (md_g h p c i x) = 0 := bi_f q
    simp only [se_X8_isGreen, sm_X8_isGreen, gz_sem, gz_ae, Value.category, gz_i, gz_l, gz_nu, gz_li, gz_ll, gz_la, gz_ib, gz_iz, gz_lb, gz_lz, gz_ls, gz_lc, gz_i2l, gz_l2i, gz_get, gz_ald, gz_len, gz_dup, gz_d2, gz_nar, gz_a0, gz_a1, gz_cs, gz_cv, gz_mk, gz_te, gz_j1, gz_j2, gz_jn, gz_jk, gz_jo, gz_ja, gz_sat, gz_seti, gz_seta, gz_set2, gz_inc, gz_put, gz_ast, gz_pop, gz_vs, gz_vv, gz_sup, gz_rv, gz_ri, gz_rl, gz_ra, gz_if, gz_seq, gz_sw, gz_st, gz_st2, rok_I, rok_J, rok_V, rok_Z0, rok_Z1, rok_Zi, rok_R, rok_N, bi_rok, bi_0, bi_1, fit_I, fit_J, fit_Z0, fit_Z1, fit_Zi, fit_R, fit_N, fit_aR, aty_I, aty_Z0, aty_Z1, aty_Zi, aty_J, gz_ix, List.getElem?_cons_zero, List.getElem?_cons_succ, List.getElem?_nil, List.reverse_cons, List.reverse_nil, List.nil_append, List.cons_append, List.take_succ_cons, List.take_zero, List.take_nil, List.length_cons, List.length_nil, decide_true, decide_false, decide_not, Bool.not_true, Bool.not_false, gz_nle, if_true, if_false, and_true, true_and, and_self, and_false, false_and, or_true, true_or, or_false, false_or, Bool.false_eq_true, not_true, not_false_iff, Decidable.not_not, Nat.reduceLeDiff, Nat.reduceAdd, Nat.reduceEqDiff, Nat.reduceSub, Nat.reduceLT, Nat.zero_add, reduceCtorEq, reduceIte, eq_self, i32_10, i32_01, Nat.zero_le, Nat.one_ne_zero, m, md_k, c2, c3, hp, hc, fm, d0, d1, d2, d3, d4, b1, q, e]
set_option maxHeartbeats 4000000 in
theorem st_X2_placeAt (h : gz_H) (a n c : Nat) (k : pc h a n) (x : Int32) (hc : gz_I h a 0 = nI c) (h0 : 0 < c) (h9 : c ≤ 90) : se_X2_placeAt [.ref a, .int x] h = some (some (.int (nI (gz_fm (x - gz_I h a 1) c))), h) := by
  have fm := st_fm (x - gz_I h a 1) c h0 (by omega)
  simp only [se_X2_placeAt, sm_X2_placeAt, gz_sem, gz_ae, Value.category, gz_i, gz_l, gz_nu, gz_li, gz_ll, gz_la, gz_ib, gz_iz, gz_lb, gz_lz, gz_ls, gz_lc, gz_i2l, gz_l2i, gz_get, gz_ald, gz_len, gz_dup, gz_d2, gz_nar, gz_a0, gz_a1, gz_cs, gz_cv, gz_mk, gz_te, gz_j1, gz_j2, gz_jn, gz_jk, gz_jo, gz_ja, gz_sat, gz_seti, gz_seta, gz_set2, gz_inc, gz_put, gz_ast, gz_pop, gz_vs, gz_vv, gz_sup, gz_rv, gz_ri, gz_rl, gz_ra, gz_if, gz_seq, gz_sw, gz_st, gz_st2, rok_I, rok_J, rok_V, rok_Z0, rok_Z1, rok_Zi, rok_R, rok_N, bi_rok, bi_0, bi_1, fit_I, fit_J, fit_Z0, fit_Z1, fit_Zi, fit_R, fit_N, fit_aR, aty_I, aty_Z0, aty_Z1, aty_Zi, aty_J, gz_ix, List.getElem?_cons_zero, List.getElem?_cons_succ, List.getElem?_nil, List.reverse_cons, List.reverse_nil, List.nil_append, List.cons_append, List.take_succ_cons, List.take_zero, List.take_nil, List.length_cons, List.length_nil, decide_true, decide_false, decide_not, Bool.not_true, Bool.not_false, gz_nle, if_true, if_false, and_true, true_and, and_self, and_false, false_and, or_true, true_or, or_false, false_or, Bool.false_eq_true, not_true, not_false_iff, Decidable.not_not, Nat.reduceLeDiff, Nat.reduceAdd, Nat.reduceEqDiff, Nat.reduceSub, Nat.reduceLT, Nat.zero_add, reduceCtorEq, reduceIte, eq_self, i32_10, i32_01, Nat.zero_le, Nat.one_ne_zero, k, hc, fm]
set_option maxHeartbeats 4000000 in
theorem st_X2_shows (h : gz_H) (a n c i : Nat) (k : pc h a n) (x : Int32) (hi : i < 8) (hc : gz_I h a 0 = nI c) (h0 : 0 < c) (h9 : c ≤ 90) : se_X2_shows [.ref a, .int (nI i), .int x] h = some (some (.int (gz_bi (bt (gz_I h (a + 5) (gz_fm (x - gz_I h a 1) c)) i = true))), h) := by
  have pl := st_X2_placeAt h a n c k x hc h0 h9
  have hf := fm_lt (x - gz_I h a 1) h0
  have d2 : ¬ nI (gz_fm (x - gz_I h a 1) c) < 0 := nI_pos (by omega)
  have d3 : (nI (gz_fm (x - gz_I h a 1) c)).toNatClampNeg = gz_fm (x - gz_I h a 1) c := nI_clamp (by omega)
  have d4 : gz_fm (x - gz_I h a 1) c < 90 := by omega
  have b1 := bt_t (i := i) (by omega) (gz_I h (a + 5) (gz_fm (x - gz_I h a 1) c))
  by_cases q : bt (gz_I h (a + 5) (gz_fm (x - gz_I h a 1) c)) i = true
  · have e := bi_t q
    simp only [se_X2_shows, sm_X2_shows, gz_sem, gz_ae, Value.category, gz_i, gz_l, gz_nu, gz_li, gz_ll, gz_la, gz_ib, gz_iz, gz_lb, gz_lz, gz_ls, gz_lc, gz_i2l, gz_l2i, gz_get, gz_ald, gz_len, gz_dup, gz_d2, gz_nar, gz_a0, gz_a1, gz_cs, gz_cv, gz_mk, gz_te, gz_j1, gz_j2, gz_jn, gz_jk, gz_jo, gz_ja, gz_sat, gz_seti, gz_seta, gz_set2, gz_inc, gz_put, gz_ast, gz_pop, gz_vs, gz_vv, gz_sup, gz_rv, gz_ri, gz_rl, gz_ra, gz_if, gz_seq, gz_sw, gz_st, gz_st2, rok_I, rok_J, rok_V, rok_Z0, rok_Z1, rok_Zi, rok_R, rok_N, bi_rok, bi_0, bi_1, fit_I, fit_J, fit_Z0, fit_Z1, fit_Zi, fit_R, fit_N, fit_aR, aty_I, aty_Z0, aty_Z1, aty_Zi, aty_J, gz_ix, List.getElem?_cons_zero, List.getElem?_cons_succ, List.getElem?_nil, List.reverse_cons, List.reverse_nil, List.nil_append, List.cons_append, List.take_succ_cons, List.take_zero, List.take_nil, List.length_cons, List.length_nil, decide_true, decide_false, decide_not, Bool.not_true, Bool.not_false, gz_nle, if_true, if_false, and_true, true_and, and_self, and_false, false_and, or_true, true_or, or_false, false_or, Bool.false_eq_true, not_true, not_false_iff, Decidable.not_not, Nat.reduceLeDiff, Nat.reduceAdd, Nat.reduceEqDiff, Nat.reduceSub, Nat.reduceLT, Nat.zero_add, reduceCtorEq, reduceIte, eq_self, i32_10, i32_01, Nat.zero_le, Nat.one_ne_zero, k, pl, d2, d3, d4, b1, q, e]
    rw [bi_t trivial]
  · have e := bi_f q
    simp only [Bool.not_eq_true] at q
    simp only [se_X2_shows, sm_X2_shows, gz_sem, gz_ae, Value.category, gz_i, gz_l, gz_nu, gz_li, gz_ll, gz_la, gz_ib, gz_iz, gz_lb, gz_lz, gz_ls, gz_lc, gz_i2l, gz_l2i, gz_get, gz_ald, gz_len, gz_dup, gz_d2, gz_nar, gz_a0, gz_a1, gz_cs, gz_cv, gz_mk, gz_te, gz_j1, gz_j2, gz_jn, gz_jk, gz_jo, gz_ja, gz_sat, gz_seti, gz_seta, gz_set2, gz_inc, gz_put, gz_ast, gz_pop, gz_vs, gz_vv, gz_sup, gz_rv, gz_ri, gz_rl, gz_ra, gz_if, gz_seq, gz_sw, gz_st, gz_st2, rok_I, rok_J, rok_V, rok_Z0, rok_Z1, rok_Zi, rok_R, rok_N, bi_rok, bi_0, bi_1, fit_I, fit_J, fit_Z0, fit_Z1, fit_Zi, fit_R, fit_N, fit_aR, aty_I, aty_Z0, aty_Z1, aty_Zi, aty_J, gz_ix, List.getElem?_cons_zero, List.getElem?_cons_succ, List.getElem?_nil, List.reverse_cons, List.reverse_nil, List.nil_append, List.cons_append, List.take_succ_cons, List.take_zero, List.take_nil, List.length_cons, List.length_nil, decide_true, decide_false, decide_not, Bool.not_true, Bool.not_false, gz_nle, if_true, if_false, and_true, true_and, and_self, and_false, false_and, or_true, true_or, or_false, false_or, Bool.false_eq_true, not_true, not_false_iff, Decidable.not_not, Nat.reduceLeDiff, Nat.reduceAdd, Nat.reduceEqDiff, Nat.reduceSub, Nat.reduceLT, Nat.zero_add, reduceCtorEq, reduceIte, eq_self, i32_10, i32_01, Nat.zero_le, Nat.one_ne_zero, k, pl, d2, d3, d4, b1, q]
    rw [bi_f (fun z => z)]
