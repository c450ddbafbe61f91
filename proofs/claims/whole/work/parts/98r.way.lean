/-- only the way's cells change -/
def YW (hc hc' : gz_H) : Prop := hc'.1 = hc.1 ∧ (∀ x, gz_k hc' x = gz_k hc x) ∧ (∀ x, x < 9 ∨ 14 < x → sm hc hc' x) ∧ yc hc'
def RW (hr hr' : gz_H) : Prop := md hr' ∧ fr7 hr hr' ∧ ∀ b i, b ≠ 53 → b ≠ 54 → ¬ (b = 15 ∧ i = 47) → gz_v hr' b i = gz_v hr b i
theorem IV_yw {g : gz_G} {T : Nat} {P : Nat → Nat} {hc hc' hr : gz_H} (H : IV g T P hc hr) (w : YW hc hc') : IV g T P hc' hr := by
  obtain ⟨n, k, e, y⟩ := w
  have e0 := e 0 (by omega)
  have F := H.1
  refine IV_fix H n (fun x hx => ?_) (fun x _ => k x) (fun f _ => by rw [e0.1]) (fun f h1 h2 => by rw [sm_I e0, e0.1]; exact IV_vi H f (by omega) h2) (fun i => by rw [(e 1 (by omega)).1]) ?_ ?_ y (IV_md H) (fun _ _ => rfl) (fun _ _ _ => rfl) ?_
  · exact e x (by omega)
  · obtain ⟨w1, w2, w3⟩ := F.2.2.1
    have a2 := e 2 (by omega)
    have a3 := e 3 (by omega)
    refine ⟨by omega, by omega, ?_⟩
    simp only [Nat.reduceAdd, sm_I a2, sm_I a3, a2.1, a2.2, a3.1, a3.2]
    exact w3
  · have a4 := e 4 (by omega)
    obtain ⟨w1, w2, w3, w4, w5, w6, w7⟩ := F.2.2.2.1
    simp only [ac, a4.1, sm_J a4]
    exact ⟨w1, w2, w3, w4, w5, w6, fun x i h1 h2 => by rw [sm_I (e x (by omega)), (e x (by omega)).1]; exact w7 x i h1 h2⟩
  · have W := H.2.1
    unfold WV at *
    rw [e0.1]
    exact W
theorem IV_rw {g : gz_G} {T : Nat} {P : Nat → Nat} {hc hr hr' : gz_H} (H : IV g T P hc hr) (w : RW hr hr') : IV g T P hc hr' := by
  obtain ⟨m, f, r⟩ := w
  refine IV_fix H rfl (fun x _ => sm_rf _ _) (fun _ _ => rfl) (fun _ _ => rfl) (fun f h1 h2 => IV_vi H f (by omega) h2) (fun _ => rfl) H.1.2.2.1 H.1.2.2.2.1 H.1.2.2.2.2.1 m (fun f hf => r _ _ (by omega) (by omega) (by omega)) (fun x i hx => r _ _ (by omega) (by omega) (by omega)) ?_
  have W := H.2.1
  unfold WV at *
  rw [vI (r 15 18 (by omega) (by omega) (by omega)), vI (r 15 19 (by omega) (by omega) (by omega)), vI (r 15 20 (by omega) (by omega) (by omega)), vI (r 15 21 (by omega) (by omega) (by omega))]
  exact W
theorem YW_rf {h : gz_H} (y : yc h) : YW h h := ⟨rfl, fun _ => rfl, fun _ _ => sm_rf _ _, y⟩
theorem YW_tr {h h' h'' : gz_H} (a : YW h h') (b : YW h' h'') : YW h h'' := ⟨b.1.trans a.1, fun x => (b.2.1 x).trans (a.2.1 x), fun x hx => ⟨(b.2.2.1 x hx).1.trans (a.2.2.1 x hx).1, (b.2.2.1 x hx).2.trans (a.2.2.1 x hx).2⟩, b.2.2.2⟩
theorem YW_8 {h h' : gz_H} (w : YW h h') : fr8 h h' := ⟨by rw [w.1]; exact Nat.le_refl _, fun x h1 h2 => w.2.2.1 x (by omega)⟩
theorem yc_I {h : gz_H} (y : yc h) (b i : Nat) (x : Int32) (hb : (b = 9 ∧ 5 ≤ i ∧ i ≤ 9) ∨ b = 11 ∨ b = 12) : yc (gz_set h b i (.int x)) := by
  obtain ⟨w1, w2, w3, w4, w5, w6, w7, w8⟩ := y
  have o : ∀ b' i', ¬ (b' = b ∧ i' = i) → gz_v (gz_set h b i (.int x)) b' i' = gz_v h b' i' := fun b' i' n => by rw [gz_v_set, if_neg n]
  have ty : ∀ b' i', gz_v h b' i' = .int (gz_I h b' i') → gz_v (gz_set h b i (.int x)) b' i' = .int (gz_I (gz_set h b i (.int x)) b' i') := fun b' i' hx => by
    rw [gz_v_set, I_set]
    by_cases q : b' = b ∧ i' = i
    · rw [if_pos q, if_pos q]
    · rw [if_neg q, if_neg q]; exact hx
  refine ⟨by rw [o _ _ (by omega)]; exact w1, by rw [o _ _ (by omega)]; exact w2, by rw [o _ _ (by omega)]; exact w3, by rw [o _ _ (by omega)]; exact w4, by rw [o _ _ (by omega)]; exact w5, fun f h1 h2 => ty _ _ (w6 f h1 h2), fun x' i' h1 h2 => ty _ _ (w7 x' i' h1 h2), fun x' i' h1 h2 => ?_⟩
  rw [J_seto _ _ _ _ _ _ (by omega), o _ _ (by omega)]; exact w8 x' i' h1 h2
theorem yc_10 {h : gz_H} (y : yc h) (i : Nat) (v : Value) : yc (gz_set h 10 i v) := by
  obtain ⟨w1, w2, w3, w4, w5, w6, w7, w8⟩ := y
  have o : ∀ b' i', ¬ (b' = 10 ∧ i' = i) → gz_v (gz_set h 10 i v) b' i' = gz_v h b' i' := fun b' i' n => by rw [gz_v_set, if_neg n]
  refine ⟨by rw [o _ _ (by omega)]; exact w1, by rw [o _ _ (by omega)]; exact w2, by rw [o _ _ (by omega)]; exact w3, by rw [o _ _ (by omega)]; exact w4, by rw [o _ _ (by omega)]; exact w5, fun f h1 h2 => ?_, fun x' i' h1 h2 => ?_, fun x' i' h1 h2 => ?_⟩
  · rw [I_seto _ _ _ _ _ _ (by omega), o _ _ (by omega)]; exact w6 f h1 h2
  · rw [I_seto _ _ _ _ _ _ (by omega), o _ _ (by omega)]; exact w7 x' i' h1 h2
  · rw [J_seto _ _ _ _ _ _ (by omega), o _ _ (by omega)]; exact w8 x' i' h1 h2
def ad6 (h : gz_H) (s q : Nat) (i0 i1 t0 t1 : Int32) : gz_H := gz_set (gz_set (gz_set (gz_set (gz_set (gz_set h 10 s (.ref q)) 11 s (.int i0)) 11 (3 + s) (.int i1)) 12 s (.int t0)) 12 (3 + s) (.int t1)) 9 5 (.int (nI (s + 1)))
theorem ad6_yw {h : gz_H} (y : yc h) (s q : Nat) (i0 i1 t0 t1 : Int32) : YW h (ad6 h s q i0 i1 t0 t1) := ⟨rfl, fun _ => rfl, fun x hx => sm_set (sm_set (sm_set (sm_set (sm_set (sm_set (sm_rf _ _) (by omega)) (by omega)) (by omega)) (by omega)) (by omega)) (by omega), yc_I (yc_I (yc_I (yc_I (yc_I (yc_10 y _ _) _ _ _ (by omega)) _ _ _ (by omega)) _ _ _ (by omega)) _ _ _ (by omega)) _ _ _ (by omega)⟩
theorem ad6_v {h : gz_H} {s q : Nat} {i0 i1 t0 t1 : Int32} (hs : s < 3) : gz_I (ad6 h s q i0 i1 t0 t1) 9 5 = nI (s + 1) ∧ gz_v (ad6 h s q i0 i1 t0 t1) 10 s = .ref q ∧ gz_I (ad6 h s q i0 i1 t0 t1) 11 s = i0 ∧ gz_I (ad6 h s q i0 i1 t0 t1) 11 (3 + s) = i1 ∧ gz_I (ad6 h s q i0 i1 t0 t1) 12 s = t0 ∧ gz_I (ad6 h s q i0 i1 t0 t1) 12 (3 + s) = t1 := by
  unfold ad6
  refine ⟨?_, ?_, ?_, ?_, ?_, ?_⟩
  · rw [I_set, if_pos ⟨rfl, rfl⟩]
  · rw [gz_v_set, if_neg (by omega), gz_v_set, if_neg (by omega), gz_v_set, if_neg (by omega), gz_v_set, if_neg (by omega), gz_v_set, if_neg (by omega), gz_v_set, if_pos ⟨rfl, rfl⟩]
  · rw [I_seto _ _ _ _ _ _ (by omega), I_seto _ _ _ _ _ _ (by omega), I_seto _ _ _ _ _ _ (by omega), I_seto _ _ _ _ _ _ (by omega), I_set, if_pos ⟨rfl, rfl⟩]
  · rw [I_seto _ _ _ _ _ _ (by omega), I_seto _ _ _ _ _ _ (by omega), I_seto _ _ _ _ _ _ (by omega), I_set, if_pos ⟨rfl, rfl⟩]
  · rw [I_seto _ _ _ _ _ _ (by omega), I_seto _ _ _ _ _ _ (by omega), I_set, if_pos ⟨rfl, rfl⟩]
  · rw [I_seto _ _ _ _ _ _ (by omega), I_set, if_pos ⟨rfl, rfl⟩]
theorem ad6_o {h : gz_H} {s q b i : Nat} {i0 i1 t0 t1 : Int32} (n : (b = 10 ∧ i ≠ s) ∨ ((b = 11 ∨ b = 12) ∧ i ≠ s ∧ i ≠ 3 + s)) : gz_v (ad6 h s q i0 i1 t0 t1) b i = gz_v h b i := by
  unfold ad6
  rw [gz_v_set, if_neg (by omega), gz_v_set, if_neg (by omega), gz_v_set, if_neg (by omega), gz_v_set, if_neg (by omega), gz_v_set, if_neg (by omega), gz_v_set, if_neg (by omega)]
set_option maxHeartbeats 4000000 in
theorem st_X6_add (h : gz_H) (J s q : Nat) (i0 i1 t0 t1 : Int32) (c : cs h J) (y : yc h) (hs : s < 3) (e5 : gz_I h 9 5 = nI s) (q1 : q < h.1) (q2 : gz_k h q = (2, 9)) : se_X6_add [.ref 9, .ref q, .int i0, .int i1, .int t0, .int t1] h = some (none, ad6 h s q i0 i1 t0 t1) := by
  have d2 : ¬ nI s < 0 := nI_pos (by omega)
  have d3 : (nI s).toNatClampNeg = s := nI_clamp (by omega)
  have f1 : 3 + nI s = nI (3 + s) := nI_add 3 s
  have f2 : ¬ nI (3 + s) < 0 := nI_pos (by omega)
  have f3 : (nI (3 + s)).toNatClampNeg = 3 + s := nI_clamp (by omega)
  have f4 : 3 + s < 6 := by omega
  have s6 : s < 6 := by omega
  have at5 : gz_aty 105 h (.ref q) = true := by
    show decide (_ ∧ _) = true
    rw [decide_eq_true_eq]
    exact ⟨q1, by rw [q2]⟩
  have v9 : ∀ f, gz_v (gz_set h 10 s (.ref q)) 9 f = gz_v h 9 f := fun f => by rw [gz_v_set, if_neg (by omega)]
  have w9 : ∀ f, gz_v (gz_set (gz_set h 10 s (.ref q)) 11 s (.int i0)) 9 f = gz_v h 9 f := fun f => by rw [gz_v_set, if_neg (by omega), v9]
  have x9 : ∀ f, gz_v (gz_set (gz_set (gz_set h 10 s (.ref q)) 11 s (.int i0)) 11 (3 + s) (.int i1)) 9 f = gz_v h 9 f := fun f => by rw [gz_v_set, if_neg (by omega), w9]
  have y9 : ∀ f, gz_v (gz_set (gz_set (gz_set (gz_set h 10 s (.ref q)) 11 s (.int i0)) 11 (3 + s) (.int i1)) 12 s (.int t0)) 9 f = gz_v h 9 f := fun f => by rw [gz_v_set, if_neg (by omega), x9]
  have z9 : ∀ f, gz_v (gz_set (gz_set (gz_set (gz_set (gz_set h 10 s (.ref q)) 11 s (.int i0)) 11 (3 + s) (.int i1)) 12 s (.int t0)) 12 (3 + s) (.int t1)) 9 f = gz_v h 9 f := fun f => by rw [gz_v_set, if_neg (by omega), y9]
  simp only [se_X6_add, sm_X6_add, gz_sem, gz_ae, Value.category, gz_i, gz_l, gz_nu, gz_li, gz_ll, gz_la, gz_ib, gz_iz, gz_lb, gz_lz, gz_ls, gz_lc, gz_i2l, gz_l2i, gz_get, gz_ald, gz_len, gz_dup, gz_d2, gz_nar, gz_a0, gz_a1, gz_cs, gz_cv, gz_mk, gz_te, gz_j1, gz_j2, gz_jn, gz_jk, gz_jo, gz_ja, gz_sat, gz_seti, gz_seta, gz_set2, gz_inc, gz_put, gz_ast, gz_pop, gz_vs, gz_vv, gz_sup, gz_rv, gz_ri, gz_rl, gz_ra, gz_if, gz_seq, gz_sw, gz_st, gz_st2, rok_I, rok_J, rok_V, rok_Z0, rok_Z1, rok_Zi, rok_R, rok_N, bi_rok, bi_0, bi_1, fit_I, fit_J, fit_Z0, fit_Z1, fit_Zi, fit_R, fit_N, fit_aR, aty_I, aty_Z0, aty_Z1, aty_Zi, aty_J, gz_ix, List.getElem?_cons_zero, List.getElem?_cons_succ, List.getElem?_nil, List.reverse_cons, List.reverse_nil, List.nil_append, List.cons_append, List.take_succ_cons, List.take_zero, List.take_nil, List.length_cons, List.length_nil, decide_true, decide_false, decide_not, Bool.not_true, Bool.not_false, gz_nle, if_true, if_false, and_true, true_and, and_self, and_false, false_and, or_true, true_or, or_false, false_or, Bool.false_eq_true, not_true, not_false_iff, Decidable.not_not, Nat.reduceLeDiff, Nat.reduceAdd, Nat.reduceEqDiff, Nat.reduceSub, Nat.reduceLT, Nat.zero_add, reduceCtorEq, reduceIte, eq_self, i32_10, i32_01, Nat.zero_le, Nat.one_ne_zero, c, y, e5, d2, d3, hs, s6, f1, f2, f3, f4, at5, v9, w9, x9, y9, z9, gz_n_set, gz_k_set, nI_1, ad6]
/-- a stop can be laid -/
def OKS (g : gz_G) (hr : gz_H) (s : Nat) (j0 : Nat) (jn th bk : Int32) : Prop := ∃ j i0 i1, j < g 7 0 ∧ jn = nI j ∧ th = nI i0 ∧ i0 < g 6 j ∧ bk = nI i1 ∧ i1 < g 6 j ∧ gz_I hr 23 (8 + j) = 1 ∧ (0 < s → gz_I hr 24 (8 + j) = gz_I hr 24 (8 + j0))
set_option maxHeartbeats 8000000 in
theorem ls_cs {g : gz_G} {T : Nat} {P : Nat → Nat} {h hr : gz_H} (H : IV g T P h hr) (s j0 : Nat) (hs : s < 3) (e5 : gz_I h 9 5 = nI s) (q0 : 0 < s → j0 < g 7 0 ∧ gz_I hr 23 (8 + j0) = 1 ∧ gz_v h 10 0 = .ref (g 3 (8 + j0))) (jn th bk t0 t1 : Int32) : (¬ OKS g hr s j0 jn th bk → se_X7_laysStop [.ref 0, .int jn, .int th, .int bk, .int t0, .int t1] h = some (some (.int 0), h)) ∧ (∀ j i0 i1, j < g 7 0 → jn = nI j → th = nI i0 → i0 < g 6 j → bk = nI i1 → i1 < g 6 j → gz_I hr 23 (8 + j) = 1 → (0 < s → gz_I hr 24 (8 + j) = gz_I hr 24 (8 + j0)) → se_X7_laysStop [.ref 0, .int jn, .int th, .int bk, .int t0, .int t1] h = some (some (.int 1), ad6 h s (g 3 (8 + j)) th bk t0 t1)) := by
  have c := IV_cs H
  have y := H.1.2.2.2.2.1
  have h8 := IV_8 H
  have n10 : ¬ (1 : Int32) = 0 := by decide
  have l0 : ¬ (0 : Int32) < 0 := by decide
  have l1 : (0 : Int32).toNatClampNeg = 0 := rfl
  have l2 : 0 < 3 := by decide
  have cyc : ∀ j, j < g 7 0 → gz_I hr 23 (8 + j) = 1 → ∃ n c, gz_v h (g 0 j) 7 = .ref (g 3 (8 + j)) ∧ pc h (g 3 (8 + j)) n ∧ gz_I h (g 3 (8 + j)) 0 = nI c ∧ gz_I hr 24 (8 + j) = nI c := fun j hj h23 => by
    rcases tk_cs H hj with ⟨q1, -⟩ | ⟨q1, q2, b, po, n, c, pv, t⟩
    · rw [q1] at h23; exact absurd h23 (by decide)
    · exact ⟨n, c, q2, pv.2.2.2.1, pv.2.2.2.2.1, pv.2.2.2.2.2.1⟩
  constructor
  · intro no
    rcases ja_cs h8 jn with hx | ⟨j, hj, rfl⟩
    · obtain ⟨j1, -⟩ := ja_no H hx
      simp only [se_X7_laysStop, sm_X7_laysStop, gz_sem, gz_ae, Value.category, gz_i, gz_l, gz_nu, gz_li, gz_ll, gz_la, gz_ib, gz_iz, gz_lb, gz_lz, gz_ls, gz_lc, gz_i2l, gz_l2i, gz_get, gz_ald, gz_len, gz_dup, gz_d2, gz_nar, gz_a0, gz_a1, gz_cs, gz_cv, gz_mk, gz_te, gz_j1, gz_j2, gz_jn, gz_jk, gz_jo, gz_ja, gz_sat, gz_seti, gz_seta, gz_set2, gz_inc, gz_put, gz_ast, gz_pop, gz_vs, gz_vv, gz_sup, gz_rv, gz_ri, gz_rl, gz_ra, gz_if, gz_seq, gz_sw, gz_st, gz_st2, rok_I, rok_J, rok_V, rok_Z0, rok_Z1, rok_Zi, rok_R, rok_N, bi_rok, bi_0, bi_1, fit_I, fit_J, fit_Z0, fit_Z1, fit_Zi, fit_R, fit_N, fit_aR, aty_I, aty_Z0, aty_Z1, aty_Zi, aty_J, gz_ix, List.getElem?_cons_zero, List.getElem?_cons_succ, List.getElem?_nil, List.reverse_cons, List.reverse_nil, List.nil_append, List.cons_append, List.take_succ_cons, List.take_zero, List.take_nil, List.length_cons, List.length_nil, decide_true, decide_false, decide_not, Bool.not_true, Bool.not_false, gz_nle, if_true, if_false, and_true, true_and, and_self, and_false, false_and, or_true, true_or, or_false, false_or, Bool.false_eq_true, not_true, not_false_iff, Decidable.not_not, Nat.reduceLeDiff, Nat.reduceAdd, Nat.reduceEqDiff, Nat.reduceSub, Nat.reduceLT, Nat.zero_add, reduceCtorEq, reduceIte, eq_self, i32_10, i32_01, Nat.zero_le, Nat.one_ne_zero, c, j1]
    obtain ⟨j1, -⟩ := ja_yes H hj
    have jk := IV_jc H hj
    rcases tk_cs H hj with ⟨q1, q2, b⟩ | ⟨q1, q2, b, po, n, cy, pv, tk⟩
    · simp only [se_X7_laysStop, sm_X7_laysStop, gz_sem, gz_ae, Value.category, gz_i, gz_l, gz_nu, gz_li, gz_ll, gz_la, gz_ib, gz_iz, gz_lb, gz_lz, gz_ls, gz_lc, gz_i2l, gz_l2i, gz_get, gz_ald, gz_len, gz_dup, gz_d2, gz_nar, gz_a0, gz_a1, gz_cs, gz_cv, gz_mk, gz_te, gz_j1, gz_j2, gz_jn, gz_jk, gz_jo, gz_ja, gz_sat, gz_seti, gz_seta, gz_set2, gz_inc, gz_put, gz_ast, gz_pop, gz_vs, gz_vv, gz_sup, gz_rv, gz_ri, gz_rl, gz_ra, gz_if, gz_seq, gz_sw, gz_st, gz_st2, rok_I, rok_J, rok_V, rok_Z0, rok_Z1, rok_Zi, rok_R, rok_N, bi_rok, bi_0, bi_1, fit_I, fit_J, fit_Z0, fit_Z1, fit_Zi, fit_R, fit_N, fit_aR, aty_I, aty_Z0, aty_Z1, aty_Zi, aty_J, gz_ix, List.getElem?_cons_zero, List.getElem?_cons_succ, List.getElem?_nil, List.reverse_cons, List.reverse_nil, List.nil_append, List.cons_append, List.take_succ_cons, List.take_zero, List.take_nil, List.length_cons, List.length_nil, decide_true, decide_false, decide_not, Bool.not_true, Bool.not_false, gz_nle, if_true, if_false, and_true, true_and, and_self, and_false, false_and, or_true, true_or, or_false, false_or, Bool.false_eq_true, not_true, not_false_iff, Decidable.not_not, Nat.reduceLeDiff, Nat.reduceAdd, Nat.reduceEqDiff, Nat.reduceSub, Nat.reduceLT, Nat.zero_add, reduceCtorEq, reduceIte, eq_self, i32_10, i32_01, Nat.zero_le, Nat.one_ne_zero, c, j1, jk, q2]
    rcases ja_cs (IV_S H j) th with ht | ⟨i0, hi0, rfl⟩
    · obtain ⟨a1, -, -⟩ := mb_no H hj ht
      simp only [se_X7_laysStop, sm_X7_laysStop, gz_sem, gz_ae, Value.category, gz_i, gz_l, gz_nu, gz_li, gz_ll, gz_la, gz_ib, gz_iz, gz_lb, gz_lz, gz_ls, gz_lc, gz_i2l, gz_l2i, gz_get, gz_ald, gz_len, gz_dup, gz_d2, gz_nar, gz_a0, gz_a1, gz_cs, gz_cv, gz_mk, gz_te, gz_j1, gz_j2, gz_jn, gz_jk, gz_jo, gz_ja, gz_sat, gz_seti, gz_seta, gz_set2, gz_inc, gz_put, gz_ast, gz_pop, gz_vs, gz_vv, gz_sup, gz_rv, gz_ri, gz_rl, gz_ra, gz_if, gz_seq, gz_sw, gz_st, gz_st2, rok_I, rok_J, rok_V, rok_Z0, rok_Z1, rok_Zi, rok_R, rok_N, bi_rok, bi_0, bi_1, fit_I, fit_J, fit_Z0, fit_Z1, fit_Zi, fit_R, fit_N, fit_aR, aty_I, aty_Z0, aty_Z1, aty_Zi, aty_J, gz_ix, List.getElem?_cons_zero, List.getElem?_cons_succ, List.getElem?_nil, List.reverse_cons, List.reverse_nil, List.nil_append, List.cons_append, List.take_succ_cons, List.take_zero, List.take_nil, List.length_cons, List.length_nil, decide_true, decide_false, decide_not, Bool.not_true, Bool.not_false, gz_nle, if_true, if_false, and_true, true_and, and_self, and_false, false_and, or_true, true_or, or_false, false_or, Bool.false_eq_true, not_true, not_false_iff, Decidable.not_not, Nat.reduceLeDiff, Nat.reduceAdd, Nat.reduceEqDiff, Nat.reduceSub, Nat.reduceLT, Nat.zero_add, reduceCtorEq, reduceIte, eq_self, i32_10, i32_01, Nat.zero_le, Nat.one_ne_zero, c, j1, jk, q2, a1]
    obtain ⟨a1, -, -⟩ := mb_yes H hj hi0
    rcases ja_cs (IV_S H j) bk with hb | ⟨i1, hi1, rfl⟩
    · obtain ⟨b1, -, -⟩ := mb_no H hj hb
      simp only [se_X7_laysStop, sm_X7_laysStop, gz_sem, gz_ae, Value.category, gz_i, gz_l, gz_nu, gz_li, gz_ll, gz_la, gz_ib, gz_iz, gz_lb, gz_lz, gz_ls, gz_lc, gz_i2l, gz_l2i, gz_get, gz_ald, gz_len, gz_dup, gz_d2, gz_nar, gz_a0, gz_a1, gz_cs, gz_cv, gz_mk, gz_te, gz_j1, gz_j2, gz_jn, gz_jk, gz_jo, gz_ja, gz_sat, gz_seti, gz_seta, gz_set2, gz_inc, gz_put, gz_ast, gz_pop, gz_vs, gz_vv, gz_sup, gz_rv, gz_ri, gz_rl, gz_ra, gz_if, gz_seq, gz_sw, gz_st, gz_st2, rok_I, rok_J, rok_V, rok_Z0, rok_Z1, rok_Zi, rok_R, rok_N, bi_rok, bi_0, bi_1, fit_I, fit_J, fit_Z0, fit_Z1, fit_Zi, fit_R, fit_N, fit_aR, aty_I, aty_Z0, aty_Z1, aty_Zi, aty_J, gz_ix, List.getElem?_cons_zero, List.getElem?_cons_succ, List.getElem?_nil, List.reverse_cons, List.reverse_nil, List.nil_append, List.cons_append, List.take_succ_cons, List.take_zero, List.take_nil, List.length_cons, List.length_nil, decide_true, decide_false, decide_not, Bool.not_true, Bool.not_false, gz_nle, if_true, if_false, and_true, true_and, and_self, and_false, false_and, or_true, true_or, or_false, false_or, Bool.false_eq_true, not_true, not_false_iff, Decidable.not_not, Nat.reduceLeDiff, Nat.reduceAdd, Nat.reduceEqDiff, Nat.reduceSub, Nat.reduceLT, Nat.zero_add, reduceCtorEq, reduceIte, eq_self, i32_10, i32_01, Nat.zero_le, Nat.one_ne_zero, c, j1, jk, q2, a1, b1]
    obtain ⟨b1, -, -⟩ := mb_yes H hj hi1
    have s0 : 0 < s := Classical.byContradiction (fun z => no ⟨j, i0, i1, hj, rfl, rfl, hi0, rfl, hi1, q1, fun u => absurd u z⟩)
    have ne : ¬ gz_I hr 24 (8 + j) = gz_I hr 24 (8 + j0) := fun z => no ⟨j, i0, i1, hj, rfl, rfl, hi0, rfl, hi1, q1, fun _ => z⟩
    obtain ⟨hj0, h230, v10⟩ := q0 s0
    obtain ⟨n0, c0, -, pk0, e0, e240⟩ := cyc j0 hj0 h230
    obtain ⟨-, -, -, k, v5, v6, -, -⟩ := pv
    rw [v6, e240] at ne
    have sp : (0 : Int32) < nI s := nI_gt0 s0 (by omega)
    simp only [se_X7_laysStop, sm_X7_laysStop, gz_sem, gz_ae, Value.category, gz_i, gz_l, gz_nu, gz_li, gz_ll, gz_la, gz_ib, gz_iz, gz_lb, gz_lz, gz_ls, gz_lc, gz_i2l, gz_l2i, gz_get, gz_ald, gz_len, gz_dup, gz_d2, gz_nar, gz_a0, gz_a1, gz_cs, gz_cv, gz_mk, gz_te, gz_j1, gz_j2, gz_jn, gz_jk, gz_jo, gz_ja, gz_sat, gz_seti, gz_seta, gz_set2, gz_inc, gz_put, gz_ast, gz_pop, gz_vs, gz_vv, gz_sup, gz_rv, gz_ri, gz_rl, gz_ra, gz_if, gz_seq, gz_sw, gz_st, gz_st2, rok_I, rok_J, rok_V, rok_Z0, rok_Z1, rok_Zi, rok_R, rok_N, bi_rok, bi_0, bi_1, fit_I, fit_J, fit_Z0, fit_Z1, fit_Zi, fit_R, fit_N, fit_aR, aty_I, aty_Z0, aty_Z1, aty_Zi, aty_J, gz_ix, List.getElem?_cons_zero, List.getElem?_cons_succ, List.getElem?_nil, List.reverse_cons, List.reverse_nil, List.nil_append, List.cons_append, List.take_succ_cons, List.take_zero, List.take_nil, List.length_cons, List.length_nil, decide_true, decide_false, decide_not, Bool.not_true, Bool.not_false, gz_nle, if_true, if_false, and_true, true_and, and_self, and_false, false_and, or_true, true_or, or_false, false_or, Bool.false_eq_true, not_true, not_false_iff, Decidable.not_not, Nat.reduceLeDiff, Nat.reduceAdd, Nat.reduceEqDiff, Nat.reduceSub, Nat.reduceLT, Nat.zero_add, reduceCtorEq, reduceIte, eq_self, i32_10, i32_01, Nat.zero_le, Nat.one_ne_zero, c, y, j1, jk, q2, a1, b1, e5, sp, k, pk0, v5, v10, l0, l1, l2, e0, ne]
  · intro j i0 i1 hj ej et hi0 eb hi1 h23 hcy
    subst ej
    subst et
    subst eb
    obtain ⟨j1, -⟩ := ja_yes H hj
    have jk := IV_jc H hj
    obtain ⟨n, cy, q2, k, v5, v6⟩ := cyc j hj h23
    obtain ⟨a1, -, -⟩ := mb_yes H hj hi0
    obtain ⟨b1, -, -⟩ := mb_yes H hj hi1
    have ad := st_X6_add h (g 7 0) s (g 3 (8 + j)) (nI i0) (nI i1) t0 t1 c y hs e5 k.1 k.2.2.2.2.2.2.1
    by_cases s0 : 0 < s
    · obtain ⟨hj0, h230, v10⟩ := q0 s0
      obtain ⟨n0, c0, -, pk0, e0, e240⟩ := cyc j0 hj0 h230
      have ee := hcy s0
      rw [v6, e240] at ee
      have sp : (0 : Int32) < nI s := nI_gt0 s0 (by omega)
      rw [ee] at v5
      simp only [se_X7_laysStop, sm_X7_laysStop, gz_sem, gz_ae, Value.category, gz_i, gz_l, gz_nu, gz_li, gz_ll, gz_la, gz_ib, gz_iz, gz_lb, gz_lz, gz_ls, gz_lc, gz_i2l, gz_l2i, gz_get, gz_ald, gz_len, gz_dup, gz_d2, gz_nar, gz_a0, gz_a1, gz_cs, gz_cv, gz_mk, gz_te, gz_j1, gz_j2, gz_jn, gz_jk, gz_jo, gz_ja, gz_sat, gz_seti, gz_seta, gz_set2, gz_inc, gz_put, gz_ast, gz_pop, gz_vs, gz_vv, gz_sup, gz_rv, gz_ri, gz_rl, gz_ra, gz_if, gz_seq, gz_sw, gz_st, gz_st2, rok_I, rok_J, rok_V, rok_Z0, rok_Z1, rok_Zi, rok_R, rok_N, bi_rok, bi_0, bi_1, fit_I, fit_J, fit_Z0, fit_Z1, fit_Zi, fit_R, fit_N, fit_aR, aty_I, aty_Z0, aty_Z1, aty_Zi, aty_J, gz_ix, List.getElem?_cons_zero, List.getElem?_cons_succ, List.getElem?_nil, List.reverse_cons, List.reverse_nil, List.nil_append, List.cons_append, List.take_succ_cons, List.take_zero, List.take_nil, List.length_cons, List.length_nil, decide_true, decide_false, decide_not, Bool.not_true, Bool.not_false, gz_nle, if_true, if_false, and_true, true_and, and_self, and_false, false_and, or_true, true_or, or_false, false_or, Bool.false_eq_true, not_true, not_false_iff, Decidable.not_not, Nat.reduceLeDiff, Nat.reduceAdd, Nat.reduceEqDiff, Nat.reduceSub, Nat.reduceLT, Nat.zero_add, reduceCtorEq, reduceIte, eq_self, i32_10, i32_01, Nat.zero_le, Nat.one_ne_zero, c, y, j1, jk, q2, a1, b1, e5, sp, k, pk0, v5, v10, l0, l1, l2, e0, ad]
    · have sp : ¬ (0 : Int32) < nI s := by rw [show s = 0 by omega]; decide
      simp only [se_X7_laysStop, sm_X7_laysStop, gz_sem, gz_ae, Value.category, gz_i, gz_l, gz_nu, gz_li, gz_ll, gz_la, gz_ib, gz_iz, gz_lb, gz_lz, gz_ls, gz_lc, gz_i2l, gz_l2i, gz_get, gz_ald, gz_len, gz_dup, gz_d2, gz_nar, gz_a0, gz_a1, gz_cs, gz_cv, gz_mk, gz_te, gz_j1, gz_j2, gz_jn, gz_jk, gz_jo, gz_ja, gz_sat, gz_seti, gz_seta, gz_set2, gz_inc, gz_put, gz_ast, gz_pop, gz_vs, gz_vv, gz_sup, gz_rv, gz_ri, gz_rl, gz_ra, gz_if, gz_seq, gz_sw, gz_st, gz_st2, rok_I, rok_J, rok_V, rok_Z0, rok_Z1, rok_Zi, rok_R, rok_N, bi_rok, bi_0, bi_1, fit_I, fit_J, fit_Z0, fit_Z1, fit_Zi, fit_R, fit_N, fit_aR, aty_I, aty_Z0, aty_Z1, aty_Zi, aty_J, gz_ix, List.getElem?_cons_zero, List.getElem?_cons_succ, List.getElem?_nil, List.reverse_cons, List.reverse_nil, List.nil_append, List.cons_append, List.take_succ_cons, List.take_zero, List.take_nil, List.length_cons, List.length_nil, decide_true, decide_false, decide_not, Bool.not_true, Bool.not_false, gz_nle, if_true, if_false, and_true, true_and, and_self, and_false, false_and, or_true, true_or, or_false, false_or, Bool.false_eq_true, not_true, not_false_iff, Decidable.not_not, Nat.reduceLeDiff, Nat.reduceAdd, Nat.reduceEqDiff, Nat.reduceSub, Nat.reduceLT, Nat.zero_add, reduceCtorEq, reduceIte, eq_self, i32_10, i32_01, Nat.zero_le, Nat.one_ne_zero, c, y, j1, jk, q2, a1, b1, e5, sp, k, v5, ad]
