def dg (n k : Nat) : Nat := if k = 0 then n % 10 else if k = 1 then n / 10 % 10 else n / 100
def wA (a b c : Int32) (k : Nat) : Int32 := if k = 0 then a else if k = 1 then b else c
/-- the arguments name a way -/
def GD (g : gz_G) (hr : gz_H) (a b c x y p q : Int32) (K xn yn pn qn : Nat) (J : Nat → Nat) : Prop := ((K = 2 ∧ c = -1 ∧ xn < 100 ∧ yn < 100 ∧ qn = 0) ∨ (K = 3 ∧ ¬ c = -1 ∧ ¬ a = c ∧ ¬ b = c ∧ xn < 1000 ∧ yn < 1000)) ∧ ¬ a = b ∧ x = nI xn ∧ y = nI yn ∧ p = nI pn ∧ pn ≤ 120 ∧ q = nI qn ∧ qn ≤ 120 ∧ ∀ k, k < K → wA a b c k = nI (J k) ∧ J k < g 7 0 ∧ dg xn k < g 6 (J k) ∧ dg yn k < g 6 (J k) ∧ gz_I hr 23 (8 + J k) = 1 ∧ gz_I hr 24 (8 + J k) = gz_I hr 24 (8 + J 0)
def wT0 (p q k : Nat) : Nat := if k = 0 then 0 else if k = 1 then p else p + q
def wT1 (p q k : Nat) : Nat := if k = 0 then p + q else if k = 1 then q else 0
def WF (g : gz_G) (h : gz_H) (K xn yn pn qn : Nat) (J : Nat → Nat) : Prop := gz_I h 9 5 = nI K ∧ ∀ k, k < K → gz_v h 10 k = .ref (g 3 (8 + J k)) ∧ gz_I h 11 k = nI (dg xn k) ∧ gz_I h 11 (3 + k) = nI (dg yn k) ∧ gz_I h 12 k = nI (wT0 pn qn k) ∧ gz_I h 12 (3 + k) = nI (wT1 pn qn k)
theorem WF_0 {g : gz_G} {h : gz_H} {xn yn pn qn : Nat} {J : Nat → Nat} (e : gz_I h 9 5 = nI 0) : WF g h 0 xn yn pn qn J := ⟨e, fun k hk => by omega⟩
theorem WF_s {g : gz_G} {h : gz_H} {K xn yn pn qn : Nat} {J : Nat → Nat} (w : WF g h K xn yn pn qn J) (hK : K < 3) {q' : Nat} {i0 i1 t0 t1 : Int32} (eq : q' = g 3 (8 + J K)) (e0 : i0 = nI (dg xn K)) (e1 : i1 = nI (dg yn K)) (e2 : t0 = nI (wT0 pn qn K)) (e3 : t1 = nI (wT1 pn qn K)) : WF g (ad6 h K q' i0 i1 t0 t1) (K + 1) xn yn pn qn J := by
  subst eq e0 e1 e2 e3
  obtain ⟨v1, v2, v3, v4, v5, v6⟩ := ad6_v (h := h) (s := K) (q := g 3 (8 + J K)) (i0 := nI (dg xn K)) (i1 := nI (dg yn K)) (t0 := nI (wT0 pn qn K)) (t1 := nI (wT1 pn qn K)) hK
  refine ⟨v1, fun k hk => ?_⟩
  by_cases z : k = K
  · subst z; exact ⟨v2, v3, v4, v5, v6⟩
  · obtain ⟨u1, u2, u3, u4, u5⟩ := w.2 k (by omega)
    refine ⟨?_, ?_, ?_, ?_, ?_⟩
    · rw [ad6_o (by omega)]; exact u1
    · rw [vI (ad6_o (by omega))]; exact u2
    · rw [vI (ad6_o (by omega))]; exact u3
    · rw [vI (ad6_o (by omega))]; exact u4
    · rw [vI (ad6_o (by omega))]; exact u5
theorem WF_J {g : gz_G} {h : gz_H} {K xn yn pn qn : Nat} {J J' : Nat → Nat} (w : WF g h K xn yn pn qn J) (e : ∀ k, k < K → J' k = J k) : WF g h K xn yn pn qn J' := ⟨w.1, fun k hk => by rw [e k hk]; exact w.2 k hk⟩
def SG (g : gz_G) (hr : gz_H) (A : Int32) (k j j0 xn yn : Nat) : Prop := A = nI j ∧ j < g 7 0 ∧ dg xn k < g 6 j ∧ dg yn k < g 6 j ∧ gz_I hr 23 (8 + j) = 1 ∧ (0 < k → gz_I hr 24 (8 + j) = gz_I hr 24 (8 + j0))
/-- one stop more, or none -/
theorem sg {g : gz_G} {T : Nat} {P : Nat → Nat} {h hr : gz_H} (H : IV g T P h hr) (k xn yn pn qn : Nat) (J : Nat → Nat) (hk : k < 3) (w : WF g h k xn yn pn qn J) (q0 : 0 < k → J 0 < g 7 0 ∧ gz_I hr 23 (8 + J 0) = 1) (A : Int32) (xb : xn < 1000) (yb : yn < 1000) : (¬ (∃ j, SG g hr A k j (J 0) xn yn) ∧ se_X7_laysStop [.ref 0, .int A, .int (nI (dg xn k)), .int (nI (dg yn k)), .int (nI (wT0 pn qn k)), .int (nI (wT1 pn qn k))] h = some (some (.int 0), h)) ∨ (∃ j h', SG g hr A k j (J 0) xn yn ∧ se_X7_laysStop [.ref 0, .int A, .int (nI (dg xn k)), .int (nI (dg yn k)), .int (nI (wT0 pn qn k)), .int (nI (wT1 pn qn k))] h = some (some (.int 1), h') ∧ YW h h' ∧ WF g h' (k + 1) xn yn pn qn (fun i => if i = k then j else J i)) := by
  obtain ⟨l0, l1⟩ := ls_cs H k (J 0) hk w.1 (fun z => ⟨(q0 z).1, (q0 z).2, (w.2 0 z).1⟩) A (nI (dg xn k)) (nI (dg yn k)) (nI (wT0 pn qn k)) (nI (wT1 pn qn k))
  have db : ∀ n, n < 1000 → dg n k < 10 := fun n hn => by unfold dg; split <;> (try split) <;> omega
  have hS := IV_S H
  by_cases ok : ∃ j, SG g hr A k j (J 0) xn yn
  · obtain ⟨j, s1, s2, s3, s4, s5, s6⟩ := ok
    refine Or.inr ⟨j, _, ⟨s1, s2, s3, s4, s5, s6⟩, l1 j (dg xn k) (dg yn k) s2 s1 rfl s3 rfl s4 s5 s6, ad6_yw H.1.2.2.2.2.1 _ _ _ _ _ _, ?_⟩
    refine WF_s (WF_J w (fun i hi => by show (if i = k then j else J i) = J i; rw [if_neg (by omega)])) hk ?_ rfl rfl rfl rfl
    show g 3 (8 + j) = g 3 (8 + (if k = k then j else J k))
    rw [if_pos rfl]
  · refine Or.inl ⟨ok, l0 (fun z => ok ?_)⟩
    obtain ⟨j, i0, i1, z1, z2, z3, z4, z5, z6, z7, z8⟩ := z
    have d1 := db xn xb
    have d2 := db yn yb
    have hSj := hS j
    have y1 : dg xn k = i0 := (nI_eq (by omega) (by omega)).mp z3
    have y2 : dg yn k = i1 := (nI_eq (by omega) (by omega)).mp z5
    exact ⟨j, z2, z1, by omega, by omega, z7, z8⟩
set_option maxHeartbeats 16000000 in
theorem lw7 {g : gz_G} {T : Nat} {P : Nat → Nat} {hc hr : gz_H} (H : IV g T P hc hr) (a b c x y p q : Int32) : (∃ hc', se_X7_layWay [.ref 0, .int a, .int b, .int c, .int x, .int y, .int p, .int q] hc = some (some (.int 0), hc') ∧ YW hc hc' ∧ ¬ ∃ K xn yn pn qn J, GD g hr a b c x y p q K xn yn pn qn J) ∨ (∃ hc' K xn yn pn qn J, se_X7_layWay [.ref 0, .int a, .int b, .int c, .int x, .int y, .int p, .int q] hc = some (some (.int 1), hc') ∧ YW hc hc' ∧ GD g hr a b c x y p q K xn yn pn qn J ∧ WF g hc' K xn yn pn qn J) := by
  have cc := IV_cs H
  have yy := H.1.2.2.2.2.1
  have h8 := IV_8 H
  have g10 : ((10 : Int32) = 0) = False := by decide
  have g100 : ((100 : Int32) = 0) = False := by decide
  have e99 : nI 99 = (99 : Int32) := rfl
  have e999 : nI 999 = (999 : Int32) := rfl
  have e120 : nI 120 = (120 : Int32) := rfl
  have e0 : nI 0 = (0 : Int32) := rfl
  have Y0 : YW hc (gz_set hc 9 5 (.int 0)) := ⟨rfl, fun _ => rfl, fun x hx => sm_set (sm_rf _ _) (by omega), yc_I yy _ _ _ (by omega)⟩
  have I0 := IV_yw H Y0
  have c0 := IV_cs I0
  have y0 := I0.1.2.2.2.2.1
  have f50 : gz_I (gz_set hc 9 5 (.int 0)) 9 5 = nI 0 := by rw [I_set, if_pos ⟨rfl, rfl⟩]; rfl
  have nm1 : ∀ j : Nat, j < 8 → ¬ nI j = -1 := fun j hj z => by
    have := nI_pos (n := j) (by omega)
    rw [z] at this
    exact this (by decide)
  have inx : ∀ n m : Nat, n < 2 ^ 31 → m ≤ 999 → nI n = nI m → n = m := fun n m h1 h2 z => (nI_eq h1 (by omega)).mp z
  have big : ∀ {K xn yn pn qn J}, GD g hr a b c x y p q K xn yn pn qn J → ¬ a = b ∧ ¬ a = c ∧ ¬ b = c ∧ xn < 1000 ∧ yn < 1000 := by
    intro K xn yn pn qn J gd
    obtain ⟨g1, g2, g3, g4, g5, g6, g7, g8, g9⟩ := gd
    rcases g1 with ⟨k2, cm, x1, y1, -⟩ | ⟨k3, cm, ac, bc, x1, y1⟩
    · have w0 := g9 0 (by omega)
      have w1 := g9 1 (by omega)
      have a0 : a = nI (J 0) := w0.1
      have b0 : b = nI (J 1) := w1.1
      refine ⟨g2, fun z => nm1 (J 0) (by omega) ?_, fun z => nm1 (J 1) (by omega) ?_, by omega, by omega⟩
      · rw [← a0, z]; exact cm
      · rw [← b0, z]; exact cm
    · exact ⟨g2, ac, bc, x1, y1⟩
  by_cases ab : a = b
  · refine Or.inl ⟨hc, ?_, YW_rf yy, fun ⟨K, xn, yn, pn, qn, J, gd⟩ => (big gd).1 ab⟩
    subst ab
    by_cases cm : c = -1
    · subst cm; simp only [se_X7_layWay, sm_X7_layWay, gz_sem, gz_ae, Value.category, gz_i, gz_l, gz_nu, gz_li, gz_ll, gz_la, gz_ib, gz_iz, gz_lb, gz_lz, gz_ls, gz_lc, gz_i2l, gz_l2i, gz_get, gz_ald, gz_len, gz_dup, gz_d2, gz_nar, gz_a0, gz_a1, gz_cs, gz_cv, gz_mk, gz_te, gz_j1, gz_j2, gz_jn, gz_jk, gz_jo, gz_ja, gz_sat, gz_seti, gz_seta, gz_set2, gz_inc, gz_put, gz_ast, gz_pop, gz_vs, gz_vv, gz_sup, gz_rv, gz_ri, gz_rl, gz_ra, gz_if, gz_seq, gz_sw, gz_st, gz_st2, rok_I, rok_J, rok_V, rok_Z0, rok_Z1, rok_Zi, rok_R, rok_N, bi_rok, bi_0, bi_1, fit_I, fit_J, fit_Z0, fit_Z1, fit_Zi, fit_R, fit_N, fit_aR, aty_I, aty_Z0, aty_Z1, aty_Zi, aty_J, gz_ix, List.getElem?_cons_zero, List.getElem?_cons_succ, List.getElem?_nil, List.reverse_cons, List.reverse_nil, List.nil_append, List.cons_append, List.take_succ_cons, List.take_zero, List.take_nil, List.length_cons, List.length_nil, decide_true, decide_false, decide_not, Bool.not_true, Bool.not_false, gz_nle, if_true, if_false, and_true, true_and, and_self, and_false, false_and, or_true, true_or, or_false, false_or, Bool.false_eq_true, not_true, not_false_iff, Decidable.not_not, Nat.reduceLeDiff, Nat.reduceAdd, Nat.reduceEqDiff, Nat.reduceSub, Nat.reduceLT, Nat.zero_add, reduceCtorEq, reduceIte, eq_self, i32_10, i32_01, Nat.zero_le, Nat.one_ne_zero]
    · simp only [se_X7_layWay, sm_X7_layWay, gz_sem, gz_ae, Value.category, gz_i, gz_l, gz_nu, gz_li, gz_ll, gz_la, gz_ib, gz_iz, gz_lb, gz_lz, gz_ls, gz_lc, gz_i2l, gz_l2i, gz_get, gz_ald, gz_len, gz_dup, gz_d2, gz_nar, gz_a0, gz_a1, gz_cs, gz_cv, gz_mk, gz_te, gz_j1, gz_j2, gz_jn, gz_jk, gz_jo, gz_ja, gz_sat, gz_seti, gz_seta, gz_set2, gz_inc, gz_put, gz_ast, gz_pop, gz_vs, gz_vv, gz_sup, gz_rv, gz_ri, gz_rl, gz_ra, gz_if, gz_seq, gz_sw, gz_st, gz_st2, rok_I, rok_J, rok_V, rok_Z0, rok_Z1, rok_Zi, rok_R, rok_N, bi_rok, bi_0, bi_1, fit_I, fit_J, fit_Z0, fit_Z1, fit_Zi, fit_R, fit_N, fit_aR, aty_I, aty_Z0, aty_Z1, aty_Zi, aty_J, gz_ix, List.getElem?_cons_zero, List.getElem?_cons_succ, List.getElem?_nil, List.reverse_cons, List.reverse_nil, List.nil_append, List.cons_append, List.take_succ_cons, List.take_zero, List.take_nil, List.length_cons, List.length_nil, decide_true, decide_false, decide_not, Bool.not_true, Bool.not_false, gz_nle, if_true, if_false, and_true, true_and, and_self, and_false, false_and, or_true, true_or, or_false, false_or, Bool.false_eq_true, not_true, not_false_iff, Decidable.not_not, Nat.reduceLeDiff, Nat.reduceAdd, Nat.reduceEqDiff, Nat.reduceSub, Nat.reduceLT, Nat.zero_add, reduceCtorEq, reduceIte, eq_self, i32_10, i32_01, Nat.zero_le, Nat.one_ne_zero, cm]
  by_cases ac : a = c
  · refine Or.inl ⟨hc, ?_, YW_rf yy, fun ⟨K, xn, yn, pn, qn, J, gd⟩ => (big gd).2.1 ac⟩
    subst ac
    by_cases cm : a = -1
    · subst cm; simp only [se_X7_layWay, sm_X7_layWay, gz_sem, gz_ae, Value.category, gz_i, gz_l, gz_nu, gz_li, gz_ll, gz_la, gz_ib, gz_iz, gz_lb, gz_lz, gz_ls, gz_lc, gz_i2l, gz_l2i, gz_get, gz_ald, gz_len, gz_dup, gz_d2, gz_nar, gz_a0, gz_a1, gz_cs, gz_cv, gz_mk, gz_te, gz_j1, gz_j2, gz_jn, gz_jk, gz_jo, gz_ja, gz_sat, gz_seti, gz_seta, gz_set2, gz_inc, gz_put, gz_ast, gz_pop, gz_vs, gz_vv, gz_sup, gz_rv, gz_ri, gz_rl, gz_ra, gz_if, gz_seq, gz_sw, gz_st, gz_st2, rok_I, rok_J, rok_V, rok_Z0, rok_Z1, rok_Zi, rok_R, rok_N, bi_rok, bi_0, bi_1, fit_I, fit_J, fit_Z0, fit_Z1, fit_Zi, fit_R, fit_N, fit_aR, aty_I, aty_Z0, aty_Z1, aty_Zi, aty_J, gz_ix, List.getElem?_cons_zero, List.getElem?_cons_succ, List.getElem?_nil, List.reverse_cons, List.reverse_nil, List.nil_append, List.cons_append, List.take_succ_cons, List.take_zero, List.take_nil, List.length_cons, List.length_nil, decide_true, decide_false, decide_not, Bool.not_true, Bool.not_false, gz_nle, if_true, if_false, and_true, true_and, and_self, and_false, false_and, or_true, true_or, or_false, false_or, Bool.false_eq_true, not_true, not_false_iff, Decidable.not_not, Nat.reduceLeDiff, Nat.reduceAdd, Nat.reduceEqDiff, Nat.reduceSub, Nat.reduceLT, Nat.zero_add, reduceCtorEq, reduceIte, eq_self, i32_10, i32_01, Nat.zero_le, Nat.one_ne_zero, ab]
    · simp only [se_X7_layWay, sm_X7_layWay, gz_sem, gz_ae, Value.category, gz_i, gz_l, gz_nu, gz_li, gz_ll, gz_la, gz_ib, gz_iz, gz_lb, gz_lz, gz_ls, gz_lc, gz_i2l, gz_l2i, gz_get, gz_ald, gz_len, gz_dup, gz_d2, gz_nar, gz_a0, gz_a1, gz_cs, gz_cv, gz_mk, gz_te, gz_j1, gz_j2, gz_jn, gz_jk, gz_jo, gz_ja, gz_sat, gz_seti, gz_seta, gz_set2, gz_inc, gz_put, gz_ast, gz_pop, gz_vs, gz_vv, gz_sup, gz_rv, gz_ri, gz_rl, gz_ra, gz_if, gz_seq, gz_sw, gz_st, gz_st2, rok_I, rok_J, rok_V, rok_Z0, rok_Z1, rok_Zi, rok_R, rok_N, bi_rok, bi_0, bi_1, fit_I, fit_J, fit_Z0, fit_Z1, fit_Zi, fit_R, fit_N, fit_aR, aty_I, aty_Z0, aty_Z1, aty_Zi, aty_J, gz_ix, List.getElem?_cons_zero, List.getElem?_cons_succ, List.getElem?_nil, List.reverse_cons, List.reverse_nil, List.nil_append, List.cons_append, List.take_succ_cons, List.take_zero, List.take_nil, List.length_cons, List.length_nil, decide_true, decide_false, decide_not, Bool.not_true, Bool.not_false, gz_nle, if_true, if_false, and_true, true_and, and_self, and_false, false_and, or_true, true_or, or_false, false_or, Bool.false_eq_true, not_true, not_false_iff, Decidable.not_not, Nat.reduceLeDiff, Nat.reduceAdd, Nat.reduceEqDiff, Nat.reduceSub, Nat.reduceLT, Nat.zero_add, reduceCtorEq, reduceIte, eq_self, i32_10, i32_01, Nat.zero_le, Nat.one_ne_zero, cm, ab]
  by_cases bc : b = c
  · refine Or.inl ⟨hc, ?_, YW_rf yy, fun ⟨K, xn, yn, pn, qn, J, gd⟩ => (big gd).2.2.1 bc⟩
    subst bc
    by_cases cm : b = -1
    · subst cm; simp only [se_X7_layWay, sm_X7_layWay, gz_sem, gz_ae, Value.category, gz_i, gz_l, gz_nu, gz_li, gz_ll, gz_la, gz_ib, gz_iz, gz_lb, gz_lz, gz_ls, gz_lc, gz_i2l, gz_l2i, gz_get, gz_ald, gz_len, gz_dup, gz_d2, gz_nar, gz_a0, gz_a1, gz_cs, gz_cv, gz_mk, gz_te, gz_j1, gz_j2, gz_jn, gz_jk, gz_jo, gz_ja, gz_sat, gz_seti, gz_seta, gz_set2, gz_inc, gz_put, gz_ast, gz_pop, gz_vs, gz_vv, gz_sup, gz_rv, gz_ri, gz_rl, gz_ra, gz_if, gz_seq, gz_sw, gz_st, gz_st2, rok_I, rok_J, rok_V, rok_Z0, rok_Z1, rok_Zi, rok_R, rok_N, bi_rok, bi_0, bi_1, fit_I, fit_J, fit_Z0, fit_Z1, fit_Zi, fit_R, fit_N, fit_aR, aty_I, aty_Z0, aty_Z1, aty_Zi, aty_J, gz_ix, List.getElem?_cons_zero, List.getElem?_cons_succ, List.getElem?_nil, List.reverse_cons, List.reverse_nil, List.nil_append, List.cons_append, List.take_succ_cons, List.take_zero, List.take_nil, List.length_cons, List.length_nil, decide_true, decide_false, decide_not, Bool.not_true, Bool.not_false, gz_nle, if_true, if_false, and_true, true_and, and_self, and_false, false_and, or_true, true_or, or_false, false_or, Bool.false_eq_true, not_true, not_false_iff, Decidable.not_not, Nat.reduceLeDiff, Nat.reduceAdd, Nat.reduceEqDiff, Nat.reduceSub, Nat.reduceLT, Nat.zero_add, reduceCtorEq, reduceIte, eq_self, i32_10, i32_01, Nat.zero_le, Nat.one_ne_zero, ab]
    · simp only [se_X7_layWay, sm_X7_layWay, gz_sem, gz_ae, Value.category, gz_i, gz_l, gz_nu, gz_li, gz_ll, gz_la, gz_ib, gz_iz, gz_lb, gz_lz, gz_ls, gz_lc, gz_i2l, gz_l2i, gz_get, gz_ald, gz_len, gz_dup, gz_d2, gz_nar, gz_a0, gz_a1, gz_cs, gz_cv, gz_mk, gz_te, gz_j1, gz_j2, gz_jn, gz_jk, gz_jo, gz_ja, gz_sat, gz_seti, gz_seta, gz_set2, gz_inc, gz_put, gz_ast, gz_pop, gz_vs, gz_vv, gz_sup, gz_rv, gz_ri, gz_rl, gz_ra, gz_if, gz_seq, gz_sw, gz_st, gz_st2, rok_I, rok_J, rok_V, rok_Z0, rok_Z1, rok_Zi, rok_R, rok_N, bi_rok, bi_0, bi_1, fit_I, fit_J, fit_Z0, fit_Z1, fit_Zi, fit_R, fit_N, fit_aR, aty_I, aty_Z0, aty_Z1, aty_Zi, aty_J, gz_ix, List.getElem?_cons_zero, List.getElem?_cons_succ, List.getElem?_nil, List.reverse_cons, List.reverse_nil, List.nil_append, List.cons_append, List.take_succ_cons, List.take_zero, List.take_nil, List.length_cons, List.length_nil, decide_true, decide_false, decide_not, Bool.not_true, Bool.not_false, gz_nle, if_true, if_false, and_true, true_and, and_self, and_false, false_and, or_true, true_or, or_false, false_or, Bool.false_eq_true, not_true, not_false_iff, Decidable.not_not, Nat.reduceLeDiff, Nat.reduceAdd, Nat.reduceEqDiff, Nat.reduceSub, Nat.reduceLT, Nat.zero_add, reduceCtorEq, reduceIte, eq_self, i32_10, i32_01, Nat.zero_le, Nat.one_ne_zero, cm, ab]
  by_cases cm : c = -1
  · have dx0 : ∀ K xn yn pn qn J, GD g hr a b c x y p q K xn yn pn qn J → K = 2 ∧ xn < 100 ∧ yn < 100 ∧ qn = 0 := fun K xn yn pn qn J gd => by
      rcases gd.1 with ⟨z, -, z1, z2, z3⟩ | ⟨-, z, -⟩
      · exact ⟨z, z1, z2, z3⟩
      · exact absurd cm z
    subst cm
    rcases in_cs 0 99 (by decide) (by decide) x with o | ⟨xn, -, xb, rfl⟩
    · have o1 := (io_no o hc hr).1
      rw [e0, e99] at o1
      refine Or.inl ⟨hc, ?_, YW_rf yy, fun ⟨K, xn, yn, pn, qn, J, gd⟩ => ?_⟩
      · simp only [se_X7_layWay, sm_X7_layWay, gz_sem, gz_ae, Value.category, gz_i, gz_l, gz_nu, gz_li, gz_ll, gz_la, gz_ib, gz_iz, gz_lb, gz_lz, gz_ls, gz_lc, gz_i2l, gz_l2i, gz_get, gz_ald, gz_len, gz_dup, gz_d2, gz_nar, gz_a0, gz_a1, gz_cs, gz_cv, gz_mk, gz_te, gz_j1, gz_j2, gz_jn, gz_jk, gz_jo, gz_ja, gz_sat, gz_seti, gz_seta, gz_set2, gz_inc, gz_put, gz_ast, gz_pop, gz_vs, gz_vv, gz_sup, gz_rv, gz_ri, gz_rl, gz_ra, gz_if, gz_seq, gz_sw, gz_st, gz_st2, rok_I, rok_J, rok_V, rok_Z0, rok_Z1, rok_Zi, rok_R, rok_N, bi_rok, bi_0, bi_1, fit_I, fit_J, fit_Z0, fit_Z1, fit_Zi, fit_R, fit_N, fit_aR, aty_I, aty_Z0, aty_Z1, aty_Zi, aty_J, gz_ix, List.getElem?_cons_zero, List.getElem?_cons_succ, List.getElem?_nil, List.reverse_cons, List.reverse_nil, List.nil_append, List.cons_append, List.take_succ_cons, List.take_zero, List.take_nil, List.length_cons, List.length_nil, decide_true, decide_false, decide_not, Bool.not_true, Bool.not_false, gz_nle, if_true, if_false, and_true, true_and, and_self, and_false, false_and, or_true, true_or, or_false, false_or, Bool.false_eq_true, not_true, not_false_iff, Decidable.not_not, Nat.reduceLeDiff, Nat.reduceAdd, Nat.reduceEqDiff, Nat.reduceSub, Nat.reduceLT, Nat.zero_add, reduceCtorEq, reduceIte, eq_self, i32_10, i32_01, Nat.zero_le, Nat.one_ne_zero, ab, ac, bc, o1]
      · have ex := gd.2.2.1
        have := dx0 _ _ _ _ _ _ gd
        rw [ex] at o
        exact o.elim (nI_nlt (by omega) (by omega)) (nI_nlt (by omega) (by omega))
    have ox := (io_yes (Nat.zero_le xn) xb (by decide) hc hr).1
    rw [e0, e99] at ox
    rcases in_cs 0 99 (by decide) (by decide) y with o | ⟨yn, -, yb, rfl⟩
    · have o1 := (io_no o hc hr).1
      rw [e0, e99] at o1
      refine Or.inl ⟨hc, ?_, YW_rf yy, fun ⟨K, xn, yn, pn, qn, J, gd⟩ => ?_⟩
      · simp only [se_X7_layWay, sm_X7_layWay, gz_sem, gz_ae, Value.category, gz_i, gz_l, gz_nu, gz_li, gz_ll, gz_la, gz_ib, gz_iz, gz_lb, gz_lz, gz_ls, gz_lc, gz_i2l, gz_l2i, gz_get, gz_ald, gz_len, gz_dup, gz_d2, gz_nar, gz_a0, gz_a1, gz_cs, gz_cv, gz_mk, gz_te, gz_j1, gz_j2, gz_jn, gz_jk, gz_jo, gz_ja, gz_sat, gz_seti, gz_seta, gz_set2, gz_inc, gz_put, gz_ast, gz_pop, gz_vs, gz_vv, gz_sup, gz_rv, gz_ri, gz_rl, gz_ra, gz_if, gz_seq, gz_sw, gz_st, gz_st2, rok_I, rok_J, rok_V, rok_Z0, rok_Z1, rok_Zi, rok_R, rok_N, bi_rok, bi_0, bi_1, fit_I, fit_J, fit_Z0, fit_Z1, fit_Zi, fit_R, fit_N, fit_aR, aty_I, aty_Z0, aty_Z1, aty_Zi, aty_J, gz_ix, List.getElem?_cons_zero, List.getElem?_cons_succ, List.getElem?_nil, List.reverse_cons, List.reverse_nil, List.nil_append, List.cons_append, List.take_succ_cons, List.take_zero, List.take_nil, List.length_cons, List.length_nil, decide_true, decide_false, decide_not, Bool.not_true, Bool.not_false, gz_nle, if_true, if_false, and_true, true_and, and_self, and_false, false_and, or_true, true_or, or_false, false_or, Bool.false_eq_true, not_true, not_false_iff, Decidable.not_not, Nat.reduceLeDiff, Nat.reduceAdd, Nat.reduceEqDiff, Nat.reduceSub, Nat.reduceLT, Nat.zero_add, reduceCtorEq, reduceIte, eq_self, i32_10, i32_01, Nat.zero_le, Nat.one_ne_zero, ab, ac, bc, ox, o1]
      · have ex := gd.2.2.2.1
        have := dx0 _ _ _ _ _ _ gd
        rw [ex] at o
        exact o.elim (nI_nlt (by omega) (by omega)) (nI_nlt (by omega) (by omega))
    have oy := (io_yes (Nat.zero_le yn) yb (by decide) hc hr).1
    rw [e0, e99] at oy
    rcases in_cs 0 120 (by decide) (by decide) p with o | ⟨pn, -, pb, rfl⟩
    · have o1 := (io_no o hc hr).1
      rw [e0, e120] at o1
      refine Or.inl ⟨hc, ?_, YW_rf yy, fun ⟨K, xn, yn, pn, qn, J, gd⟩ => ?_⟩
      · simp only [se_X7_layWay, sm_X7_layWay, gz_sem, gz_ae, Value.category, gz_i, gz_l, gz_nu, gz_li, gz_ll, gz_la, gz_ib, gz_iz, gz_lb, gz_lz, gz_ls, gz_lc, gz_i2l, gz_l2i, gz_get, gz_ald, gz_len, gz_dup, gz_d2, gz_nar, gz_a0, gz_a1, gz_cs, gz_cv, gz_mk, gz_te, gz_j1, gz_j2, gz_jn, gz_jk, gz_jo, gz_ja, gz_sat, gz_seti, gz_seta, gz_set2, gz_inc, gz_put, gz_ast, gz_pop, gz_vs, gz_vv, gz_sup, gz_rv, gz_ri, gz_rl, gz_ra, gz_if, gz_seq, gz_sw, gz_st, gz_st2, rok_I, rok_J, rok_V, rok_Z0, rok_Z1, rok_Zi, rok_R, rok_N, bi_rok, bi_0, bi_1, fit_I, fit_J, fit_Z0, fit_Z1, fit_Zi, fit_R, fit_N, fit_aR, aty_I, aty_Z0, aty_Z1, aty_Zi, aty_J, gz_ix, List.getElem?_cons_zero, List.getElem?_cons_succ, List.getElem?_nil, List.reverse_cons, List.reverse_nil, List.nil_append, List.cons_append, List.take_succ_cons, List.take_zero, List.take_nil, List.length_cons, List.length_nil, decide_true, decide_false, decide_not, Bool.not_true, Bool.not_false, gz_nle, if_true, if_false, and_true, true_and, and_self, and_false, false_and, or_true, true_or, or_false, false_or, Bool.false_eq_true, not_true, not_false_iff, Decidable.not_not, Nat.reduceLeDiff, Nat.reduceAdd, Nat.reduceEqDiff, Nat.reduceSub, Nat.reduceLT, Nat.zero_add, reduceCtorEq, reduceIte, eq_self, i32_10, i32_01, Nat.zero_le, Nat.one_ne_zero, ab, ac, bc, ox, oy, o1]
      · have ex := gd.2.2.2.2.1
        have := gd.2.2.2.2.2.1
        rw [ex] at o
        exact o.elim (nI_nlt (by omega) (by omega)) (nI_nlt (by omega) (by omega))
    have op := (io_yes (Nat.zero_le pn) pb (by decide) hc hr).1
    rw [e0, e120] at op
    rcases in_cs 0 0 (by decide) (by decide) q with o | ⟨qn, -, qb, rfl⟩
    · have o1 := (io_no o hc hr).1
      rw [e0] at o1
      refine Or.inl ⟨hc, ?_, YW_rf yy, fun ⟨K, xn, yn, pn, qn, J, gd⟩ => ?_⟩
      · simp only [se_X7_layWay, sm_X7_layWay, gz_sem, gz_ae, Value.category, gz_i, gz_l, gz_nu, gz_li, gz_ll, gz_la, gz_ib, gz_iz, gz_lb, gz_lz, gz_ls, gz_lc, gz_i2l, gz_l2i, gz_get, gz_ald, gz_len, gz_dup, gz_d2, gz_nar, gz_a0, gz_a1, gz_cs, gz_cv, gz_mk, gz_te, gz_j1, gz_j2, gz_jn, gz_jk, gz_jo, gz_ja, gz_sat, gz_seti, gz_seta, gz_set2, gz_inc, gz_put, gz_ast, gz_pop, gz_vs, gz_vv, gz_sup, gz_rv, gz_ri, gz_rl, gz_ra, gz_if, gz_seq, gz_sw, gz_st, gz_st2, rok_I, rok_J, rok_V, rok_Z0, rok_Z1, rok_Zi, rok_R, rok_N, bi_rok, bi_0, bi_1, fit_I, fit_J, fit_Z0, fit_Z1, fit_Zi, fit_R, fit_N, fit_aR, aty_I, aty_Z0, aty_Z1, aty_Zi, aty_J, gz_ix, List.getElem?_cons_zero, List.getElem?_cons_succ, List.getElem?_nil, List.reverse_cons, List.reverse_nil, List.nil_append, List.cons_append, List.take_succ_cons, List.take_zero, List.take_nil, List.length_cons, List.length_nil, decide_true, decide_false, decide_not, Bool.not_true, Bool.not_false, gz_nle, if_true, if_false, and_true, true_and, and_self, and_false, false_and, or_true, true_or, or_false, false_or, Bool.false_eq_true, not_true, not_false_iff, Decidable.not_not, Nat.reduceLeDiff, Nat.reduceAdd, Nat.reduceEqDiff, Nat.reduceSub, Nat.reduceLT, Nat.zero_add, reduceCtorEq, reduceIte, eq_self, i32_10, i32_01, Nat.zero_le, Nat.one_ne_zero, ab, ac, bc, ox, oy, op, o1]
      · have ex := gd.2.2.2.2.2.2.1
        have := gd.2.2.2.2.2.2.2.1
        have := dx0 _ _ _ _ _ _ gd
        rw [ex] at o
        exact o.elim (nI_nlt (by omega) (by omega)) (nI_nlt (by omega) (by omega))
    have oq := (io_yes (Nat.zero_le qn) qb (by decide) hc hr).1
    rw [e0] at oq
    have r10 : ∀ n, n ≤ 999 → nI n - nI n / 10 * 10 = nI (n % 10) := fun n hn => pk_rem (d := 10) (by omega) (by omega) (by omega)
    have v10 : ∀ n, n ≤ 999 → nI n / 10 = nI (n / 10) := fun n hn => pk_div (d := 10) (by omega) (by omega) (by omega)
    have v100 : ∀ n, n ≤ 999 → nI n / 100 = nI (n / 100) := fun n hn => pk_div (d := 100) (by omega) (by omega) (by omega)
    have x1 := r10 xn (by omega)
    have x2 := v10 xn (by omega)
    have x3 := r10 (xn / 10) (by omega)
    have r10' : ∀ n, n ≤ 999 → nI n - nI (n / 10) * 10 = nI (n % 10) := fun n hn => by rw [← v10 n hn]; exact r10 n hn
    have x1' := r10' xn (by omega)
    have x3' := r10' (xn / 10) (by omega)
    have x5 := v10 (xn / 10) (by omega)
    have y1' := r10' yn (by omega)
    have y3' := r10' (yn / 10) (by omega)
    have y5 := v10 (yn / 10) (by omega)
    have x4 := v100 xn (by omega)
    have y1 := r10 yn (by omega)
    have y2 := v10 yn (by omega)
    have y3 := r10 (yn / 10) (by omega)
    have y4 := v100 yn (by omega)
    have pq : nI pn + nI qn = nI (pn + qn) := nI_add _ _
    -- from a way to its stops
    have gdd : ∀ K xn' yn' pn' qn' J, GD g hr a b (-1) (nI xn) (nI yn) (nI pn) (nI qn) K xn' yn' pn' qn' J → K = 2 ∧ xn' = xn ∧ yn' = yn := fun K xn' yn' pn' qn' J gd => by
      have b1 := dx0 _ _ _ _ _ _ gd
      exact ⟨b1.1, ((nI_eq (by omega) (by omega)).mp gd.2.2.1).symm, ((nI_eq (by omega) (by omega)).mp gd.2.2.2.1).symm⟩
    rcases sg I0 0 xn yn pn qn (fun _ => 0) (by omega) (WF_0 f50) (fun z => absurd z (by omega)) a (by omega) (by omega) with ⟨n0, s0⟩ | ⟨ja, h1, g0, s0, Y1, W1⟩
    · have s0' : se_X7_laysStop [.ref 0, .int a, .int (nI (xn % 10)), .int (nI (yn % 10)), .int 0, .int (nI (pn + qn))] (gz_set hc 9 5 (.int 0)) = some (some (.int 0), gz_set hc 9 5 (.int 0)) := s0
      refine Or.inl ⟨gz_set hc 9 5 (.int 0), ?_, Y0, fun ⟨K, xn', yn', pn', qn', J, gd⟩ => n0 ?_⟩
      · simp only [se_X7_layWay, sm_X7_layWay, gz_sem, gz_ae, Value.category, gz_i, gz_l, gz_nu, gz_li, gz_ll, gz_la, gz_ib, gz_iz, gz_lb, gz_lz, gz_ls, gz_lc, gz_i2l, gz_l2i, gz_get, gz_ald, gz_len, gz_dup, gz_d2, gz_nar, gz_a0, gz_a1, gz_cs, gz_cv, gz_mk, gz_te, gz_j1, gz_j2, gz_jn, gz_jk, gz_jo, gz_ja, gz_sat, gz_seti, gz_seta, gz_set2, gz_inc, gz_put, gz_ast, gz_pop, gz_vs, gz_vv, gz_sup, gz_rv, gz_ri, gz_rl, gz_ra, gz_if, gz_seq, gz_sw, gz_st, gz_st2, rok_I, rok_J, rok_V, rok_Z0, rok_Z1, rok_Zi, rok_R, rok_N, bi_rok, bi_0, bi_1, fit_I, fit_J, fit_Z0, fit_Z1, fit_Zi, fit_R, fit_N, fit_aR, aty_I, aty_Z0, aty_Z1, aty_Zi, aty_J, gz_ix, List.getElem?_cons_zero, List.getElem?_cons_succ, List.getElem?_nil, List.reverse_cons, List.reverse_nil, List.nil_append, List.cons_append, List.take_succ_cons, List.take_zero, List.take_nil, List.length_cons, List.length_nil, decide_true, decide_false, decide_not, Bool.not_true, Bool.not_false, gz_nle, if_true, if_false, and_true, true_and, and_self, and_false, false_and, or_true, true_or, or_false, false_or, Bool.false_eq_true, not_true, not_false_iff, Decidable.not_not, Nat.reduceLeDiff, Nat.reduceAdd, Nat.reduceEqDiff, Nat.reduceSub, Nat.reduceLT, Nat.zero_add, reduceCtorEq, reduceIte, eq_self, i32_10, i32_01, Nat.zero_le, Nat.one_ne_zero, ab, ac, bc, ox, oy, op, oq, cc, yy, c0, g10, x1, y1, pq, s0']
      · obtain ⟨k1, rfl, rfl⟩ := gdd _ _ _ _ _ _ gd
        obtain ⟨w1, w2, w3, w4, w5, w6⟩ := gd.2.2.2.2.2.2.2.2 0 (by omega)
        exact ⟨J 0, w1, w2, w3, w4, w5, fun z => absurd z (by omega)⟩
    have s0' : se_X7_laysStop [.ref 0, .int a, .int (nI (xn % 10)), .int (nI (yn % 10)), .int 0, .int (nI (pn + qn))] (gz_set hc 9 5 (.int 0)) = some (some (.int 1), h1) := s0
    have I1 := IV_yw I0 Y1
    have c1 := IV_cs I1
    rcases sg I1 1 xn yn pn qn _ (by omega) W1 (fun _ => ⟨g0.2.1, g0.2.2.2.2.1⟩) b (by omega) (by omega) with ⟨n1, s1⟩ | ⟨jb, h2, g1, s1, Y2, W2⟩
    · have s1' : se_X7_laysStop [.ref 0, .int b, .int (nI (xn / 10 % 10)), .int (nI (yn / 10 % 10)), .int (nI pn), .int (nI qn)] h1 = some (some (.int 0), h1) := s1
      refine Or.inl ⟨h1, ?_, YW_tr Y0 Y1, fun ⟨K, xn', yn', pn', qn', J, gd⟩ => n1 ?_⟩
      · simp only [se_X7_layWay, sm_X7_layWay, gz_sem, gz_ae, Value.category, gz_i, gz_l, gz_nu, gz_li, gz_ll, gz_la, gz_ib, gz_iz, gz_lb, gz_lz, gz_ls, gz_lc, gz_i2l, gz_l2i, gz_get, gz_ald, gz_len, gz_dup, gz_d2, gz_nar, gz_a0, gz_a1, gz_cs, gz_cv, gz_mk, gz_te, gz_j1, gz_j2, gz_jn, gz_jk, gz_jo, gz_ja, gz_sat, gz_seti, gz_seta, gz_set2, gz_inc, gz_put, gz_ast, gz_pop, gz_vs, gz_vv, gz_sup, gz_rv, gz_ri, gz_rl, gz_ra, gz_if, gz_seq, gz_sw, gz_st, gz_st2, rok_I, rok_J, rok_V, rok_Z0, rok_Z1, rok_Zi, rok_R, rok_N, bi_rok, bi_0, bi_1, fit_I, fit_J, fit_Z0, fit_Z1, fit_Zi, fit_R, fit_N, fit_aR, aty_I, aty_Z0, aty_Z1, aty_Zi, aty_J, gz_ix, List.getElem?_cons_zero, List.getElem?_cons_succ, List.getElem?_nil, List.reverse_cons, List.reverse_nil, List.nil_append, List.cons_append, List.take_succ_cons, List.take_zero, List.take_nil, List.length_cons, List.length_nil, decide_true, decide_false, decide_not, Bool.not_true, Bool.not_false, gz_nle, if_true, if_false, and_true, true_and, and_self, and_false, false_and, or_true, true_or, or_false, false_or, Bool.false_eq_true, not_true, not_false_iff, Decidable.not_not, Nat.reduceLeDiff, Nat.reduceAdd, Nat.reduceEqDiff, Nat.reduceSub, Nat.reduceLT, Nat.zero_add, reduceCtorEq, reduceIte, eq_self, i32_10, i32_01, Nat.zero_le, Nat.one_ne_zero, ab, ac, bc, ox, oy, op, oq, cc, yy, c0, c1, g10, x1', x2, x5, x3', y1', y2, y5, y3', pq, s0', s1']
      · obtain ⟨k1, rfl, rfl⟩ := gdd _ _ _ _ _ _ gd
        obtain ⟨w1, w2, w3, w4, w5, w6⟩ := gd.2.2.2.2.2.2.2.2 1 (by omega)
        obtain ⟨u1, u2, -⟩ := gd.2.2.2.2.2.2.2.2 0 (by omega)
        have e : J 0 = ja := (nI_eq (by omega) (by have := g0.2.1; omega)).mp (u1.symm.trans g0.1)
        exact ⟨J 1, w1, w2, w3, w4, w5, fun _ => by rw [w6, e]; rfl⟩
    have s1' : se_X7_laysStop [.ref 0, .int b, .int (nI (xn / 10 % 10)), .int (nI (yn / 10 % 10)), .int (nI pn), .int (nI qn)] h1 = some (some (.int 1), h2) := s1
    have e24 : gz_I hr 24 (8 + jb) = gz_I hr 24 (8 + ja) := g1.2.2.2.2.2 (by omega)
    refine Or.inr ⟨h2, 2, xn, yn, pn, qn, (fun i => if i = 1 then jb else if i = 0 then ja else 0), ?_, YW_tr (YW_tr Y0 Y1) Y2, ⟨Or.inl ⟨rfl, rfl, by omega, by omega, by omega⟩, ab, rfl, rfl, rfl, pb, rfl, by omega, fun k hk => ?_⟩, W2⟩
    · simp only [se_X7_layWay, sm_X7_layWay, gz_sem, gz_ae, Value.category, gz_i, gz_l, gz_nu, gz_li, gz_ll, gz_la, gz_ib, gz_iz, gz_lb, gz_lz, gz_ls, gz_lc, gz_i2l, gz_l2i, gz_get, gz_ald, gz_len, gz_dup, gz_d2, gz_nar, gz_a0, gz_a1, gz_cs, gz_cv, gz_mk, gz_te, gz_j1, gz_j2, gz_jn, gz_jk, gz_jo, gz_ja, gz_sat, gz_seti, gz_seta, gz_set2, gz_inc, gz_put, gz_ast, gz_pop, gz_vs, gz_vv, gz_sup, gz_rv, gz_ri, gz_rl, gz_ra, gz_if, gz_seq, gz_sw, gz_st, gz_st2, rok_I, rok_J, rok_V, rok_Z0, rok_Z1, rok_Zi, rok_R, rok_N, bi_rok, bi_0, bi_1, fit_I, fit_J, fit_Z0, fit_Z1, fit_Zi, fit_R, fit_N, fit_aR, aty_I, aty_Z0, aty_Z1, aty_Zi, aty_J, gz_ix, List.getElem?_cons_zero, List.getElem?_cons_succ, List.getElem?_nil, List.reverse_cons, List.reverse_nil, List.nil_append, List.cons_append, List.take_succ_cons, List.take_zero, List.take_nil, List.length_cons, List.length_nil, decide_true, decide_false, decide_not, Bool.not_true, Bool.not_false, gz_nle, if_true, if_false, and_true, true_and, and_self, and_false, false_and, or_true, true_or, or_false, false_or, Bool.false_eq_true, not_true, not_false_iff, Decidable.not_not, Nat.reduceLeDiff, Nat.reduceAdd, Nat.reduceEqDiff, Nat.reduceSub, Nat.reduceLT, Nat.zero_add, reduceCtorEq, reduceIte, eq_self, i32_10, i32_01, Nat.zero_le, Nat.one_ne_zero, ab, ac, bc, ox, oy, op, oq, cc, yy, c0, c1, g10, x1', x2, x5, x3', y1', y2, y5, y3', pq, s0', s1']
    · have : k = 0 ∨ k = 1 := by omega
      rcases this with rfl | rfl
      · exact ⟨g0.1, g0.2.1, g0.2.2.1, g0.2.2.2.1, g0.2.2.2.2.1, rfl⟩
      · exact ⟨g1.1, g1.2.1, g1.2.2.1, g1.2.2.2.1, g1.2.2.2.2.1, e24⟩
  · have dx0 : ∀ K xn yn pn qn J, GD g hr a b c x y p q K xn yn pn qn J → K = 3 ∧ xn < 1000 ∧ yn < 1000 := fun K xn yn pn qn J gd => by
      rcases gd.1 with ⟨-, z, -⟩ | ⟨z, -, -, -, z1, z2⟩
      · exact absurd z cm
      · exact ⟨z, z1, z2⟩
    rcases in_cs 0 999 (by decide) (by decide) x with o | ⟨xn, -, xb, rfl⟩
    · have o1 := (io_no o hc hr).1
      rw [e0, e999] at o1
      refine Or.inl ⟨hc, ?_, YW_rf yy, fun ⟨K, xn, yn, pn, qn, J, gd⟩ => ?_⟩
      · simp only [se_X7_layWay, sm_X7_layWay, gz_sem, gz_ae, Value.category, gz_i, gz_l, gz_nu, gz_li, gz_ll, gz_la, gz_ib, gz_iz, gz_lb, gz_lz, gz_ls, gz_lc, gz_i2l, gz_l2i, gz_get, gz_ald, gz_len, gz_dup, gz_d2, gz_nar, gz_a0, gz_a1, gz_cs, gz_cv, gz_mk, gz_te, gz_j1, gz_j2, gz_jn, gz_jk, gz_jo, gz_ja, gz_sat, gz_seti, gz_seta, gz_set2, gz_inc, gz_put, gz_ast, gz_pop, gz_vs, gz_vv, gz_sup, gz_rv, gz_ri, gz_rl, gz_ra, gz_if, gz_seq, gz_sw, gz_st, gz_st2, rok_I, rok_J, rok_V, rok_Z0, rok_Z1, rok_Zi, rok_R, rok_N, bi_rok, bi_0, bi_1, fit_I, fit_J, fit_Z0, fit_Z1, fit_Zi, fit_R, fit_N, fit_aR, aty_I, aty_Z0, aty_Z1, aty_Zi, aty_J, gz_ix, List.getElem?_cons_zero, List.getElem?_cons_succ, List.getElem?_nil, List.reverse_cons, List.reverse_nil, List.nil_append, List.cons_append, List.take_succ_cons, List.take_zero, List.take_nil, List.length_cons, List.length_nil, decide_true, decide_false, decide_not, Bool.not_true, Bool.not_false, gz_nle, if_true, if_false, and_true, true_and, and_self, and_false, false_and, or_true, true_or, or_false, false_or, Bool.false_eq_true, not_true, not_false_iff, Decidable.not_not, Nat.reduceLeDiff, Nat.reduceAdd, Nat.reduceEqDiff, Nat.reduceSub, Nat.reduceLT, Nat.zero_add, reduceCtorEq, reduceIte, eq_self, i32_10, i32_01, Nat.zero_le, Nat.one_ne_zero, cm, ab, ac, bc, o1]
      · have ex := gd.2.2.1
        have := dx0 _ _ _ _ _ _ gd
        rw [ex] at o
        exact o.elim (nI_nlt (by omega) (by omega)) (nI_nlt (by omega) (by omega))
    have ox := (io_yes (Nat.zero_le xn) xb (by decide) hc hr).1
    rw [e0, e999] at ox
    rcases in_cs 0 999 (by decide) (by decide) y with o | ⟨yn, -, yb, rfl⟩
    · have o1 := (io_no o hc hr).1
      rw [e0, e999] at o1
      refine Or.inl ⟨hc, ?_, YW_rf yy, fun ⟨K, xn, yn, pn, qn, J, gd⟩ => ?_⟩
      · simp only [se_X7_layWay, sm_X7_layWay, gz_sem, gz_ae, Value.category, gz_i, gz_l, gz_nu, gz_li, gz_ll, gz_la, gz_ib, gz_iz, gz_lb, gz_lz, gz_ls, gz_lc, gz_i2l, gz_l2i, gz_get, gz_ald, gz_len, gz_dup, gz_d2, gz_nar, gz_a0, gz_a1, gz_cs, gz_cv, gz_mk, gz_te, gz_j1, gz_j2, gz_jn, gz_jk, gz_jo, gz_ja, gz_sat, gz_seti, gz_seta, gz_set2, gz_inc, gz_put, gz_ast, gz_pop, gz_vs, gz_vv, gz_sup, gz_rv, gz_ri, gz_rl, gz_ra, gz_if, gz_seq, gz_sw, gz_st, gz_st2, rok_I, rok_J, rok_V, rok_Z0, rok_Z1, rok_Zi, rok_R, rok_N, bi_rok, bi_0, bi_1, fit_I, fit_J, fit_Z0, fit_Z1, fit_Zi, fit_R, fit_N, fit_aR, aty_I, aty_Z0, aty_Z1, aty_Zi, aty_J, gz_ix, List.getElem?_cons_zero, List.getElem?_cons_succ, List.getElem?_nil, List.reverse_cons, List.reverse_nil, List.nil_append, List.cons_append, List.take_succ_cons, List.take_zero, List.take_nil, List.length_cons, List.length_nil, decide_true, decide_false, decide_not, Bool.not_true, Bool.not_false, gz_nle, if_true, if_false, and_true, true_and, and_self, and_false, false_and, or_true, true_or, or_false, false_or, Bool.false_eq_true, not_true, not_false_iff, Decidable.not_not, Nat.reduceLeDiff, Nat.reduceAdd, Nat.reduceEqDiff, Nat.reduceSub, Nat.reduceLT, Nat.zero_add, reduceCtorEq, reduceIte, eq_self, i32_10, i32_01, Nat.zero_le, Nat.one_ne_zero, cm, ab, ac, bc, ox, o1]
      · have ex := gd.2.2.2.1
        have := dx0 _ _ _ _ _ _ gd
        rw [ex] at o
        exact o.elim (nI_nlt (by omega) (by omega)) (nI_nlt (by omega) (by omega))
    have oy := (io_yes (Nat.zero_le yn) yb (by decide) hc hr).1
    rw [e0, e999] at oy
    rcases in_cs 0 120 (by decide) (by decide) p with o | ⟨pn, -, pb, rfl⟩
    · have o1 := (io_no o hc hr).1
      rw [e0, e120] at o1
      refine Or.inl ⟨hc, ?_, YW_rf yy, fun ⟨K, xn, yn, pn, qn, J, gd⟩ => ?_⟩
      · simp only [se_X7_layWay, sm_X7_layWay, gz_sem, gz_ae, Value.category, gz_i, gz_l, gz_nu, gz_li, gz_ll, gz_la, gz_ib, gz_iz, gz_lb, gz_lz, gz_ls, gz_lc, gz_i2l, gz_l2i, gz_get, gz_ald, gz_len, gz_dup, gz_d2, gz_nar, gz_a0, gz_a1, gz_cs, gz_cv, gz_mk, gz_te, gz_j1, gz_j2, gz_jn, gz_jk, gz_jo, gz_ja, gz_sat, gz_seti, gz_seta, gz_set2, gz_inc, gz_put, gz_ast, gz_pop, gz_vs, gz_vv, gz_sup, gz_rv, gz_ri, gz_rl, gz_ra, gz_if, gz_seq, gz_sw, gz_st, gz_st2, rok_I, rok_J, rok_V, rok_Z0, rok_Z1, rok_Zi, rok_R, rok_N, bi_rok, bi_0, bi_1, fit_I, fit_J, fit_Z0, fit_Z1, fit_Zi, fit_R, fit_N, fit_aR, aty_I, aty_Z0, aty_Z1, aty_Zi, aty_J, gz_ix, List.getElem?_cons_zero, List.getElem?_cons_succ, List.getElem?_nil, List.reverse_cons, List.reverse_nil, List.nil_append, List.cons_append, List.take_succ_cons, List.take_zero, List.take_nil, List.length_cons, List.length_nil, decide_true, decide_false, decide_not, Bool.not_true, Bool.not_false, gz_nle, if_true, if_false, and_true, true_and, and_self, and_false, false_and, or_true, true_or, or_false, false_or, Bool.false_eq_true, not_true, not_false_iff, Decidable.not_not, Nat.reduceLeDiff, Nat.reduceAdd, Nat.reduceEqDiff, Nat.reduceSub, Nat.reduceLT, Nat.zero_add, reduceCtorEq, reduceIte, eq_self, i32_10, i32_01, Nat.zero_le, Nat.one_ne_zero, cm, ab, ac, bc, ox, oy, o1]
      · have ex := gd.2.2.2.2.1
        have := gd.2.2.2.2.2.1
        rw [ex] at o
        exact o.elim (nI_nlt (by omega) (by omega)) (nI_nlt (by omega) (by omega))
    have op := (io_yes (Nat.zero_le pn) pb (by decide) hc hr).1
    rw [e0, e120] at op
    rcases in_cs 0 120 (by decide) (by decide) q with o | ⟨qn, -, qb, rfl⟩
    · have o1 := (io_no o hc hr).1
      rw [e0, e120] at o1
      refine Or.inl ⟨hc, ?_, YW_rf yy, fun ⟨K, xn, yn, pn, qn, J, gd⟩ => ?_⟩
      · simp only [se_X7_layWay, sm_X7_layWay, gz_sem, gz_ae, Value.category, gz_i, gz_l, gz_nu, gz_li, gz_ll, gz_la, gz_ib, gz_iz, gz_lb, gz_lz, gz_ls, gz_lc, gz_i2l, gz_l2i, gz_get, gz_ald, gz_len, gz_dup, gz_d2, gz_nar, gz_a0, gz_a1, gz_cs, gz_cv, gz_mk, gz_te, gz_j1, gz_j2, gz_jn, gz_jk, gz_jo, gz_ja, gz_sat, gz_seti, gz_seta, gz_set2, gz_inc, gz_put, gz_ast, gz_pop, gz_vs, gz_vv, gz_sup, gz_rv, gz_ri, gz_rl, gz_ra, gz_if, gz_seq, gz_sw, gz_st, gz_st2, rok_I, rok_J, rok_V, rok_Z0, rok_Z1, rok_Zi, rok_R, rok_N, bi_rok, bi_0, bi_1, fit_I, fit_J, fit_Z0, fit_Z1, fit_Zi, fit_R, fit_N, fit_aR, aty_I, aty_Z0, aty_Z1, aty_Zi, aty_J, gz_ix, List.getElem?_cons_zero, List.getElem?_cons_succ, List.getElem?_nil, List.reverse_cons, List.reverse_nil, List.nil_append, List.cons_append, List.take_succ_cons, List.take_zero, List.take_nil, List.length_cons, List.length_nil, decide_true, decide_false, decide_not, Bool.not_true, Bool.not_false, gz_nle, if_true, if_false, and_true, true_and, and_self, and_false, false_and, or_true, true_or, or_false, false_or, Bool.false_eq_true, not_true, not_false_iff, Decidable.not_not, Nat.reduceLeDiff, Nat.reduceAdd, Nat.reduceEqDiff, Nat.reduceSub, Nat.reduceLT, Nat.zero_add, reduceCtorEq, reduceIte, eq_self, i32_10, i32_01, Nat.zero_le, Nat.one_ne_zero, cm, ab, ac, bc, ox, oy, op, o1]
      · have ex := gd.2.2.2.2.2.2.1
        have := gd.2.2.2.2.2.2.2.1
        have := dx0 _ _ _ _ _ _ gd
        rw [ex] at o
        exact o.elim (nI_nlt (by omega) (by omega)) (nI_nlt (by omega) (by omega))
    have oq := (io_yes (Nat.zero_le qn) qb (by decide) hc hr).1
    rw [e0, e120] at oq
    have r10 : ∀ n, n ≤ 999 → nI n - nI n / 10 * 10 = nI (n % 10) := fun n hn => pk_rem (d := 10) (by omega) (by omega) (by omega)
    have v10 : ∀ n, n ≤ 999 → nI n / 10 = nI (n / 10) := fun n hn => pk_div (d := 10) (by omega) (by omega) (by omega)
    have v100 : ∀ n, n ≤ 999 → nI n / 100 = nI (n / 100) := fun n hn => pk_div (d := 100) (by omega) (by omega) (by omega)
    have x1 := r10 xn (by omega)
    have x2 := v10 xn (by omega)
    have x3 := r10 (xn / 10) (by omega)
    have r10' : ∀ n, n ≤ 999 → nI n - nI (n / 10) * 10 = nI (n % 10) := fun n hn => by rw [← v10 n hn]; exact r10 n hn
    have x1' := r10' xn (by omega)
    have x3' := r10' (xn / 10) (by omega)
    have x5 := v10 (xn / 10) (by omega)
    have y1' := r10' yn (by omega)
    have y3' := r10' (yn / 10) (by omega)
    have y5 := v10 (yn / 10) (by omega)
    have x4 := v100 xn (by omega)
    have y1 := r10 yn (by omega)
    have y2 := v10 yn (by omega)
    have y3 := r10 (yn / 10) (by omega)
    have y4 := v100 yn (by omega)
    have pq : nI pn + nI qn = nI (pn + qn) := nI_add _ _
    -- from a way to its stops
    have gdd : ∀ K xn' yn' pn' qn' J, GD g hr a b c (nI xn) (nI yn) (nI pn) (nI qn) K xn' yn' pn' qn' J → K = 3 ∧ xn' = xn ∧ yn' = yn := fun K xn' yn' pn' qn' J gd => by
      have b1 := dx0 _ _ _ _ _ _ gd
      exact ⟨b1.1, ((nI_eq (by omega) (by omega)).mp gd.2.2.1).symm, ((nI_eq (by omega) (by omega)).mp gd.2.2.2.1).symm⟩
    rcases sg I0 0 xn yn pn qn (fun _ => 0) (by omega) (WF_0 f50) (fun z => absurd z (by omega)) a (by omega) (by omega) with ⟨n0, s0⟩ | ⟨ja, h1, g0, s0, Y1, W1⟩
    · have s0' : se_X7_laysStop [.ref 0, .int a, .int (nI (xn % 10)), .int (nI (yn % 10)), .int 0, .int (nI (pn + qn))] (gz_set hc 9 5 (.int 0)) = some (some (.int 0), gz_set hc 9 5 (.int 0)) := s0
      refine Or.inl ⟨gz_set hc 9 5 (.int 0), ?_, Y0, fun ⟨K, xn', yn', pn', qn', J, gd⟩ => n0 ?_⟩
      · simp only [se_X7_layWay, sm_X7_layWay, gz_sem, gz_ae, Value.category, gz_i, gz_l, gz_nu, gz_li, gz_ll, gz_la, gz_ib, gz_iz, gz_lb, gz_lz, gz_ls, gz_lc, gz_i2l, gz_l2i, gz_get, gz_ald, gz_len, gz_dup, gz_d2, gz_nar, gz_a0, gz_a1, gz_cs, gz_cv, gz_mk, gz_te, gz_j1, gz_j2, gz_jn, gz_jk, gz_jo, gz_ja, gz_sat, gz_seti, gz_seta, gz_set2, gz_inc, gz_put, gz_ast, gz_pop, gz_vs, gz_vv, gz_sup, gz_rv, gz_ri, gz_rl, gz_ra, gz_if, gz_seq, gz_sw, gz_st, gz_st2, rok_I, rok_J, rok_V, rok_Z0, rok_Z1, rok_Zi, rok_R, rok_N, bi_rok, bi_0, bi_1, fit_I, fit_J, fit_Z0, fit_Z1, fit_Zi, fit_R, fit_N, fit_aR, aty_I, aty_Z0, aty_Z1, aty_Zi, aty_J, gz_ix, List.getElem?_cons_zero, List.getElem?_cons_succ, List.getElem?_nil, List.reverse_cons, List.reverse_nil, List.nil_append, List.cons_append, List.take_succ_cons, List.take_zero, List.take_nil, List.length_cons, List.length_nil, decide_true, decide_false, decide_not, Bool.not_true, Bool.not_false, gz_nle, if_true, if_false, and_true, true_and, and_self, and_false, false_and, or_true, true_or, or_false, false_or, Bool.false_eq_true, not_true, not_false_iff, Decidable.not_not, Nat.reduceLeDiff, Nat.reduceAdd, Nat.reduceEqDiff, Nat.reduceSub, Nat.reduceLT, Nat.zero_add, reduceCtorEq, reduceIte, eq_self, i32_10, i32_01, Nat.zero_le, Nat.one_ne_zero, cm, ab, ac, bc, ox, oy, op, oq, cc, yy, c0, g10, x1, y1, pq, s0']
      · obtain ⟨k1, rfl, rfl⟩ := gdd _ _ _ _ _ _ gd
        obtain ⟨w1, w2, w3, w4, w5, w6⟩ := gd.2.2.2.2.2.2.2.2 0 (by omega)
        exact ⟨J 0, w1, w2, w3, w4, w5, fun z => absurd z (by omega)⟩
    have s0' : se_X7_laysStop [.ref 0, .int a, .int (nI (xn % 10)), .int (nI (yn % 10)), .int 0, .int (nI (pn + qn))] (gz_set hc 9 5 (.int 0)) = some (some (.int 1), h1) := s0
    have I1 := IV_yw I0 Y1
    have c1 := IV_cs I1
    rcases sg I1 1 xn yn pn qn _ (by omega) W1 (fun _ => ⟨g0.2.1, g0.2.2.2.2.1⟩) b (by omega) (by omega) with ⟨n1, s1⟩ | ⟨jb, h2, g1, s1, Y2, W2⟩
    · have s1' : se_X7_laysStop [.ref 0, .int b, .int (nI (xn / 10 % 10)), .int (nI (yn / 10 % 10)), .int (nI pn), .int (nI qn)] h1 = some (some (.int 0), h1) := s1
      refine Or.inl ⟨h1, ?_, YW_tr Y0 Y1, fun ⟨K, xn', yn', pn', qn', J, gd⟩ => n1 ?_⟩
      · simp only [se_X7_layWay, sm_X7_layWay, gz_sem, gz_ae, Value.category, gz_i, gz_l, gz_nu, gz_li, gz_ll, gz_la, gz_ib, gz_iz, gz_lb, gz_lz, gz_ls, gz_lc, gz_i2l, gz_l2i, gz_get, gz_ald, gz_len, gz_dup, gz_d2, gz_nar, gz_a0, gz_a1, gz_cs, gz_cv, gz_mk, gz_te, gz_j1, gz_j2, gz_jn, gz_jk, gz_jo, gz_ja, gz_sat, gz_seti, gz_seta, gz_set2, gz_inc, gz_put, gz_ast, gz_pop, gz_vs, gz_vv, gz_sup, gz_rv, gz_ri, gz_rl, gz_ra, gz_if, gz_seq, gz_sw, gz_st, gz_st2, rok_I, rok_J, rok_V, rok_Z0, rok_Z1, rok_Zi, rok_R, rok_N, bi_rok, bi_0, bi_1, fit_I, fit_J, fit_Z0, fit_Z1, fit_Zi, fit_R, fit_N, fit_aR, aty_I, aty_Z0, aty_Z1, aty_Zi, aty_J, gz_ix, List.getElem?_cons_zero, List.getElem?_cons_succ, List.getElem?_nil, List.reverse_cons, List.reverse_nil, List.nil_append, List.cons_append, List.take_succ_cons, List.take_zero, List.take_nil, List.length_cons, List.length_nil, decide_true, decide_false, decide_not, Bool.not_true, Bool.not_false, gz_nle, if_true, if_false, and_true, true_and, and_self, and_false, false_and, or_true, true_or, or_false, false_or, Bool.false_eq_true, not_true, not_false_iff, Decidable.not_not, Nat.reduceLeDiff, Nat.reduceAdd, Nat.reduceEqDiff, Nat.reduceSub, Nat.reduceLT, Nat.zero_add, reduceCtorEq, reduceIte, eq_self, i32_10, i32_01, Nat.zero_le, Nat.one_ne_zero, cm, ab, ac, bc, ox, oy, op, oq, cc, yy, c0, c1, g10, x1', x2, x5, x3', y1', y2, y5, y3', pq, s0', s1']
      · obtain ⟨k1, rfl, rfl⟩ := gdd _ _ _ _ _ _ gd
        obtain ⟨w1, w2, w3, w4, w5, w6⟩ := gd.2.2.2.2.2.2.2.2 1 (by omega)
        obtain ⟨u1, u2, -⟩ := gd.2.2.2.2.2.2.2.2 0 (by omega)
        have e : J 0 = ja := (nI_eq (by omega) (by have := g0.2.1; omega)).mp (u1.symm.trans g0.1)
        exact ⟨J 1, w1, w2, w3, w4, w5, fun _ => by rw [w6, e]; rfl⟩
    have s1' : se_X7_laysStop [.ref 0, .int b, .int (nI (xn / 10 % 10)), .int (nI (yn / 10 % 10)), .int (nI pn), .int (nI qn)] h1 = some (some (.int 1), h2) := s1
    have e24 : gz_I hr 24 (8 + jb) = gz_I hr 24 (8 + ja) := g1.2.2.2.2.2 (by omega)
    have I2 := IV_yw I1 Y2
    have c2 := IV_cs I2
    rcases sg I2 2 xn yn pn qn _ (by omega) W2 (fun _ => ⟨g0.2.1, g0.2.2.2.2.1⟩) c (by omega) (by omega) with ⟨n2, s2⟩ | ⟨jd, h3, g2, s2, Y3, W3⟩
    · have s2' : se_X7_laysStop [.ref 0, .int c, .int (nI (xn / 100)), .int (nI (yn / 100)), .int (nI (pn + qn)), .int 0] h2 = some (some (.int 0), h2) := s2
      refine Or.inl ⟨h2, ?_, YW_tr (YW_tr Y0 Y1) Y2, fun ⟨K, xn', yn', pn', qn', J, gd⟩ => n2 ?_⟩
      · simp only [se_X7_layWay, sm_X7_layWay, gz_sem, gz_ae, Value.category, gz_i, gz_l, gz_nu, gz_li, gz_ll, gz_la, gz_ib, gz_iz, gz_lb, gz_lz, gz_ls, gz_lc, gz_i2l, gz_l2i, gz_get, gz_ald, gz_len, gz_dup, gz_d2, gz_nar, gz_a0, gz_a1, gz_cs, gz_cv, gz_mk, gz_te, gz_j1, gz_j2, gz_jn, gz_jk, gz_jo, gz_ja, gz_sat, gz_seti, gz_seta, gz_set2, gz_inc, gz_put, gz_ast, gz_pop, gz_vs, gz_vv, gz_sup, gz_rv, gz_ri, gz_rl, gz_ra, gz_if, gz_seq, gz_sw, gz_st, gz_st2, rok_I, rok_J, rok_V, rok_Z0, rok_Z1, rok_Zi, rok_R, rok_N, bi_rok, bi_0, bi_1, fit_I, fit_J, fit_Z0, fit_Z1, fit_Zi, fit_R, fit_N, fit_aR, aty_I, aty_Z0, aty_Z1, aty_Zi, aty_J, gz_ix, List.getElem?_cons_zero, List.getElem?_cons_succ, List.getElem?_nil, List.reverse_cons, List.reverse_nil, List.nil_append, List.cons_append, List.take_succ_cons, List.take_zero, List.take_nil, List.length_cons, List.length_nil, decide_true, decide_false, decide_not, Bool.not_true, Bool.not_false, gz_nle, if_true, if_false, and_true, true_and, and_self, and_false, false_and, or_true, true_or, or_false, false_or, Bool.false_eq_true, not_true, not_false_iff, Decidable.not_not, Nat.reduceLeDiff, Nat.reduceAdd, Nat.reduceEqDiff, Nat.reduceSub, Nat.reduceLT, Nat.zero_add, reduceCtorEq, reduceIte, eq_self, i32_10, i32_01, Nat.zero_le, Nat.one_ne_zero, cm, ab, ac, bc, ox, oy, op, oq, cc, yy, c0, c1, c2, g10, g100, x1', x2, x5, x3', x4, y1', y2, y5, y3', y4, pq, s0', s1', s2']
      · obtain ⟨k1, rfl, rfl⟩ := gdd _ _ _ _ _ _ gd
        obtain ⟨w1, w2, w3, w4, w5, w6⟩ := gd.2.2.2.2.2.2.2.2 2 (by omega)
        obtain ⟨u1, u2, -⟩ := gd.2.2.2.2.2.2.2.2 0 (by omega)
        have e : J 0 = ja := (nI_eq (by omega) (by have := g0.2.1; omega)).mp (u1.symm.trans g0.1)
        exact ⟨J 2, w1, w2, w3, w4, w5, fun _ => by rw [w6, e]; rfl⟩
    have s2' : se_X7_laysStop [.ref 0, .int c, .int (nI (xn / 100)), .int (nI (yn / 100)), .int (nI (pn + qn)), .int 0] h2 = some (some (.int 1), h3) := s2
    have e24' : gz_I hr 24 (8 + jd) = gz_I hr 24 (8 + ja) := g2.2.2.2.2.2 (by omega)
    refine Or.inr ⟨h3, 3, xn, yn, pn, qn, (fun i => if i = 2 then jd else if i = 1 then jb else if i = 0 then ja else 0), ?_, YW_tr (YW_tr (YW_tr Y0 Y1) Y2) Y3, ⟨Or.inr ⟨rfl, cm, ac, bc, by omega, by omega⟩, ab, rfl, rfl, rfl, pb, rfl, qb, fun k hk => ?_⟩, W3⟩
    · simp only [se_X7_layWay, sm_X7_layWay, gz_sem, gz_ae, Value.category, gz_i, gz_l, gz_nu, gz_li, gz_ll, gz_la, gz_ib, gz_iz, gz_lb, gz_lz, gz_ls, gz_lc, gz_i2l, gz_l2i, gz_get, gz_ald, gz_len, gz_dup, gz_d2, gz_nar, gz_a0, gz_a1, gz_cs, gz_cv, gz_mk, gz_te, gz_j1, gz_j2, gz_jn, gz_jk, gz_jo, gz_ja, gz_sat, gz_seti, gz_seta, gz_set2, gz_inc, gz_put, gz_ast, gz_pop, gz_vs, gz_vv, gz_sup, gz_rv, gz_ri, gz_rl, gz_ra, gz_if, gz_seq, gz_sw, gz_st, gz_st2, rok_I, rok_J, rok_V, rok_Z0, rok_Z1, rok_Zi, rok_R, rok_N, bi_rok, bi_0, bi_1, fit_I, fit_J, fit_Z0, fit_Z1, fit_Zi, fit_R, fit_N, fit_aR, aty_I, aty_Z0, aty_Z1, aty_Zi, aty_J, gz_ix, List.getElem?_cons_zero, List.getElem?_cons_succ, List.getElem?_nil, List.reverse_cons, List.reverse_nil, List.nil_append, List.cons_append, List.take_succ_cons, List.take_zero, List.take_nil, List.length_cons, List.length_nil, decide_true, decide_false, decide_not, Bool.not_true, Bool.not_false, gz_nle, if_true, if_false, and_true, true_and, and_self, and_false, false_and, or_true, true_or, or_false, false_or, Bool.false_eq_true, not_true, not_false_iff, Decidable.not_not, Nat.reduceLeDiff, Nat.reduceAdd, Nat.reduceEqDiff, Nat.reduceSub, Nat.reduceLT, Nat.zero_add, reduceCtorEq, reduceIte, eq_self, i32_10, i32_01, Nat.zero_le, Nat.one_ne_zero, cm, ab, ac, bc, ox, oy, op, oq, cc, yy, c0, c1, c2, g10, g100, x1', x2, x5, x3', x4, y1', y2, y5, y3', y4, pq, s0', s1', s2']
    · have : k = 0 ∨ k = 1 ∨ k = 2 := by omega
      rcases this with rfl | rfl | rfl
      · exact ⟨g0.1, g0.2.1, g0.2.2.1, g0.2.2.2.1, g0.2.2.2.2.1, rfl⟩
      · exact ⟨g1.1, g1.2.1, g1.2.2.1, g1.2.2.2.1, g1.2.2.2.2.1, e24⟩
      · exact ⟨g2.1, g2.2.1, g2.2.2.1, g2.2.2.2.1, g2.2.2.2.2.1, e24'⟩
