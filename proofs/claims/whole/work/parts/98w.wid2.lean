/-- the plans of a way -/
theorem wd {g : gz_G} {T : Nat} {P : Nat → Nat} {h hr : gz_H} (H : IV g T P h hr) {a b c x y p q : Int32} {K xn yn pn qn : Nat} {J : Nat → Nat} (gd : GD g hr a b c x y p q K xn yn pn qn J) : ∃ (of : Nat → Nat) (cy : Nat), 20 ≤ cy ∧ cy ≤ 90 ∧ ∀ k, k < K → (∃ n, pc h (g 3 (8 + J k)) n) ∧ gz_I h (g 3 (8 + J k)) 0 = nI cy ∧ gz_I h (g 3 (8 + J k)) 1 = nI (of k) ∧ gz_I hr 28 (8 + J k) = nI (of k) ∧ of k < cy ∧ gz_I hr 24 (8 + J k) = nI cy ∧ ∀ t, t < cy → gz_I h (g 3 (8 + J k) + 5) t = gz_I hr 32 (90 * (8 + J k) + t) := by
  obtain ⟨g1, -, -, -, -, -, -, -, g9⟩ := gd
  have K0 : 0 < K := by rcases g1 with z | z <;> omega
  have one : ∀ k, k < K → ∃ o c n, pc h (g 3 (8 + J k)) n ∧ 20 ≤ c ∧ c ≤ 90 ∧ gz_I h (g 3 (8 + J k)) 0 = nI c ∧ gz_I h (g 3 (8 + J k)) 1 = nI o ∧ gz_I hr 28 (8 + J k) = nI o ∧ o < c ∧ gz_I hr 24 (8 + J k) = nI c ∧ ∀ t, t < c → gz_I h (g 3 (8 + J k) + 5) t = gz_I hr 32 (90 * (8 + J k) + t) := fun k hk => by
    obtain ⟨-, w2, -, -, w5, -⟩ := g9 k hk
    rcases tk_cs H w2 with ⟨z, -⟩ | ⟨-, -, -, -, n, c, pv, tk⟩
    · rw [z] at w5; exact absurd w5 (by decide)
    · obtain ⟨v1, v2, v3, v4, v5, v6, v7, v8⟩ := pv
      obtain ⟨-, ⟨o, o1, o2, o3⟩, -, lam, -⟩ := tk
      exact ⟨o, c, n, v4, v2, v3, v5, o2, o3, o1, v6, lam⟩
  obtain ⟨o0, cy, n0, -, c20, c90, -, -, -, -, e24, -⟩ := one 0 K0
  have ex : ∀ k, ∃ o, k < K → (∃ n, pc h (g 3 (8 + J k)) n) ∧ gz_I h (g 3 (8 + J k)) 0 = nI cy ∧ gz_I h (g 3 (8 + J k)) 1 = nI o ∧ gz_I hr 28 (8 + J k) = nI o ∧ o < cy ∧ gz_I hr 24 (8 + J k) = nI cy ∧ ∀ t, t < cy → gz_I h (g 3 (8 + J k) + 5) t = gz_I hr 32 (90 * (8 + J k) + t) := fun k => by
    by_cases hk : k < K
    · obtain ⟨o, c, n, a1, a2, a3, a4, a5, a6, a7, a8, a9⟩ := one k hk
      have e := (g9 k hk).2.2.2.2.2
      rw [a8, e24] at e
      have ec : c = cy := (nI_eq (by omega) (by omega)).mp e
      subst ec
      exact ⟨o, fun _ => ⟨⟨n, a1⟩, a4, a5, a6, a7, a8, a9⟩⟩
    · exact ⟨0, fun z => absurd z hk⟩
  exact ⟨fun k => (ex k).choose, cy, c20, c90, fun k hk => (ex k).choose_spec hk⟩
set_option maxHeartbeats 8000000 in
theorem st_X6_passes {h hr : gz_H} {g : gz_G} {JJ : Nat} (c : cs h JJ) (yy : yc h) (K xn yn pn qn cy dir t : Nat) (J of : Nat → Nat) (K3 : K ≤ 3) (w : WF g h K xn yn pn qn J) (hdir : dir = 0 ∨ dir = 1) (c0 : 0 < cy) (c9 : cy ≤ 90) (ht : t < cy) (pb : pn ≤ 120) (qb : qn ≤ 120) (hP : ∀ k, k < K → (∃ n, pc h (g 3 (8 + J k)) n) ∧ gz_I h (g 3 (8 + J k)) 0 = nI cy ∧ gz_I h (g 3 (8 + J k)) 1 = nI (of k) ∧ ∀ t, t < cy → gz_I h (g 3 (8 + J k) + 5) t = gz_I hr 32 (90 * (8 + J k) + t)) (hd : ∀ k, k < K → dg (if dir = 0 then xn else yn) k < 8) : se_X6_passes [.ref 9, .int (nI dir), .int (nI t)] h = some (some (.int (gz_bi (∀ k, k < K → wG hr J of (fun k => if dir = 0 then wT0 pn qn k else wT1 pn qn k) (if dir = 0 then xn else yn) cy t k))), h) := by
  have body : ∀ k, k < K → (wG hr J of (fun k => if dir = 0 then wT0 pn qn k else wT1 pn qn k) (if dir = 0 then xn else yn) cy t k → lb_X6_passes_2 ([Value.ref 9, .int (nI dir), .int (nI t), .int (nI k)].take 4) h = some (.inl (2, [.ref 9, .int (nI dir), .int (nI t), .int (nI (k + 1)), .int (nI (dir * 3 + k))], h))) ∧ (¬ wG hr J of (fun k => if dir = 0 then wT0 pn qn k else wT1 pn qn k) (if dir = 0 then xn else yn) cy t k → lb_X6_passes_2 ([Value.ref 9, .int (nI dir), .int (nI t), .int (nI k)].take 4) h = some (.inr (some (.int 0), h))) := by
    intro k hk
    obtain ⟨⟨n, pk⟩, p0, p1, lam⟩ := hP k hk
    obtain ⟨u1, u2, u3, u4, u5⟩ := w.2 k hk
    have k1 : nI k < nI K := nI_lt hk (by omega)
    have d2 : ¬ nI k < 0 := nI_pos (by omega)
    have d3 : (nI k).toNatClampNeg = k := nI_clamp (by omega)
    have d4 : k < 3 := by omega
    have lg : nI dir * 3 + nI k = nI (dir * 3 + k) := by
      rw [show (3 : Int32) = nI 3 from rfl, pk_mul, nI_add]
    have l2 : ¬ nI (dir * 3 + k) < 0 := nI_pos (by omega)
    have l3 : (nI (dir * 3 + k)).toNatClampNeg = dir * 3 + k := nI_clamp (by omega)
    have l4 : dir * 3 + k < 6 := by omega
    obtain ⟨tm, htm⟩ : ∃ tm, tm = if dir = 0 then wT0 pn qn k else wT1 pn qn k := ⟨_, rfl⟩
    obtain ⟨v, hv⟩ : ∃ v, v = if dir = 0 then xn else yn := ⟨_, rfl⟩
    have hdk := hd k hk
    rw [← hv] at hdk
    have e11 : gz_I h 11 (dir * 3 + k) = nI (dg v k) := by
      rcases hdir with z | z
      · rw [if_pos z] at hv; rw [z, hv, Nat.zero_mul, Nat.zero_add]; exact u2
      · rw [if_neg (by omega)] at hv; rw [z, hv, Nat.one_mul]; exact u3
    have e12 : gz_I h 12 (dir * 3 + k) = nI tm := by
      rcases hdir with z | z
      · rw [if_pos z] at htm; rw [z, htm, Nat.zero_mul, Nat.zero_add]; exact u4
      · rw [if_neg (by omega)] at htm; rw [z, htm, Nat.one_mul]; exact u5
    have ta : nI t + nI tm = nI (t + tm) := nI_add _ _
    have sh := st_X2_shows h (g 3 (8 + J k)) n cy (dg v k) pk (nI (t + tm)) hdk p0 c0 c9
    rw [p1, lam _ (fm_lt _ c0)] at sh
    have ge : (bt (gz_I hr 32 (90 * (8 + J k) + gz_fm (nI (t + tm) - nI (of k)) cy)) (dg v k) = true) ↔ wG hr J of (fun k => if dir = 0 then wT0 pn qn k else wT1 pn qn k) (if dir = 0 then xn else yn) cy t k := by
      unfold wG
      rw [← hv]
      show _ ↔ bt (gz_I hr 32 (90 * (8 + J k) + gz_fm (nI (t + (if dir = 0 then wT0 pn qn k else wT1 pn qn k)) - nI (of k)) cy)) (dg v k) = true
      rw [← htm]
    rw [bi_c ge] at sh
    have w1 := w.1
    constructor
    · intro gg
      rw [bi_t gg] at sh
      simp only [lb_X6_passes_2, gz_sem, gz_ae, Value.category, gz_i, gz_l, gz_nu, gz_li, gz_ll, gz_la, gz_ib, gz_iz, gz_lb, gz_lz, gz_ls, gz_lc, gz_i2l, gz_l2i, gz_get, gz_ald, gz_len, gz_dup, gz_d2, gz_nar, gz_a0, gz_a1, gz_cs, gz_cv, gz_mk, gz_te, gz_j1, gz_j2, gz_jn, gz_jk, gz_jo, gz_ja, gz_sat, gz_seti, gz_seta, gz_set2, gz_inc, gz_put, gz_ast, gz_pop, gz_vs, gz_vv, gz_sup, gz_rv, gz_ri, gz_rl, gz_ra, gz_if, gz_seq, gz_sw, gz_st, gz_st2, rok_I, rok_J, rok_V, rok_Z0, rok_Z1, rok_Zi, rok_R, rok_N, bi_rok, bi_0, bi_1, fit_I, fit_J, fit_Z0, fit_Z1, fit_Zi, fit_R, fit_N, fit_aR, aty_I, aty_Z0, aty_Z1, aty_Zi, aty_J, gz_ix, List.getElem?_cons_zero, List.getElem?_cons_succ, List.getElem?_nil, List.reverse_cons, List.reverse_nil, List.nil_append, List.cons_append, List.take_succ_cons, List.take_zero, List.take_nil, List.length_cons, List.length_nil, decide_true, decide_false, decide_not, Bool.not_true, Bool.not_false, gz_nle, if_true, if_false, and_true, true_and, and_self, and_false, false_and, or_true, true_or, or_false, false_or, Bool.false_eq_true, not_true, not_false_iff, Decidable.not_not, Nat.reduceLeDiff, Nat.reduceAdd, Nat.reduceEqDiff, Nat.reduceSub, Nat.reduceLT, Nat.zero_add, reduceCtorEq, reduceIte, eq_self, i32_10, i32_01, Nat.zero_le, Nat.one_ne_zero, c, yy, w1, k1, d2, d3, d4, lg, l2, l3, l4, u1, e11, e12, ta, pk, sh, nI_1]
    · intro gg
      rw [bi_f gg] at sh
      simp only [lb_X6_passes_2, gz_sem, gz_ae, Value.category, gz_i, gz_l, gz_nu, gz_li, gz_ll, gz_la, gz_ib, gz_iz, gz_lb, gz_lz, gz_ls, gz_lc, gz_i2l, gz_l2i, gz_get, gz_ald, gz_len, gz_dup, gz_d2, gz_nar, gz_a0, gz_a1, gz_cs, gz_cv, gz_mk, gz_te, gz_j1, gz_j2, gz_jn, gz_jk, gz_jo, gz_ja, gz_sat, gz_seti, gz_seta, gz_set2, gz_inc, gz_put, gz_ast, gz_pop, gz_vs, gz_vv, gz_sup, gz_rv, gz_ri, gz_rl, gz_ra, gz_if, gz_seq, gz_sw, gz_st, gz_st2, rok_I, rok_J, rok_V, rok_Z0, rok_Z1, rok_Zi, rok_R, rok_N, bi_rok, bi_0, bi_1, fit_I, fit_J, fit_Z0, fit_Z1, fit_Zi, fit_R, fit_N, fit_aR, aty_I, aty_Z0, aty_Z1, aty_Zi, aty_J, gz_ix, List.getElem?_cons_zero, List.getElem?_cons_succ, List.getElem?_nil, List.reverse_cons, List.reverse_nil, List.nil_append, List.cons_append, List.take_succ_cons, List.take_zero, List.take_nil, List.length_cons, List.length_nil, decide_true, decide_false, decide_not, Bool.not_true, Bool.not_false, gz_nle, if_true, if_false, and_true, true_and, and_self, and_false, false_and, or_true, true_or, or_false, false_or, Bool.false_eq_true, not_true, not_false_iff, Decidable.not_not, Nat.reduceLeDiff, Nat.reduceAdd, Nat.reduceEqDiff, Nat.reduceSub, Nat.reduceLT, Nat.zero_add, reduceCtorEq, reduceIte, eq_self, i32_10, i32_01, Nat.zero_le, Nat.one_ne_zero, c, yy, w1, k1, d2, d3, d4, lg, l2, l3, l4, u1, e11, e12, ta, pk, sh, nI_1]
  have e0 : nI 0 = (0 : Int32) := rfl
  by_cases al : ∀ k, k < K → wG hr J of (fun k => if dir = 0 then wT0 pn qn k else wT1 pn qn k) (if dir = 0 then xn else yn) cy t k
  · rw [bi_t al]
    have l := gz_seekNF (L := 2) (k := 4) (X := 53) (a := lb_X6_passes_2) (h := h) K (fun k => ¬ wG hr J of (fun k => if dir = 0 then wT0 pn qn k else wT1 pn qn k) (if dir = 0 then xn else yn) cy t k) (fun k => [.ref 9, .int (nI dir), .int (nI t), .int (nI k)]) (fun k => [.ref 9, .int (nI dir), .int (nI t), .int (nI (k + 1)), .int (nI (dir * 3 + k))]) (env' := [.ref 9, .int (nI dir), .int (nI t), .int (nI K)]) (h' := h) (by decide) (fun _ => rfl) (fun k hk z => (body k hk).1 (Classical.not_not.mp z)) (by
      have k1 : ¬ nI K < nI K := nI_nlt (Nat.le_refl _) (by omega)
      have w1 := w.1
      simp only [lb_X6_passes_2, gz_sem, gz_ae, Value.category, gz_i, gz_l, gz_nu, gz_li, gz_ll, gz_la, gz_ib, gz_iz, gz_lb, gz_lz, gz_ls, gz_lc, gz_i2l, gz_l2i, gz_get, gz_ald, gz_len, gz_dup, gz_d2, gz_nar, gz_a0, gz_a1, gz_cs, gz_cv, gz_mk, gz_te, gz_j1, gz_j2, gz_jn, gz_jk, gz_jo, gz_ja, gz_sat, gz_seti, gz_seta, gz_set2, gz_inc, gz_put, gz_ast, gz_pop, gz_vs, gz_vv, gz_sup, gz_rv, gz_ri, gz_rl, gz_ra, gz_if, gz_seq, gz_sw, gz_st, gz_st2, rok_I, rok_J, rok_V, rok_Z0, rok_Z1, rok_Zi, rok_R, rok_N, bi_rok, bi_0, bi_1, fit_I, fit_J, fit_Z0, fit_Z1, fit_Zi, fit_R, fit_N, fit_aR, aty_I, aty_Z0, aty_Z1, aty_Zi, aty_J, gz_ix, List.getElem?_cons_zero, List.getElem?_cons_succ, List.getElem?_nil, List.reverse_cons, List.reverse_nil, List.nil_append, List.cons_append, List.take_succ_cons, List.take_zero, List.take_nil, List.length_cons, List.length_nil, decide_true, decide_false, decide_not, Bool.not_true, Bool.not_false, gz_nle, if_true, if_false, and_true, true_and, and_self, and_false, false_and, or_true, true_or, or_false, false_or, Bool.false_eq_true, not_true, not_false_iff, Decidable.not_not, Nat.reduceLeDiff, Nat.reduceAdd, Nat.reduceEqDiff, Nat.reduceSub, Nat.reduceLT, Nat.zero_add, reduceCtorEq, reduceIte, eq_self, i32_10, i32_01, Nat.zero_le, Nat.one_ne_zero, c, yy, w1, k1]) (fun k hk z => z (al k hk))
    rw [e0] at l
    simp only [se_X6_passes, sm_X6_passes, gz_sem, gz_ae, Value.category, gz_i, gz_l, gz_nu, gz_li, gz_ll, gz_la, gz_ib, gz_iz, gz_lb, gz_lz, gz_ls, gz_lc, gz_i2l, gz_l2i, gz_get, gz_ald, gz_len, gz_dup, gz_d2, gz_nar, gz_a0, gz_a1, gz_cs, gz_cv, gz_mk, gz_te, gz_j1, gz_j2, gz_jn, gz_jk, gz_jo, gz_ja, gz_sat, gz_seti, gz_seta, gz_set2, gz_inc, gz_put, gz_ast, gz_pop, gz_vs, gz_vv, gz_sup, gz_rv, gz_ri, gz_rl, gz_ra, gz_if, gz_seq, gz_sw, gz_st, gz_st2, rok_I, rok_J, rok_V, rok_Z0, rok_Z1, rok_Zi, rok_R, rok_N, bi_rok, bi_0, bi_1, fit_I, fit_J, fit_Z0, fit_Z1, fit_Zi, fit_R, fit_N, fit_aR, aty_I, aty_Z0, aty_Z1, aty_Zi, aty_J, gz_ix, List.getElem?_cons_zero, List.getElem?_cons_succ, List.getElem?_nil, List.reverse_cons, List.reverse_nil, List.nil_append, List.cons_append, List.take_succ_cons, List.take_zero, List.take_nil, List.length_cons, List.length_nil, decide_true, decide_false, decide_not, Bool.not_true, Bool.not_false, gz_nle, if_true, if_false, and_true, true_and, and_self, and_false, false_and, or_true, true_or, or_false, false_or, Bool.false_eq_true, not_true, not_false_iff, Decidable.not_not, Nat.reduceLeDiff, Nat.reduceAdd, Nat.reduceEqDiff, Nat.reduceSub, Nat.reduceLT, Nat.zero_add, reduceCtorEq, reduceIte, eq_self, i32_10, i32_01, Nat.zero_le, Nat.one_ne_zero, l]
  · rw [bi_f al]
    have ex : ∃ k, k < K ∧ ¬ wG hr J of (fun k => if dir = 0 then wT0 pn qn k else wT1 pn qn k) (if dir = 0 then xn else yn) cy t k := Classical.byContradiction (fun z => al (fun k hk => Classical.byContradiction (fun u => z ⟨k, hk, u⟩)))
    obtain ⟨k, q1, q2, q3⟩ := gz_least _ K ex
    have l := gz_seek0F (L := 2) (k := 4) (a := lb_X6_passes_2) (h := h) K (fun k => ¬ wG hr J of (fun k => if dir = 0 then wT0 pn qn k else wT1 pn qn k) (if dir = 0 then xn else yn) cy t k) (fun k => [.ref 9, .int (nI dir), .int (nI t), .int (nI k)]) (fun k => [.ref 9, .int (nI dir), .int (nI t), .int (nI (k + 1)), .int (nI (dir * 3 + k))]) (fun _ => (some (.int 0), h)) (fun _ => rfl) (fun k hk z => (body k hk).1 (Classical.not_not.mp z)) (fun k hk z => (body k hk).2 z) k q2 q1 q3
    rw [e0] at l
    simp only [se_X6_passes, sm_X6_passes, gz_sem, gz_ae, Value.category, gz_i, gz_l, gz_nu, gz_li, gz_ll, gz_la, gz_ib, gz_iz, gz_lb, gz_lz, gz_ls, gz_lc, gz_i2l, gz_l2i, gz_get, gz_ald, gz_len, gz_dup, gz_d2, gz_nar, gz_a0, gz_a1, gz_cs, gz_cv, gz_mk, gz_te, gz_j1, gz_j2, gz_jn, gz_jk, gz_jo, gz_ja, gz_sat, gz_seti, gz_seta, gz_set2, gz_inc, gz_put, gz_ast, gz_pop, gz_vs, gz_vv, gz_sup, gz_rv, gz_ri, gz_rl, gz_ra, gz_if, gz_seq, gz_sw, gz_st, gz_st2, rok_I, rok_J, rok_V, rok_Z0, rok_Z1, rok_Zi, rok_R, rok_N, bi_rok, bi_0, bi_1, fit_I, fit_J, fit_Z0, fit_Z1, fit_Zi, fit_R, fit_N, fit_aR, aty_I, aty_Z0, aty_Z1, aty_Zi, aty_J, gz_ix, List.getElem?_cons_zero, List.getElem?_cons_succ, List.getElem?_nil, List.reverse_cons, List.reverse_nil, List.nil_append, List.cons_append, List.take_succ_cons, List.take_zero, List.take_nil, List.length_cons, List.length_nil, decide_true, decide_false, decide_not, Bool.not_true, Bool.not_false, gz_nle, if_true, if_false, and_true, true_and, and_self, and_false, false_and, or_true, true_or, or_false, false_or, Bool.false_eq_true, not_true, not_false_iff, Decidable.not_not, Nat.reduceLeDiff, Nat.reduceAdd, Nat.reduceEqDiff, Nat.reduceSub, Nat.reduceLT, Nat.zero_add, reduceCtorEq, reduceIte, eq_self, i32_10, i32_01, Nat.zero_le, Nat.one_ne_zero, l]
set_option maxHeartbeats 8000000 in
theorem pb_width (a b c x y p q z : Int32) : PB se_X7_width se_X8_width [.int a, .int b, .int c, .int x, .int y, .int p, .int q, .int z] := by
  intro g T hc hr H
  have cc := IV_cs H
  have m := IV_md H
  have e0 : nI 0 = (0 : Int32) := rfl
  have e1 : nI 1 = (1 : Int32) := rfl
  rcases in_cs 0 1 (by decide) (by decide) z with o | ⟨dir, -, d1, rfl⟩
  · obtain ⟨o1, o2⟩ := io_no o hc hr
    rw [e0, e1] at o1 o2
    refine ⟨.int (-1), hc, hr, g, T, ?_, ?_, fr8_rf _, fr7_rf _, H⟩
    · simp only [se_X7_width, sm_X7_width, gz_sem, gz_ae, Value.category, gz_i, gz_l, gz_nu, gz_li, gz_ll, gz_la, gz_ib, gz_iz, gz_lb, gz_lz, gz_ls, gz_lc, gz_i2l, gz_l2i, gz_get, gz_ald, gz_len, gz_dup, gz_d2, gz_nar, gz_a0, gz_a1, gz_cs, gz_cv, gz_mk, gz_te, gz_j1, gz_j2, gz_jn, gz_jk, gz_jo, gz_ja, gz_sat, gz_seti, gz_seta, gz_set2, gz_inc, gz_put, gz_ast, gz_pop, gz_vs, gz_vv, gz_sup, gz_rv, gz_ri, gz_rl, gz_ra, gz_if, gz_seq, gz_sw, gz_st, gz_st2, rok_I, rok_J, rok_V, rok_Z0, rok_Z1, rok_Zi, rok_R, rok_N, bi_rok, bi_0, bi_1, fit_I, fit_J, fit_Z0, fit_Z1, fit_Zi, fit_R, fit_N, fit_aR, aty_I, aty_Z0, aty_Z1, aty_Zi, aty_J, gz_ix, List.getElem?_cons_zero, List.getElem?_cons_succ, List.getElem?_nil, List.reverse_cons, List.reverse_nil, List.nil_append, List.cons_append, List.take_succ_cons, List.take_zero, List.take_nil, List.length_cons, List.length_nil, decide_true, decide_false, decide_not, Bool.not_true, Bool.not_false, gz_nle, if_true, if_false, and_true, true_and, and_self, and_false, false_and, or_true, true_or, or_false, false_or, Bool.false_eq_true, not_true, not_false_iff, Decidable.not_not, Nat.reduceLeDiff, Nat.reduceAdd, Nat.reduceEqDiff, Nat.reduceSub, Nat.reduceLT, Nat.zero_add, reduceCtorEq, reduceIte, eq_self, i32_10, i32_01, Nat.zero_le, Nat.one_ne_zero, o1]
    · simp only [se_X8_width, sm_X8_width, gz_sem, gz_ae, Value.category, gz_i, gz_l, gz_nu, gz_li, gz_ll, gz_la, gz_ib, gz_iz, gz_lb, gz_lz, gz_ls, gz_lc, gz_i2l, gz_l2i, gz_get, gz_ald, gz_len, gz_dup, gz_d2, gz_nar, gz_a0, gz_a1, gz_cs, gz_cv, gz_mk, gz_te, gz_j1, gz_j2, gz_jn, gz_jk, gz_jo, gz_ja, gz_sat, gz_seti, gz_seta, gz_set2, gz_inc, gz_put, gz_ast, gz_pop, gz_vs, gz_vv, gz_sup, gz_rv, gz_ri, gz_rl, gz_ra, gz_if, gz_seq, gz_sw, gz_st, gz_st2, rok_I, rok_J, rok_V, rok_Z0, rok_Z1, rok_Zi, rok_R, rok_N, bi_rok, bi_0, bi_1, fit_I, fit_J, fit_Z0, fit_Z1, fit_Zi, fit_R, fit_N, fit_aR, aty_I, aty_Z0, aty_Z1, aty_Zi, aty_J, gz_ix, List.getElem?_cons_zero, List.getElem?_cons_succ, List.getElem?_nil, List.reverse_cons, List.reverse_nil, List.nil_append, List.cons_append, List.take_succ_cons, List.take_zero, List.take_nil, List.length_cons, List.length_nil, decide_true, decide_false, decide_not, Bool.not_true, Bool.not_false, gz_nle, if_true, if_false, and_true, true_and, and_self, and_false, false_and, or_true, true_or, or_false, false_or, Bool.false_eq_true, not_true, not_false_iff, Decidable.not_not, Nat.reduceLeDiff, Nat.reduceAdd, Nat.reduceEqDiff, Nat.reduceSub, Nat.reduceLT, Nat.zero_add, reduceCtorEq, reduceIte, eq_self, i32_10, i32_01, Nat.zero_le, Nat.one_ne_zero, o2]
  obtain ⟨o1, o2⟩ := io_yes (Nat.zero_le dir) d1 (by decide) hc hr
  rw [e0, e1] at o1 o2
  rcases lw7 H a b c x y p q with ⟨hc', l1, Y, no⟩ | ⟨hc', K, xn, yn, pn, qn, J, l1, Y, gd, W⟩
  · rcases rw8 H a b c x y p q with ⟨hr', l2, R, -⟩ | ⟨hr', K, xn, yn, pn, qn, J, l2, R, gd, F⟩
    · refine ⟨.int (-1), hc', hr', g, T, ?_, ?_, YW_8 Y, R.2.1, IV_rw (IV_yw H Y) R⟩
      · simp only [se_X7_width, sm_X7_width, gz_sem, gz_ae, Value.category, gz_i, gz_l, gz_nu, gz_li, gz_ll, gz_la, gz_ib, gz_iz, gz_lb, gz_lz, gz_ls, gz_lc, gz_i2l, gz_l2i, gz_get, gz_ald, gz_len, gz_dup, gz_d2, gz_nar, gz_a0, gz_a1, gz_cs, gz_cv, gz_mk, gz_te, gz_j1, gz_j2, gz_jn, gz_jk, gz_jo, gz_ja, gz_sat, gz_seti, gz_seta, gz_set2, gz_inc, gz_put, gz_ast, gz_pop, gz_vs, gz_vv, gz_sup, gz_rv, gz_ri, gz_rl, gz_ra, gz_if, gz_seq, gz_sw, gz_st, gz_st2, rok_I, rok_J, rok_V, rok_Z0, rok_Z1, rok_Zi, rok_R, rok_N, bi_rok, bi_0, bi_1, fit_I, fit_J, fit_Z0, fit_Z1, fit_Zi, fit_R, fit_N, fit_aR, aty_I, aty_Z0, aty_Z1, aty_Zi, aty_J, gz_ix, List.getElem?_cons_zero, List.getElem?_cons_succ, List.getElem?_nil, List.reverse_cons, List.reverse_nil, List.nil_append, List.cons_append, List.take_succ_cons, List.take_zero, List.take_nil, List.length_cons, List.length_nil, decide_true, decide_false, decide_not, Bool.not_true, Bool.not_false, gz_nle, if_true, if_false, and_true, true_and, and_self, and_false, false_and, or_true, true_or, or_false, false_or, Bool.false_eq_true, not_true, not_false_iff, Decidable.not_not, Nat.reduceLeDiff, Nat.reduceAdd, Nat.reduceEqDiff, Nat.reduceSub, Nat.reduceLT, Nat.zero_add, reduceCtorEq, reduceIte, eq_self, i32_10, i32_01, Nat.zero_le, Nat.one_ne_zero, o1, cc, l1]
      · simp only [se_X8_width, sm_X8_width, gz_sem, gz_ae, Value.category, gz_i, gz_l, gz_nu, gz_li, gz_ll, gz_la, gz_ib, gz_iz, gz_lb, gz_lz, gz_ls, gz_lc, gz_i2l, gz_l2i, gz_get, gz_ald, gz_len, gz_dup, gz_d2, gz_nar, gz_a0, gz_a1, gz_cs, gz_cv, gz_mk, gz_te, gz_j1, gz_j2, gz_jn, gz_jk, gz_jo, gz_ja, gz_sat, gz_seti, gz_seta, gz_set2, gz_inc, gz_put, gz_ast, gz_pop, gz_vs, gz_vv, gz_sup, gz_rv, gz_ri, gz_rl, gz_ra, gz_if, gz_seq, gz_sw, gz_st, gz_st2, rok_I, rok_J, rok_V, rok_Z0, rok_Z1, rok_Zi, rok_R, rok_N, bi_rok, bi_0, bi_1, fit_I, fit_J, fit_Z0, fit_Z1, fit_Zi, fit_R, fit_N, fit_aR, aty_I, aty_Z0, aty_Z1, aty_Zi, aty_J, gz_ix, List.getElem?_cons_zero, List.getElem?_cons_succ, List.getElem?_nil, List.reverse_cons, List.reverse_nil, List.nil_append, List.cons_append, List.take_succ_cons, List.take_zero, List.take_nil, List.length_cons, List.length_nil, decide_true, decide_false, decide_not, Bool.not_true, Bool.not_false, gz_nle, if_true, if_false, and_true, true_and, and_self, and_false, false_and, or_true, true_or, or_false, false_or, Bool.false_eq_true, not_true, not_false_iff, Decidable.not_not, Nat.reduceLeDiff, Nat.reduceAdd, Nat.reduceEqDiff, Nat.reduceSub, Nat.reduceLT, Nat.zero_add, reduceCtorEq, reduceIte, eq_self, i32_10, i32_01, Nat.zero_le, Nat.one_ne_zero, o2, m, md_k, l2]
    · exact absurd ⟨K, xn, yn, pn, qn, J, gd⟩ no
  · rcases rw8 H a b c x y p q with ⟨hr', l2, R, no⟩ | ⟨hr', K', xn', yn', pn', qn', J', l2, R, gd', F⟩
    · exact absurd ⟨K, xn, yn, pn, qn, J, gd⟩ no
    have IY := IV_yw H Y
    have cy' := IV_cs IY
    have yy' := IY.1.2.2.2.2.1
    have mR := R.1
    have h8 := IV_8 H
    -- the same numbers
    have same : K' = K ∧ xn' = xn ∧ yn' = yn ∧ pn' = pn ∧ qn' = qn ∧ xn < 1000 ∧ yn < 1000 ∧ (K = 2 ∨ K = 3) ∧ (K = 2 → qn = 0) := by
      have u1 := gd.1
      have u2 := gd'.1
      have ex := gd.2.2.1.symm.trans gd'.2.2.1
      have ey := gd.2.2.2.1.symm.trans gd'.2.2.2.1
      have ep := gd.2.2.2.2.1.symm.trans gd'.2.2.2.2.1
      have eq := gd.2.2.2.2.2.2.1.symm.trans gd'.2.2.2.2.2.2.1
      have b1 := gd.2.2.2.2.2.1
      have b2 := gd'.2.2.2.2.2.1
      have b3 := gd.2.2.2.2.2.2.2.1
      have b4 := gd'.2.2.2.2.2.2.2.1
      have kx : xn < 1000 ∧ yn < 1000 := by rcases u1 with ⟨-, -, z1, z2, -⟩ | ⟨-, -, -, -, z1, z2⟩ <;> omega
      have kx' : xn' < 1000 ∧ yn' < 1000 := by rcases u2 with ⟨-, -, z1, z2, -⟩ | ⟨-, -, -, -, z1, z2⟩ <;> omega
      have f1 : xn = xn' := (nI_eq (by omega) (by omega)).mp ex
      have f2 : yn = yn' := (nI_eq (by omega) (by omega)).mp ey
      have f3 : pn = pn' := (nI_eq (by omega) (by omega)).mp ep
      have f4 : qn = qn' := (nI_eq (by omega) (by omega)).mp eq
      refine ⟨?_, f1.symm, f2.symm, f3.symm, f4.symm, kx.1, kx.2, ?_, ?_⟩
      · rcases u1 with ⟨z1, z2, -⟩ | ⟨z1, z2, -⟩ <;> rcases u2 with ⟨y1, y2, -⟩ | ⟨y1, y2, -⟩
        · omega
        · exact absurd z2 y2
        · exact absurd y2 z2
        · omega
      · rcases u1 with ⟨z1, -⟩ | ⟨z1, -⟩
        · exact Or.inl z1
        · exact Or.inr z1
      · intro hK
        rcases u1 with ⟨-, -, -, -, z⟩ | ⟨z, -⟩
        · exact z
        · omega
    obtain ⟨rfl, rfl, rfl, rfl, rfl, xb, yb, hK, hq⟩ := same
    have eJ : ∀ k, k < K' → J' k = J k := fun k hk => by
      have w1 := gd.2.2.2.2.2.2.2.2 k hk
      have w2 := gd'.2.2.2.2.2.2.2.2 k hk
      exact (nI_eq (by omega) (by omega)).mp (w2.1.symm.trans w1.1)
    obtain ⟨of, cy, c20, c90, D⟩ := wd IY gd
    have pb := gd.2.2.2.2.2.1
    have qb := gd.2.2.2.2.2.2.2.1
    have dg8 : ∀ v k, (v = xn' ∨ v = yn') → k < K' → dg v k < 8 := fun v k hv hk => by
      have w1 := gd.2.2.2.2.2.2.2.2 k hk
      have := IV_S H (J k)
      rcases hv with rfl | rfl <;> omega
    have F1 := F.1
    have ps := st_X8_passing hr' hr R K' (if dir = 0 then xn' else yn') pn' qn' cy dir J of hK hq (by omega) F.1 (fun k hk => by rw [← eJ k hk]; exact (F.2 k hk).1) (fun k hk => by rw [(F.2 k hk).2, eJ k hk]; exact (D k hk).2.2.2.1) (fun k hk => by have := (gd.2.2.2.2.2.2.2.2 k hk).2.1; omega) (fun k hk => (D k hk).2.2.2.2.2.1) (by omega) c90 (by split <;> assumption) pb qb (fun k hk => by
      refine dg8 _ k ?_ hk
      by_cases z : dir = 0
      · rw [if_pos z]; exact Or.inl rfl
      · rw [if_neg z]; exact Or.inr rfl)
    have pp : ∀ t, t < cy → se_X6_passes [.ref 9, .int (nI dir), .int (nI t)] hc' = some (some (.int (gz_bi (∀ k, k < K' → wG hr J of (fun k => if dir = 0 then wT0 pn' qn' k else wT1 pn' qn' k) (if dir = 0 then xn' else yn') cy t k))), hc') := fun t ht => st_X6_passes cy' yy' K' xn' yn' pn' qn' cy dir t J of (by omega) W (by omega) (by omega) c90 ht pb qb (fun k hk => ⟨(D k hk).1, (D k hk).2.1, (D k hk).2.2.1, (D k hk).2.2.2.2.2.2⟩) (fun k hk => by
      refine dg8 _ k ?_ hk
      by_cases z : dir = 0
      · rw [if_pos z]; exact Or.inl rfl
      · rw [if_neg z]; exact Or.inr rfl)
    generalize hG : wG hr J of (fun k => if dir = 0 then wT0 pn' qn' k else wT1 pn' qn' k) (if dir = 0 then xn' else yn') cy = G at *
    have l00 : ¬ (0 : Int32) < 0 := by decide
    have c00 : (0 : Int32).toNatClampNeg = 0 := rfl
    have q03 : 0 < 3 := by decide
    have v10 := (W.2 0 (by omega)).1
    obtain ⟨⟨n0, pk0⟩, p0, -⟩ := D 0 (by omega)
    have z0 : ∀ x : Int32, x + 0 = x := fun x => Int32.add_zero x
    have lp := gz_for0 (L := 4) (k := 4) (X := 35) (a := lb_X6_passing_4) cy (fun t => [.ref 9, .int (nI dir), .int (gz_cnt (fun b => ∀ k, k < K' → G (b - 1) k) t), .int (nI t)]) (fun _ => hc') (env' := [.ref 9, .int (nI dir), .int (gz_cnt (fun b => ∀ k, k < K' → G (b - 1) k) cy), .int (nI cy)]) (h' := hc') (by decide) (fun t ht => by
      have k1 : nI t < nI cy := nI_lt ht (by omega)
      have pt := pp t ht
      by_cases al : ∀ k, k < K' → G t k
      · rw [bi_t al] at pt
        have ce : gz_cnt (fun b => ∀ k, k < K' → G (b - 1) k) (t + 1) = gz_cnt (fun b => ∀ k, k < K' → G (b - 1) k) t + 1 := by
          show _ + gz_bi (∀ k, k < K' → G (t + 1 - 1) k) = _
          rw [Nat.add_sub_cancel, bi_t al]
        rw [ce]
        simp only [lb_X6_passing_4, gz_sem, gz_ae, Value.category, gz_i, gz_l, gz_nu, gz_li, gz_ll, gz_la, gz_ib, gz_iz, gz_lb, gz_lz, gz_ls, gz_lc, gz_i2l, gz_l2i, gz_get, gz_ald, gz_len, gz_dup, gz_d2, gz_nar, gz_a0, gz_a1, gz_cs, gz_cv, gz_mk, gz_te, gz_j1, gz_j2, gz_jn, gz_jk, gz_jo, gz_ja, gz_sat, gz_seti, gz_seta, gz_set2, gz_inc, gz_put, gz_ast, gz_pop, gz_vs, gz_vv, gz_sup, gz_rv, gz_ri, gz_rl, gz_ra, gz_if, gz_seq, gz_sw, gz_st, gz_st2, rok_I, rok_J, rok_V, rok_Z0, rok_Z1, rok_Zi, rok_R, rok_N, bi_rok, bi_0, bi_1, fit_I, fit_J, fit_Z0, fit_Z1, fit_Zi, fit_R, fit_N, fit_aR, aty_I, aty_Z0, aty_Z1, aty_Zi, aty_J, gz_ix, List.getElem?_cons_zero, List.getElem?_cons_succ, List.getElem?_nil, List.reverse_cons, List.reverse_nil, List.nil_append, List.cons_append, List.take_succ_cons, List.take_zero, List.take_nil, List.length_cons, List.length_nil, decide_true, decide_false, decide_not, Bool.not_true, Bool.not_false, gz_nle, if_true, if_false, and_true, true_and, and_self, and_false, false_and, or_true, true_or, or_false, false_or, Bool.false_eq_true, not_true, not_false_iff, Decidable.not_not, Nat.reduceLeDiff, Nat.reduceAdd, Nat.reduceEqDiff, Nat.reduceSub, Nat.reduceLT, Nat.zero_add, reduceCtorEq, reduceIte, eq_self, i32_10, i32_01, Nat.zero_le, Nat.one_ne_zero, cy', yy', l00, c00, q03, v10, pk0, p0, k1, pt, nI_1]
      · rw [bi_f al] at pt
        have ce : gz_cnt (fun b => ∀ k, k < K' → G (b - 1) k) (t + 1) = gz_cnt (fun b => ∀ k, k < K' → G (b - 1) k) t := by
          show _ + gz_bi (∀ k, k < K' → G (t + 1 - 1) k) = _
          rw [Nat.add_sub_cancel, bi_f al, z0]
        rw [ce]
        simp only [lb_X6_passing_4, gz_sem, gz_ae, Value.category, gz_i, gz_l, gz_nu, gz_li, gz_ll, gz_la, gz_ib, gz_iz, gz_lb, gz_lz, gz_ls, gz_lc, gz_i2l, gz_l2i, gz_get, gz_ald, gz_len, gz_dup, gz_d2, gz_nar, gz_a0, gz_a1, gz_cs, gz_cv, gz_mk, gz_te, gz_j1, gz_j2, gz_jn, gz_jk, gz_jo, gz_ja, gz_sat, gz_seti, gz_seta, gz_set2, gz_inc, gz_put, gz_ast, gz_pop, gz_vs, gz_vv, gz_sup, gz_rv, gz_ri, gz_rl, gz_ra, gz_if, gz_seq, gz_sw, gz_st, gz_st2, rok_I, rok_J, rok_V, rok_Z0, rok_Z1, rok_Zi, rok_R, rok_N, bi_rok, bi_0, bi_1, fit_I, fit_J, fit_Z0, fit_Z1, fit_Zi, fit_R, fit_N, fit_aR, aty_I, aty_Z0, aty_Z1, aty_Zi, aty_J, gz_ix, List.getElem?_cons_zero, List.getElem?_cons_succ, List.getElem?_nil, List.reverse_cons, List.reverse_nil, List.nil_append, List.cons_append, List.take_succ_cons, List.take_zero, List.take_nil, List.length_cons, List.length_nil, decide_true, decide_false, decide_not, Bool.not_true, Bool.not_false, gz_nle, if_true, if_false, and_true, true_and, and_self, and_false, false_and, or_true, true_or, or_false, false_or, Bool.false_eq_true, not_true, not_false_iff, Decidable.not_not, Nat.reduceLeDiff, Nat.reduceAdd, Nat.reduceEqDiff, Nat.reduceSub, Nat.reduceLT, Nat.zero_add, reduceCtorEq, reduceIte, eq_self, i32_10, i32_01, Nat.zero_le, Nat.one_ne_zero, cy', yy', l00, c00, q03, v10, pk0, p0, k1, pt, nI_1]) (by
      have k1 : ¬ nI cy < nI cy := nI_nlt (Nat.le_refl _) (by omega)
      simp only [lb_X6_passing_4, gz_sem, gz_ae, Value.category, gz_i, gz_l, gz_nu, gz_li, gz_ll, gz_la, gz_ib, gz_iz, gz_lb, gz_lz, gz_ls, gz_lc, gz_i2l, gz_l2i, gz_get, gz_ald, gz_len, gz_dup, gz_d2, gz_nar, gz_a0, gz_a1, gz_cs, gz_cv, gz_mk, gz_te, gz_j1, gz_j2, gz_jn, gz_jk, gz_jo, gz_ja, gz_sat, gz_seti, gz_seta, gz_set2, gz_inc, gz_put, gz_ast, gz_pop, gz_vs, gz_vv, gz_sup, gz_rv, gz_ri, gz_rl, gz_ra, gz_if, gz_seq, gz_sw, gz_st, gz_st2, rok_I, rok_J, rok_V, rok_Z0, rok_Z1, rok_Zi, rok_R, rok_N, bi_rok, bi_0, bi_1, fit_I, fit_J, fit_Z0, fit_Z1, fit_Zi, fit_R, fit_N, fit_aR, aty_I, aty_Z0, aty_Z1, aty_Zi, aty_J, gz_ix, List.getElem?_cons_zero, List.getElem?_cons_succ, List.getElem?_nil, List.reverse_cons, List.reverse_nil, List.nil_append, List.cons_append, List.take_succ_cons, List.take_zero, List.take_nil, List.length_cons, List.length_nil, decide_true, decide_false, decide_not, Bool.not_true, Bool.not_false, gz_nle, if_true, if_false, and_true, true_and, and_self, and_false, false_and, or_true, true_or, or_false, false_or, Bool.false_eq_true, not_true, not_false_iff, Decidable.not_not, Nat.reduceLeDiff, Nat.reduceAdd, Nat.reduceEqDiff, Nat.reduceSub, Nat.reduceLT, Nat.zero_add, reduceCtorEq, reduceIte, eq_self, i32_10, i32_01, Nat.zero_le, Nat.one_ne_zero, cy', yy', l00, c00, q03, v10, pk0, p0, k1])
    have z1 : gz_cnt (fun b => ∀ k, k < K' → G (b - 1) k) 0 = 0 := rfl
    rw [z1, e0] at lp
    have pa : se_X6_passing [.ref 9, .int (nI dir)] hc' = some (some (.int (gz_cnt (fun b => ∀ k, k < K' → G (b - 1) k) cy)), hc') := by
      simp only [se_X6_passing, sm_X6_passing, gz_sem, gz_ae, Value.category, gz_i, gz_l, gz_nu, gz_li, gz_ll, gz_la, gz_ib, gz_iz, gz_lb, gz_lz, gz_ls, gz_lc, gz_i2l, gz_l2i, gz_get, gz_ald, gz_len, gz_dup, gz_d2, gz_nar, gz_a0, gz_a1, gz_cs, gz_cv, gz_mk, gz_te, gz_j1, gz_j2, gz_jn, gz_jk, gz_jo, gz_ja, gz_sat, gz_seti, gz_seta, gz_set2, gz_inc, gz_put, gz_ast, gz_pop, gz_vs, gz_vv, gz_sup, gz_rv, gz_ri, gz_rl, gz_ra, gz_if, gz_seq, gz_sw, gz_st, gz_st2, rok_I, rok_J, rok_V, rok_Z0, rok_Z1, rok_Zi, rok_R, rok_N, bi_rok, bi_0, bi_1, fit_I, fit_J, fit_Z0, fit_Z1, fit_Zi, fit_R, fit_N, fit_aR, aty_I, aty_Z0, aty_Z1, aty_Zi, aty_J, gz_ix, List.getElem?_cons_zero, List.getElem?_cons_succ, List.getElem?_nil, List.reverse_cons, List.reverse_nil, List.nil_append, List.cons_append, List.take_succ_cons, List.take_zero, List.take_nil, List.length_cons, List.length_nil, decide_true, decide_false, decide_not, Bool.not_true, Bool.not_false, gz_nle, if_true, if_false, and_true, true_and, and_self, and_false, false_and, or_true, true_or, or_false, false_or, Bool.false_eq_true, not_true, not_false_iff, Decidable.not_not, Nat.reduceLeDiff, Nat.reduceAdd, Nat.reduceEqDiff, Nat.reduceSub, Nat.reduceLT, Nat.zero_add, reduceCtorEq, reduceIte, eq_self, i32_10, i32_01, Nat.zero_le, Nat.one_ne_zero, lp]
    refine ⟨.int (gz_cnt (fun b => ∀ k, k < K' → G (b - 1) k) cy), hc', hr', g, T, ?_, ?_, YW_8 Y, R.2.1, IV_rw IY R⟩
    · simp only [se_X7_width, sm_X7_width, gz_sem, gz_ae, Value.category, gz_i, gz_l, gz_nu, gz_li, gz_ll, gz_la, gz_ib, gz_iz, gz_lb, gz_lz, gz_ls, gz_lc, gz_i2l, gz_l2i, gz_get, gz_ald, gz_len, gz_dup, gz_d2, gz_nar, gz_a0, gz_a1, gz_cs, gz_cv, gz_mk, gz_te, gz_j1, gz_j2, gz_jn, gz_jk, gz_jo, gz_ja, gz_sat, gz_seti, gz_seta, gz_set2, gz_inc, gz_put, gz_ast, gz_pop, gz_vs, gz_vv, gz_sup, gz_rv, gz_ri, gz_rl, gz_ra, gz_if, gz_seq, gz_sw, gz_st, gz_st2, rok_I, rok_J, rok_V, rok_Z0, rok_Z1, rok_Zi, rok_R, rok_N, bi_rok, bi_0, bi_1, fit_I, fit_J, fit_Z0, fit_Z1, fit_Zi, fit_R, fit_N, fit_aR, aty_I, aty_Z0, aty_Z1, aty_Zi, aty_J, gz_ix, List.getElem?_cons_zero, List.getElem?_cons_succ, List.getElem?_nil, List.reverse_cons, List.reverse_nil, List.nil_append, List.cons_append, List.take_succ_cons, List.take_zero, List.take_nil, List.length_cons, List.length_nil, decide_true, decide_false, decide_not, Bool.not_true, Bool.not_false, gz_nle, if_true, if_false, and_true, true_and, and_self, and_false, false_and, or_true, true_or, or_false, false_or, Bool.false_eq_true, not_true, not_false_iff, Decidable.not_not, Nat.reduceLeDiff, Nat.reduceAdd, Nat.reduceEqDiff, Nat.reduceSub, Nat.reduceLT, Nat.zero_add, reduceCtorEq, reduceIte, eq_self, i32_10, i32_01, Nat.zero_le, Nat.one_ne_zero, o1, cc, l1, cy', pa]
    · have ex := gd.2.2.1
      have ey := gd.2.2.2.1
      have ep := gd.2.2.2.2.1
      have eq := gd.2.2.2.2.2.2.1
      subst ex ey ep eq
      have : dir = 0 ∨ dir = 1 := by omega
      rcases this with rfl | rfl
      · rw [if_pos rfl] at ps
        rw [e0] at *
        simp only [se_X8_width, sm_X8_width, gz_sem, gz_ae, Value.category, gz_i, gz_l, gz_nu, gz_li, gz_ll, gz_la, gz_ib, gz_iz, gz_lb, gz_lz, gz_ls, gz_lc, gz_i2l, gz_l2i, gz_get, gz_ald, gz_len, gz_dup, gz_d2, gz_nar, gz_a0, gz_a1, gz_cs, gz_cv, gz_mk, gz_te, gz_j1, gz_j2, gz_jn, gz_jk, gz_jo, gz_ja, gz_sat, gz_seti, gz_seta, gz_set2, gz_inc, gz_put, gz_ast, gz_pop, gz_vs, gz_vv, gz_sup, gz_rv, gz_ri, gz_rl, gz_ra, gz_if, gz_seq, gz_sw, gz_st, gz_st2, rok_I, rok_J, rok_V, rok_Z0, rok_Z1, rok_Zi, rok_R, rok_N, bi_rok, bi_0, bi_1, fit_I, fit_J, fit_Z0, fit_Z1, fit_Zi, fit_R, fit_N, fit_aR, aty_I, aty_Z0, aty_Z1, aty_Zi, aty_J, gz_ix, List.getElem?_cons_zero, List.getElem?_cons_succ, List.getElem?_nil, List.reverse_cons, List.reverse_nil, List.nil_append, List.cons_append, List.take_succ_cons, List.take_zero, List.take_nil, List.length_cons, List.length_nil, decide_true, decide_false, decide_not, Bool.not_true, Bool.not_false, gz_nle, if_true, if_false, and_true, true_and, and_self, and_false, false_and, or_true, true_or, or_false, false_or, Bool.false_eq_true, not_true, not_false_iff, Decidable.not_not, Nat.reduceLeDiff, Nat.reduceAdd, Nat.reduceEqDiff, Nat.reduceSub, Nat.reduceLT, Nat.zero_add, reduceCtorEq, reduceIte, eq_self, i32_10, i32_01, Nat.zero_le, Nat.one_ne_zero, o2, m, mR, md_k, l2, ps]
      · rw [if_neg (by omega)] at ps
        rw [e1] at *
        simp only [se_X8_width, sm_X8_width, gz_sem, gz_ae, Value.category, gz_i, gz_l, gz_nu, gz_li, gz_ll, gz_la, gz_ib, gz_iz, gz_lb, gz_lz, gz_ls, gz_lc, gz_i2l, gz_l2i, gz_get, gz_ald, gz_len, gz_dup, gz_d2, gz_nar, gz_a0, gz_a1, gz_cs, gz_cv, gz_mk, gz_te, gz_j1, gz_j2, gz_jn, gz_jk, gz_jo, gz_ja, gz_sat, gz_seti, gz_seta, gz_set2, gz_inc, gz_put, gz_ast, gz_pop, gz_vs, gz_vv, gz_sup, gz_rv, gz_ri, gz_rl, gz_ra, gz_if, gz_seq, gz_sw, gz_st, gz_st2, rok_I, rok_J, rok_V, rok_Z0, rok_Z1, rok_Zi, rok_R, rok_N, bi_rok, bi_0, bi_1, fit_I, fit_J, fit_Z0, fit_Z1, fit_Zi, fit_R, fit_N, fit_aR, aty_I, aty_Z0, aty_Z1, aty_Zi, aty_J, gz_ix, List.getElem?_cons_zero, List.getElem?_cons_succ, List.getElem?_nil, List.reverse_cons, List.reverse_nil, List.nil_append, List.cons_append, List.take_succ_cons, List.take_zero, List.take_nil, List.length_cons, List.length_nil, decide_true, decide_false, decide_not, Bool.not_true, Bool.not_false, gz_nle, if_true, if_false, and_true, true_and, and_self, and_false, false_and, or_true, true_or, or_false, false_or, Bool.false_eq_true, not_true, not_false_iff, Decidable.not_not, Nat.reduceLeDiff, Nat.reduceAdd, Nat.reduceEqDiff, Nat.reduceSub, Nat.reduceLT, Nat.zero_add, reduceCtorEq, reduceIte, eq_self, i32_10, i32_01, Nat.zero_le, Nat.one_ne_zero, o2, m, mR, md_k, l2, ps]
