theorem QW_rf {h : gz_H} (m : md h) : QW h h := ⟨m, fr7_rf _, fun _ _ _ _ => rfl⟩
theorem QW_set {h h' : gz_H} (w : QW h h') (b i : Nat) (x : Int32) (h1 : 34 ≤ b) (h2 : b ≤ 36) : QW h (gz_set h' b i (.int x)) := ⟨md_setI w.1 _ _ _ (by omega), fr7_set w.2.1 (by omega), fun b' i' n1 n2 => by rw [gz_v_set, if_neg (fun z => n1 (by omega))]; exact w.2.2 b' i' n1 n2⟩
theorem md_set15J {h : gz_H} (m : md h) (f : Nat) (x : Int64) (hf : f = 27 ∨ f = 28) : md (gz_set h 15 f (.long x)) := by
  obtain ⟨m1, m2, m3, m4, m5, m6, m7, m8, m9, m10, m11, m12⟩ := m
  have o : ∀ b i, ¬ (b = 15 ∧ i = f) → gz_v (gz_set h 15 f (.long x)) b i = gz_v h b i := fun b i n => by rw [gz_v_set, if_neg n]
  refine ⟨m1, fun b h1 h2 => m2 b h1 h2, fun f' h1 h2 => by rw [o _ _ (by omega)]; exact m3 f' h1 h2, fun f' h1 h2 => by rw [o _ _ (by omega)]; exact m4 f' h1 h2, fun f' h1 h2 => by rw [o _ _ (by omega)]; exact m5 f' h1 h2, fun b i h1 h2 => by rw [o _ _ (by omega), I_seto _ _ _ _ _ _ (by omega)]; exact m6 b i h1 h2, fun b i h1 h2 => by rw [o _ _ (by omega), J_seto _ _ _ _ _ _ (by omega)]; exact m7 b i h1 h2, fun b i h1 h2 => by rw [o _ _ (by omega), I_seto _ _ _ _ _ _ (by omega)]; exact m8 b i h1 h2, fun f' h1 => by rw [o _ _ (by omega), I_seto _ _ _ _ _ _ (by omega)]; exact m9 f' h1, fun f' h1 h2 => by rw [o _ _ (by omega), I_seto _ _ _ _ _ _ (by omega)]; exact m10 f' h1 h2, fun f' h1 h2 => ?_, by rw [o _ _ (by omega), I_seto _ _ _ _ _ _ (by omega)]; exact m12⟩
  rw [gz_v_set, J_set]
  by_cases q : 15 = 15 ∧ f' = f
  · rw [if_pos q, if_pos q]
  · rw [if_neg q, if_neg q]; exact m11 f' h1 h2
theorem QW_15 {h h' : gz_H} (w : QW h h') (f : Nat) (x : Int64) (hf : f = 27 ∨ f = 28) : QW h (gz_set h' 15 f (.long x)) := ⟨md_set15J w.1 f x hf, fr7_set w.2.1 (by omega), fun b' i' n1 n2 => by rw [gz_v_set, if_neg (fun z => n2 (by omega))]; exact w.2.2 b' i' n1 n2⟩
theorem QW_I {h h' : gz_H} (w : QW h h') {b : Nat} (hb : b < 34 ∨ 36 < b) (h15 : b ≠ 15) (i : Nat) : gz_I h' b i = gz_I h b i := vI (w.2.2 b i (by omega) (by omega))
theorem RX_QW {h h' : gz_H} {p S n : Nat} {Cn Rt : Nat → Nat} {W : Nat → Nat → Bool} (w : QW h h') (H : RX h p S n Cn Rt W) : RX h' p S n Cn Rt W := by
  obtain ⟨c1, c2, c3, c4, c5, c6, c7, c8⟩ := H
  refine ⟨c1, c2, c3, c4, by rw [QW_I w (by omega) (by omega)]; exact c5, by rw [QW_I w (by omega) (by omega)]; exact c6, fun i hi => ?_, fun i s hi hs => ?_⟩
  · rw [QW_I w (by omega) (by omega), QW_I w (by omega) (by omega)]; exact c7 i hi
  · rw [QW_I w (by omega) (by omega)]; exact c8 i s hi hs
/-- the sum of the greens of one stream -/
theorem tr_in {h : gz_H} (m : md h) {p S n cy a b c d i : Nat} {Cn Rt : Nat → Nat} {W : Nat → Nat → Bool} (H : RX h p S n Cn Rt W) (hi : i < S) (tr : ∀ s, s < n → gz_I h 35 s = nI (gf a b c d s)) (o u : Int64) : gz_loop 25 10 lb_X8_tries_25 [.ref 15, .int (nI p), .int (nI cy), .long o, .double 0, .long u, .double 0, .int (nI i), .int 0, .int 0] h = some (.inl (74, [.ref 15, .int (nI p), .int (nI cy), .long o, .double 0, .long u, .double 0, .int (nI i), .int (nI (gsm (W i) (gf a b c d) n)), .int (nI n)], h)) := by
  obtain ⟨c1, c2, n2, n4, c5, c6, c7, c8⟩ := H
  have p2 : ¬ nI p < 0 := nI_pos (by omega)
  have p3 : (nI p).toNatClampNeg = p := nI_clamp (by omega)
  have p16 : p < 16 := by omega
  have l := gz_for0 (L := 25) (k := 10) (X := 74) (a := lb_X8_tries_25) n (fun s => [.ref 15, .int (nI p), .int (nI cy), .long o, .double 0, .long u, .double 0, .int (nI i), .int (nI (gsm (W i) (gf a b c d) s)), .int (nI s)]) (fun _ => h) (env' := [.ref 15, .int (nI p), .int (nI cy), .long o, .double 0, .long u, .double 0, .int (nI i), .int (nI (gsm (W i) (gf a b c d) n)), .int (nI n)]) (h' := h) (by decide) (fun s hs => by
    have k1 : nI s < nI n := nI_lt hs (by omega)
    have w1 : 4 * nI p + nI s = nI (4 * p + s) := by rw [show (4 : Int32) = nI 4 from rfl, pk_mul, nI_add]
    have a2 : ¬ nI (4 * p + s) < 0 := nI_pos (by omega)
    have a3 : (nI (4 * p + s)).toNatClampNeg = 4 * p + s := nI_clamp (by omega)
    have a4 : 4 * p + s < 64 := by omega
    have d2 : ¬ nI s < 0 := nI_pos (by omega)
    have d3 : (nI s).toNatClampNeg = s := nI_clamp (by omega)
    have d4 : s < 4 := by omega
    have bb := bt_t (i := i) (by omega) (gz_I h 26 (4 * p + s))
    rw [← c8 i s hi hs] at bb
    have tt := tr s hs
    have e : gsm (W i) (gf a b c d) (s + 1) = gsm (W i) (gf a b c d) s + if W i s = true then gf a b c d s else 0 := rfl
    rw [e]
    by_cases g : W i s = true
    · rw [if_pos g] at bb ⊢
      have ad : nI (gsm (W i) (gf a b c d) s) + nI (gf a b c d s) = nI (gsm (W i) (gf a b c d) s + gf a b c d s) := nI_add _ _
      simp only [lb_X8_tries_25, gz_sem, gz_ae, Value.category, gz_i, gz_l, gz_nu, gz_li, gz_ll, gz_la, gz_ib, gz_iz, gz_lb, gz_lz, gz_ls, gz_lc, gz_i2l, gz_l2i, gz_get, gz_ald, gz_len, gz_dup, gz_d2, gz_nar, gz_a0, gz_a1, gz_cs, gz_cv, gz_mk, gz_te, gz_j1, gz_j2, gz_jn, gz_jk, gz_jo, gz_ja, gz_sat, gz_seti, gz_seta, gz_set2, gz_inc, gz_put, gz_ast, gz_pop, gz_vs, gz_vv, gz_sup, gz_rv, gz_ri, gz_rl, gz_ra, gz_if, gz_seq, gz_sw, gz_st, gz_st2, rok_I, rok_J, rok_V, rok_Z0, rok_Z1, rok_Zi, rok_R, rok_N, bi_rok, bi_0, bi_1, fit_I, fit_J, fit_Z0, fit_Z1, fit_Zi, fit_R, fit_N, fit_aR, aty_I, aty_Z0, aty_Z1, aty_Zi, aty_J, gz_ix, List.getElem?_cons_zero, List.getElem?_cons_succ, List.getElem?_nil, List.reverse_cons, List.reverse_nil, List.nil_append, List.cons_append, List.take_succ_cons, List.take_zero, List.take_nil, List.length_cons, List.length_nil, decide_true, decide_false, decide_not, Bool.not_true, Bool.not_false, gz_nle, if_true, if_false, and_true, true_and, and_self, and_false, false_and, or_true, true_or, or_false, false_or, Bool.false_eq_true, not_true, not_false_iff, Decidable.not_not, Nat.reduceLeDiff, Nat.reduceAdd, Nat.reduceEqDiff, Nat.reduceSub, Nat.reduceLT, Nat.zero_add, reduceCtorEq, reduceIte, eq_self, i32_10, i32_01, Nat.zero_le, Nat.one_ne_zero, m, md_k, p2, p3, p16, c6, k1, w1, a2, a3, a4, bb, d2, d3, d4, tt, ad, nI_1]
    · rw [if_neg g] at bb ⊢
      rw [Nat.add_zero]
      simp only [lb_X8_tries_25, gz_sem, gz_ae, Value.category, gz_i, gz_l, gz_nu, gz_li, gz_ll, gz_la, gz_ib, gz_iz, gz_lb, gz_lz, gz_ls, gz_lc, gz_i2l, gz_l2i, gz_get, gz_ald, gz_len, gz_dup, gz_d2, gz_nar, gz_a0, gz_a1, gz_cs, gz_cv, gz_mk, gz_te, gz_j1, gz_j2, gz_jn, gz_jk, gz_jo, gz_ja, gz_sat, gz_seti, gz_seta, gz_set2, gz_inc, gz_put, gz_ast, gz_pop, gz_vs, gz_vv, gz_sup, gz_rv, gz_ri, gz_rl, gz_ra, gz_if, gz_seq, gz_sw, gz_st, gz_st2, rok_I, rok_J, rok_V, rok_Z0, rok_Z1, rok_Zi, rok_R, rok_N, bi_rok, bi_0, bi_1, fit_I, fit_J, fit_Z0, fit_Z1, fit_Zi, fit_R, fit_N, fit_aR, aty_I, aty_Z0, aty_Z1, aty_Zi, aty_J, gz_ix, List.getElem?_cons_zero, List.getElem?_cons_succ, List.getElem?_nil, List.reverse_cons, List.reverse_nil, List.nil_append, List.cons_append, List.take_succ_cons, List.take_zero, List.take_nil, List.length_cons, List.length_nil, decide_true, decide_false, decide_not, Bool.not_true, Bool.not_false, gz_nle, if_true, if_false, and_true, true_and, and_self, and_false, false_and, or_true, true_or, or_false, false_or, Bool.false_eq_true, not_true, not_false_iff, Decidable.not_not, Nat.reduceLeDiff, Nat.reduceAdd, Nat.reduceEqDiff, Nat.reduceSub, Nat.reduceLT, Nat.zero_add, reduceCtorEq, reduceIte, eq_self, i32_10, i32_01, Nat.zero_le, Nat.one_ne_zero, m, md_k, p2, p3, p16, c6, k1, w1, a2, a3, a4, bb, nI_1]) (by
    have k1 : ¬ nI n < nI n := nI_nlt (Nat.le_refl _) (by omega)
    simp only [lb_X8_tries_25, gz_sem, gz_ae, Value.category, gz_i, gz_l, gz_nu, gz_li, gz_ll, gz_la, gz_ib, gz_iz, gz_lb, gz_lz, gz_ls, gz_lc, gz_i2l, gz_l2i, gz_get, gz_ald, gz_len, gz_dup, gz_d2, gz_nar, gz_a0, gz_a1, gz_cs, gz_cv, gz_mk, gz_te, gz_j1, gz_j2, gz_jn, gz_jk, gz_jo, gz_ja, gz_sat, gz_seti, gz_seta, gz_set2, gz_inc, gz_put, gz_ast, gz_pop, gz_vs, gz_vv, gz_sup, gz_rv, gz_ri, gz_rl, gz_ra, gz_if, gz_seq, gz_sw, gz_st, gz_st2, rok_I, rok_J, rok_V, rok_Z0, rok_Z1, rok_Zi, rok_R, rok_N, bi_rok, bi_0, bi_1, fit_I, fit_J, fit_Z0, fit_Z1, fit_Zi, fit_R, fit_N, fit_aR, aty_I, aty_Z0, aty_Z1, aty_Zi, aty_J, gz_ix, List.getElem?_cons_zero, List.getElem?_cons_succ, List.getElem?_nil, List.reverse_cons, List.reverse_nil, List.nil_append, List.cons_append, List.take_succ_cons, List.take_zero, List.take_nil, List.length_cons, List.length_nil, decide_true, decide_false, decide_not, Bool.not_true, Bool.not_false, gz_nle, if_true, if_false, and_true, true_and, and_self, and_false, false_and, or_true, true_or, or_false, false_or, Bool.false_eq_true, not_true, not_false_iff, Decidable.not_not, Nat.reduceLeDiff, Nat.reduceAdd, Nat.reduceEqDiff, Nat.reduceSub, Nat.reduceLT, Nat.zero_add, reduceCtorEq, reduceIte, eq_self, i32_10, i32_01, Nat.zero_le, Nat.one_ne_zero, m, md_k, p2, p3, p16, c6, k1])
  have z : nI (gsm (W i) (gf a b c d) 0) = 0 := rfl
  rw [z, nI_0] at l
  exact l
theorem dt_90 {n T a b c d : Nat} (g : BG n T a b c d) (hT : T ≤ 90) (r : Nat) : dt r a b c d ≤ 90 := by
  have := dt_le r a b c d
  have := g.2.2.2.2.2.2
  omega
theorem rS_lt (W : Nat → Nat → Bool) (n i : Nat) : rS W n i < 2 ^ n := bm_lt _ _
set_option maxHeartbeats 8000000 in
theorem tr_out {h : gz_H} (m : md h) {p S n cy T a b c d : Nat} {Cn Rt : Nat → Nat} {W : Nat → Nat → Bool} (H : RX h p S n Cn Rt W) (c90 : cy ≤ 90) (g : BG n T a b c d) (hT : T ≤ 90) (tr : ∀ s, s < n → gz_I h 35 s = nI (gf a b c d s)) : ∃ e, gz_loop 8 8 lb_X8_tries_8 [.ref 15, .int (nI p), .int (nI cy), .long 0, .double 0, .long 1, .double 0, .int 0] h = some (.inl (148, e, h)) ∧ e.take 6 = [.ref 15, .int (nI p), .int (nI cy), .long (lN (lD W Cn Rt S n cy a b c d).1), .double 0, .long (lN (lD W Cn Rt S n cy a b c d).2)] := by
  obtain ⟨c1, c2, n2, n4, c5, c6, c7, c8⟩ := id H
  have p2 : ¬ nI p < 0 := nI_pos (by omega)
  have p3 : (nI p).toNatClampNeg = p := nI_clamp (by omega)
  have p16 : p < 16 := by omega
  have b90 := dt_90 g hT
  obtain ⟨e', h', q1, q2, q3⟩ := gz_forI (L := 8) (k := 8) (X := 148) (a := lb_X8_tries_8) S (fun i e h' => e = [.ref 15, .int (nI p), .int (nI cy), .long (lN (ou cy Cn Rt (fun i => dt (rS W n i) a b c d) i).1), .double 0, .long (lN (ou cy Cn Rt (fun i => dt (rS W n i) a b c d) i).2), .double 0, .int (nI i)] ∧ h' = h) (fun e h' => e = [.ref 15, .int (nI p), .int (nI cy), .long (lN (ou cy Cn Rt (fun i => dt (rS W n i) a b c d) S).1), .double 0, .long (lN (ou cy Cn Rt (fun i => dt (rS W n i) a b c d) S).2), .double 0, .int (nI S)] ∧ h' = h) (by decide) (by
    intro i e h' hi ⟨ee, eh⟩
    subst ee eh
    have k1 : nI i < nI S := nI_lt hi (by omega)
    obtain ⟨d1, d5, d6, d7, d8⟩ := c7 i hi
    obtain ⟨⟨o1, o2, o3⟩, -, -⟩ := ou_sp (cy := cy) (Cn := Cn) (Rt := Rt) (s := fun i => dt (rS W n i) a b c d) i (fun k hk => ⟨(c7 k (by omega)).2.1, by have := (c7 k (by omega)).2.2.2.1; omega, (c7 k (by omega)).2.2.2.2, b90 _⟩) c90
    have li := tr_in m (cy := cy) H hi tr (lN (ou cy Cn Rt (fun i => dt (rS W n i) a b c d) i).1) (lN (ou cy Cn Rt (fun i => dt (rS W n i) a b c d) i).2)
    have es : gsm (W i) (gf a b c d) n = dt (rS W n i) a b c d := gsm_dt (W i) a b c d n2 n4
    rw [es] at li
    have eo : ou cy Cn Rt (fun i => dt (rS W n i) a b c d) (i + 1) = if dt (rS W n i) a b c d = 0 then ou cy Cn Rt (fun i => dt (rS W n i) a b c d) i else if Cn i * cy * (ou cy Cn Rt (fun i => dt (rS W n i) a b c d) i).2 ≤ (ou cy Cn Rt (fun i => dt (rS W n i) a b c d) i).1 * (Rt i * dt (rS W n i) a b c d) then ou cy Cn Rt (fun i => dt (rS W n i) a b c d) i else (Cn i * cy, Rt i * dt (rS W n i) a b c d) := rfl
    have bs := b90 (rS W n i)
    rw [eo]
    generalize dt (rS W n i) a b c d = s at *
    generalize ou cy Cn Rt (fun i => dt (rS W n i) a b c d) i = pr at *
    have w1 : 8 * nI p + nI i = nI (8 * p + i) := by rw [show (8 : Int32) = nI 8 from rfl, pk_mul, nI_add]
    have a2 : ¬ nI (8 * p + i) < 0 := nI_pos (by omega)
    have a3 : (nI (8 * p + i)).toNatClampNeg = 8 * p + i := nI_clamp (by omega)
    have a4 : 8 * p + i < 64 := by omega
    by_cases s0 : s = 0
    · have t1 : decide (nI s = 0) = true := by rw [s0]; decide
      rw [if_pos s0]
      refine ⟨[.ref 15, .int (nI p), .int (nI cy), .long (lN pr.1), .double 0, .long (lN pr.2), .double 0, .int (nI (i + 1))], h', ?_, rfl, rfl⟩
      simp only [lb_X8_tries_8, gz_sem, gz_ae, Value.category, gz_i, gz_l, gz_nu, gz_li, gz_ll, gz_la, gz_ib, gz_iz, gz_lb, gz_lz, gz_ls, gz_lc, gz_i2l, gz_l2i, gz_get, gz_ald, gz_len, gz_dup, gz_d2, gz_nar, gz_a0, gz_a1, gz_cs, gz_cv, gz_mk, gz_te, gz_j1, gz_j2, gz_jn, gz_jk, gz_jo, gz_ja, gz_sat, gz_seti, gz_seta, gz_set2, gz_inc, gz_put, gz_ast, gz_pop, gz_vs, gz_vv, gz_sup, gz_rv, gz_ri, gz_rl, gz_ra, gz_if, gz_seq, gz_sw, gz_st, gz_st2, rok_I, rok_J, rok_V, rok_Z0, rok_Z1, rok_Zi, rok_R, rok_N, bi_rok, bi_0, bi_1, fit_I, fit_J, fit_Z0, fit_Z1, fit_Zi, fit_R, fit_N, fit_aR, aty_I, aty_Z0, aty_Z1, aty_Zi, aty_J, gz_ix, List.getElem?_cons_zero, List.getElem?_cons_succ, List.getElem?_nil, List.reverse_cons, List.reverse_nil, List.nil_append, List.cons_append, List.take_succ_cons, List.take_zero, List.take_nil, List.length_cons, List.length_nil, decide_true, decide_false, decide_not, Bool.not_true, Bool.not_false, gz_nle, if_true, if_false, and_true, true_and, and_self, and_false, false_and, or_true, true_or, or_false, false_or, Bool.false_eq_true, not_true, not_false_iff, Decidable.not_not, Nat.reduceLeDiff, Nat.reduceAdd, Nat.reduceEqDiff, Nat.reduceSub, Nat.reduceLT, Nat.zero_add, reduceCtorEq, reduceIte, eq_self, i32_10, i32_01, Nat.zero_le, Nat.one_ne_zero, m, md_k, p2, p3, c1, c5, k1, li, t1, nI_1]
    · have t1 : ¬ nI s = 0 := nI_ne0 (Nat.pos_of_ne_zero s0) (by omega)
      have l1 : (nI (Cn i)).toInt64 = lN (Cn i) := nI_l (by omega)
      have l2 : (nI (Rt i)).toInt64 = lN (Rt i) := nI_l (by omega)
      have l3 : (nI cy).toInt64 = lN cy := nI_l (by omega)
      have l4 : (nI s).toInt64 = lN s := nI_l (by omega)
      have l5 : lN (Cn i) * lN cy = lN (Cn i * cy) := lN_mul _ _
      have l6 : lN (Rt i) * lN s = lN (Rt i * s) := lN_mul _ _
      have l7 : lN (Cn i * cy) * lN pr.2 = lN (Cn i * cy * pr.2) := lN_mul _ _
      have l8 : lN pr.1 * lN (Rt i * s) = lN (pr.1 * (Rt i * s)) := lN_mul _ _
      have b1 : Cn i * cy ≤ 3600 * 90 := Nat.mul_le_mul d5 c90
      have b2 : Rt i * s ≤ 3600 * 90 := Nat.mul_le_mul d8 bs
      have b3 : Cn i * cy * pr.2 ≤ 324000 * 324000 := Nat.mul_le_mul (by omega) o3
      have b4 : pr.1 * (Rt i * s) ≤ 324000 * 324000 := Nat.mul_le_mul o1 (by omega)
      rw [if_neg s0]
      by_cases q : Cn i * cy * pr.2 ≤ pr.1 * (Rt i * s)
      · have t2 : ¬ 0 < lg_cmp (lN (Cn i * cy * pr.2)) (lN (pr.1 * (Rt i * s))) := fun z => by
          have := (pk_lLT (by omega) (by omega)).mp ((lg_cmp_gt _ _).mp z)
          omega
        rw [if_pos q]
        refine ⟨[.ref 15, .int (nI p), .int (nI cy), .long (lN pr.1), .double 0, .long (lN pr.2), .double 0, .int (nI (i + 1))], h', ?_, rfl, rfl⟩
        simp only [lb_X8_tries_8, gz_sem, gz_ae, Value.category, gz_i, gz_l, gz_nu, gz_li, gz_ll, gz_la, gz_ib, gz_iz, gz_lb, gz_lz, gz_ls, gz_lc, gz_i2l, gz_l2i, gz_get, gz_ald, gz_len, gz_dup, gz_d2, gz_nar, gz_a0, gz_a1, gz_cs, gz_cv, gz_mk, gz_te, gz_j1, gz_j2, gz_jn, gz_jk, gz_jo, gz_ja, gz_sat, gz_seti, gz_seta, gz_set2, gz_inc, gz_put, gz_ast, gz_pop, gz_vs, gz_vv, gz_sup, gz_rv, gz_ri, gz_rl, gz_ra, gz_if, gz_seq, gz_sw, gz_st, gz_st2, rok_I, rok_J, rok_V, rok_Z0, rok_Z1, rok_Zi, rok_R, rok_N, bi_rok, bi_0, bi_1, fit_I, fit_J, fit_Z0, fit_Z1, fit_Zi, fit_R, fit_N, fit_aR, aty_I, aty_Z0, aty_Z1, aty_Zi, aty_J, gz_ix, List.getElem?_cons_zero, List.getElem?_cons_succ, List.getElem?_nil, List.reverse_cons, List.reverse_nil, List.nil_append, List.cons_append, List.take_succ_cons, List.take_zero, List.take_nil, List.length_cons, List.length_nil, decide_true, decide_false, decide_not, Bool.not_true, Bool.not_false, gz_nle, if_true, if_false, and_true, true_and, and_self, and_false, false_and, or_true, true_or, or_false, false_or, Bool.false_eq_true, not_true, not_false_iff, Decidable.not_not, Nat.reduceLeDiff, Nat.reduceAdd, Nat.reduceEqDiff, Nat.reduceSub, Nat.reduceLT, Nat.zero_add, reduceCtorEq, reduceIte, eq_self, i32_10, i32_01, Nat.zero_le, Nat.one_ne_zero, m, md_k, p2, p3, c1, c5, k1, li, t1, w1, a2, a3, a4, d1, d6, l1, l2, l3, l4, l5, l6, l7, l8, t2, nI_1]
      · have t2 : 0 < lg_cmp (lN (Cn i * cy * pr.2)) (lN (pr.1 * (Rt i * s))) := (lg_cmp_gt _ _).mpr ((pk_lLT (by omega) (by omega)).mpr (by omega))
        rw [if_neg q]
        refine ⟨[.ref 15, .int (nI p), .int (nI cy), .long (lN (Cn i * cy)), .double 0, .long (lN (Rt i * s)), .double 0, .int (nI (i + 1))], h', ?_, rfl, rfl⟩
        simp only [lb_X8_tries_8, gz_sem, gz_ae, Value.category, gz_i, gz_l, gz_nu, gz_li, gz_ll, gz_la, gz_ib, gz_iz, gz_lb, gz_lz, gz_ls, gz_lc, gz_i2l, gz_l2i, gz_get, gz_ald, gz_len, gz_dup, gz_d2, gz_nar, gz_a0, gz_a1, gz_cs, gz_cv, gz_mk, gz_te, gz_j1, gz_j2, gz_jn, gz_jk, gz_jo, gz_ja, gz_sat, gz_seti, gz_seta, gz_set2, gz_inc, gz_put, gz_ast, gz_pop, gz_vs, gz_vv, gz_sup, gz_rv, gz_ri, gz_rl, gz_ra, gz_if, gz_seq, gz_sw, gz_st, gz_st2, rok_I, rok_J, rok_V, rok_Z0, rok_Z1, rok_Zi, rok_R, rok_N, bi_rok, bi_0, bi_1, fit_I, fit_J, fit_Z0, fit_Z1, fit_Zi, fit_R, fit_N, fit_aR, aty_I, aty_Z0, aty_Z1, aty_Zi, aty_J, gz_ix, List.getElem?_cons_zero, List.getElem?_cons_succ, List.getElem?_nil, List.reverse_cons, List.reverse_nil, List.nil_append, List.cons_append, List.take_succ_cons, List.take_zero, List.take_nil, List.length_cons, List.length_nil, decide_true, decide_false, decide_not, Bool.not_true, Bool.not_false, gz_nle, if_true, if_false, and_true, true_and, and_self, and_false, false_and, or_true, true_or, or_false, false_or, Bool.false_eq_true, not_true, not_false_iff, Decidable.not_not, Nat.reduceLeDiff, Nat.reduceAdd, Nat.reduceEqDiff, Nat.reduceSub, Nat.reduceLT, Nat.zero_add, reduceCtorEq, reduceIte, eq_self, i32_10, i32_01, Nat.zero_le, Nat.one_ne_zero, m, md_k, p2, p3, c1, c5, k1, li, t1, w1, a2, a3, a4, d1, d6, l1, l2, l3, l4, l5, l6, l7, l8, t2, nI_1]) (by
    intro e h' ⟨ee, eh⟩
    subst ee eh
    have k1 : ¬ nI S < nI S := nI_nlt (Nat.le_refl _) (by omega)
    refine ⟨_, h', ?_, rfl, rfl⟩
    simp only [lb_X8_tries_8, gz_sem, gz_ae, Value.category, gz_i, gz_l, gz_nu, gz_li, gz_ll, gz_la, gz_ib, gz_iz, gz_lb, gz_lz, gz_ls, gz_lc, gz_i2l, gz_l2i, gz_get, gz_ald, gz_len, gz_dup, gz_d2, gz_nar, gz_a0, gz_a1, gz_cs, gz_cv, gz_mk, gz_te, gz_j1, gz_j2, gz_jn, gz_jk, gz_jo, gz_ja, gz_sat, gz_seti, gz_seta, gz_set2, gz_inc, gz_put, gz_ast, gz_pop, gz_vs, gz_vv, gz_sup, gz_rv, gz_ri, gz_rl, gz_ra, gz_if, gz_seq, gz_sw, gz_st, gz_st2, rok_I, rok_J, rok_V, rok_Z0, rok_Z1, rok_Zi, rok_R, rok_N, bi_rok, bi_0, bi_1, fit_I, fit_J, fit_Z0, fit_Z1, fit_Zi, fit_R, fit_N, fit_aR, aty_I, aty_Z0, aty_Z1, aty_Zi, aty_J, gz_ix, List.getElem?_cons_zero, List.getElem?_cons_succ, List.getElem?_nil, List.reverse_cons, List.reverse_nil, List.nil_append, List.cons_append, List.take_succ_cons, List.take_zero, List.take_nil, List.length_cons, List.length_nil, decide_true, decide_false, decide_not, Bool.not_true, Bool.not_false, gz_nle, if_true, if_false, and_true, true_and, and_self, and_false, false_and, or_true, true_or, or_false, false_or, Bool.false_eq_true, not_true, not_false_iff, Decidable.not_not, Nat.reduceLeDiff, Nat.reduceAdd, Nat.reduceEqDiff, Nat.reduceSub, Nat.reduceLT, Nat.zero_add, reduceCtorEq, reduceIte, eq_self, i32_10, i32_01, Nat.zero_le, Nat.one_ne_zero, m, md_k, p2, p3, c1, c5, k1]) S 0 [.ref 15, .int (nI p), .int (nI cy), .long (lN 0), .double 0, .long (lN 1), .double 0, .int (nI 0)] h (by omega) ⟨rfl, rfl⟩
  subst q2 q3
  exact ⟨_, q1, rfl⟩
set_option maxHeartbeats 8000000 in
theorem st_tries {hr h : gz_H} (w : QW hr h) {p S n cy T a b c d : Nat} {Cn Rt : Nat → Nat} {W : Nat → Nat → Bool} (H : RX hr p S n Cn Rt W) (c90 : cy ≤ 90) (g : BG n T a b c d) (hT : T ≤ 90) (tr : ∀ s, s < n → gz_I h 35 s = nI (gf a b c d s)) (vis : Nat → Nat → Nat → Nat → Prop) (vg : ∀ a' b' c' d', vis a' b' c' d' → BG n T a' b' c' d' ∧ ls a' b' c' d' a b c d) (fb : FB h W Cn Rt S n cy vis) : ∃ h', se_X8_tries [.ref 15, .int (nI p), .int (nI cy)] h = some (none, h') ∧ QW hr h' ∧ (∀ i, gz_v h' 35 i = gz_v h 35 i) ∧ FB h' W Cn Rt S n cy (fun a' b' c' d' => vis a' b' c' d' ∨ (a' = a ∧ b' = b ∧ c' = c ∧ d' = d)) := by
  have m := w.1
  have HX := RX_QW w H
  obtain ⟨c1, c2, n2, n4, c5, c6, c7, c8⟩ := RX_QW w H
  have p2 : ¬ nI p < 0 := nI_pos (by omega)
  have p3 : (nI p).toNatClampNeg = p := nI_clamp (by omega)
  have p16 : p < 16 := by omega
  obtain ⟨e, lo1, lo2⟩ := tr_out m HX c90 g hT tr
  have sp : ∀ a b c d, BG n T a b c d → (lD W Cn Rt S n cy a b c d).1 ≤ 324000 ∧ 0 < (lD W Cn Rt S n cy a b c d).2 ∧ (lD W Cn Rt S n cy a b c d).2 ≤ 324000 := fun a b c d g => (ou_sp (cy := cy) (Cn := Cn) (Rt := Rt) (s := fun i => dt (rS W n i) a b c d) S (fun k hk => ⟨(c7 k hk).2.1, by have := (c7 k hk).2.2.2.1; omega, (c7 k hk).2.2.2.2, dt_90 g hT _⟩) c90).1
  obtain ⟨s1, s2, s3⟩ := sp a b c d g
  -- the copy
  have H2 : ∀ (o u : Int64), ∃ h', gz_loop 189 8 lb_X8_tries_189 [.ref 15, .int (nI p), .int (nI cy), .long o, .double 0, .long u, .double 0, .int 0] (gz_set (gz_set h 15 27 (.long o)) 15 28 (.long u)) = some (.inl (220, [.ref 15, .int (nI p), .int (nI cy), .long o, .double 0, .long u, .double 0, .int (nI n)], h')) ∧ QW hr h' ∧ (∀ i, gz_v h' 35 i = gz_v h 35 i) ∧ gz_J h' 15 27 = o ∧ gz_J h' 15 28 = u ∧ ∀ s, s < n → gz_I h' 36 s = nI (gf a b c d s) := by
    intro o u
    obtain ⟨e', h', q1, q2, q3, q4, q5, q6⟩ := gz_forI (L := 189) (k := 8) (X := 220) (a := lb_X8_tries_189) n (fun s e h' => e = [.ref 15, .int (nI p), .int (nI cy), .long o, .double 0, .long u, .double 0, .int (nI s)] ∧ QW hr h' ∧ (∀ i, gz_v h' 35 i = gz_v h 35 i) ∧ (gz_J h' 15 27 = o ∧ gz_J h' 15 28 = u) ∧ ∀ k, k < s → gz_I h' 36 k = nI (gf a b c d k)) (fun e h' => e = [.ref 15, .int (nI p), .int (nI cy), .long o, .double 0, .long u, .double 0, .int (nI n)] ∧ QW hr h' ∧ (∀ i, gz_v h' 35 i = gz_v h 35 i) ∧ (gz_J h' 15 27 = o ∧ gz_J h' 15 28 = u) ∧ ∀ k, k < n → gz_I h' 36 k = nI (gf a b c d k)) (by decide) (by
      intro s e h' hs ⟨ee, w', t35, jj, r⟩
      subst ee
      have m' := w'.1
      have x6 := (RX_QW w' H).2.2.2.2.2.1
      have k1 : nI s < nI n := nI_lt hs (by omega)
      have d2 : ¬ nI s < 0 := nI_pos (by omega)
      have d3 : (nI s).toNatClampNeg = s := nI_clamp (by omega)
      have d4 : s < 4 := by omega
      have tt : gz_I h' 35 s = nI (gf a b c d s) := by rw [vI (t35 s)]; exact tr s hs
      refine ⟨[.ref 15, .int (nI p), .int (nI cy), .long o, .double 0, .long u, .double 0, .int (nI (s + 1))], gz_set h' 36 s (.int (nI (gf a b c d s))), ?_, rfl, QW_set w' _ _ _ (by omega) (by omega), fun i => by rw [gz_v_set, if_neg (by omega)]; exact t35 i, ⟨by rw [J_seto _ _ _ _ _ _ (by omega)]; exact jj.1, by rw [J_seto _ _ _ _ _ _ (by omega)]; exact jj.2⟩, fun k hk => ?_⟩
      · simp only [lb_X8_tries_189, gz_sem, gz_ae, Value.category, gz_i, gz_l, gz_nu, gz_li, gz_ll, gz_la, gz_ib, gz_iz, gz_lb, gz_lz, gz_ls, gz_lc, gz_i2l, gz_l2i, gz_get, gz_ald, gz_len, gz_dup, gz_d2, gz_nar, gz_a0, gz_a1, gz_cs, gz_cv, gz_mk, gz_te, gz_j1, gz_j2, gz_jn, gz_jk, gz_jo, gz_ja, gz_sat, gz_seti, gz_seta, gz_set2, gz_inc, gz_put, gz_ast, gz_pop, gz_vs, gz_vv, gz_sup, gz_rv, gz_ri, gz_rl, gz_ra, gz_if, gz_seq, gz_sw, gz_st, gz_st2, rok_I, rok_J, rok_V, rok_Z0, rok_Z1, rok_Zi, rok_R, rok_N, bi_rok, bi_0, bi_1, fit_I, fit_J, fit_Z0, fit_Z1, fit_Zi, fit_R, fit_N, fit_aR, aty_I, aty_Z0, aty_Z1, aty_Zi, aty_J, gz_ix, List.getElem?_cons_zero, List.getElem?_cons_succ, List.getElem?_nil, List.reverse_cons, List.reverse_nil, List.nil_append, List.cons_append, List.take_succ_cons, List.take_zero, List.take_nil, List.length_cons, List.length_nil, decide_true, decide_false, decide_not, Bool.not_true, Bool.not_false, gz_nle, if_true, if_false, and_true, true_and, and_self, and_false, false_and, or_true, true_or, or_false, false_or, Bool.false_eq_true, not_true, not_false_iff, Decidable.not_not, Nat.reduceLeDiff, Nat.reduceAdd, Nat.reduceEqDiff, Nat.reduceSub, Nat.reduceLT, Nat.zero_add, reduceCtorEq, reduceIte, eq_self, i32_10, i32_01, Nat.zero_le, Nat.one_ne_zero, m', md_k, p2, p3, p16, x6, k1, d2, d3, d4, tt, nI_1]
      · rw [I_set]
        by_cases z : k = s
        · rw [if_pos ⟨rfl, z⟩, z]
        · rw [if_neg (fun y => z y.2)]; exact r k (by omega)) (by
      intro e h' ⟨ee, w', t35, jj, r⟩
      subst ee
      have m' := w'.1
      have x6 := (RX_QW w' H).2.2.2.2.2.1
      have k1 : ¬ nI n < nI n := nI_nlt (Nat.le_refl _) (by omega)
      refine ⟨_, h', ?_, rfl, w', t35, jj, r⟩
      simp only [lb_X8_tries_189, gz_sem, gz_ae, Value.category, gz_i, gz_l, gz_nu, gz_li, gz_ll, gz_la, gz_ib, gz_iz, gz_lb, gz_lz, gz_ls, gz_lc, gz_i2l, gz_l2i, gz_get, gz_ald, gz_len, gz_dup, gz_d2, gz_nar, gz_a0, gz_a1, gz_cs, gz_cv, gz_mk, gz_te, gz_j1, gz_j2, gz_jn, gz_jk, gz_jo, gz_ja, gz_sat, gz_seti, gz_seta, gz_set2, gz_inc, gz_put, gz_ast, gz_pop, gz_vs, gz_vv, gz_sup, gz_rv, gz_ri, gz_rl, gz_ra, gz_if, gz_seq, gz_sw, gz_st, gz_st2, rok_I, rok_J, rok_V, rok_Z0, rok_Z1, rok_Zi, rok_R, rok_N, bi_rok, bi_0, bi_1, fit_I, fit_J, fit_Z0, fit_Z1, fit_Zi, fit_R, fit_N, fit_aR, aty_I, aty_Z0, aty_Z1, aty_Zi, aty_J, gz_ix, List.getElem?_cons_zero, List.getElem?_cons_succ, List.getElem?_nil, List.reverse_cons, List.reverse_nil, List.nil_append, List.cons_append, List.take_succ_cons, List.take_zero, List.take_nil, List.length_cons, List.length_nil, decide_true, decide_false, decide_not, Bool.not_true, Bool.not_false, gz_nle, if_true, if_false, and_true, true_and, and_self, and_false, false_and, or_true, true_or, or_false, false_or, Bool.false_eq_true, not_true, not_false_iff, Decidable.not_not, Nat.reduceLeDiff, Nat.reduceAdd, Nat.reduceEqDiff, Nat.reduceSub, Nat.reduceLT, Nat.zero_add, reduceCtorEq, reduceIte, eq_self, i32_10, i32_01, Nat.zero_le, Nat.one_ne_zero, m', md_k, p2, p3, p16, x6, k1]) n 0 [.ref 15, .int (nI p), .int (nI cy), .long o, .double 0, .long u, .double 0, .int (nI 0)] (gz_set (gz_set h 15 27 (.long o)) 15 28 (.long u)) (by omega) ⟨rfl, QW_15 (QW_15 w _ _ (Or.inl rfl)) _ _ (Or.inr rfl), fun i => by rw [gz_v_set, if_neg (by omega), gz_v_set, if_neg (by omega)], ⟨by rw [J_seto _ _ _ _ _ _ (by omega), J_set, if_pos ⟨rfl, rfl⟩], by rw [J_set, if_pos ⟨rfl, rfl⟩]⟩, fun k hk => by omega⟩
    subst q2
    exact ⟨h', q1, q3, q4, q5.1, q5.2, q6⟩
  have nl : ¬ ls a b c d a b c d := fun z => by unfold ls at z; omega
  have m27 : gz_v h 15 27 = .long (gz_J h 15 27) := m.2.2.2.2.2.2.2.2.2.2.1 27 (by omega) (by omega)
  have kk : gz_k (gz_set h 15 27 (.long (lN (lD W Cn Rt S n cy a b c d).1))) 15 = gz_k h 15 := rfl
  -- it is better
  have yes : (¬ 0 < lg_cmp (gz_J h 15 28) 0) ∨ (0 < lg_cmp (gz_J h 15 28) 0 ∧ lg_cmp (lN (lD W Cn Rt S n cy a b c d).1 * gz_J h 15 28) (gz_J h 15 27 * lN (lD W Cn Rt S n cy a b c d).2) < 0) → (∀ a' b' c' d', vis a' b' c' d' → (lD W Cn Rt S n cy a' b' c' d').2 * (lD W Cn Rt S n cy a b c d).1 < (lD W Cn Rt S n cy a b c d).2 * (lD W Cn Rt S n cy a' b' c' d').1) → ∃ h', se_X8_tries [.ref 15, .int (nI p), .int (nI cy)] h = some (none, h') ∧ QW hr h' ∧ (∀ i, gz_v h' 35 i = gz_v h 35 i) ∧ FB h' W Cn Rt S n cy (fun a' b' c' d' => vis a' b' c' d' ∨ (a' = a ∧ b' = b ∧ c' = c ∧ d' = d)) := by
    intro t al
    obtain ⟨h', l1, l2, l3, l4, l5, l6⟩ := H2 (lN (lD W Cn Rt S n cy a b c d).1) (lN (lD W Cn Rt S n cy a b c d).2)
    refine ⟨h', ?_, l2, l3, Or.inr ⟨a, b, c, d, Or.inr ⟨rfl, rfl, rfl, rfl⟩, l4, l5, l6, fun a' b' c' d' v => ?_⟩⟩
    · rcases t with t | ⟨t, t'⟩
      · simp only [se_X8_tries, sm_X8_tries, gz_sem, gz_ae, Value.category, gz_i, gz_l, gz_nu, gz_li, gz_ll, gz_la, gz_ib, gz_iz, gz_lb, gz_lz, gz_ls, gz_lc, gz_i2l, gz_l2i, gz_get, gz_ald, gz_len, gz_dup, gz_d2, gz_nar, gz_a0, gz_a1, gz_cs, gz_cv, gz_mk, gz_te, gz_j1, gz_j2, gz_jn, gz_jk, gz_jo, gz_ja, gz_sat, gz_seti, gz_seta, gz_set2, gz_inc, gz_put, gz_ast, gz_pop, gz_vs, gz_vv, gz_sup, gz_rv, gz_ri, gz_rl, gz_ra, gz_if, gz_seq, gz_sw, gz_st, gz_st2, rok_I, rok_J, rok_V, rok_Z0, rok_Z1, rok_Zi, rok_R, rok_N, bi_rok, bi_0, bi_1, fit_I, fit_J, fit_Z0, fit_Z1, fit_Zi, fit_R, fit_N, fit_aR, aty_I, aty_Z0, aty_Z1, aty_Zi, aty_J, gz_ix, List.getElem?_cons_zero, List.getElem?_cons_succ, List.getElem?_nil, List.reverse_cons, List.reverse_nil, List.nil_append, List.cons_append, List.take_succ_cons, List.take_zero, List.take_nil, List.length_cons, List.length_nil, decide_true, decide_false, decide_not, Bool.not_true, Bool.not_false, gz_nle, if_true, if_false, and_true, true_and, and_self, and_false, false_and, or_true, true_or, or_false, false_or, Bool.false_eq_true, not_true, not_false_iff, Decidable.not_not, Nat.reduceLeDiff, Nat.reduceAdd, Nat.reduceEqDiff, Nat.reduceSub, Nat.reduceLT, Nat.zero_add, reduceCtorEq, reduceIte, eq_self, i32_10, i32_01, Nat.zero_le, Nat.one_ne_zero, lo1, lo2, m, md_k, t, gz_n_set, gz_k_set, l1]
      · simp only [se_X8_tries, sm_X8_tries, gz_sem, gz_ae, Value.category, gz_i, gz_l, gz_nu, gz_li, gz_ll, gz_la, gz_ib, gz_iz, gz_lb, gz_lz, gz_ls, gz_lc, gz_i2l, gz_l2i, gz_get, gz_ald, gz_len, gz_dup, gz_d2, gz_nar, gz_a0, gz_a1, gz_cs, gz_cv, gz_mk, gz_te, gz_j1, gz_j2, gz_jn, gz_jk, gz_jo, gz_ja, gz_sat, gz_seti, gz_seta, gz_set2, gz_inc, gz_put, gz_ast, gz_pop, gz_vs, gz_vv, gz_sup, gz_rv, gz_ri, gz_rl, gz_ra, gz_if, gz_seq, gz_sw, gz_st, gz_st2, rok_I, rok_J, rok_V, rok_Z0, rok_Z1, rok_Zi, rok_R, rok_N, bi_rok, bi_0, bi_1, fit_I, fit_J, fit_Z0, fit_Z1, fit_Zi, fit_R, fit_N, fit_aR, aty_I, aty_Z0, aty_Z1, aty_Zi, aty_J, gz_ix, List.getElem?_cons_zero, List.getElem?_cons_succ, List.getElem?_nil, List.reverse_cons, List.reverse_nil, List.nil_append, List.cons_append, List.take_succ_cons, List.take_zero, List.take_nil, List.length_cons, List.length_nil, decide_true, decide_false, decide_not, Bool.not_true, Bool.not_false, gz_nle, if_true, if_false, and_true, true_and, and_self, and_false, false_and, or_true, true_or, or_false, false_or, Bool.false_eq_true, not_true, not_false_iff, Decidable.not_not, Nat.reduceLeDiff, Nat.reduceAdd, Nat.reduceEqDiff, Nat.reduceSub, Nat.reduceLT, Nat.zero_add, reduceCtorEq, reduceIte, eq_self, i32_10, i32_01, Nat.zero_le, Nat.one_ne_zero, lo1, lo2, m, md_k, t, t', gz_n_set, gz_k_set, l1]
    · rcases v with v | ⟨rfl, rfl, rfl, rfl⟩
      · exact ⟨Nat.le_of_lt (al a' b' c' d' v), fun _ => al a' b' c' d' v⟩
      · exact ⟨Nat.le_refl _, fun z => absurd z nl⟩
  rcases fb with ⟨f1, f2⟩ | ⟨fa, fb, fc, fd, f1, f2, f3, f4, f5⟩
  · refine yes (Or.inl ?_) (fun a' b' c' d' v => absurd v (f2 a' b' c' d'))
    rw [f1]
    decide
  · obtain ⟨g1, g2⟩ := vg fa fb fc fd f1
    obtain ⟨r1, r2, r3⟩ := sp fa fb fc fd g1
    have t0 : 0 < lg_cmp (gz_J h 15 28) 0 := by
      rw [f3]
      exact (lg_cmp_gt _ _).mpr ((pk_lLT (a := 0) (by omega) (by omega)).mpr r2)
    have b1 : (lD W Cn Rt S n cy a b c d).1 * (lD W Cn Rt S n cy fa fb fc fd).2 ≤ 324000 * 324000 := Nat.mul_le_mul s1 r3
    have b2 : (lD W Cn Rt S n cy fa fb fc fd).1 * (lD W Cn Rt S n cy a b c d).2 ≤ 324000 * 324000 := Nat.mul_le_mul r1 s3
    by_cases q : (lD W Cn Rt S n cy a b c d).1 * (lD W Cn Rt S n cy fa fb fc fd).2 < (lD W Cn Rt S n cy fa fb fc fd).1 * (lD W Cn Rt S n cy a b c d).2
    · refine yes (Or.inr ⟨t0, ?_⟩) (fun a' b' c' d' v => ?_)
      · rw [f2, f3, lN_mul, lN_mul]
        exact (lg_cmp_lt _ _).mpr ((pk_lLT (by omega) (by omega)).mpr q)
      · refine fr_ltle r2 (sp a' b' c' d' (vg a' b' c' d' v).1).2.1 ?_ (f5 a' b' c' d' v).1
        rw [Nat.mul_comm, Nat.mul_comm _ (lD W Cn Rt S n cy fa fb fc fd).1]
        exact q
    · have t1 : ¬ lg_cmp (lN (lD W Cn Rt S n cy a b c d).1 * gz_J h 15 28) (gz_J h 15 27 * lN (lD W Cn Rt S n cy a b c d).2) < 0 := fun z => by
        rw [f2, f3, lN_mul, lN_mul] at z
        exact q ((pk_lLT (by omega) (by omega)).mp ((lg_cmp_lt _ _).mp z))
      refine ⟨h, ?_, w, fun _ => rfl, Or.inr ⟨fa, fb, fc, fd, Or.inl f1, f2, f3, f4, fun a' b' c' d' v => ?_⟩⟩
      · simp only [se_X8_tries, sm_X8_tries, gz_sem, gz_ae, Value.category, gz_i, gz_l, gz_nu, gz_li, gz_ll, gz_la, gz_ib, gz_iz, gz_lb, gz_lz, gz_ls, gz_lc, gz_i2l, gz_l2i, gz_get, gz_ald, gz_len, gz_dup, gz_d2, gz_nar, gz_a0, gz_a1, gz_cs, gz_cv, gz_mk, gz_te, gz_j1, gz_j2, gz_jn, gz_jk, gz_jo, gz_ja, gz_sat, gz_seti, gz_seta, gz_set2, gz_inc, gz_put, gz_ast, gz_pop, gz_vs, gz_vv, gz_sup, gz_rv, gz_ri, gz_rl, gz_ra, gz_if, gz_seq, gz_sw, gz_st, gz_st2, rok_I, rok_J, rok_V, rok_Z0, rok_Z1, rok_Zi, rok_R, rok_N, bi_rok, bi_0, bi_1, fit_I, fit_J, fit_Z0, fit_Z1, fit_Zi, fit_R, fit_N, fit_aR, aty_I, aty_Z0, aty_Z1, aty_Zi, aty_J, gz_ix, List.getElem?_cons_zero, List.getElem?_cons_succ, List.getElem?_nil, List.reverse_cons, List.reverse_nil, List.nil_append, List.cons_append, List.take_succ_cons, List.take_zero, List.take_nil, List.length_cons, List.length_nil, decide_true, decide_false, decide_not, Bool.not_true, Bool.not_false, gz_nle, if_true, if_false, and_true, true_and, and_self, and_false, false_and, or_true, true_or, or_false, false_or, Bool.false_eq_true, not_true, not_false_iff, Decidable.not_not, Nat.reduceLeDiff, Nat.reduceAdd, Nat.reduceEqDiff, Nat.reduceSub, Nat.reduceLT, Nat.zero_add, reduceCtorEq, reduceIte, eq_self, i32_10, i32_01, Nat.zero_le, Nat.one_ne_zero, lo1, lo2, m, md_k, t0, t1]
      · rcases v with v | ⟨rfl, rfl, rfl, rfl⟩
        · exact f5 a' b' c' d' v
        · refine ⟨?_, fun z => ?_⟩
          · rw [Nat.mul_comm, Nat.mul_comm (lD W Cn Rt S n cy fa fb fc fd).2]
            omega
          · exfalso
            unfold ls at z g2
            omega
