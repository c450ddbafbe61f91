theorem wr_Io {h : gz_H} {a lo hi : Nat} {f : Nat → Int32} {b i : Nat} (hb : b ≠ a) : gz_I (gz_wr h a lo hi f) b i = gz_I h b i := by rw [wr_I, if_neg (fun q => hb q.1)]
/-- where each stage begins -/
def gz_ps (g b : Nat → Nat) : Nat → Nat
  | 0 => 0
  | s + 1 => gz_ps g b s + g s + b s
def gz_nx (n s : Nat) : Nat := if s + 1 < n then s + 1 else 0
/-- the lamps of a plan by its stages -/
def gz_LS (n : Nat) (g b : Nat → Nat) (r : Nat → Int32) (L : Nat → Int32) : Prop := ∀ s, s < n → (∀ t, gz_ps g b s ≤ t → t < gz_ps g b s + g s → L t = r s) ∧ ∀ t, gz_ps g b s + g s ≤ t → t < gz_ps g b (s + 1) → L t = r s &&& r (gz_nx n s)
theorem ps_mono (g b : Nat → Nat) : ∀ d s, gz_ps g b s ≤ gz_ps g b (s + d) := by
  intro d
  induction d with
  | zero => intro s; exact Nat.le_refl _
  | succ d ih => intro s; have h1 := ih s; show _ ≤ gz_ps g b (s + d) + g (s + d) + b (s + d); omega
theorem ps_le {g b : Nat → Nat} {s t : Nat} (h : s ≤ t) : gz_ps g b s ≤ gz_ps g b t := by
  have := ps_mono g b (t - s) s
  rw [show s + (t - s) = t by omega] at this
  exact this
theorem nx_lt {n s : Nat} (h : s < n) : gz_nx n s < n := by unfold gz_nx; split <;> omega
theorem nx_nI {n s : Nat} (h : s < n) (hn : n ≤ 4) : (if nI s + 1 < nI n then nI s + 1 else 0) = nI (gz_nx n s) := by
  rw [nI_1]
  unfold gz_nx
  by_cases q : s + 1 < n
  · rw [if_pos q, if_pos (nI_lt q (by omega))]
  · rw [if_neg q, if_neg (nI_nlt (by omega) (by omega)), nI_0]
/-- the heap with s stages' lamps laid -/
def gz_lh (h : gz_H) (a : Nat) (p s : Nat) (L E : Nat → Int32) : gz_H := gz_wr (gz_wr h (a + 5) 0 p L) (a + 4) 0 s E
theorem lh_row {h : gz_H} {a p q s : Nat} {L E g : Nat → Int32} (hq : p ≤ q) (hg : ∀ t, p ≤ t → t < q → g t = L t) : gz_wr (gz_lh h a p s L E) (a + 5) p q g = gz_lh h a q s L E := by
  unfold gz_lh
  rw [wr_c (by omega : a + 4 ≠ a + 5), wr_j (Nat.zero_le _) hq hg]
theorem lh_pc {h : gz_H} {a n : Nat} (c : pc h a n) (p s : Nat) (L E : Nat → Int32) : pc (gz_lh h a p s L E) a n := pc_wr (pc_wr c _ _ _ _ (by omega)) _ _ _ _ (by omega)
theorem lh_I {h : gz_H} {a p s x i : Nat} {L E : Nat → Int32} (h4 : x ≠ a + 4) (h5 : x ≠ a + 5) : gz_I (gz_lh h a p s L E) x i = gz_I h x i := by unfold gz_lh; rw [wr_Io h4, wr_Io h5]
theorem lh_end {h : gz_H} {a p s : Nat} {L E : Nat → Int32} : gz_set (gz_lh h a p s L E) (a + 4) s (.int (E s)) = gz_lh h a p (s + 1) L E := by
  unfold gz_lh
  exact wr_s (Nat.zero_le _)
set_option maxHeartbeats 8000000 in
theorem st_X2_layLamps (h : gz_H) (a n : Nat) (c : pc h a n) (hn : n ≤ 4) (g b : Nat → Nat) (hg : ∀ s, s < n → gz_I h (a + 2) s = nI (g s)) (hb : ∀ s, s < n → gz_I h (a + 3) s = nI (b s)) (L : Nat → Int32) (hL : gz_LS n g b (fun s => gz_I h (a + 1) s) L) (h90 : gz_ps g b n ≤ 90) : se_X2_layLamps [.ref a] h = some (none, gz_lh h a (gz_ps g b n) n L (fun u => nI (gz_ps g b (u + 1)))) := by
  have st : ∀ s, s < n → lb_X2_layLamps_4 ([Value.ref a, .int (nI (gz_ps g b s)), .int (nI s)].take 3) (gz_lh h a (gz_ps g b s) s L (fun u => nI (gz_ps g b (u + 1)))) = some (.inl (4, [.ref a, .int (nI (gz_ps g b (s + 1))), .int (nI (s + 1))], gz_lh h a (gz_ps g b (s + 1)) (s + 1) L (fun u => nI (gz_ps g b (u + 1))))) := by
    intro s hs
    have hp1 : gz_ps g b (s + 1) ≤ gz_ps g b n := ps_le (by omega)
    have hp2 : gz_ps g b (s + 1) = gz_ps g b s + g s + b s := rfl
    have k1 : nI s < nI n := nI_lt hs (by omega)
    have d2 : ¬ nI s < 0 := nI_pos (by omega)
    have d3 : (nI s).toNatClampNeg = s := nI_clamp (by omega)
    have d4 : s < 4 := by omega
    obtain ⟨L1, L2⟩ := hL s hs
    generalize hE : (fun u => nI (gz_ps g b (u + 1))) = E
    have hEs : E s = nI (gz_ps g b (s + 1)) := by rw [← hE]
    generalize hA : gz_lh h a (gz_ps g b s) s L E = A
    have cA : pc A a n := by rw [← hA]; exact lh_pc c _ _ _ _
    have gA : gz_I A (a + 2) s = nI (g s) := by rw [← hA, lh_I (by omega) (by omega)]; exact hg s hs
    have rA : gz_I A (a + 1) s = gz_I h (a + 1) s := by rw [← hA, lh_I (by omega) (by omega)]
    have q1 : nI (gz_ps g b s) + nI (g s) = nI (gz_ps g b s + g s) := nI_add _ _
    have row1 := st_X2_layRow A a n (gz_ps g b s) (gz_ps g b s + g s) cA (gz_I h (a + 1) s) (by omega) (by omega)
    rw [← hA, lh_row (by omega) (fun t h1 h2 => (L1 t h1 h2).symm), hA] at row1
    generalize hB : gz_lh h a (gz_ps g b s + g s) s L E = B at row1
    have cB : pc B a n := by rw [← hB]; exact lh_pc c _ _ _ _
    have gB : gz_I B (a + 2) s = nI (g s) := by rw [← hB, lh_I (by omega) (by omega)]; exact hg s hs
    have bB : gz_I B (a + 3) s = nI (b s) := by rw [← hB, lh_I (by omega) (by omega)]; exact hb s hs
    have rB : ∀ i, gz_I B (a + 1) i = gz_I h (a + 1) i := fun i => by rw [← hB, lh_I (by omega) (by omega)]
    have q2 : nI (gz_ps g b s + g s) + nI (b s) = nI (gz_ps g b (s + 1)) := nI_add _ _
    have beh := st_X2_behind a (nI s) (nI n) B cB.1 cB.2.2.2.2.2.2.1 cB.2.2.2.2.2.2.2.2.2.2.2.2.2.2.1
    rw [nx_nI hs hn] at beh
    have x1 := nx_lt hs
    have x2 : ¬ nI (gz_nx n s) < 0 := nI_pos (by omega)
    have x3 : (nI (gz_nx n s)).toNatClampNeg = gz_nx n s := nI_clamp (by omega)
    have x4 : gz_nx n s < 4 := by omega
    have row2 := st_X2_layRow B a n (gz_ps g b s + g s) (gz_ps g b (s + 1)) cB (gz_I h (a + 1) s &&& gz_I h (a + 1) (gz_nx n s)) (by omega) (by omega)
    rw [← hB, lh_row (by omega) (fun t h1 h2 => (L2 t h1 h2).symm), hB] at row2
    generalize hC : gz_lh h a (gz_ps g b (s + 1)) s L E = C at row2
    have cC : pc C a n := by rw [← hC]; exact lh_pc c _ _ _ _
    have bC : gz_I C (a + 3) s = nI (b s) := by rw [← hC, lh_I (by omega) (by omega)]; exact hb s hs
    have fin := lh_end (h := h) (a := a) (p := gz_ps g b (s + 1)) (s := s) (L := L) (E := E)
    rw [hC, hEs] at fin
    simp only [lb_X2_layLamps_4, gz_sem, gz_ae, Value.category, gz_i, gz_l, gz_nu, gz_li, gz_ll, gz_la, gz_ib, gz_iz, gz_lb, gz_lz, gz_ls, gz_lc, gz_i2l, gz_l2i, gz_get, gz_ald, gz_len, gz_dup, gz_d2, gz_nar, gz_a0, gz_a1, gz_cs, gz_cv, gz_mk, gz_te, gz_j1, gz_j2, gz_jn, gz_jk, gz_jo, gz_ja, gz_sat, gz_seti, gz_seta, gz_set2, gz_inc, gz_put, gz_ast, gz_pop, gz_vs, gz_vv, gz_sup, gz_rv, gz_ri, gz_rl, gz_ra, gz_if, gz_seq, gz_sw, gz_st, gz_st2, rok_I, rok_J, rok_V, rok_Z0, rok_Z1, rok_Zi, rok_R, rok_N, bi_rok, bi_0, bi_1, fit_I, fit_J, fit_Z0, fit_Z1, fit_Zi, fit_R, fit_N, fit_aR, aty_I, aty_Z0, aty_Z1, aty_Zi, aty_J, gz_ix, List.getElem?_cons_zero, List.getElem?_cons_succ, List.getElem?_nil, List.reverse_cons, List.reverse_nil, List.nil_append, List.cons_append, List.take_succ_cons, List.take_zero, List.take_nil, List.length_cons, List.length_nil, decide_true, decide_false, decide_not, Bool.not_true, Bool.not_false, gz_nle, if_true, if_false, and_true, true_and, and_self, and_false, false_and, or_true, true_or, or_false, false_or, Bool.false_eq_true, not_true, not_false_iff, Decidable.not_not, Nat.reduceLeDiff, Nat.reduceAdd, Nat.reduceEqDiff, Nat.reduceSub, Nat.reduceLT, Nat.zero_add, reduceCtorEq, reduceIte, eq_self, i32_10, i32_01, Nat.zero_le, Nat.one_ne_zero, cA, cB, cC, k1, d2, d3, d4, gA, rA, q1, row1, gB, bB, rB, q2, beh, x2, x3, x4, row2, bC, nI_1, fin]
  have l := gz_for0 (L := 4) (k := 3) (X := 92) (a := lb_X2_layLamps_4) n (fun s => [.ref a, .int (nI (gz_ps g b s)), .int (nI s)]) (fun s => gz_lh h a (gz_ps g b s) s L (fun u => nI (gz_ps g b (u + 1)))) (env' := [.ref a, .int (nI (gz_ps g b n)), .int (nI n)]) (h' := gz_lh h a (gz_ps g b n) n L (fun u => nI (gz_ps g b (u + 1)))) (by decide) st (by
    have k1 : ¬ nI n < nI n := nI_nlt (Nat.le_refl _) (by omega)
    have cA := lh_pc c (gz_ps g b n) n L (fun u => nI (gz_ps g b (u + 1)))
    simp only [lb_X2_layLamps_4, gz_sem, gz_ae, Value.category, gz_i, gz_l, gz_nu, gz_li, gz_ll, gz_la, gz_ib, gz_iz, gz_lb, gz_lz, gz_ls, gz_lc, gz_i2l, gz_l2i, gz_get, gz_ald, gz_len, gz_dup, gz_d2, gz_nar, gz_a0, gz_a1, gz_cs, gz_cv, gz_mk, gz_te, gz_j1, gz_j2, gz_jn, gz_jk, gz_jo, gz_ja, gz_sat, gz_seti, gz_seta, gz_set2, gz_inc, gz_put, gz_ast, gz_pop, gz_vs, gz_vv, gz_sup, gz_rv, gz_ri, gz_rl, gz_ra, gz_if, gz_seq, gz_sw, gz_st, gz_st2, rok_I, rok_J, rok_V, rok_Z0, rok_Z1, rok_Zi, rok_R, rok_N, bi_rok, bi_0, bi_1, fit_I, fit_J, fit_Z0, fit_Z1, fit_Zi, fit_R, fit_N, fit_aR, aty_I, aty_Z0, aty_Z1, aty_Zi, aty_J, gz_ix, List.getElem?_cons_zero, List.getElem?_cons_succ, List.getElem?_nil, List.reverse_cons, List.reverse_nil, List.nil_append, List.cons_append, List.take_succ_cons, List.take_zero, List.take_nil, List.length_cons, List.length_nil, decide_true, decide_false, decide_not, Bool.not_true, Bool.not_false, gz_nle, if_true, if_false, and_true, true_and, and_self, and_false, false_and, or_true, true_or, or_false, false_or, Bool.false_eq_true, not_true, not_false_iff, Decidable.not_not, Nat.reduceLeDiff, Nat.reduceAdd, Nat.reduceEqDiff, Nat.reduceSub, Nat.reduceLT, Nat.zero_add, reduceCtorEq, reduceIte, eq_self, i32_10, i32_01, Nat.zero_le, Nat.one_ne_zero, cA, k1])
  have e0 : gz_lh h a (gz_ps g b 0) 0 L (fun u => nI (gz_ps g b (u + 1))) = h := by unfold gz_lh; rw [wr_0]; exact wr_0 _ _ _ _
  have e1 : nI (gz_ps g b 0) = 0 := nI_0
  simp only [e0, e1, nI_0] at l
  simp only [se_X2_layLamps, sm_X2_layLamps, gz_sem, gz_ae, Value.category, gz_i, gz_l, gz_nu, gz_li, gz_ll, gz_la, gz_ib, gz_iz, gz_lb, gz_lz, gz_ls, gz_lc, gz_i2l, gz_l2i, gz_get, gz_ald, gz_len, gz_dup, gz_d2, gz_nar, gz_a0, gz_a1, gz_cs, gz_cv, gz_mk, gz_te, gz_j1, gz_j2, gz_jn, gz_jk, gz_jo, gz_ja, gz_sat, gz_seti, gz_seta, gz_set2, gz_inc, gz_put, gz_ast, gz_pop, gz_vs, gz_vv, gz_sup, gz_rv, gz_ri, gz_rl, gz_ra, gz_if, gz_seq, gz_sw, gz_st, gz_st2, rok_I, rok_J, rok_V, rok_Z0, rok_Z1, rok_Zi, rok_R, rok_N, bi_rok, bi_0, bi_1, fit_I, fit_J, fit_Z0, fit_Z1, fit_Zi, fit_R, fit_N, fit_aR, aty_I, aty_Z0, aty_Z1, aty_Zi, aty_J, gz_ix, List.getElem?_cons_zero, List.getElem?_cons_succ, List.getElem?_nil, List.reverse_cons, List.reverse_nil, List.nil_append, List.cons_append, List.take_succ_cons, List.take_zero, List.take_nil, List.length_cons, List.length_nil, decide_true, decide_false, decide_not, Bool.not_true, Bool.not_false, gz_nle, if_true, if_false, and_true, true_and, and_self, and_false, false_and, or_true, true_or, or_false, false_or, Bool.false_eq_true, not_true, not_false_iff, Decidable.not_not, Nat.reduceLeDiff, Nat.reduceAdd, Nat.reduceEqDiff, Nat.reduceSub, Nat.reduceLT, Nat.zero_add, reduceCtorEq, reduceIte, eq_self, i32_10, i32_01, Nat.zero_le, Nat.one_ne_zero, l]
