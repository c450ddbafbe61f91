theorem lf_LF {A : Nat → Prop} {h h' : gz_H} (a : LF A h h') {q : Nat} (hq : 55 ≤ q) (S tm cy : Nat) : lf h' q S tm cy = lf h q S tm cy := by
  funext o t
  unfold lf
  rw [sm_I (LF_sm a (by omega) (by omega))]
/-- the rows of a leg are laid for the offsets below -/
def LR (h0 h : gz_H) (leg q S tm cy m : Nat) : Prop := ∀ o, o < m → gz_J h 13 (leg * 90 + o) = lN (bm (lf h0 q S tm cy o) (min cy 45)) ∧ gz_J h 14 (leg * 90 + o) = lN (bm (fun t => lf h0 q S tm cy o (45 + t)) (cy - 45))
set_option maxHeartbeats 4000000 in
theorem st_lo {h0 : gz_H} {JJ : Nat} (c : cs h0 JJ) (yy : yc h0) (leg q n cy S tm : Nat) (hl : leg < 6) (hq : 55 ≤ q) (pk : pc h0 q n) (p0 : gz_I h0 q 0 = nI cy) (e11 : gz_I h0 11 leg = nI S) (hS : S < 8) (e12 : gz_I h0 12 leg = nI tm) (htm : tm ≤ 240) (c0 : 0 < cy) (c9 : cy ≤ 90) : ∃ h', se_X6_layOffsets [.ref 9, .int (nI leg), .ref q] h0 = some (none, h') ∧ LF (fun i => leg * 90 ≤ i ∧ i < leg * 90 + 90) h0 h' ∧ LR h0 h' leg q S tm cy cy := by
  have d4 : ¬ nI leg < 0 := nI_pos (by omega)
  have d5 : (nI leg).toNatClampNeg = leg := nI_clamp (by omega)
  have l90 : nI leg * 90 = nI (leg * 90) := pk_mul leg 90
  have fi : ∀ {h : gz_H}, LF (fun i => leg * 90 ≤ i ∧ i < leg * 90 + 90) h0 h → cs h JJ ∧ yc h ∧ pc h q n ∧ gz_I h q 0 = nI cy ∧ gz_I h 11 leg = nI S ∧ gz_I h 12 leg = nI tm := fun w => ⟨LF_cs w c, w.2.2.1, LF_pc w hq pk, by rw [sm_I (LF_sm w (by omega) (by omega))]; exact p0, by rw [sm_I (LF_sm w (by omega) (by omega))]; exact e11, by rw [sm_I (LF_sm w (by omega) (by omega))]; exact e12⟩
  obtain ⟨e', h', q1, q2, q3, q4⟩ := gz_forI (L := 2) (k := 4) (X := 158) (a := lb_X6_layOffsets_2) cy (fun o e h => e = [.ref 9, .int (nI leg), .ref q, .int (nI o)] ∧ LF (fun i => leg * 90 ≤ i ∧ i < leg * 90 + 90) h0 h ∧ LR h0 h leg q S tm cy o) (fun e h => e = [.ref 9, .int (nI leg), .ref q, .int (nI cy)] ∧ LF (fun i => leg * 90 ≤ i ∧ i < leg * 90 + 90) h0 h ∧ LR h0 h leg q S tm cy cy) (by decide) (by
    intro o e h ho ⟨ee, w, r⟩
    subst ee
    obtain ⟨c', yy', pk', p0', e11', e12'⟩ := fi w
    have k1 : nI o < nI cy := nI_lt ho (by omega)
    have ra : nI (leg * 90) + nI o = nI (leg * 90 + o) := nI_add _ _
    have hr : leg * 90 + o < 540 := by omega
    have d6 : ¬ nI (leg * 90 + o) < 0 := nI_pos (by omega)
    have d7 : (nI (leg * 90 + o)).toNatClampNeg = leg * 90 + o := nI_clamp (by omega)
    have fm := st_fm (nI tm - nI o) cy c0 (by omega)
    rw [fm_sub c0 (by omega) (by omega) (by omega)] at fm
    have w1 : LF (fun i => leg * 90 ≤ i ∧ i < leg * 90 + 90) h0 (gz_set (gz_set h 13 (leg * 90 + o) (.long 0)) 14 (leg * 90 + o) (.long 0)) := LF_set (LF_set w _ (Or.inl rfl) ⟨by omega, by omega⟩) _ (Or.inr rfl) ⟨by omega, by omega⟩
    have r1 : LR h0 (gz_set (gz_set h 13 (leg * 90 + o) (.long 0)) 14 (leg * 90 + o) (.long 0)) leg q S tm cy o := fun o' ho' => by
      rw [J_seto _ _ _ _ _ _ (by omega), J_seto _ _ _ _ _ _ (by omega), J_seto _ _ _ _ _ _ (by omega), J_seto _ _ _ _ _ _ (by omega)]
      exact r o' ho'
    have v14 : gz_v (gz_set h 13 (leg * 90 + o) (.long 0)) 9 4 = gz_v h 9 4 := by rw [gz_v_set, if_neg (by omega)]
    have z13 : gz_J (gz_set (gz_set h 13 (leg * 90 + o) (.long 0)) 14 (leg * 90 + o) (.long 0)) 13 (leg * 90 + o) = 0 := by rw [J_seto _ _ _ _ _ _ (by omega), J_set, if_pos ⟨rfl, rfl⟩]
    have z14 : gz_J (gz_set (gz_set h 13 (leg * 90 + o) (.long 0)) 14 (leg * 90 + o) (.long 0)) 14 (leg * 90 + o) = 0 := by rw [J_set, if_pos ⟨rfl, rfl⟩]
    have e0 : (0 : Int32) = nI 0 := rfl
    obtain ⟨e2, h2, s1, s2, s3, s4, s5, s6⟩ := gz_forI (L := 54) (k := 7) (X := 152) (a := lb_X6_layOffsets_54) cy (fun t e h => e = [.ref 9, .int (nI leg), .ref q, .int (nI o), .int (nI (leg * 90 + o)), .int (nI ((t + tm + cy - o) % cy)), .int (nI t)] ∧ LF (fun i => leg * 90 ≤ i ∧ i < leg * 90 + 90) h0 h ∧ LR h0 h leg q S tm cy o ∧ gz_J h 13 (leg * 90 + o) = lN (bm (lf h0 q S tm cy o) (min t 45)) ∧ gz_J h 14 (leg * 90 + o) = lN (bm (fun t => lf h0 q S tm cy o (45 + t)) (t - 45))) (fun e h => e = [.ref 9, .int (nI leg), .ref q, .int (nI o), .int (nI (leg * 90 + o)), .int (nI ((cy + tm + cy - o) % cy)), .int (nI cy)] ∧ LF (fun i => leg * 90 ≤ i ∧ i < leg * 90 + 90) h0 h ∧ LR h0 h leg q S tm cy o ∧ gz_J h 13 (leg * 90 + o) = lN (bm (lf h0 q S tm cy o) (min cy 45)) ∧ gz_J h 14 (leg * 90 + o) = lN (bm (fun t => lf h0 q S tm cy o (45 + t)) (cy - 45))) (by decide) (by
      intro t e h ht ⟨ee, w, r, a13, a14⟩
      subst ee
      obtain ⟨c', yy', pk', p0', e11', e12'⟩ := fi w
      rw [← lf_LF w hq] at a13 a14
      obtain ⟨e', h', u1, u2, u3, u4, u5⟩ := lo_step c' yy' leg q n cy S tm o (leg * 90 + o) t hl pk' p0' e11' hS ho c9 hr ht a13 a14
      rw [lf_LF w hq] at u4 u5
      refine ⟨e', h', u1, u2, LF_tr w (LF_mo (fun i hi => by subst hi; exact ⟨by omega, by omega⟩) u3), fun o' ho' => ?_, u4, u5⟩
      rw [LF_J u3 (by omega), LF_J u3 (by omega)]
      exact r o' ho') (by
      intro e h ⟨ee, w, r, a13, a14⟩
      subst ee
      obtain ⟨c', yy', pk', p0', e11', e12'⟩ := fi w
      have k1 : ¬ nI cy < nI cy := nI_nlt (Nat.le_refl _) (by omega)
      refine ⟨[.ref 9, .int (nI leg), .ref q, .int (nI o), .int (nI (leg * 90 + o)), .int (nI ((cy + tm + cy - o) % cy)), .int (nI cy)], h, ?_, rfl, w, r, a13, a14⟩
      simp only [lb_X6_layOffsets_54, gz_sem, gz_ae, Value.category, gz_i, gz_l, gz_nu, gz_li, gz_ll, gz_la, gz_ib, gz_iz, gz_lb, gz_lz, gz_ls, gz_lc, gz_i2l, gz_l2i, gz_get, gz_ald, gz_len, gz_dup, gz_d2, gz_nar, gz_a0, gz_a1, gz_cs, gz_cv, gz_mk, gz_te, gz_j1, gz_j2, gz_jn, gz_jk, gz_jo, gz_ja, gz_sat, gz_seti, gz_seta, gz_set2, gz_inc, gz_put, gz_ast, gz_pop, gz_vs, gz_vv, gz_sup, gz_rv, gz_ri, gz_rl, gz_ra, gz_if, gz_seq, gz_sw, gz_st, gz_st2, rok_I, rok_J, rok_V, rok_Z0, rok_Z1, rok_Zi, rok_R, rok_N, bi_rok, bi_0, bi_1, fit_I, fit_J, fit_Z0, fit_Z1, fit_Zi, fit_R, fit_N, fit_aR, aty_I, aty_Z0, aty_Z1, aty_Zi, aty_J, gz_ix, List.getElem?_cons_zero, List.getElem?_cons_succ, List.getElem?_nil, List.reverse_cons, List.reverse_nil, List.nil_append, List.cons_append, List.take_succ_cons, List.take_zero, List.take_nil, List.length_cons, List.length_nil, decide_true, decide_false, decide_not, Bool.not_true, Bool.not_false, gz_nle, if_true, if_false, and_true, true_and, and_self, and_false, false_and, or_true, true_or, or_false, false_or, Bool.false_eq_true, not_true, not_false_iff, Decidable.not_not, Nat.reduceLeDiff, Nat.reduceAdd, Nat.reduceEqDiff, Nat.reduceSub, Nat.reduceLT, Nat.zero_add, reduceCtorEq, reduceIte, eq_self, i32_10, i32_01, Nat.zero_le, Nat.one_ne_zero, pk', p0', k1]) cy 0 [.ref 9, .int (nI leg), .ref q, .int (nI o), .int (nI (leg * 90 + o)), .int (nI ((tm + cy - o) % cy)), .int (nI 0)] (gz_set (gz_set h 13 (leg * 90 + o) (.long 0)) 14 (leg * 90 + o) (.long 0)) (by omega) (by
      refine ⟨?_, w1, r1, ?_, ?_⟩
      · show [_, _, _, _, _, _, _] = _
        rw [show 0 + tm + cy - o = tm + cy - o by omega]
      · rw [z13]; rfl
      · rw [z14]; rfl)
    rw [← e0] at s1
    have i1 : nI o + 1 = nI (o + 1) := nI_add o 1
    subst s2
    refine ⟨[.ref 9, .int (nI leg), .ref q, .int (nI (o + 1))], h2, ?_, rfl, s3, fun o' ho' => ?_⟩
    · simp only [lb_X6_layOffsets_2, gz_sem, gz_ae, Value.category, gz_i, gz_l, gz_nu, gz_li, gz_ll, gz_la, gz_ib, gz_iz, gz_lb, gz_lz, gz_ls, gz_lc, gz_i2l, gz_l2i, gz_get, gz_ald, gz_len, gz_dup, gz_d2, gz_nar, gz_a0, gz_a1, gz_cs, gz_cv, gz_mk, gz_te, gz_j1, gz_j2, gz_jn, gz_jk, gz_jo, gz_ja, gz_sat, gz_seti, gz_seta, gz_set2, gz_inc, gz_put, gz_ast, gz_pop, gz_vs, gz_vv, gz_sup, gz_rv, gz_ri, gz_rl, gz_ra, gz_if, gz_seq, gz_sw, gz_st, gz_st2, rok_I, rok_J, rok_V, rok_Z0, rok_Z1, rok_Zi, rok_R, rok_N, bi_rok, bi_0, bi_1, fit_I, fit_J, fit_Z0, fit_Z1, fit_Zi, fit_R, fit_N, fit_aR, aty_I, aty_Z0, aty_Z1, aty_Zi, aty_J, gz_ix, List.getElem?_cons_zero, List.getElem?_cons_succ, List.getElem?_nil, List.reverse_cons, List.reverse_nil, List.nil_append, List.cons_append, List.take_succ_cons, List.take_zero, List.take_nil, List.length_cons, List.length_nil, decide_true, decide_false, decide_not, Bool.not_true, Bool.not_false, gz_nle, if_true, if_false, and_true, true_and, and_self, and_false, false_and, or_true, true_or, or_false, false_or, Bool.false_eq_true, not_true, not_false_iff, Decidable.not_not, Nat.reduceLeDiff, Nat.reduceAdd, Nat.reduceEqDiff, Nat.reduceSub, Nat.reduceLT, Nat.zero_add, reduceCtorEq, reduceIte, eq_self, i32_10, i32_01, Nat.zero_le, Nat.one_ne_zero, c', yy', pk', p0', e12', k1, d4, d5, hl, l90, ra, fm, d6, d7, hr, v14, gz_n_set, gz_k_set, s1, i1]
    · by_cases z : o' = o
      · subst z; exact ⟨s5, s6⟩
      · exact s4 o' (by omega)) (by
    intro e h ⟨ee, w, r⟩
    subst ee
    obtain ⟨c', yy', pk', p0', e11', e12'⟩ := fi w
    have k1 : ¬ nI cy < nI cy := nI_nlt (Nat.le_refl _) (by omega)
    refine ⟨_, h, ?_, rfl, w, r⟩
    simp only [lb_X6_layOffsets_2, gz_sem, gz_ae, Value.category, gz_i, gz_l, gz_nu, gz_li, gz_ll, gz_la, gz_ib, gz_iz, gz_lb, gz_lz, gz_ls, gz_lc, gz_i2l, gz_l2i, gz_get, gz_ald, gz_len, gz_dup, gz_d2, gz_nar, gz_a0, gz_a1, gz_cs, gz_cv, gz_mk, gz_te, gz_j1, gz_j2, gz_jn, gz_jk, gz_jo, gz_ja, gz_sat, gz_seti, gz_seta, gz_set2, gz_inc, gz_put, gz_ast, gz_pop, gz_vs, gz_vv, gz_sup, gz_rv, gz_ri, gz_rl, gz_ra, gz_if, gz_seq, gz_sw, gz_st, gz_st2, rok_I, rok_J, rok_V, rok_Z0, rok_Z1, rok_Zi, rok_R, rok_N, bi_rok, bi_0, bi_1, fit_I, fit_J, fit_Z0, fit_Z1, fit_Zi, fit_R, fit_N, fit_aR, aty_I, aty_Z0, aty_Z1, aty_Zi, aty_J, gz_ix, List.getElem?_cons_zero, List.getElem?_cons_succ, List.getElem?_nil, List.reverse_cons, List.reverse_nil, List.nil_append, List.cons_append, List.take_succ_cons, List.take_zero, List.take_nil, List.length_cons, List.length_nil, decide_true, decide_false, decide_not, Bool.not_true, Bool.not_false, gz_nle, if_true, if_false, and_true, true_and, and_self, and_false, false_and, or_true, true_or, or_false, false_or, Bool.false_eq_true, not_true, not_false_iff, Decidable.not_not, Nat.reduceLeDiff, Nat.reduceAdd, Nat.reduceEqDiff, Nat.reduceSub, Nat.reduceLT, Nat.zero_add, reduceCtorEq, reduceIte, eq_self, i32_10, i32_01, Nat.zero_le, Nat.one_ne_zero, pk', p0', k1]) cy 0 [.ref 9, .int (nI leg), .ref q, .int (nI 0)] h0 (by omega) ⟨rfl, LF_rf yy, fun o ho => absurd ho (by omega)⟩
  have e0 : (0 : Int32) = nI 0 := rfl
  rw [← e0] at q1
  refine ⟨h', ?_, q3, q4⟩
  simp only [se_X6_layOffsets, sm_X6_layOffsets, gz_sem, gz_ae, Value.category, gz_i, gz_l, gz_nu, gz_li, gz_ll, gz_la, gz_ib, gz_iz, gz_lb, gz_lz, gz_ls, gz_lc, gz_i2l, gz_l2i, gz_get, gz_ald, gz_len, gz_dup, gz_d2, gz_nar, gz_a0, gz_a1, gz_cs, gz_cv, gz_mk, gz_te, gz_j1, gz_j2, gz_jn, gz_jk, gz_jo, gz_ja, gz_sat, gz_seti, gz_seta, gz_set2, gz_inc, gz_put, gz_ast, gz_pop, gz_vs, gz_vv, gz_sup, gz_rv, gz_ri, gz_rl, gz_ra, gz_if, gz_seq, gz_sw, gz_st, gz_st2, rok_I, rok_J, rok_V, rok_Z0, rok_Z1, rok_Zi, rok_R, rok_N, bi_rok, bi_0, bi_1, fit_I, fit_J, fit_Z0, fit_Z1, fit_Zi, fit_R, fit_N, fit_aR, aty_I, aty_Z0, aty_Z1, aty_Zi, aty_J, gz_ix, List.getElem?_cons_zero, List.getElem?_cons_succ, List.getElem?_nil, List.reverse_cons, List.reverse_nil, List.nil_append, List.cons_append, List.take_succ_cons, List.take_zero, List.take_nil, List.length_cons, List.length_nil, decide_true, decide_false, decide_not, Bool.not_true, Bool.not_false, gz_nle, if_true, if_false, and_true, true_and, and_self, and_false, false_and, or_true, true_or, or_false, false_or, Bool.false_eq_true, not_true, not_false_iff, Decidable.not_not, Nat.reduceLeDiff, Nat.reduceAdd, Nat.reduceEqDiff, Nat.reduceSub, Nat.reduceLT, Nat.zero_add, reduceCtorEq, reduceIte, eq_self, i32_10, i32_01, Nat.zero_le, Nat.one_ne_zero, q1]
