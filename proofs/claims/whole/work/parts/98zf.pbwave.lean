set_option maxHeartbeats 8000000 in
theorem pb_wave (a b c x y p q z : Int32) : PB se_X7_wave se_X8_wave [.int a, .int b, .int c, .int x, .int y, .int p, .int q, .int z] := by
  intro g T hc hr H
  have cc := IV_cs H
  have m := IV_md H
  have e0 : nI 0 = (0 : Int32) := rfl
  have e1 : nI 1 = (1 : Int32) := rfl
  have e2 : nI 2 = (2 : Int32) := rfl
  rcases in_cs 0 2 (by decide) (by decide) z with o | ⟨wt, -, d1, rfl⟩
  · obtain ⟨o1, o2⟩ := io_no o hc hr
    rw [e0, e2] at o1 o2
    refine ⟨.int (-1), hc, hr, g, T, ?_, ?_, fr8_rf _, fr7_rf _, H⟩
    · simp only [se_X7_wave, sm_X7_wave, gz_sem, gz_ae, Value.category, gz_i, gz_l, gz_nu, gz_li, gz_ll, gz_la, gz_ib, gz_iz, gz_lb, gz_lz, gz_ls, gz_lc, gz_i2l, gz_l2i, gz_get, gz_ald, gz_len, gz_dup, gz_d2, gz_nar, gz_a0, gz_a1, gz_cs, gz_cv, gz_mk, gz_te, gz_j1, gz_j2, gz_jn, gz_jk, gz_jo, gz_ja, gz_sat, gz_seti, gz_seta, gz_set2, gz_inc, gz_put, gz_ast, gz_pop, gz_vs, gz_vv, gz_sup, gz_rv, gz_ri, gz_rl, gz_ra, gz_if, gz_seq, gz_sw, gz_st, gz_st2, rok_I, rok_J, rok_V, rok_Z0, rok_Z1, rok_Zi, rok_R, rok_N, bi_rok, bi_0, bi_1, fit_I, fit_J, fit_Z0, fit_Z1, fit_Zi, fit_R, fit_N, fit_aR, aty_I, aty_Z0, aty_Z1, aty_Zi, aty_J, gz_ix, List.getElem?_cons_zero, List.getElem?_cons_succ, List.getElem?_nil, List.reverse_cons, List.reverse_nil, List.nil_append, List.cons_append, List.take_succ_cons, List.take_zero, List.take_nil, List.length_cons, List.length_nil, decide_true, decide_false, decide_not, Bool.not_true, Bool.not_false, gz_nle, if_true, if_false, and_true, true_and, and_self, and_false, false_and, or_true, true_or, or_false, false_or, Bool.false_eq_true, not_true, not_false_iff, Decidable.not_not, Nat.reduceLeDiff, Nat.reduceAdd, Nat.reduceEqDiff, Nat.reduceSub, Nat.reduceLT, Nat.zero_add, reduceCtorEq, reduceIte, eq_self, i32_10, i32_01, Nat.zero_le, Nat.one_ne_zero, o1]
    · simp only [se_X8_wave, sm_X8_wave, gz_sem, gz_ae, Value.category, gz_i, gz_l, gz_nu, gz_li, gz_ll, gz_la, gz_ib, gz_iz, gz_lb, gz_lz, gz_ls, gz_lc, gz_i2l, gz_l2i, gz_get, gz_ald, gz_len, gz_dup, gz_d2, gz_nar, gz_a0, gz_a1, gz_cs, gz_cv, gz_mk, gz_te, gz_j1, gz_j2, gz_jn, gz_jk, gz_jo, gz_ja, gz_sat, gz_seti, gz_seta, gz_set2, gz_inc, gz_put, gz_ast, gz_pop, gz_vs, gz_vv, gz_sup, gz_rv, gz_ri, gz_rl, gz_ra, gz_if, gz_seq, gz_sw, gz_st, gz_st2, rok_I, rok_J, rok_V, rok_Z0, rok_Z1, rok_Zi, rok_R, rok_N, bi_rok, bi_0, bi_1, fit_I, fit_J, fit_Z0, fit_Z1, fit_Zi, fit_R, fit_N, fit_aR, aty_I, aty_Z0, aty_Z1, aty_Zi, aty_J, gz_ix, List.getElem?_cons_zero, List.getElem?_cons_succ, List.getElem?_nil, List.reverse_cons, List.reverse_nil, List.nil_append, List.cons_append, List.take_succ_cons, List.take_zero, List.take_nil, List.length_cons, List.length_nil, decide_true, decide_false, decide_not, Bool.not_true, Bool.not_false, gz_nle, if_true, if_false, and_true, true_and, and_self, and_false, false_and, or_true, true_or, or_false, false_or, Bool.false_eq_true, not_true, not_false_iff, Decidable.not_not, Nat.reduceLeDiff, Nat.reduceAdd, Nat.reduceEqDiff, Nat.reduceSub, Nat.reduceLT, Nat.zero_add, reduceCtorEq, reduceIte, eq_self, i32_10, i32_01, Nat.zero_le, Nat.one_ne_zero, o2]
  obtain ⟨o1, o2⟩ := io_yes (Nat.zero_le wt) d1 (by decide) hc hr
  rw [e0, e2] at o1 o2
  rcases lw7 H a b c x y p q with ⟨hc', l1, Y, no⟩ | ⟨hc', K, xn, yn, pn, qn, J, l1, Y, gd, W⟩
  · rcases rw8 H a b c x y p q with ⟨hr', l2, R, -⟩ | ⟨hr', K, xn, yn, pn, qn, J, l2, R, gd, F⟩
    · refine ⟨.int (-1), hc', hr', g, T, ?_, ?_, YW_8 Y, R.2.1, IV_rw (IV_yw H Y) R⟩
      · simp only [se_X7_wave, sm_X7_wave, gz_sem, gz_ae, Value.category, gz_i, gz_l, gz_nu, gz_li, gz_ll, gz_la, gz_ib, gz_iz, gz_lb, gz_lz, gz_ls, gz_lc, gz_i2l, gz_l2i, gz_get, gz_ald, gz_len, gz_dup, gz_d2, gz_nar, gz_a0, gz_a1, gz_cs, gz_cv, gz_mk, gz_te, gz_j1, gz_j2, gz_jn, gz_jk, gz_jo, gz_ja, gz_sat, gz_seti, gz_seta, gz_set2, gz_inc, gz_put, gz_ast, gz_pop, gz_vs, gz_vv, gz_sup, gz_rv, gz_ri, gz_rl, gz_ra, gz_if, gz_seq, gz_sw, gz_st, gz_st2, rok_I, rok_J, rok_V, rok_Z0, rok_Z1, rok_Zi, rok_R, rok_N, bi_rok, bi_0, bi_1, fit_I, fit_J, fit_Z0, fit_Z1, fit_Zi, fit_R, fit_N, fit_aR, aty_I, aty_Z0, aty_Z1, aty_Zi, aty_J, gz_ix, List.getElem?_cons_zero, List.getElem?_cons_succ, List.getElem?_nil, List.reverse_cons, List.reverse_nil, List.nil_append, List.cons_append, List.take_succ_cons, List.take_zero, List.take_nil, List.length_cons, List.length_nil, decide_true, decide_false, decide_not, Bool.not_true, Bool.not_false, gz_nle, if_true, if_false, and_true, true_and, and_self, and_false, false_and, or_true, true_or, or_false, false_or, Bool.false_eq_true, not_true, not_false_iff, Decidable.not_not, Nat.reduceLeDiff, Nat.reduceAdd, Nat.reduceEqDiff, Nat.reduceSub, Nat.reduceLT, Nat.zero_add, reduceCtorEq, reduceIte, eq_self, i32_10, i32_01, Nat.zero_le, Nat.one_ne_zero, o1, cc, l1]
      · simp only [se_X8_wave, sm_X8_wave, gz_sem, gz_ae, Value.category, gz_i, gz_l, gz_nu, gz_li, gz_ll, gz_la, gz_ib, gz_iz, gz_lb, gz_lz, gz_ls, gz_lc, gz_i2l, gz_l2i, gz_get, gz_ald, gz_len, gz_dup, gz_d2, gz_nar, gz_a0, gz_a1, gz_cs, gz_cv, gz_mk, gz_te, gz_j1, gz_j2, gz_jn, gz_jk, gz_jo, gz_ja, gz_sat, gz_seti, gz_seta, gz_set2, gz_inc, gz_put, gz_ast, gz_pop, gz_vs, gz_vv, gz_sup, gz_rv, gz_ri, gz_rl, gz_ra, gz_if, gz_seq, gz_sw, gz_st, gz_st2, rok_I, rok_J, rok_V, rok_Z0, rok_Z1, rok_Zi, rok_R, rok_N, bi_rok, bi_0, bi_1, fit_I, fit_J, fit_Z0, fit_Z1, fit_Zi, fit_R, fit_N, fit_aR, aty_I, aty_Z0, aty_Z1, aty_Zi, aty_J, gz_ix, List.getElem?_cons_zero, List.getElem?_cons_succ, List.getElem?_nil, List.reverse_cons, List.reverse_nil, List.nil_append, List.cons_append, List.take_succ_cons, List.take_zero, List.take_nil, List.length_cons, List.length_nil, decide_true, decide_false, decide_not, Bool.not_true, Bool.not_false, gz_nle, if_true, if_false, and_true, true_and, and_self, and_false, false_and, or_true, true_or, or_false, false_or, Bool.false_eq_true, not_true, not_false_iff, Decidable.not_not, Nat.reduceLeDiff, Nat.reduceAdd, Nat.reduceEqDiff, Nat.reduceSub, Nat.reduceLT, Nat.zero_add, reduceCtorEq, reduceIte, eq_self, i32_10, i32_01, Nat.zero_le, Nat.one_ne_zero, o2, m, md_k, l2]
    · exact absurd ⟨K, xn, yn, pn, qn, J, gd⟩ no
  · rcases rw8 H a b c x y p q with ⟨hr', l2, R, no⟩ | ⟨hr', K', xn', yn', pn', qn', J', l2, R, gd', F⟩
    · exact absurd ⟨K, xn, yn, pn, qn, J, gd⟩ no
    have IY := IV_yw H Y
    have cy' := IV_cs IY
    have yy' := IY.1.2.2.2.2.1
    have mR := R.1
    have h8 := IV_8 H
    -- the same numbers
    have same : K' = K ∧ xn' = xn ∧ yn' = yn ∧ pn' = pn ∧ qn' = qn ∧ xn < 1000 ∧ yn < 1000 ∧ (K = 2 ∨ K = 3) ∧ (K = 2 → qn = 0) := by
      have u1 := gd.1
      have u2 := gd'.1
      have ex := gd.2.2.1.symm.trans gd'.2.2.1
      have ey := gd.2.2.2.1.symm.trans gd'.2.2.2.1
      have ep := gd.2.2.2.2.1.symm.trans gd'.2.2.2.2.1
      have eq := gd.2.2.2.2.2.2.1.symm.trans gd'.2.2.2.2.2.2.1
      have b1 := gd.2.2.2.2.2.1
      have b2 := gd'.2.2.2.2.2.1
      have b3 := gd.2.2.2.2.2.2.2.1
      have b4 := gd'.2.2.2.2.2.2.2.1
      have kx : xn < 1000 ∧ yn < 1000 := by rcases u1 with ⟨-, -, z1, z2, -⟩ | ⟨-, -, -, -, z1, z2⟩ <;> omega
      have kx' : xn' < 1000 ∧ yn' < 1000 := by rcases u2 with ⟨-, -, z1, z2, -⟩ | ⟨-, -, -, -, z1, z2⟩ <;> omega
      have f1 : xn = xn' := (nI_eq (by omega) (by omega)).mp ex
      have f2 : yn = yn' := (nI_eq (by omega) (by omega)).mp ey
      have f3 : pn = pn' := (nI_eq (by omega) (by omega)).mp ep
      have f4 : qn = qn' := (nI_eq (by omega) (by omega)).mp eq
      refine ⟨?_, f1.symm, f2.symm, f3.symm, f4.symm, kx.1, kx.2, ?_, ?_⟩
      · rcases u1 with ⟨z1, z2, -⟩ | ⟨z1, z2, -⟩ <;> rcases u2 with ⟨y1, y2, -⟩ | ⟨y1, y2, -⟩
        · omega
        · exact absurd z2 y2
        · exact absurd y2 z2
        · omega
      · rcases u1 with ⟨z1, -⟩ | ⟨z1, -⟩
        · exact Or.inl z1
        · exact Or.inr z1
      · intro hK
        rcases u1 with ⟨-, -, -, -, z⟩ | ⟨z, -⟩
        · exact z
        · omega
    obtain ⟨rfl, rfl, rfl, rfl, rfl, xb, yb, hK, hq⟩ := same
    have eJ : ∀ k, k < K' → J' k = J k := fun k hk => by
      have w1 := gd.2.2.2.2.2.2.2.2 k hk
      have w2 := gd'.2.2.2.2.2.2.2.2 k hk
      exact (nI_eq (by omega) (by omega)).mp (w2.1.symm.trans w1.1)
    obtain ⟨of, cy, c20, c90, D⟩ := wd IY gd
    have pb := gd.2.2.2.2.2.1
    have qb := gd.2.2.2.2.2.2.2.1
    have dg8 : ∀ v k, (v = xn' ∨ v = yn') → k < K' → dg v k < 8 := fun v k hv hk => by
      have w1 := gd.2.2.2.2.2.2.2.2 k hk
      have := IV_S H (J k)
      rcases hv with rfl | rfl <;> omega
    have c0 : 0 < cy := by omega
    have hJ : ∀ k, k < K' → J k < 8 := fun k hk => by have := (gd.2.2.2.2.2.2.2.2 k hk).2.1; omega
    have D0 := D 0 (by omega)
    have ho0 : of 0 < cy := D0.2.2.2.2.1
    have rq : RQ hr hr' K' (of 0) J := ⟨R, F.1, fun k hk => by rw [← eJ k hk]; exact (F.2 k hk).1, by rw [(F.2 0 (by omega)).2, eJ 0 (by omega)]; exact D0.2.2.2.1⟩
    have q55 : ∀ k, k < K' → 55 ≤ g 3 (8 + J k) := fun k hk => by
      have w := gd.2.2.2.2.2.2.2.2 k hk
      rcases tk_cs H w.2.1 with ⟨z, -⟩ | ⟨-, -, -, po, -⟩
      · exact absurd (z.symm.trans w.2.2.2.2.1) (by decide)
      · exact po.1
    have wh : WH hc' (g 7 0) K' cy (fun k => g 3 (8 + J k)) (fun leg => if leg < 3 then dg xn' leg else dg yn' (leg - 3)) (fun leg => if leg < 3 then wT0 pn' qn' leg else wT1 pn' qn' (leg - 3)) := by
      refine ⟨cy', yy', W.1, fun k hk => ⟨q55 k hk, (D k hk).1, (D k hk).2.1, (W.2 k hk).1⟩, fun leg h1 h2 => ?_⟩
      by_cases l3 : leg < 3
      · rw [Nat.mod_eq_of_lt l3] at h2
        have w := W.2 leg h2
        have b := wT_le (bk := 0) (k := leg) pb qb
        rw [if_pos rfl] at b
        simp only [if_pos l3]
        exact ⟨w.2.1, dg8 _ _ (Or.inl rfl) h2, w.2.2.2.1, b⟩
      · rw [show leg % 3 = leg - 3 by omega] at h2
        have w := W.2 (leg - 3) h2
        rw [show 3 + (leg - 3) = leg by omega] at w
        have b := wT_le (bk := 1) (k := leg - 3) pb qb
        rw [if_neg (by decide)] at b
        simp only [if_neg l3]
        exact ⟨w.2.2.1, dg8 _ _ (Or.inr rfl) h2, w.2.2.2.2, b⟩
    obtain ⟨hf, fb1, fb2, fb3, fb4⟩ := st_fb wh hK c0 c90 (of 0) D0.2.2.1 ho0
    have lam : ∀ k, k < K' → ∀ t, t < cy → gz_I hc' (g 3 (8 + J k) + 5) t = gz_I hr 32 (90 * (8 + J k) + t) := fun k hk => (D k hk).2.2.2.2.2.2
    have PP : ∀ h2 ob oc, RQ hr h2 K' (of 0) J → gz_I h2 54 1 = nI ob → gz_I h2 54 2 = nI oc → ob < cy → oc < cy → se_X8_passing [.ref 15, .int (nI xn'), .int (nI pn'), .int (nI qn'), .int 0] h2 = some (some (.int (nI (cN (wF hc' K' cy (fun k => g 3 (8 + J k)) (fun leg => if leg < 3 then dg xn' leg else dg yn' (leg - 3)) (fun leg => if leg < 3 then wT0 pn' qn' leg else wT1 pn' qn' (leg - 3)) 0 (of 0) ob oc) cy))), h2) ∧ se_X8_passing [.ref 15, .int (nI yn'), .int (nI pn'), .int (nI qn'), .int 1] h2 = some (some (.int (nI (cN (wF hc' K' cy (fun k => g 3 (8 + J k)) (fun leg => if leg < 3 then dg xn' leg else dg yn' (leg - 3)) (fun leg => if leg < 3 then wT0 pn' qn' leg else wT1 pn' qn' (leg - 3)) 1 (of 0) ob oc) cy))), h2) := by
      intro h2 ob oc r2 x1 x2 y1 y2
      have K3 : K' ≤ 3 := by omega
      constructor
      · have := ps8 (h0 := hc') r2.1 K' xn' pn' qn' cy 0 J (fun k => g 3 (8 + J k)) (fun leg => if leg < 3 then dg xn' leg else dg yn' (leg - 3)) (fun leg => if leg < 3 then wT0 pn' qn' leg else wT1 pn' qn' (leg - 3)) (of 0) ob oc hK hq (Or.inl rfl) r2.2.1 r2.2.2.1 r2.2.2.2 x1 x2 hJ (fun k hk => (D k hk).2.2.2.2.2.1) c0 c90 xb pb qb (fun k hk => dg8 _ k (Or.inl rfl) hk) lam ho0 y1 y2 (fun k hk => by
          rw [show 0 * 3 + k = k by omega]
          exact if_pos (by omega)) (fun k hk => by
          rw [show 0 * 3 + k = k by omega, if_pos rfl]
          exact if_pos (by omega))
        rw [e0] at this
        exact this
      · have := ps8 (h0 := hc') r2.1 K' yn' pn' qn' cy 1 J (fun k => g 3 (8 + J k)) (fun leg => if leg < 3 then dg xn' leg else dg yn' (leg - 3)) (fun leg => if leg < 3 then wT0 pn' qn' leg else wT1 pn' qn' (leg - 3)) (of 0) ob oc hK hq (Or.inr rfl) r2.2.1 r2.2.2.1 r2.2.2.2 x1 x2 hJ (fun k hk => (D k hk).2.2.2.2.2.1) c0 c90 yb pb qb (fun k hk => dg8 _ k (Or.inr rfl) hk) lam ho0 y1 y2 (fun k hk => by
          rw [show 1 * 3 + k = 3 + k by omega]
          show (if 3 + k < 3 then _ else _) = _
          rw [if_neg (by omega), show 3 + k - 3 = k by omega]) (fun k hk => by
          rw [show 1 * 3 + k = 3 + k by omega, if_neg (show ¬ 3 + k < 3 by omega), if_neg (show ¬ (1 : Nat) = 0 by decide), show 3 + k - 3 = k by omega])
        rw [e1] at this
        exact this
    have ex := gd.2.2.1
    have ey := gd.2.2.2.1
    have ep := gd.2.2.2.2.1
    have eq := gd.2.2.2.2.2.2.1
    have ea := (gd.2.2.2.2.2.2.2.2 0 (by omega)).1
    have ea : a = nI (J 0) := ea
    subst ex ey ep eq
    obtain ⟨e', hz, lp, ⟨v0, v1, v2, v3, t14, rr⟩, rz⟩ := rw_loop (A := fun s t => cN (wF hc' K' cy (fun k => g 3 (8 + J k)) (fun leg => if leg < 3 then dg xn' leg else dg yn' (leg - 3)) (fun leg => if leg < 3 then wT0 pn' qn' leg else wT1 pn' qn' (leg - 3)) 0 (of 0) s t) cy) (B := fun s t => cN (wF hc' K' cy (fun k => g 3 (8 + J k)) (fun leg => if leg < 3 then dg xn' leg else dg yn' (leg - 3)) (fun leg => if leg < 3 then wT0 pn' qn' leg else wT1 pn' qn' (leg - 3)) 1 (of 0) s t) cy) rq hK c0 c90 a b c (nI wt) xn' yn' pn' qn' PP (fun s t => ⟨Nat.le_trans (cN_le _ _) c90, Nat.le_trans (cN_le _ _) c90⟩)
    obtain ⟨l, u, b', c', ws⟩ := wall_some (fun s t => cN (wF hc' K' cy (fun k => g 3 (8 + J k)) (fun leg => if leg < 3 then dg xn' leg else dg yn' (leg - 3)) (fun leg => if leg < 3 then wT0 pn' qn' leg else wT1 pn' qn' (leg - 3)) 0 (of 0) s t) cy) (fun s t => cN (wF hc' K' cy (fun k => g 3 (8 + J k)) (fun leg => if leg < 3 then dg xn' leg else dg yn' (leg - 3)) (fun leg => if leg < 3 then wT0 pn' qn' leg else wT1 pn' qn' (leg - 3)) 1 (of 0) s t) cy) (m := wm K' cy) (n := cy) (by unfold wm; split <;> omega) c0
    rw [ws] at fb4 rr
    obtain ⟨-, -, w6, w7, w8, w9⟩ := fb4
    obtain ⟨-, -, r0, r1, r2, r3⟩ := rr
    have J0 := hJ 0 (by omega)
    have f0 : 8 + nI (J 0) = nI (8 + J 0) := nI_add 8 _
    have f2 : ¬ nI (8 + J 0) < 0 := nI_pos (by omega)
    have f3 : (nI (8 + J 0)).toNatClampNeg = 8 + J 0 := nI_clamp (by omega)
    have f4 : 8 + J 0 < 16 := by omega
    have e240 : gz_I hr' 24 (8 + J 0) = nI cy := by rw [vI (R.2.2 _ _ (by omega) (by omega) (by omega))]; exact D0.2.2.2.2.2.1
    have IF := IV_yw IY fb2
    have cf := IV_cs IF
    have yf := IF.1.2.2.2.2.1
    have wc3 : wt = 0 ∨ wt = 1 ∨ wt = 2 := by omega
    have n20 : ¬ (2 : Int32) = 0 := by decide
    have n21 : ¬ (2 : Int32) = 1 := by decide
    have n10 : ¬ (1 : Int32) = 0 := by decide
    subst ea
    rcases wc3 with rfl | rfl | rfl
    · rw [e0] at *
      refine ⟨.int (nI l), hf, hz, g, T, ?_, ?_, YW_8 (YW_tr Y fb2), rz.1.2.1, IV_rw IF rz.1⟩
      · simp only [se_X7_wave, sm_X7_wave, gz_sem, gz_ae, Value.category, gz_i, gz_l, gz_nu, gz_li, gz_ll, gz_la, gz_ib, gz_iz, gz_lb, gz_lz, gz_ls, gz_lc, gz_i2l, gz_l2i, gz_get, gz_ald, gz_len, gz_dup, gz_d2, gz_nar, gz_a0, gz_a1, gz_cs, gz_cv, gz_mk, gz_te, gz_j1, gz_j2, gz_jn, gz_jk, gz_jo, gz_ja, gz_sat, gz_seti, gz_seta, gz_set2, gz_inc, gz_put, gz_ast, gz_pop, gz_vs, gz_vv, gz_sup, gz_rv, gz_ri, gz_rl, gz_ra, gz_if, gz_seq, gz_sw, gz_st, gz_st2, rok_I, rok_J, rok_V, rok_Z0, rok_Z1, rok_Zi, rok_R, rok_N, bi_rok, bi_0, bi_1, fit_I, fit_J, fit_Z0, fit_Z1, fit_Zi, fit_R, fit_N, fit_aR, aty_I, aty_Z0, aty_Z1, aty_Zi, aty_J, gz_ix, List.getElem?_cons_zero, List.getElem?_cons_succ, List.getElem?_nil, List.reverse_cons, List.reverse_nil, List.nil_append, List.cons_append, List.take_succ_cons, List.take_zero, List.take_nil, List.length_cons, List.length_nil, decide_true, decide_false, decide_not, Bool.not_true, Bool.not_false, gz_nle, if_true, if_false, and_true, true_and, and_self, and_false, false_and, or_true, true_or, or_false, false_or, Bool.false_eq_true, not_true, not_false_iff, Decidable.not_not, Nat.reduceLeDiff, Nat.reduceAdd, Nat.reduceEqDiff, Nat.reduceSub, Nat.reduceLT, Nat.zero_add, reduceCtorEq, reduceIte, eq_self, i32_10, i32_01, Nat.zero_le, Nat.one_ne_zero, o1, cc, l1, cy', fb1, cf, yf, w6]
      · simp only [se_X8_wave, sm_X8_wave, gz_sem, gz_ae, Value.category, gz_i, gz_l, gz_nu, gz_li, gz_ll, gz_la, gz_ib, gz_iz, gz_lb, gz_lz, gz_ls, gz_lc, gz_i2l, gz_l2i, gz_get, gz_ald, gz_len, gz_dup, gz_d2, gz_nar, gz_a0, gz_a1, gz_cs, gz_cv, gz_mk, gz_te, gz_j1, gz_j2, gz_jn, gz_jk, gz_jo, gz_ja, gz_sat, gz_seti, gz_seta, gz_set2, gz_inc, gz_put, gz_ast, gz_pop, gz_vs, gz_vv, gz_sup, gz_rv, gz_ri, gz_rl, gz_ra, gz_if, gz_seq, gz_sw, gz_st, gz_st2, rok_I, rok_J, rok_V, rok_Z0, rok_Z1, rok_Zi, rok_R, rok_N, bi_rok, bi_0, bi_1, fit_I, fit_J, fit_Z0, fit_Z1, fit_Zi, fit_R, fit_N, fit_aR, aty_I, aty_Z0, aty_Z1, aty_Zi, aty_J, gz_ix, List.getElem?_cons_zero, List.getElem?_cons_succ, List.getElem?_nil, List.reverse_cons, List.reverse_nil, List.nil_append, List.cons_append, List.take_succ_cons, List.take_zero, List.take_nil, List.length_cons, List.length_nil, decide_true, decide_false, decide_not, Bool.not_true, Bool.not_false, gz_nle, if_true, if_false, and_true, true_and, and_self, and_false, false_and, or_true, true_or, or_false, false_or, Bool.false_eq_true, not_true, not_false_iff, Decidable.not_not, Nat.reduceLeDiff, Nat.reduceAdd, Nat.reduceEqDiff, Nat.reduceSub, Nat.reduceLT, Nat.zero_add, reduceCtorEq, reduceIte, eq_self, i32_10, i32_01, Nat.zero_le, Nat.one_ne_zero, o2, m, mR, md_k, l2, f0, f2, f3, f4, e240, lp, t14, r0]
    · rw [e1] at *
      refine ⟨.int (nI b'), hf, hz, g, T, ?_, ?_, YW_8 (YW_tr Y fb2), rz.1.2.1, IV_rw IF rz.1⟩
      · simp only [se_X7_wave, sm_X7_wave, gz_sem, gz_ae, Value.category, gz_i, gz_l, gz_nu, gz_li, gz_ll, gz_la, gz_ib, gz_iz, gz_lb, gz_lz, gz_ls, gz_lc, gz_i2l, gz_l2i, gz_get, gz_ald, gz_len, gz_dup, gz_d2, gz_nar, gz_a0, gz_a1, gz_cs, gz_cv, gz_mk, gz_te, gz_j1, gz_j2, gz_jn, gz_jk, gz_jo, gz_ja, gz_sat, gz_seti, gz_seta, gz_set2, gz_inc, gz_put, gz_ast, gz_pop, gz_vs, gz_vv, gz_sup, gz_rv, gz_ri, gz_rl, gz_ra, gz_if, gz_seq, gz_sw, gz_st, gz_st2, rok_I, rok_J, rok_V, rok_Z0, rok_Z1, rok_Zi, rok_R, rok_N, bi_rok, bi_0, bi_1, fit_I, fit_J, fit_Z0, fit_Z1, fit_Zi, fit_R, fit_N, fit_aR, aty_I, aty_Z0, aty_Z1, aty_Zi, aty_J, gz_ix, List.getElem?_cons_zero, List.getElem?_cons_succ, List.getElem?_nil, List.reverse_cons, List.reverse_nil, List.nil_append, List.cons_append, List.take_succ_cons, List.take_zero, List.take_nil, List.length_cons, List.length_nil, decide_true, decide_false, decide_not, Bool.not_true, Bool.not_false, gz_nle, if_true, if_false, and_true, true_and, and_self, and_false, false_and, or_true, true_or, or_false, false_or, Bool.false_eq_true, not_true, not_false_iff, Decidable.not_not, Nat.reduceLeDiff, Nat.reduceAdd, Nat.reduceEqDiff, Nat.reduceSub, Nat.reduceLT, Nat.zero_add, reduceCtorEq, reduceIte, eq_self, i32_10, i32_01, Nat.zero_le, Nat.one_ne_zero, o1, cc, l1, cy', fb1, cf, yf, w8, n10]
      · simp only [se_X8_wave, sm_X8_wave, gz_sem, gz_ae, Value.category, gz_i, gz_l, gz_nu, gz_li, gz_ll, gz_la, gz_ib, gz_iz, gz_lb, gz_lz, gz_ls, gz_lc, gz_i2l, gz_l2i, gz_get, gz_ald, gz_len, gz_dup, gz_d2, gz_nar, gz_a0, gz_a1, gz_cs, gz_cv, gz_mk, gz_te, gz_j1, gz_j2, gz_jn, gz_jk, gz_jo, gz_ja, gz_sat, gz_seti, gz_seta, gz_set2, gz_inc, gz_put, gz_ast, gz_pop, gz_vs, gz_vv, gz_sup, gz_rv, gz_ri, gz_rl, gz_ra, gz_if, gz_seq, gz_sw, gz_st, gz_st2, rok_I, rok_J, rok_V, rok_Z0, rok_Z1, rok_Zi, rok_R, rok_N, bi_rok, bi_0, bi_1, fit_I, fit_J, fit_Z0, fit_Z1, fit_Zi, fit_R, fit_N, fit_aR, aty_I, aty_Z0, aty_Z1, aty_Zi, aty_J, gz_ix, List.getElem?_cons_zero, List.getElem?_cons_succ, List.getElem?_nil, List.reverse_cons, List.reverse_nil, List.nil_append, List.cons_append, List.take_succ_cons, List.take_zero, List.take_nil, List.length_cons, List.length_nil, decide_true, decide_false, decide_not, Bool.not_true, Bool.not_false, gz_nle, if_true, if_false, and_true, true_and, and_self, and_false, false_and, or_true, true_or, or_false, false_or, Bool.false_eq_true, not_true, not_false_iff, Decidable.not_not, Nat.reduceLeDiff, Nat.reduceAdd, Nat.reduceEqDiff, Nat.reduceSub, Nat.reduceLT, Nat.zero_add, reduceCtorEq, reduceIte, eq_self, i32_10, i32_01, Nat.zero_le, Nat.one_ne_zero, o2, m, mR, md_k, l2, f0, f2, f3, f4, e240, lp, t14, r2, n10]
    · rw [e2] at *
      refine ⟨.int (if K' = 3 then nI c' else -1), hf, hz, g, T, ?_, ?_, YW_8 (YW_tr Y fb2), rz.1.2.1, IV_rw IF rz.1⟩
      · rcases hK with k | k
        · have kd : decide (nI K' = (3 : Int32)) = false := by rw [k]; decide
          rw [if_neg (by omega)]
          simp only [se_X7_wave, sm_X7_wave, gz_sem, gz_ae, Value.category, gz_i, gz_l, gz_nu, gz_li, gz_ll, gz_la, gz_ib, gz_iz, gz_lb, gz_lz, gz_ls, gz_lc, gz_i2l, gz_l2i, gz_get, gz_ald, gz_len, gz_dup, gz_d2, gz_nar, gz_a0, gz_a1, gz_cs, gz_cv, gz_mk, gz_te, gz_j1, gz_j2, gz_jn, gz_jk, gz_jo, gz_ja, gz_sat, gz_seti, gz_seta, gz_set2, gz_inc, gz_put, gz_ast, gz_pop, gz_vs, gz_vv, gz_sup, gz_rv, gz_ri, gz_rl, gz_ra, gz_if, gz_seq, gz_sw, gz_st, gz_st2, rok_I, rok_J, rok_V, rok_Z0, rok_Z1, rok_Zi, rok_R, rok_N, bi_rok, bi_0, bi_1, fit_I, fit_J, fit_Z0, fit_Z1, fit_Zi, fit_R, fit_N, fit_aR, aty_I, aty_Z0, aty_Z1, aty_Zi, aty_J, gz_ix, List.getElem?_cons_zero, List.getElem?_cons_succ, List.getElem?_nil, List.reverse_cons, List.reverse_nil, List.nil_append, List.cons_append, List.take_succ_cons, List.take_zero, List.take_nil, List.length_cons, List.length_nil, decide_true, decide_false, decide_not, Bool.not_true, Bool.not_false, gz_nle, if_true, if_false, and_true, true_and, and_self, and_false, false_and, or_true, true_or, or_false, false_or, Bool.false_eq_true, not_true, not_false_iff, Decidable.not_not, Nat.reduceLeDiff, Nat.reduceAdd, Nat.reduceEqDiff, Nat.reduceSub, Nat.reduceLT, Nat.zero_add, reduceCtorEq, reduceIte, eq_self, i32_10, i32_01, Nat.zero_le, Nat.one_ne_zero, o1, cc, l1, cy', fb1, cf, yf, fb3, kd, n20, n21]
        · have kd : decide (nI K' = (3 : Int32)) = true := by rw [k]; decide
          rw [if_pos k]
          simp only [se_X7_wave, sm_X7_wave, gz_sem, gz_ae, Value.category, gz_i, gz_l, gz_nu, gz_li, gz_ll, gz_la, gz_ib, gz_iz, gz_lb, gz_lz, gz_ls, gz_lc, gz_i2l, gz_l2i, gz_get, gz_ald, gz_len, gz_dup, gz_d2, gz_nar, gz_a0, gz_a1, gz_cs, gz_cv, gz_mk, gz_te, gz_j1, gz_j2, gz_jn, gz_jk, gz_jo, gz_ja, gz_sat, gz_seti, gz_seta, gz_set2, gz_inc, gz_put, gz_ast, gz_pop, gz_vs, gz_vv, gz_sup, gz_rv, gz_ri, gz_rl, gz_ra, gz_if, gz_seq, gz_sw, gz_st, gz_st2, rok_I, rok_J, rok_V, rok_Z0, rok_Z1, rok_Zi, rok_R, rok_N, bi_rok, bi_0, bi_1, fit_I, fit_J, fit_Z0, fit_Z1, fit_Zi, fit_R, fit_N, fit_aR, aty_I, aty_Z0, aty_Z1, aty_Zi, aty_J, gz_ix, List.getElem?_cons_zero, List.getElem?_cons_succ, List.getElem?_nil, List.reverse_cons, List.reverse_nil, List.nil_append, List.cons_append, List.take_succ_cons, List.take_zero, List.take_nil, List.length_cons, List.length_nil, decide_true, decide_false, decide_not, Bool.not_true, Bool.not_false, gz_nle, if_true, if_false, and_true, true_and, and_self, and_false, false_and, or_true, true_or, or_false, false_or, Bool.false_eq_true, not_true, not_false_iff, Decidable.not_not, Nat.reduceLeDiff, Nat.reduceAdd, Nat.reduceEqDiff, Nat.reduceSub, Nat.reduceLT, Nat.zero_add, reduceCtorEq, reduceIte, eq_self, i32_10, i32_01, Nat.zero_le, Nat.one_ne_zero, o1, cc, l1, cy', fb1, cf, yf, fb3, kd, w9, n20, n21]
      · simp only [se_X8_wave, sm_X8_wave, gz_sem, gz_ae, Value.category, gz_i, gz_l, gz_nu, gz_li, gz_ll, gz_la, gz_ib, gz_iz, gz_lb, gz_lz, gz_ls, gz_lc, gz_i2l, gz_l2i, gz_get, gz_ald, gz_len, gz_dup, gz_d2, gz_nar, gz_a0, gz_a1, gz_cs, gz_cv, gz_mk, gz_te, gz_j1, gz_j2, gz_jn, gz_jk, gz_jo, gz_ja, gz_sat, gz_seti, gz_seta, gz_set2, gz_inc, gz_put, gz_ast, gz_pop, gz_vs, gz_vv, gz_sup, gz_rv, gz_ri, gz_rl, gz_ra, gz_if, gz_seq, gz_sw, gz_st, gz_st2, rok_I, rok_J, rok_V, rok_Z0, rok_Z1, rok_Zi, rok_R, rok_N, bi_rok, bi_0, bi_1, fit_I, fit_J, fit_Z0, fit_Z1, fit_Zi, fit_R, fit_N, fit_aR, aty_I, aty_Z0, aty_Z1, aty_Zi, aty_J, gz_ix, List.getElem?_cons_zero, List.getElem?_cons_succ, List.getElem?_nil, List.reverse_cons, List.reverse_nil, List.nil_append, List.cons_append, List.take_succ_cons, List.take_zero, List.take_nil, List.length_cons, List.length_nil, decide_true, decide_false, decide_not, Bool.not_true, Bool.not_false, gz_nle, if_true, if_false, and_true, true_and, and_self, and_false, false_and, or_true, true_or, or_false, false_or, Bool.false_eq_true, not_true, not_false_iff, Decidable.not_not, Nat.reduceLeDiff, Nat.reduceAdd, Nat.reduceEqDiff, Nat.reduceSub, Nat.reduceLT, Nat.zero_add, reduceCtorEq, reduceIte, eq_self, i32_10, i32_01, Nat.zero_le, Nat.one_ne_zero, o2, m, mR, md_k, l2, f0, f2, f3, f4, e240, lp, t14, r3, n20, n21]
