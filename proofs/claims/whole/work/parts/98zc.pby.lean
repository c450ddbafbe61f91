def GL (h0 h : gz_H) (K cy : Nat) (Q Sg Tm : Nat → Nat) (m : Nat) : Prop := ∀ leg, leg < m → (leg % 3 < K → LR h0 h leg (Q (leg % 3)) (Sg leg) (Tm leg) cy cy) ∧ (¬ leg % 3 < K → gz_J h 13 (leg * 90) = -1 ∧ gz_J h 14 (leg * 90) = -1)
theorem LR_LF {A : Nat → Prop} {h0 h h' : gz_H} {leg q S tm cy m : Nat} (w : LF A h h') (n : ∀ o, o < m → ¬ A (leg * 90 + o)) (r : LR h0 h leg q S tm cy m) : LR h0 h' leg q S tm cy m := fun o ho => by
  rw [LF_J w (n o ho), LF_J w (n o ho)]; exact r o ho
theorem GL_LF {A : Nat → Prop} {h0 h h' : gz_H} {K cy : Nat} {Q Sg Tm : Nat → Nat} {m : Nat} (w : LF A h h') (c0 : 0 < cy) (c9 : cy ≤ 90) (n : ∀ i, i < m * 90 → ¬ A i) (r : GL h0 h K cy Q Sg Tm m) : GL h0 h' K cy Q Sg Tm m := fun leg hl => by
  obtain ⟨r1, r2⟩ := r leg hl
  have b : leg * 90 + 90 ≤ m * 90 := by omega
  refine ⟨fun z => LR_LF w (fun o ho => n _ (by omega)) (r1 z), fun z => ?_⟩
  rw [LF_J w (n _ (by omega)), LF_J w (n _ (by omega))]; exact r2 z
/-- what the way holds -/
def WH (h : gz_H) (JJ K cy : Nat) (Q Sg Tm : Nat → Nat) : Prop := cs h JJ ∧ yc h ∧ gz_I h 9 5 = nI K ∧ (∀ k, k < K → 55 ≤ Q k ∧ (∃ n, pc h (Q k) n) ∧ gz_I h (Q k) 0 = nI cy ∧ gz_v h 10 k = .ref (Q k)) ∧ ∀ leg, leg < 6 → leg % 3 < K → gz_I h 11 leg = nI (Sg leg) ∧ Sg leg < 8 ∧ gz_I h 12 leg = nI (Tm leg) ∧ Tm leg ≤ 240
theorem WH_LF {A : Nat → Prop} {h h' : gz_H} {JJ K cy : Nat} {Q Sg Tm : Nat → Nat} (w : LF A h h') (H : WH h JJ K cy Q Sg Tm) : WH h' JJ K cy Q Sg Tm := by
  obtain ⟨w1, w2, w3, w4, w5⟩ := H
  have s : ∀ x, x < 13 ∨ 14 < x → gz_I h' x = gz_I h x := fun x hx => sm_I (LF_sm w (by omega) (by omega))
  refine ⟨LF_cs w w1, w.2.2.1, by rw [s _ (by omega)]; exact w3, fun k hk => ?_, fun leg h1 h2 => by rw [s _ (by omega), s _ (by omega)]; exact w5 leg h1 h2⟩
  obtain ⟨u1, ⟨n, u2⟩, u3, u4⟩ := w4 k hk
  exact ⟨u1, ⟨n, LF_pc w u1 u2⟩, by rw [s _ (by omega)]; exact u3, by rw [w.2.2.2 _ _ (by omega)]; exact u4⟩
set_option maxHeartbeats 4000000 in
theorem st_lg {h0 : gz_H} {JJ K cy : Nat} {Q Sg Tm : Nat → Nat} (H : WH h0 JJ K cy Q Sg Tm) (K3 : K ≤ 3) (c0 : 0 < cy) (c9 : cy ≤ 90) : ∃ h', se_X6_layGreens [.ref 9] h0 = some (none, h') ∧ LF (fun _ => True) h0 h' ∧ GL h0 h' K cy Q Sg Tm 6 := by
  obtain ⟨e', h', q1, q2, q3, q4⟩ := gz_forI (L := 2) (k := 2) (X := 64) (a := lb_X6_layGreens_2) 6 (fun m e h => e = [.ref 9, .int (nI m)] ∧ LF (fun _ => True) h0 h ∧ GL h0 h K cy Q Sg Tm m) (fun e h => e = [.ref 9, .int (nI 6)] ∧ LF (fun _ => True) h0 h ∧ GL h0 h K cy Q Sg Tm 6) (by decide) (by
    intro m e h hm ⟨ee, w, r⟩
    subst ee
    have Hh := WH_LF w H
    obtain ⟨c, yy, w5, wp, wl⟩ := WH_LF w H
    have k1 : nI m < 6 := nI_lt hm (by decide)
    have g3 : ((3 : Int32) = 0) = False := by decide
    have rm : nI m - nI m / 3 * 3 = nI (m % 3) := pk_rem (d := 3) (by omega) (by omega) (by omega)
    have i1 : nI m + 1 = nI (m + 1) := nI_add m 1
    have l90 : nI m * 90 = nI (m * 90) := pk_mul m 90
    have d1 : ¬ nI (m * 90) < 0 := nI_pos (by omega)
    have d2 : (nI (m * 90)).toNatClampNeg = m * 90 := nI_clamp (by omega)
    have d3 : m * 90 < 540 := by omega
    have d4 : ¬ nI (m % 3) < 0 := nI_pos (by omega)
    have d5 : (nI (m % 3)).toNatClampNeg = m % 3 := nI_clamp (by omega)
    have d6 : m % 3 < 3 := by omega
    by_cases st : m % 3 < K
    · have k2 : nI (m % 3) < nI K := nI_lt st (by omega)
      obtain ⟨u1, ⟨n, u2⟩, u3, u4⟩ := wp _ st
      obtain ⟨v1, v2, v3, v4⟩ := wl m hm st
      obtain ⟨h2, s1, s2, s3⟩ := st_lo c yy m (Q (m % 3)) n cy (Sg m) (Tm m) hm u1 u2 u3 v1 v2 v3 v4 c0 c9
      refine ⟨[.ref 9, .int (nI (m + 1))], h2, ?_, rfl, LF_tr w (LF_mo (fun _ _ => trivial) s2), fun leg hl => ?_⟩
      · simp only [lb_X6_layGreens_2, gz_sem, gz_ae, Value.category, gz_i, gz_l, gz_nu, gz_li, gz_ll, gz_la, gz_ib, gz_iz, gz_lb, gz_lz, gz_ls, gz_lc, gz_i2l, gz_l2i, gz_get, gz_ald, gz_len, gz_dup, gz_d2, gz_nar, gz_a0, gz_a1, gz_cs, gz_cv, gz_mk, gz_te, gz_j1, gz_j2, gz_jn, gz_jk, gz_jo, gz_ja, gz_sat, gz_seti, gz_seta, gz_set2, gz_inc, gz_put, gz_ast, gz_pop, gz_vs, gz_vv, gz_sup, gz_rv, gz_ri, gz_rl, gz_ra, gz_if, gz_seq, gz_sw, gz_st, gz_st2, rok_I, rok_J, rok_V, rok_Z0, rok_Z1, rok_Zi, rok_R, rok_N, bi_rok, bi_0, bi_1, fit_I, fit_J, fit_Z0, fit_Z1, fit_Zi, fit_R, fit_N, fit_aR, aty_I, aty_Z0, aty_Z1, aty_Zi, aty_J, gz_ix, List.getElem?_cons_zero, List.getElem?_cons_succ, List.getElem?_nil, List.reverse_cons, List.reverse_nil, List.nil_append, List.cons_append, List.take_succ_cons, List.take_zero, List.take_nil, List.length_cons, List.length_nil, decide_true, decide_false, decide_not, Bool.not_true, Bool.not_false, gz_nle, if_true, if_false, and_true, true_and, and_self, and_false, false_and, or_true, true_or, or_false, false_or, Bool.false_eq_true, not_true, not_false_iff, Decidable.not_not, Nat.reduceLeDiff, Nat.reduceAdd, Nat.reduceEqDiff, Nat.reduceSub, Nat.reduceLT, Nat.zero_add, reduceCtorEq, reduceIte, eq_self, i32_10, i32_01, Nat.zero_le, Nat.one_ne_zero, c, yy, w5, k1, g3, rm, k2, d4, d5, d6, u4, s1, i1]
      · by_cases z : leg = m
        · subst z
          refine ⟨fun _ => ?_, fun z => absurd st z⟩
          have e := lf_LF w u1 (Sg leg) (Tm leg) cy
          unfold LR at s3
          rw [e] at s3
          exact s3
        · exact GL_LF s2 c0 c9 (fun i hi y => by omega) r leg (by omega)
    · have k2 : ¬ nI (m % 3) < nI K := nI_nlt (by omega) (by omega)
      have v9 : ∀ f, gz_v (gz_set h 13 (m * 90) (.long (-1))) 9 f = gz_v h 9 f := fun f => by rw [gz_v_set, if_neg (by omega)]
      have w2 : LF (fun i => i = m * 90) h (gz_set (gz_set h 13 (m * 90) (.long (-1))) 14 (m * 90) (.long (-1))) := LF_set (A := fun i => i = m * 90) (LF_set (LF_rf yy) _ (Or.inl rfl) rfl) _ (Or.inr rfl) rfl
      refine ⟨[.ref 9, .int (nI (m + 1))], gz_set (gz_set h 13 (m * 90) (.long (-1))) 14 (m * 90) (.long (-1)), ?_, rfl, LF_tr w (LF_mo (fun _ _ => trivial) w2), fun leg hl => ?_⟩
      · simp only [lb_X6_layGreens_2, gz_sem, gz_ae, Value.category, gz_i, gz_l, gz_nu, gz_li, gz_ll, gz_la, gz_ib, gz_iz, gz_lb, gz_lz, gz_ls, gz_lc, gz_i2l, gz_l2i, gz_get, gz_ald, gz_len, gz_dup, gz_d2, gz_nar, gz_a0, gz_a1, gz_cs, gz_cv, gz_mk, gz_te, gz_j1, gz_j2, gz_jn, gz_jk, gz_jo, gz_ja, gz_sat, gz_seti, gz_seta, gz_set2, gz_inc, gz_put, gz_ast, gz_pop, gz_vs, gz_vv, gz_sup, gz_rv, gz_ri, gz_rl, gz_ra, gz_if, gz_seq, gz_sw, gz_st, gz_st2, rok_I, rok_J, rok_V, rok_Z0, rok_Z1, rok_Zi, rok_R, rok_N, bi_rok, bi_0, bi_1, fit_I, fit_J, fit_Z0, fit_Z1, fit_Zi, fit_R, fit_N, fit_aR, aty_I, aty_Z0, aty_Z1, aty_Zi, aty_J, gz_ix, List.getElem?_cons_zero, List.getElem?_cons_succ, List.getElem?_nil, List.reverse_cons, List.reverse_nil, List.nil_append, List.cons_append, List.take_succ_cons, List.take_zero, List.take_nil, List.length_cons, List.length_nil, decide_true, decide_false, decide_not, Bool.not_true, Bool.not_false, gz_nle, if_true, if_false, and_true, true_and, and_self, and_false, false_and, or_true, true_or, or_false, false_or, Bool.false_eq_true, not_true, not_false_iff, Decidable.not_not, Nat.reduceLeDiff, Nat.reduceAdd, Nat.reduceEqDiff, Nat.reduceSub, Nat.reduceLT, Nat.zero_add, reduceCtorEq, reduceIte, eq_self, i32_10, i32_01, Nat.zero_le, Nat.one_ne_zero, c, yy, w5, k1, g3, rm, k2, l90, d1, d2, d3, v9, gz_n_set, gz_k_set, i1]
      · by_cases z : leg = m
        · subst z
          refine ⟨fun z => absurd z st, fun _ => ⟨?_, ?_⟩⟩
          · rw [J_seto _ _ _ _ _ _ (by omega), J_set, if_pos ⟨rfl, rfl⟩]
          · rw [J_set, if_pos ⟨rfl, rfl⟩]
        · exact GL_LF w2 c0 c9 (fun i hi y => by omega) r leg (by omega)) (by
    intro e h ⟨ee, w, r⟩
    subst ee
    have k1 : ¬ nI 6 < 6 := by decide
    refine ⟨_, h, ?_, rfl, w, r⟩
    simp only [lb_X6_layGreens_2, gz_sem, gz_ae, Value.category, gz_i, gz_l, gz_nu, gz_li, gz_ll, gz_la, gz_ib, gz_iz, gz_lb, gz_lz, gz_ls, gz_lc, gz_i2l, gz_l2i, gz_get, gz_ald, gz_len, gz_dup, gz_d2, gz_nar, gz_a0, gz_a1, gz_cs, gz_cv, gz_mk, gz_te, gz_j1, gz_j2, gz_jn, gz_jk, gz_jo, gz_ja, gz_sat, gz_seti, gz_seta, gz_set2, gz_inc, gz_put, gz_ast, gz_pop, gz_vs, gz_vv, gz_sup, gz_rv, gz_ri, gz_rl, gz_ra, gz_if, gz_seq, gz_sw, gz_st, gz_st2, rok_I, rok_J, rok_V, rok_Z0, rok_Z1, rok_Zi, rok_R, rok_N, bi_rok, bi_0, bi_1, fit_I, fit_J, fit_Z0, fit_Z1, fit_Zi, fit_R, fit_N, fit_aR, aty_I, aty_Z0, aty_Z1, aty_Zi, aty_J, gz_ix, List.getElem?_cons_zero, List.getElem?_cons_succ, List.getElem?_nil, List.reverse_cons, List.reverse_nil, List.nil_append, List.cons_append, List.take_succ_cons, List.take_zero, List.take_nil, List.length_cons, List.length_nil, decide_true, decide_false, decide_not, Bool.not_true, Bool.not_false, gz_nle, if_true, if_false, and_true, true_and, and_self, and_false, false_and, or_true, true_or, or_false, false_or, Bool.false_eq_true, not_true, not_false_iff, Decidable.not_not, Nat.reduceLeDiff, Nat.reduceAdd, Nat.reduceEqDiff, Nat.reduceSub, Nat.reduceLT, Nat.zero_add, reduceCtorEq, reduceIte, eq_self, i32_10, i32_01, Nat.zero_le, Nat.one_ne_zero, k1]) 6 0 [.ref 9, .int (nI 0)] h0 (by omega) ⟨rfl, LF_rf H.2.1, fun o ho => absurd ho (by omega)⟩
  have e0 : (0 : Int32) = nI 0 := rfl
  rw [← e0] at q1
  refine ⟨h', ?_, q3, q4⟩
  simp only [se_X6_layGreens, sm_X6_layGreens, gz_sem, gz_ae, Value.category, gz_i, gz_l, gz_nu, gz_li, gz_ll, gz_la, gz_ib, gz_iz, gz_lb, gz_lz, gz_ls, gz_lc, gz_i2l, gz_l2i, gz_get, gz_ald, gz_len, gz_dup, gz_d2, gz_nar, gz_a0, gz_a1, gz_cs, gz_cv, gz_mk, gz_te, gz_j1, gz_j2, gz_jn, gz_jk, gz_jo, gz_ja, gz_sat, gz_seti, gz_seta, gz_set2, gz_inc, gz_put, gz_ast, gz_pop, gz_vs, gz_vv, gz_sup, gz_rv, gz_ri, gz_rl, gz_ra, gz_if, gz_seq, gz_sw, gz_st, gz_st2, rok_I, rok_J, rok_V, rok_Z0, rok_Z1, rok_Zi, rok_R, rok_N, bi_rok, bi_0, bi_1, fit_I, fit_J, fit_Z0, fit_Z1, fit_Zi, fit_R, fit_N, fit_aR, aty_I, aty_Z0, aty_Z1, aty_Zi, aty_J, gz_ix, List.getElem?_cons_zero, List.getElem?_cons_succ, List.getElem?_nil, List.reverse_cons, List.reverse_nil, List.nil_append, List.cons_append, List.take_succ_cons, List.take_zero, List.take_nil, List.length_cons, List.length_nil, decide_true, decide_false, decide_not, Bool.not_true, Bool.not_false, gz_nle, if_true, if_false, and_true, true_and, and_self, and_false, false_and, or_true, true_or, or_false, false_or, Bool.false_eq_true, not_true, not_false_iff, Decidable.not_not, Nat.reduceLeDiff, Nat.reduceAdd, Nat.reduceEqDiff, Nat.reduceSub, Nat.reduceLT, Nat.zero_add, reduceCtorEq, reduceIte, eq_self, i32_10, i32_01, Nat.zero_le, Nat.one_ne_zero, q1]
/-- green at all stops -/
def wF (h : gz_H) (K cy : Nat) (Q Sg Tm : Nat → Nat) (dir o0 o1 o2 t : Nat) : Bool := (lf h (Q 0) (Sg (dir * 3)) (Tm (dir * 3)) cy o0 t && lf h (Q 1) (Sg (dir * 3 + 1)) (Tm (dir * 3 + 1)) cy o1 t) && (decide (K = 2) || lf h (Q 2) (Sg (dir * 3 + 2)) (Tm (dir * 3 + 2)) cy o2 t)
theorem m1_lN : (-1 : Int64) = lN (2 ^ 64 - 1) := by decide
set_option maxHeartbeats 4000000 in
theorem st_pby {h0 h : gz_H} {JJ K cy : Nat} {Q Sg Tm : Nat → Nat} (H : WH h JJ K cy Q Sg Tm) (hK : K = 2 ∨ K = 3) (c0 : 0 < cy) (c9 : cy ≤ 90) (G : GL h0 h K cy Q Sg Tm 6) (o0 : Nat) (e1 : gz_I h (Q 0) 1 = nI o0) (ho0 : o0 < cy) (dir s t : Nat) (hd : dir = 0 ∨ dir = 1) (hs : s < cy) (ht : t < cy) (ht2 : K = 2 → t = 0) : se_X6_passingBy [.ref 9, .int (nI dir), .int (nI s), .int (nI t)] h = some (some (.int (nI (cN (wF h0 K cy Q Sg Tm dir o0 s t) cy))), h) := by
  obtain ⟨c, yy, w5, wp, wl⟩ := H
  have r0 := (G (dir * 3) (by omega)).1 (by omega) o0 ho0
  have r1 := (G (dir * 3 + 1) (by omega)).1 (by omega) s hs
  rw [show dir * 3 % 3 = 0 by omega] at r0
  rw [show (dir * 3 + 1) % 3 = 1 by omega] at r1
  have le : min cy 45 ≤ 64 := by omega
  have le2 : cy - 45 ≤ 64 := by omega
  have an : ∀ m, m ≤ 64 → ∀ f e : Nat → Bool, ∀ x, x = lN (bm e m) ∨ (x = -1 ∧ ∀ t, e t = true) → lN (bm f m) &&& x = lN (bm (fun t => f t && e t) m) := fun m hm f e x hx => by
    rcases hx with rfl | ⟨rfl, he⟩
    · rw [fb_andL, bm_and]
    · rw [m1_lN, fb_andL, bm_all _ _ hm]
      congr 2
      funext t
      rw [he t, Bool.and_true]
  have r2 : (gz_J h 13 ((dir * 3 + 2) * 90 + t) = lN (bm (fun u => decide (K = 2) || lf h0 (Q 2) (Sg (dir * 3 + 2)) (Tm (dir * 3 + 2)) cy t u) (min cy 45)) ∨ (gz_J h 13 ((dir * 3 + 2) * 90 + t) = -1 ∧ ∀ u, (decide (K = 2) || lf h0 (Q 2) (Sg (dir * 3 + 2)) (Tm (dir * 3 + 2)) cy t u) = true)) ∧ (gz_J h 14 ((dir * 3 + 2) * 90 + t) = lN (bm (fun u => decide (K = 2) || lf h0 (Q 2) (Sg (dir * 3 + 2)) (Tm (dir * 3 + 2)) cy t (45 + u)) (cy - 45)) ∨ (gz_J h 14 ((dir * 3 + 2) * 90 + t) = -1 ∧ ∀ u, (decide (K = 2) || lf h0 (Q 2) (Sg (dir * 3 + 2)) (Tm (dir * 3 + 2)) cy t (45 + u)) = true)) := by
    rcases hK with k2 | k3
    · have g := (G (dir * 3 + 2) (by omega)).2 (by omega)
      have tz := ht2 k2
      subst tz
      rw [Nat.add_zero]
      exact ⟨Or.inr ⟨g.1, fun u => by rw [decide_eq_true k2, Bool.true_or]⟩, Or.inr ⟨g.2, fun u => by rw [decide_eq_true k2, Bool.true_or]⟩⟩
    · have g := (G (dir * 3 + 2) (by omega)).1 (by omega) t ht
      rw [show (dir * 3 + 2) % 3 = 2 by omega] at g
      have kf : decide (K = 2) = false := decide_eq_false (by omega)
      simp only [kf, Bool.false_or]
      exact ⟨Or.inl g.1, Or.inl g.2⟩
  have A : lN (bm (fun u => lf h0 (Q 0) (Sg (dir * 3)) (Tm (dir * 3)) cy o0 u && lf h0 (Q 1) (Sg (dir * 3 + 1)) (Tm (dir * 3 + 1)) cy s u) (min cy 45)) &&& gz_J h 13 ((dir * 3 + 2) * 90 + t) = lN (bm (wF h0 K cy Q Sg Tm dir o0 s t) (min cy 45)) := an _ le (fun t => lf h0 (Q 0) (Sg (dir * 3)) (Tm (dir * 3)) cy o0 t && lf h0 (Q 1) (Sg (dir * 3 + 1)) (Tm (dir * 3 + 1)) cy s t) _ _ r2.1
  have B : lN (bm (fun u => lf h0 (Q 0) (Sg (dir * 3)) (Tm (dir * 3)) cy o0 (45 + u) && lf h0 (Q 1) (Sg (dir * 3 + 1)) (Tm (dir * 3 + 1)) cy s (45 + u)) (cy - 45)) &&& gz_J h 14 ((dir * 3 + 2) * 90 + t) = lN (bm (fun u => wF h0 K cy Q Sg Tm dir o0 s t (45 + u)) (cy - 45)) := an _ le2 (fun t => lf h0 (Q 0) (Sg (dir * 3)) (Tm (dir * 3)) cy o0 (45 + t) && lf h0 (Q 1) (Sg (dir * 3 + 1)) (Tm (dir * 3 + 1)) cy s (45 + t)) _ _ r2.2
  have A1 : gz_J h 13 (dir * 3 * 90 + o0) &&& gz_J h 13 ((dir * 3 + 1) * 90 + s) = lN (bm (fun t => lf h0 (Q 0) (Sg (dir * 3)) (Tm (dir * 3)) cy o0 t && lf h0 (Q 1) (Sg (dir * 3 + 1)) (Tm (dir * 3 + 1)) cy s t) (min cy 45)) := by rw [r0.1, r1.1, fb_andL, bm_and]
  have B1 : gz_J h 14 (dir * 3 * 90 + o0) &&& gz_J h 14 ((dir * 3 + 1) * 90 + s) = lN (bm (fun t => lf h0 (Q 0) (Sg (dir * 3)) (Tm (dir * 3)) cy o0 (45 + t) && lf h0 (Q 1) (Sg (dir * 3 + 1)) (Tm (dir * 3 + 1)) cy s (45 + t)) (cy - 45)) := by rw [r0.2, r1.2, fb_andL, bm_and]
  rw [← A1] at A
  rw [← B1] at B
  generalize wF h0 K cy Q Sg Tm dir o0 s t = F at *
  have cA := st_bitCount (bm F (min cy 45)) (Nat.lt_of_lt_of_le (bm_lt _ _) (Nat.pow_le_pow_right (by omega) le)) h
  have cB := st_bitCount (bm (fun u => F (45 + u)) (cy - 45)) (Nat.lt_of_lt_of_le (bm_lt _ _) (Nat.pow_le_pow_right (by omega) le2)) h
  rw [pop_bm _ le] at cA
  rw [pop_bm _ le2] at cB
  have sm : nI (cN F (min cy 45)) + nI (cN (fun u => F (45 + u)) (cy - 45)) = nI (cN F cy) := by rw [nI_add, cN_split]
  obtain ⟨u1, ⟨n, u2⟩, u3, u4⟩ := wp 0 (by omega)
  have l00 : ¬ (0 : Int32) < 0 := by decide
  have c00 : (0 : Int32).toNatClampNeg = 0 := rfl
  have q03 : 0 < 3 := by decide
  have m1 : nI dir * 3 = nI (dir * 3) := pk_mul dir 3
  have m2 : nI (dir * 3) * 90 = nI (dir * 3 * 90) := pk_mul _ 90
  have m3 : nI (dir * 3) + 1 = nI (dir * 3 + 1) := nI_add _ 1
  have m4 : nI (dir * 3) + 2 = nI (dir * 3 + 2) := nI_add _ 2
  have m5 : nI (dir * 3 + 1) * 90 = nI ((dir * 3 + 1) * 90) := pk_mul _ 90
  have m6 : nI (dir * 3 + 2) * 90 = nI ((dir * 3 + 2) * 90) := pk_mul _ 90
  have m7 : nI (dir * 3 * 90) + nI o0 = nI (dir * 3 * 90 + o0) := nI_add _ _
  have m8 : nI ((dir * 3 + 1) * 90) + nI s = nI ((dir * 3 + 1) * 90 + s) := nI_add _ _
  have m9 : nI ((dir * 3 + 2) * 90) + nI t = nI ((dir * 3 + 2) * 90 + t) := nI_add _ _
  have b1 : dir * 3 * 90 + o0 < 540 := by omega
  have b2 : (dir * 3 + 1) * 90 + s < 540 := by omega
  have b3 : (dir * 3 + 2) * 90 + t < 540 := by omega
  have d1 : ¬ nI (dir * 3 * 90 + o0) < 0 := nI_pos (by omega)
  have d2 : ¬ nI ((dir * 3 + 1) * 90 + s) < 0 := nI_pos (by omega)
  have d3 : ¬ nI ((dir * 3 + 2) * 90 + t) < 0 := nI_pos (by omega)
  have f1 : (nI (dir * 3 * 90 + o0)).toNatClampNeg = dir * 3 * 90 + o0 := nI_clamp (by omega)
  have f2 : (nI ((dir * 3 + 1) * 90 + s)).toNatClampNeg = (dir * 3 + 1) * 90 + s := nI_clamp (by omega)
  have f3 : (nI ((dir * 3 + 2) * 90 + t)).toNatClampNeg = (dir * 3 + 2) * 90 + t := nI_clamp (by omega)
  simp only [se_X6_passingBy, sm_X6_passingBy, gz_sem, gz_ae, Value.category, gz_i, gz_l, gz_nu, gz_li, gz_ll, gz_la, gz_ib, gz_iz, gz_lb, gz_lz, gz_ls, gz_lc, gz_i2l, gz_l2i, gz_get, gz_ald, gz_len, gz_dup, gz_d2, gz_nar, gz_a0, gz_a1, gz_cs, gz_cv, gz_mk, gz_te, gz_j1, gz_j2, gz_jn, gz_jk, gz_jo, gz_ja, gz_sat, gz_seti, gz_seta, gz_set2, gz_inc, gz_put, gz_ast, gz_pop, gz_vs, gz_vv, gz_sup, gz_rv, gz_ri, gz_rl, gz_ra, gz_if, gz_seq, gz_sw, gz_st, gz_st2, rok_I, rok_J, rok_V, rok_Z0, rok_Z1, rok_Zi, rok_R, rok_N, bi_rok, bi_0, bi_1, fit_I, fit_J, fit_Z0, fit_Z1, fit_Zi, fit_R, fit_N, fit_aR, aty_I, aty_Z0, aty_Z1, aty_Zi, aty_J, gz_ix, List.getElem?_cons_zero, List.getElem?_cons_succ, List.getElem?_nil, List.reverse_cons, List.reverse_nil, List.nil_append, List.cons_append, List.take_succ_cons, List.take_zero, List.take_nil, List.length_cons, List.length_nil, decide_true, decide_false, decide_not, Bool.not_true, Bool.not_false, gz_nle, if_true, if_false, and_true, true_and, and_self, and_false, false_and, or_true, true_or, or_false, false_or, Bool.false_eq_true, not_true, not_false_iff, Decidable.not_not, Nat.reduceLeDiff, Nat.reduceAdd, Nat.reduceEqDiff, Nat.reduceSub, Nat.reduceLT, Nat.zero_add, reduceCtorEq, reduceIte, eq_self, i32_10, i32_01, Nat.zero_le, Nat.one_ne_zero, c, yy, l00, c00, q03, u4, u2, e1, m1, m2, m3, m4, m5, m6, m7, m8, m9, b1, b2, b3, d1, d2, d3, f1, f2, f3, A, B, cA, cB, sm]
