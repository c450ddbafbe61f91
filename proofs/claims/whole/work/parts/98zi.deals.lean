theorem lp_go {L k : Nat} {a : gz_Sx} {env env1 l : List Value} {h h1 : gz_H} {o : gz_O} (e : a (env.take k) h = some (.inl (L, env1, h1))) (t : env1.take k = l) (hl : l.take k = l) (e2 : gz_loop L k a l h1 = some o) : gz_loop L k a env h = some o := gz_loop_next e (by rw [gz_loop_tk (env' := l) (by rw [t, hl])]; exact e2)
theorem pk_nle {a b : Nat} (ha : a < 2 ^ 30) (hb : b < 2 ^ 30) {x : Int32} (hx : ¬ x < 0) (h : a < b) : nI a - nI b < x := by
  have h1 := pk_sneg hb h
  rw [Int32.lt_iff_toInt_lt] at h1 hx ⊢
  omega
theorem mx_sub {a b c : Nat} (ha : a < 2 ^ 30) (hb : b < 2 ^ 30) (hc : c < 2 ^ 30) : gz_mx (nI a) (nI b - nI c) = nI (max a (b - c)) := by
  by_cases q : c ≤ b
  · rw [pk_sub q, mx_nI (by omega) (by omega)]
  · unfold gz_mx
    rw [if_neg, show max a (b - c) = a by omega]
    intro z
    have := pk_nle hb hc (nI_pos (n := a) (by omega)) (by omega)
    exact Int32.lt_irrefl (Int32.lt_trans this z)
theorem i_sub2 (a b c : Nat) : nI a - nI b - nI c = nI a - nI (b + c) := by
  rw [← nI_add, Int32.sub_eq_add_neg, Int32.sub_eq_add_neg, Int32.sub_eq_add_neg, Int32.neg_add, Int32.add_assoc, Int32.sub_eq_add_neg]
theorem or_1 : ∀ r, r < 16 → r % 2 = 0 → nI r ||| 1 = nI (r + 1) := by decide +kernel
/-- the needs stand in the row -/
def NH (h : gz_H) (N : Nat → Nat) : Prop := ∀ r, r < 16 → gz_I h 5 r = nI (N r) ∧ N r ≤ 1000000
set_option maxHeartbeats 4000000 in
theorem st_nbs {h : gz_H} {JJ : Nat} {N : Nat → Nat} (c : cs h JJ) (ax : ac h) (nh : NH h N) (r f : Nat) (hr : r < 15) (h2 : r % 2 = 0) (hf : f < 2 ^ 30) : se_X0_needBeside [.ref 4, .int (nI r), .int (nI f)] h = some (some (.int (nI (nb N r f))), h) := by
  have d2 : ¬ nI r < 0 := nI_pos (by omega)
  have d3 : (nI r).toNatClampNeg = r := nI_clamp (by omega)
  have d4 : r < 16 := by omega
  have o1 := or_1 r (by omega) h2
  have f2 : ¬ nI (r + 1) < 0 := nI_pos (by omega)
  have f3 : (nI (r + 1)).toNatClampNeg = r + 1 := nI_clamp (by omega)
  have f4 : r + 1 < 16 := by omega
  obtain ⟨n1, n2⟩ := nh r d4
  obtain ⟨n3, n4⟩ := nh (r + 1) f4
  have mx := st_max (nI (N r)) (nI (N (r + 1)) - nI f) h
  rw [mx_sub (by omega) (by omega) hf] at mx
  unfold nb
  simp only [se_X0_needBeside, sm_X0_needBeside, gz_sem, gz_ae, Value.category, gz_i, gz_l, gz_nu, gz_li, gz_ll, gz_la, gz_ib, gz_iz, gz_lb, gz_lz, gz_ls, gz_lc, gz_i2l, gz_l2i, gz_get, gz_ald, gz_len, gz_dup, gz_d2, gz_nar, gz_a0, gz_a1, gz_cs, gz_cv, gz_mk, gz_te, gz_j1, gz_j2, gz_jn, gz_jk, gz_jo, gz_ja, gz_sat, gz_seti, gz_seta, gz_set2, gz_inc, gz_put, gz_ast, gz_pop, gz_vs, gz_vv, gz_sup, gz_rv, gz_ri, gz_rl, gz_ra, gz_if, gz_seq, gz_sw, gz_st, gz_st2, rok_I, rok_J, rok_V, rok_Z0, rok_Z1, rok_Zi, rok_R, rok_N, bi_rok, bi_0, bi_1, fit_I, fit_J, fit_Z0, fit_Z1, fit_Zi, fit_R, fit_N, fit_aR, aty_I, aty_Z0, aty_Z1, aty_Zi, aty_J, gz_ix, List.getElem?_cons_zero, List.getElem?_cons_succ, List.getElem?_nil, List.reverse_cons, List.reverse_nil, List.nil_append, List.cons_append, List.take_succ_cons, List.take_zero, List.take_nil, List.length_cons, List.length_nil, decide_true, decide_false, decide_not, Bool.not_true, Bool.not_false, gz_nle, if_true, if_false, and_true, true_and, and_self, and_false, false_and, or_true, true_or, or_false, false_or, Bool.false_eq_true, not_true, not_false_iff, Decidable.not_not, Nat.reduceLeDiff, Nat.reduceAdd, Nat.reduceEqDiff, Nat.reduceSub, Nat.reduceLT, Nat.zero_add, reduceCtorEq, reduceIte, eq_self, i32_10, i32_01, Nat.zero_le, Nat.one_ne_zero, c, ax, d2, d3, d4, o1, f2, f3, f4, n1, n3, mx]
theorem nb_bd {h : gz_H} {N : Nat → Nat} (nh : NH h N) (r f : Nat) (hr : r < 15) : nb N r f ≤ 1000000 := by
  have h1 := (nh r (by omega)).2
  have h2 := (nh (r + 1) (by omega)).2
  unfold nb
  omega
/-- what dealing out changes -/
def DW (h h' : gz_H) : Prop := AW h h' ∧ sm h h' 4 ∧ sm h h' 5
theorem DW_rf {h : gz_H} (y : ac h) : DW h h := ⟨AW_rf y, sm_rf _ _, sm_rf _ _⟩
theorem DW_tr {h h' h'' : gz_H} (a : DW h h') (b : DW h' h'') : DW h h'' := ⟨AW_tr a.1 b.1, ⟨b.2.1.1.trans a.2.1.1, b.2.1.2.trans a.2.1.2⟩, ⟨b.2.2.1.trans a.2.2.1, b.2.2.2.trans a.2.2.2⟩⟩
theorem DW_I {h h' : gz_H} (a : DW h h') (b i : Nat) (x : Int32) (h5 : 6 ≤ b) (h8 : b ≤ 8) : DW h (gz_set h' b i (.int x)) := ⟨AW_I a.1 _ _ _ (by omega) h8, sm_set a.2.1 (by omega), sm_set a.2.2 (by omega)⟩
theorem NH_DW {h h' : gz_H} {N : Nat → Nat} (w : DW h h') (nh : NH h N) : NH h' N := fun r hr => by rw [sm_I w.2.2]; exact nh r hr
theorem rows_s : ∀ s, 1 ≤ s → s < 4 → (14 : Int32) &&& ((1 : Int32) <<< (nI s &&& 31) ^^^ -1) = nI (14 - 2 ^ s) := by
  intro s h1 h2
  have : s = 1 ∨ s = 2 ∨ s = 3 := by omega
  rcases this with rfl | rfl | rfl <;> decide +kernel
-- one turn: the least and the most of a stage
set_option maxHeartbeats 4000000 in
theorem db_turn {h : gz_H} {JJ n f rest s : Nat} {N : Nat → Nat} (c : cs h JJ) (ax : ac h) (nh : NH h N) (n4 : n ≤ 4) (s1 : 1 ≤ s) (s4 : s < 4) (hf : f < 2 ^ 30) (hr : rest < 2 ^ 30) : ∃ h', DW h h' ∧ (∀ y, y ≠ s → gz_I h' 6 y = gz_I h 6 y ∧ gz_I h' 7 y = gz_I h 7 y) ∧ ((¬ (nb N (14 - 2 ^ s) f ≤ rest ∧ lo N n f s (2 ^ s) ≤ hi N n f rest s (14 - 2 ^ s)) ∧ lb_X0_dealsBehind_16 [.ref 4, .int (nI f), .int (nI rest), .int (nI n), .int (nI s)] h = some (.inr (some (.int 0), h'))) ∨ (nb N (14 - 2 ^ s) f ≤ rest ∧ lo N n f s (2 ^ s) ≤ hi N n f rest s (14 - 2 ^ s) ∧ gz_I h' 6 s = nI (lo N n f s (2 ^ s)) ∧ gz_I h' 7 s = nI (hi N n f rest s (14 - 2 ^ s)) ∧ ∃ e', lb_X0_dealsBehind_16 [.ref 4, .int (nI f), .int (nI rest), .int (nI n), .int (nI s)] h = some (.inl (16, e', h')) ∧ e'.take 5 = [.ref 4, .int (nI f), .int (nI rest), .int (nI n), .int (nI (s + 1))])) := by
  have sc : s = 1 ∨ s = 2 ∨ s = 3 := by omega
  have pw : 2 ^ s < 15 ∧ 2 ^ s % 2 = 0 ∧ 14 - 2 ^ s < 15 ∧ (14 - 2 ^ s) % 2 = 0 := by rcases sc with rfl | rfl | rfl <;> decide
  have k1 : nI s < 4 := nI_lt (b := 4) s4 (by decide)
  have d2 : ¬ nI s < 0 := nI_pos (by omega)
  have d3 : (nI s).toNatClampNeg = s := nI_clamp (by omega)
  have r1 := rows_s s s1 s4
  have o1 := one_shl s (by omega)
  rw [o1] at r1
  have v1 := st_nbs c ax nh (14 - 2 ^ s) f pw.2.2.1 pw.2.2.2 hf
  have v2 := st_nbs c ax nh (2 ^ s) f pw.1 pw.2.1 hf
  have b1 := nb_bd nh (14 - 2 ^ s) f pw.2.2.1
  have b2 := nb_bd nh (2 ^ s) f pw.1
  have mx := st_max 1 (nI (nb N (2 ^ s) f)) h
  rw [show (1 : Int32) = nI 1 from rfl, mx_nI (by decide) (by omega)] at mx
  have e1 : nI 1 = (1 : Int32) := rfl
  rw [e1] at mx
  -- the low one, the high one
  obtain ⟨H, hH⟩ : ∃ H : Int32, H = if s < n then nI rest - nI (nb N (14 - 2 ^ s) f) else gz_mn 0 (nI rest - nI (nb N (14 - 2 ^ s) f)) := ⟨_, rfl⟩
  have hi1 : nb N (14 - 2 ^ s) f ≤ rest → H = nI (hi N n f rest s (14 - 2 ^ s)) := fun q => by
    rw [hH]
    unfold hi
    split
    · exact pk_sub q
    · rw [pk_sub q]
      unfold gz_mn
      rw [if_neg (nI_pos (by omega))]
      rfl
  have hi2 : rest < nb N (14 - 2 ^ s) f → H < 0 := fun q => by
    have z := pk_sneg (a := rest) (b := nb N (14 - 2 ^ s) f) (by omega) q
    rw [hH]
    split
    · exact z
    · unfold gz_mn
      rw [if_pos z]
      exact z
  have low : lo N n f s (2 ^ s) < 2 ^ 30 := by unfold lo; split <;> omega
  have hib : hi N n f rest s (14 - 2 ^ s) < 2 ^ 30 := by unfold hi; split <;> omega
  have A7 : ∀ X : Int32, gz_v (gz_set h 6 s (.int X)) 4 2 = gz_v h 4 2 := fun X => by rw [gz_v_set, if_neg (by omega)]
  have A1 : ∀ X Y : Int32, gz_v (gz_set (gz_set h 6 s (.int X)) 7 s (.int Y)) 4 1 = gz_v h 4 1 := fun X Y => by rw [gz_v_set, if_neg (by omega), gz_v_set, if_neg (by omega)]
  have A2 : ∀ X Y : Int32, gz_v (gz_set (gz_set h 6 s (.int X)) 7 s (.int Y)) 4 2 = gz_v h 4 2 := fun X Y => by rw [gz_v_set, if_neg (by omega), gz_v_set, if_neg (by omega)]
  have A3 : ∀ X Y : Int32, gz_v (gz_set (gz_set h 6 s (.int X)) 7 s (.int Y)) 6 s = .int X := fun X Y => by rw [gz_v_set, if_neg (by omega), gz_v_set, if_pos ⟨rfl, rfl⟩]
  have A4 : ∀ X Y : Int32, gz_v (gz_set (gz_set h 6 s (.int X)) 7 s (.int Y)) 7 s = .int Y := fun X Y => by rw [gz_v_set, if_pos ⟨rfl, rfl⟩]
  have v1' : ∀ X : Int32, se_J9_min_7cf53 [.int 0, .int X] (gz_set h 6 s (.int (nI (lo N n f s (2 ^ s))))) = some (some (.int (gz_mn 0 X)), gz_set h 6 s (.int (nI (lo N n f s (2 ^ s))))) := fun X => st_min 0 X _
  refine ⟨gz_set (gz_set h 6 s (.int (nI (lo N n f s (2 ^ s))))) 7 s (.int H), DW_I (DW_I (DW_rf ax) _ _ _ (by omega) (by omega)) _ _ _ (by omega) (by omega), fun y hy => ⟨?_, ?_⟩, ?_⟩
  · rw [I_seto _ _ _ _ _ _ (by omega), I_seto _ _ _ _ _ _ (by omega)]
  · rw [I_seto _ _ _ _ _ _ (by omega), I_seto _ _ _ _ _ _ (by omega)]
  have bad : H < nI (lo N n f s (2 ^ s)) → lb_X0_dealsBehind_16 [.ref 4, .int (nI f), .int (nI rest), .int (nI n), .int (nI s)] h = some (.inr (some (.int 0), gz_set (gz_set h 6 s (.int (nI (lo N n f s (2 ^ s))))) 7 s (.int H))) := fun t => by
    by_cases sn : s < n
    · have k2 : nI s < nI n := nI_lt sn (by omega)
      have el : nI (max 1 (nb N (2 ^ s) f)) = nI (lo N n f s (2 ^ s)) := by unfold lo; rw [if_pos sn]
      rw [el] at mx
      rw [if_pos sn] at hH
      rw [← hH.symm] at t ⊢
      simp only [lb_X0_dealsBehind_16, gz_sem, gz_ae, Value.category, gz_i, gz_l, gz_nu, gz_li, gz_ll, gz_la, gz_ib, gz_iz, gz_lb, gz_lz, gz_ls, gz_lc, gz_i2l, gz_l2i, gz_get, gz_ald, gz_len, gz_dup, gz_d2, gz_nar, gz_a0, gz_a1, gz_cs, gz_cv, gz_mk, gz_te, gz_j1, gz_j2, gz_jn, gz_jk, gz_jo, gz_ja, gz_sat, gz_seti, gz_seta, gz_set2, gz_inc, gz_put, gz_ast, gz_pop, gz_vs, gz_vv, gz_sup, gz_rv, gz_ri, gz_rl, gz_ra, gz_if, gz_seq, gz_sw, gz_st, gz_st2, rok_I, rok_J, rok_V, rok_Z0, rok_Z1, rok_Zi, rok_R, rok_N, bi_rok, bi_0, bi_1, fit_I, fit_J, fit_Z0, fit_Z1, fit_Zi, fit_R, fit_N, fit_aR, aty_I, aty_Z0, aty_Z1, aty_Zi, aty_J, gz_ix, List.getElem?_cons_zero, List.getElem?_cons_succ, List.getElem?_nil, List.reverse_cons, List.reverse_nil, List.nil_append, List.cons_append, List.take_succ_cons, List.take_zero, List.take_nil, List.length_cons, List.length_nil, decide_true, decide_false, decide_not, Bool.not_true, Bool.not_false, gz_nle, if_true, if_false, and_true, true_and, and_self, and_false, false_and, or_true, true_or, or_false, false_or, Bool.false_eq_true, not_true, not_false_iff, Decidable.not_not, Nat.reduceLeDiff, Nat.reduceAdd, Nat.reduceEqDiff, Nat.reduceSub, Nat.reduceLT, Nat.zero_add, reduceCtorEq, reduceIte, eq_self, i32_10, i32_01, Nat.zero_le, Nat.one_ne_zero, c, ax, k1, o1, r1, v1, v2, mx, k2, d2, d3, s4, A7, A1, A2, A3, A4, t, gz_n_set, gz_k_set]
    · have k2 : ¬ nI s < nI n := nI_nlt (by omega) (by omega)
      have el : (0 : Int32) = nI (lo N n f s (2 ^ s)) := by unfold lo; rw [if_neg sn]; rfl
      rw [if_neg sn] at hH
      rw [← el] at v1' t ⊢
      rw [← hH.symm] at t ⊢
      simp only [lb_X0_dealsBehind_16, gz_sem, gz_ae, Value.category, gz_i, gz_l, gz_nu, gz_li, gz_ll, gz_la, gz_ib, gz_iz, gz_lb, gz_lz, gz_ls, gz_lc, gz_i2l, gz_l2i, gz_get, gz_ald, gz_len, gz_dup, gz_d2, gz_nar, gz_a0, gz_a1, gz_cs, gz_cv, gz_mk, gz_te, gz_j1, gz_j2, gz_jn, gz_jk, gz_jo, gz_ja, gz_sat, gz_seti, gz_seta, gz_set2, gz_inc, gz_put, gz_ast, gz_pop, gz_vs, gz_vv, gz_sup, gz_rv, gz_ri, gz_rl, gz_ra, gz_if, gz_seq, gz_sw, gz_st, gz_st2, rok_I, rok_J, rok_V, rok_Z0, rok_Z1, rok_Zi, rok_R, rok_N, bi_rok, bi_0, bi_1, fit_I, fit_J, fit_Z0, fit_Z1, fit_Zi, fit_R, fit_N, fit_aR, aty_I, aty_Z0, aty_Z1, aty_Zi, aty_J, gz_ix, List.getElem?_cons_zero, List.getElem?_cons_succ, List.getElem?_nil, List.reverse_cons, List.reverse_nil, List.nil_append, List.cons_append, List.take_succ_cons, List.take_zero, List.take_nil, List.length_cons, List.length_nil, decide_true, decide_false, decide_not, Bool.not_true, Bool.not_false, gz_nle, if_true, if_false, and_true, true_and, and_self, and_false, false_and, or_true, true_or, or_false, false_or, Bool.false_eq_true, not_true, not_false_iff, Decidable.not_not, Nat.reduceLeDiff, Nat.reduceAdd, Nat.reduceEqDiff, Nat.reduceSub, Nat.reduceLT, Nat.zero_add, reduceCtorEq, reduceIte, eq_self, i32_10, i32_01, Nat.zero_le, Nat.one_ne_zero, c, ax, k1, o1, r1, v1, v1', k2, d2, d3, s4, A7, A1, A2, A3, A4, t, gz_n_set, gz_k_set]
  by_cases q1 : nb N (14 - 2 ^ s) f ≤ rest
  · have eH := hi1 q1
    by_cases q2 : lo N n f s (2 ^ s) ≤ hi N n f rest s (14 - 2 ^ s)
    · refine Or.inr ⟨q1, q2, by rw [I_seto _ _ _ _ _ _ (by omega), I_set, if_pos ⟨rfl, rfl⟩], by rw [I_set, if_pos ⟨rfl, rfl⟩]; exact eH, ?_⟩
      have t : ¬ H < nI (lo N n f s (2 ^ s)) := by rw [eH]; exact nI_nlt q2 (by omega)
      by_cases sn : s < n
      · have k2 : nI s < nI n := nI_lt sn (by omega)
        have el : nI (max 1 (nb N (2 ^ s) f)) = nI (lo N n f s (2 ^ s)) := by unfold lo; rw [if_pos sn]
        rw [el] at mx
        rw [if_pos sn] at hH
        refine ⟨[.ref 4, .int (nI f), .int (nI rest), .int (nI n), .int (nI (s + 1)), .int (nI rest - nI (nb N (14 - 2 ^ s) f))], ?_, rfl⟩
        rw [← hH.symm] at t ⊢
        simp only [lb_X0_dealsBehind_16, gz_sem, gz_ae, Value.category, gz_i, gz_l, gz_nu, gz_li, gz_ll, gz_la, gz_ib, gz_iz, gz_lb, gz_lz, gz_ls, gz_lc, gz_i2l, gz_l2i, gz_get, gz_ald, gz_len, gz_dup, gz_d2, gz_nar, gz_a0, gz_a1, gz_cs, gz_cv, gz_mk, gz_te, gz_j1, gz_j2, gz_jn, gz_jk, gz_jo, gz_ja, gz_sat, gz_seti, gz_seta, gz_set2, gz_inc, gz_put, gz_ast, gz_pop, gz_vs, gz_vv, gz_sup, gz_rv, gz_ri, gz_rl, gz_ra, gz_if, gz_seq, gz_sw, gz_st, gz_st2, rok_I, rok_J, rok_V, rok_Z0, rok_Z1, rok_Zi, rok_R, rok_N, bi_rok, bi_0, bi_1, fit_I, fit_J, fit_Z0, fit_Z1, fit_Zi, fit_R, fit_N, fit_aR, aty_I, aty_Z0, aty_Z1, aty_Zi, aty_J, gz_ix, List.getElem?_cons_zero, List.getElem?_cons_succ, List.getElem?_nil, List.reverse_cons, List.reverse_nil, List.nil_append, List.cons_append, List.take_succ_cons, List.take_zero, List.take_nil, List.length_cons, List.length_nil, decide_true, decide_false, decide_not, Bool.not_true, Bool.not_false, gz_nle, if_true, if_false, and_true, true_and, and_self, and_false, false_and, or_true, true_or, or_false, false_or, Bool.false_eq_true, not_true, not_false_iff, Decidable.not_not, Nat.reduceLeDiff, Nat.reduceAdd, Nat.reduceEqDiff, Nat.reduceSub, Nat.reduceLT, Nat.zero_add, reduceCtorEq, reduceIte, eq_self, i32_10, i32_01, Nat.zero_le, Nat.one_ne_zero, c, ax, k1, o1, r1, v1, v2, mx, k2, d2, d3, s4, A7, A1, A2, A3, A4, t, gz_n_set, gz_k_set, nI_1]
      · have k2 : ¬ nI s < nI n := nI_nlt (by omega) (by omega)
        have el : (0 : Int32) = nI (lo N n f s (2 ^ s)) := by unfold lo; rw [if_neg sn]; rfl
        rw [if_neg sn] at hH
        refine ⟨[.ref 4, .int (nI f), .int (nI rest), .int (nI n), .int (nI (s + 1)), .int (nI rest - nI (nb N (14 - 2 ^ s) f))], ?_, rfl⟩
        rw [← el] at v1' t ⊢
        rw [← hH.symm] at t ⊢
        simp only [lb_X0_dealsBehind_16, gz_sem, gz_ae, Value.category, gz_i, gz_l, gz_nu, gz_li, gz_ll, gz_la, gz_ib, gz_iz, gz_lb, gz_lz, gz_ls, gz_lc, gz_i2l, gz_l2i, gz_get, gz_ald, gz_len, gz_dup, gz_d2, gz_nar, gz_a0, gz_a1, gz_cs, gz_cv, gz_mk, gz_te, gz_j1, gz_j2, gz_jn, gz_jk, gz_jo, gz_ja, gz_sat, gz_seti, gz_seta, gz_set2, gz_inc, gz_put, gz_ast, gz_pop, gz_vs, gz_vv, gz_sup, gz_rv, gz_ri, gz_rl, gz_ra, gz_if, gz_seq, gz_sw, gz_st, gz_st2, rok_I, rok_J, rok_V, rok_Z0, rok_Z1, rok_Zi, rok_R, rok_N, bi_rok, bi_0, bi_1, fit_I, fit_J, fit_Z0, fit_Z1, fit_Zi, fit_R, fit_N, fit_aR, aty_I, aty_Z0, aty_Z1, aty_Zi, aty_J, gz_ix, List.getElem?_cons_zero, List.getElem?_cons_succ, List.getElem?_nil, List.reverse_cons, List.reverse_nil, List.nil_append, List.cons_append, List.take_succ_cons, List.take_zero, List.take_nil, List.length_cons, List.length_nil, decide_true, decide_false, decide_not, Bool.not_true, Bool.not_false, gz_nle, if_true, if_false, and_true, true_and, and_self, and_false, false_and, or_true, true_or, or_false, false_or, Bool.false_eq_true, not_true, not_false_iff, Decidable.not_not, Nat.reduceLeDiff, Nat.reduceAdd, Nat.reduceEqDiff, Nat.reduceSub, Nat.reduceLT, Nat.zero_add, reduceCtorEq, reduceIte, eq_self, i32_10, i32_01, Nat.zero_le, Nat.one_ne_zero, c, ax, k1, o1, r1, v1, v1', k2, d2, d3, s4, A7, A1, A2, A3, A4, t, gz_n_set, gz_k_set, nI_1]
    · refine Or.inl ⟨fun z => q2 z.2, bad ?_⟩
      rw [eH]
      exact nI_lt (by omega) (by omega)
  · refine Or.inl ⟨fun z => q1 z.1, bad ?_⟩
    have z := hi2 (by omega)
    have z' := nI_pos (n := lo N n f s (2 ^ s)) (by omega)
    rw [Int32.lt_iff_toInt_lt] at z z' ⊢
    omega
set_option maxHeartbeats 8000000 in
theorem st_db {h : gz_H} {JJ n f rest : Nat} {N : Nat → Nat} (c : cs h JJ) (ax : ac h) (nh : NH h N) (n4 : n ≤ 4) (hf : f < 2 ^ 20) (hr : rest < 2 ^ 20) : ∃ h', DW h h' ∧ ((¬ DB N n f rest ∧ se_X0_dealsBehind [.ref 4, .int (nI f), .int (nI rest), .int (nI n)] h = some (some (.int 0), h')) ∨ (DB N n f rest ∧ se_X0_dealsBehind [.ref 4, .int (nI f), .int (nI rest), .int (nI n)] h = some (some (.int 1), h') ∧ gz_I h' 8 1 = nI (x1 N n f rest) ∧ gz_I h' 8 2 = nI (x2 N n f rest) ∧ gz_I h' 8 3 = nI (x3 N n f rest))) := by
  have v14 := st_nbs c ax nh 14 f (by decide) (by decide) (by omega)
  have b14 := nb_bd nh 14 f (by decide)
  have e14 : nI 14 = (14 : Int32) := rfl
  have e1 : nI 1 = (1 : Int32) := rfl
  rw [e14] at v14
  by_cases q14 : ¬ (nb N 14 f ≤ rest)
  · have t : nI rest < nI (nb N 14 f) := nI_lt (by omega) (by omega)
    refine ⟨h, DW_rf ax, Or.inl ⟨fun z => q14 z.1, ?_⟩⟩
    simp only [se_X0_dealsBehind, sm_X0_dealsBehind, gz_sem, gz_ae, Value.category, gz_i, gz_l, gz_nu, gz_li, gz_ll, gz_la, gz_ib, gz_iz, gz_lb, gz_lz, gz_ls, gz_lc, gz_i2l, gz_l2i, gz_get, gz_ald, gz_len, gz_dup, gz_d2, gz_nar, gz_a0, gz_a1, gz_cs, gz_cv, gz_mk, gz_te, gz_j1, gz_j2, gz_jn, gz_jk, gz_jo, gz_ja, gz_sat, gz_seti, gz_seta, gz_set2, gz_inc, gz_put, gz_ast, gz_pop, gz_vs, gz_vv, gz_sup, gz_rv, gz_ri, gz_rl, gz_ra, gz_if, gz_seq, gz_sw, gz_st, gz_st2, rok_I, rok_J, rok_V, rok_Z0, rok_Z1, rok_Zi, rok_R, rok_N, bi_rok, bi_0, bi_1, fit_I, fit_J, fit_Z0, fit_Z1, fit_Zi, fit_R, fit_N, fit_aR, aty_I, aty_Z0, aty_Z1, aty_Zi, aty_J, gz_ix, List.getElem?_cons_zero, List.getElem?_cons_succ, List.getElem?_nil, List.reverse_cons, List.reverse_nil, List.nil_append, List.cons_append, List.take_succ_cons, List.take_zero, List.take_nil, List.length_cons, List.length_nil, decide_true, decide_false, decide_not, Bool.not_true, Bool.not_false, gz_nle, if_true, if_false, and_true, true_and, and_self, and_false, false_and, or_true, true_or, or_false, false_or, Bool.false_eq_true, not_true, not_false_iff, Decidable.not_not, Nat.reduceLeDiff, Nat.reduceAdd, Nat.reduceEqDiff, Nat.reduceSub, Nat.reduceLT, Nat.zero_add, reduceCtorEq, reduceIte, eq_self, i32_10, i32_01, Nat.zero_le, Nat.one_ne_zero, c, v14, t]
  have q14 := Classical.not_not.mp q14
  have t14 : ¬ nI rest < nI (nb N 14 f) := nI_nlt (by omega) (by omega)
  -- three turns
  obtain ⟨h1, w1, o1, p1⟩ := db_turn (rest := rest) c ax nh n4 (Nat.le_refl 1) (by decide) (hf := by omega) (hr := by omega) (n := n) (f := f)
  rw [show 14 - 2 ^ 1 = 12 from rfl, show 2 ^ 1 = 2 from rfl] at p1
  rcases p1 with ⟨n1, z1⟩ | ⟨a1, a2, a3, a4, e1', z1, z1'⟩
  · refine ⟨h1, w1, Or.inl ⟨fun z => n1 ⟨z.2.1, z.2.2.1⟩, ?_⟩⟩
    have l := gz_loop_ret (L := 16) (k := 5) (a := lb_X0_dealsBehind_16) (env := [.ref 4, .int (nI f), .int (nI rest), .int (nI n), .int (nI 1)]) z1
    rw [e1] at l
    simp only [se_X0_dealsBehind, sm_X0_dealsBehind, gz_sem, gz_ae, Value.category, gz_i, gz_l, gz_nu, gz_li, gz_ll, gz_la, gz_ib, gz_iz, gz_lb, gz_lz, gz_ls, gz_lc, gz_i2l, gz_l2i, gz_get, gz_ald, gz_len, gz_dup, gz_d2, gz_nar, gz_a0, gz_a1, gz_cs, gz_cv, gz_mk, gz_te, gz_j1, gz_j2, gz_jn, gz_jk, gz_jo, gz_ja, gz_sat, gz_seti, gz_seta, gz_set2, gz_inc, gz_put, gz_ast, gz_pop, gz_vs, gz_vv, gz_sup, gz_rv, gz_ri, gz_rl, gz_ra, gz_if, gz_seq, gz_sw, gz_st, gz_st2, rok_I, rok_J, rok_V, rok_Z0, rok_Z1, rok_Zi, rok_R, rok_N, bi_rok, bi_0, bi_1, fit_I, fit_J, fit_Z0, fit_Z1, fit_Zi, fit_R, fit_N, fit_aR, aty_I, aty_Z0, aty_Z1, aty_Zi, aty_J, gz_ix, List.getElem?_cons_zero, List.getElem?_cons_succ, List.getElem?_nil, List.reverse_cons, List.reverse_nil, List.nil_append, List.cons_append, List.take_succ_cons, List.take_zero, List.take_nil, List.length_cons, List.length_nil, decide_true, decide_false, decide_not, Bool.not_true, Bool.not_false, gz_nle, if_true, if_false, and_true, true_and, and_self, and_false, false_and, or_true, true_or, or_false, false_or, Bool.false_eq_true, not_true, not_false_iff, Decidable.not_not, Nat.reduceLeDiff, Nat.reduceAdd, Nat.reduceEqDiff, Nat.reduceSub, Nat.reduceLT, Nat.zero_add, reduceCtorEq, reduceIte, eq_self, i32_10, i32_01, Nat.zero_le, Nat.one_ne_zero, c, v14, t14, l]
  obtain ⟨h2, w2, o2, p2⟩ := db_turn (rest := rest) (AW_cs w1.1 c) w1.1.2.2.2 (NH_DW w1 nh) n4 (s := 2) (by decide) (by decide) (hf := by omega) (hr := by omega) (n := n) (f := f)
  rw [show 14 - 2 ^ 2 = 10 from rfl, show 2 ^ 2 = 4 from rfl] at p2
  have W2 := DW_tr w1 w2
  rcases p2 with ⟨n2, z2⟩ | ⟨b1, b2, b3, b4, e2', z2, z2'⟩
  · refine ⟨h2, W2, Or.inl ⟨fun z => n2 ⟨z.2.2.2.1, z.2.2.2.2.1⟩, ?_⟩⟩
    have l2 := gz_loop_ret (L := 16) (k := 5) (a := lb_X0_dealsBehind_16) (env := [.ref 4, .int (nI f), .int (nI rest), .int (nI n), .int (nI 2)]) z2
    have l := lp_go (L := 16) (k := 5) (a := lb_X0_dealsBehind_16) (env := [.ref 4, .int (nI f), .int (nI rest), .int (nI n), .int (nI 1)]) z1 z1' rfl l2
    rw [e1] at l
    simp only [se_X0_dealsBehind, sm_X0_dealsBehind, gz_sem, gz_ae, Value.category, gz_i, gz_l, gz_nu, gz_li, gz_ll, gz_la, gz_ib, gz_iz, gz_lb, gz_lz, gz_ls, gz_lc, gz_i2l, gz_l2i, gz_get, gz_ald, gz_len, gz_dup, gz_d2, gz_nar, gz_a0, gz_a1, gz_cs, gz_cv, gz_mk, gz_te, gz_j1, gz_j2, gz_jn, gz_jk, gz_jo, gz_ja, gz_sat, gz_seti, gz_seta, gz_set2, gz_inc, gz_put, gz_ast, gz_pop, gz_vs, gz_vv, gz_sup, gz_rv, gz_ri, gz_rl, gz_ra, gz_if, gz_seq, gz_sw, gz_st, gz_st2, rok_I, rok_J, rok_V, rok_Z0, rok_Z1, rok_Zi, rok_R, rok_N, bi_rok, bi_0, bi_1, fit_I, fit_J, fit_Z0, fit_Z1, fit_Zi, fit_R, fit_N, fit_aR, aty_I, aty_Z0, aty_Z1, aty_Zi, aty_J, gz_ix, List.getElem?_cons_zero, List.getElem?_cons_succ, List.getElem?_nil, List.reverse_cons, List.reverse_nil, List.nil_append, List.cons_append, List.take_succ_cons, List.take_zero, List.take_nil, List.length_cons, List.length_nil, decide_true, decide_false, decide_not, Bool.not_true, Bool.not_false, gz_nle, if_true, if_false, and_true, true_and, and_self, and_false, false_and, or_true, true_or, or_false, false_or, Bool.false_eq_true, not_true, not_false_iff, Decidable.not_not, Nat.reduceLeDiff, Nat.reduceAdd, Nat.reduceEqDiff, Nat.reduceSub, Nat.reduceLT, Nat.zero_add, reduceCtorEq, reduceIte, eq_self, i32_10, i32_01, Nat.zero_le, Nat.one_ne_zero, c, v14, t14, l]
  obtain ⟨h3, w3, o3, p3⟩ := db_turn (rest := rest) (AW_cs W2.1 c) W2.1.2.2.2 (NH_DW W2 nh) n4 (s := 3) (by decide) (by decide) (hf := by omega) (hr := by omega) (n := n) (f := f)
  rw [show 14 - 2 ^ 3 = 6 from rfl, show 2 ^ 3 = 8 from rfl] at p3
  have W3 := DW_tr W2 w3
  rcases p3 with ⟨n3, z3⟩ | ⟨c1, c2, c3, c4, e3', z3, z3'⟩
  · refine ⟨h3, W3, Or.inl ⟨fun z => n3 ⟨z.2.2.2.2.2.1, z.2.2.2.2.2.2.1⟩, ?_⟩⟩
    have l3 := gz_loop_ret (L := 16) (k := 5) (a := lb_X0_dealsBehind_16) (env := [.ref 4, .int (nI f), .int (nI rest), .int (nI n), .int (nI 3)]) z3
    have l2 := lp_go (L := 16) (k := 5) (a := lb_X0_dealsBehind_16) (env := [.ref 4, .int (nI f), .int (nI rest), .int (nI n), .int (nI 2)]) z2 z2' rfl l3
    have l := lp_go (L := 16) (k := 5) (a := lb_X0_dealsBehind_16) (env := [.ref 4, .int (nI f), .int (nI rest), .int (nI n), .int (nI 1)]) z1 z1' rfl l2
    rw [e1] at l
    simp only [se_X0_dealsBehind, sm_X0_dealsBehind, gz_sem, gz_ae, Value.category, gz_i, gz_l, gz_nu, gz_li, gz_ll, gz_la, gz_ib, gz_iz, gz_lb, gz_lz, gz_ls, gz_lc, gz_i2l, gz_l2i, gz_get, gz_ald, gz_len, gz_dup, gz_d2, gz_nar, gz_a0, gz_a1, gz_cs, gz_cv, gz_mk, gz_te, gz_j1, gz_j2, gz_jn, gz_jk, gz_jo, gz_ja, gz_sat, gz_seti, gz_seta, gz_set2, gz_inc, gz_put, gz_ast, gz_pop, gz_vs, gz_vv, gz_sup, gz_rv, gz_ri, gz_rl, gz_ra, gz_if, gz_seq, gz_sw, gz_st, gz_st2, rok_I, rok_J, rok_V, rok_Z0, rok_Z1, rok_Zi, rok_R, rok_N, bi_rok, bi_0, bi_1, fit_I, fit_J, fit_Z0, fit_Z1, fit_Zi, fit_R, fit_N, fit_aR, aty_I, aty_Z0, aty_Z1, aty_Zi, aty_J, gz_ix, List.getElem?_cons_zero, List.getElem?_cons_succ, List.getElem?_nil, List.reverse_cons, List.reverse_nil, List.nil_append, List.cons_append, List.take_succ_cons, List.take_zero, List.take_nil, List.length_cons, List.length_nil, decide_true, decide_false, decide_not, Bool.not_true, Bool.not_false, gz_nle, if_true, if_false, and_true, true_and, and_self, and_false, false_and, or_true, true_or, or_false, false_or, Bool.false_eq_true, not_true, not_false_iff, Decidable.not_not, Nat.reduceLeDiff, Nat.reduceAdd, Nat.reduceEqDiff, Nat.reduceSub, Nat.reduceLT, Nat.zero_add, reduceCtorEq, reduceIte, eq_self, i32_10, i32_01, Nat.zero_le, Nat.one_ne_zero, c, v14, t14, l]
  have l4 : gz_loop 16 5 lb_X0_dealsBehind_16 [.ref 4, .int (nI f), .int (nI rest), .int (nI n), .int (nI 4)] h3 = some (.inl (119, [.ref 4, .int (nI f), .int (nI rest), .int (nI n), .int (nI 4)], h3)) := gz_loop_exit (by
    have k1 : ¬ nI 4 < (4 : Int32) := by decide
    simp only [lb_X0_dealsBehind_16, gz_sem, gz_ae, Value.category, gz_i, gz_l, gz_nu, gz_li, gz_ll, gz_la, gz_ib, gz_iz, gz_lb, gz_lz, gz_ls, gz_lc, gz_i2l, gz_l2i, gz_get, gz_ald, gz_len, gz_dup, gz_d2, gz_nar, gz_a0, gz_a1, gz_cs, gz_cv, gz_mk, gz_te, gz_j1, gz_j2, gz_jn, gz_jk, gz_jo, gz_ja, gz_sat, gz_seti, gz_seta, gz_set2, gz_inc, gz_put, gz_ast, gz_pop, gz_vs, gz_vv, gz_sup, gz_rv, gz_ri, gz_rl, gz_ra, gz_if, gz_seq, gz_sw, gz_st, gz_st2, rok_I, rok_J, rok_V, rok_Z0, rok_Z1, rok_Zi, rok_R, rok_N, bi_rok, bi_0, bi_1, fit_I, fit_J, fit_Z0, fit_Z1, fit_Zi, fit_R, fit_N, fit_aR, aty_I, aty_Z0, aty_Z1, aty_Zi, aty_J, gz_ix, List.getElem?_cons_zero, List.getElem?_cons_succ, List.getElem?_nil, List.reverse_cons, List.reverse_nil, List.nil_append, List.cons_append, List.take_succ_cons, List.take_zero, List.take_nil, List.length_cons, List.length_nil, decide_true, decide_false, decide_not, Bool.not_true, Bool.not_false, gz_nle, if_true, if_false, and_true, true_and, and_self, and_false, false_and, or_true, true_or, or_false, false_or, Bool.false_eq_true, not_true, not_false_iff, Decidable.not_not, Nat.reduceLeDiff, Nat.reduceAdd, Nat.reduceEqDiff, Nat.reduceSub, Nat.reduceLT, Nat.zero_add, reduceCtorEq, reduceIte, eq_self, i32_10, i32_01, Nat.zero_le, Nat.one_ne_zero, k1]) (by decide)
  have l3 := lp_go (L := 16) (k := 5) (a := lb_X0_dealsBehind_16) (env := [.ref 4, .int (nI f), .int (nI rest), .int (nI n), .int (nI 3)]) z3 z3' rfl l4
  have l2 := lp_go (L := 16) (k := 5) (a := lb_X0_dealsBehind_16) (env := [.ref 4, .int (nI f), .int (nI rest), .int (nI n), .int (nI 2)]) z2 z2' rfl l3
  have l := lp_go (L := 16) (k := 5) (a := lb_X0_dealsBehind_16) (env := [.ref 4, .int (nI f), .int (nI rest), .int (nI n), .int (nI 1)]) z1 z1' rfl l2
  rw [e1] at l
  -- the rows hold the least and the most
  have L1 : gz_I h3 6 1 = nI (lo N n f 1 2) := by rw [(o3 1 (by decide)).1, (o2 1 (by decide)).1]; exact a3
  have U1 : gz_I h3 7 1 = nI (hi N n f rest 1 12) := by rw [(o3 1 (by decide)).2, (o2 1 (by decide)).2]; exact a4
  have L2 : gz_I h3 6 2 = nI (lo N n f 2 4) := by rw [(o3 2 (by decide)).1]; exact b3
  have U2 : gz_I h3 7 2 = nI (hi N n f rest 2 10) := by rw [(o3 2 (by decide)).2]; exact b4
  have c' := AW_cs W3.1 c
  have ax' := W3.1.2.2.2
  have lob : ∀ s r, lo N n f s r ≤ 1 + nb N r f := fun s r => by unfold lo; split <;> omega
  have hib : ∀ s r, hi N n f rest s r ≤ rest := fun s r => by unfold hi; split <;> omega
  have B1 := lob 1 2
  have B2 := lob 2 4
  have B3 := lob 3 8
  have C1 := nb_bd nh 2 f (by decide)
  have C2 := nb_bd nh 4 f (by decide)
  have C3 := nb_bd nh 8 f (by decide)
  have D1 := hib 1 12
  have D2 := hib 2 10
  have D3 := hib 3 6
  have l10 : ¬ (1 : Int32) < 0 := by decide
  have l20 : ¬ (2 : Int32) < 0 := by decide
  have l30 : ¬ (3 : Int32) < 0 := by decide
  have y1 : (1 : Int32).toNatClampNeg = 1 := rfl
  have y2 : (2 : Int32).toNatClampNeg = 2 := rfl
  have y3 : (3 : Int32).toNatClampNeg = 3 := rfl
  have g1 : 1 < 4 := by decide
  have g2 : 2 < 4 := by decide
  have g3 : 3 < 4 := by decide
  have S1 : nI (lo N n f 1 2) + nI (lo N n f 2 4) + nI (lo N n f 3 8) = nI (lo N n f 1 2 + lo N n f 2 4 + lo N n f 3 8) := by rw [nI_add, nI_add]
  have S2 : nI (hi N n f rest 1 12) + nI (hi N n f rest 2 10) + nI (hi N n f rest 3 6) = nI (hi N n f rest 1 12 + hi N n f rest 2 10 + hi N n f rest 3 6) := by rw [nI_add, nI_add]
  by_cases s1 : ¬ (lo N n f 1 2 + lo N n f 2 4 + lo N n f 3 8 ≤ rest)
  · have t1 : nI rest < nI (lo N n f 1 2 + lo N n f 2 4 + lo N n f 3 8) := nI_lt (by omega) (by omega)
    refine ⟨h3, W3, Or.inl ⟨fun z => s1 z.2.2.2.2.2.2.2.1, ?_⟩⟩
    simp only [se_X0_dealsBehind, sm_X0_dealsBehind, gz_sem, gz_ae, Value.category, gz_i, gz_l, gz_nu, gz_li, gz_ll, gz_la, gz_ib, gz_iz, gz_lb, gz_lz, gz_ls, gz_lc, gz_i2l, gz_l2i, gz_get, gz_ald, gz_len, gz_dup, gz_d2, gz_nar, gz_a0, gz_a1, gz_cs, gz_cv, gz_mk, gz_te, gz_j1, gz_j2, gz_jn, gz_jk, gz_jo, gz_ja, gz_sat, gz_seti, gz_seta, gz_set2, gz_inc, gz_put, gz_ast, gz_pop, gz_vs, gz_vv, gz_sup, gz_rv, gz_ri, gz_rl, gz_ra, gz_if, gz_seq, gz_sw, gz_st, gz_st2, rok_I, rok_J, rok_V, rok_Z0, rok_Z1, rok_Zi, rok_R, rok_N, bi_rok, bi_0, bi_1, fit_I, fit_J, fit_Z0, fit_Z1, fit_Zi, fit_R, fit_N, fit_aR, aty_I, aty_Z0, aty_Z1, aty_Zi, aty_J, gz_ix, List.getElem?_cons_zero, List.getElem?_cons_succ, List.getElem?_nil, List.reverse_cons, List.reverse_nil, List.nil_append, List.cons_append, List.take_succ_cons, List.take_zero, List.take_nil, List.length_cons, List.length_nil, decide_true, decide_false, decide_not, Bool.not_true, Bool.not_false, gz_nle, if_true, if_false, and_true, true_and, and_self, and_false, false_and, or_true, true_or, or_false, false_or, Bool.false_eq_true, not_true, not_false_iff, Decidable.not_not, Nat.reduceLeDiff, Nat.reduceAdd, Nat.reduceEqDiff, Nat.reduceSub, Nat.reduceLT, Nat.zero_add, reduceCtorEq, reduceIte, eq_self, i32_10, i32_01, Nat.zero_le, Nat.one_ne_zero, c, v14, t14, l, c', ax', l10, l20, l30, y1, y2, y3, g1, g2, g3, L1, L2, c3, S1, t1]
  have s1 := Classical.not_not.mp s1
  have t1 : ¬ nI rest < nI (lo N n f 1 2 + lo N n f 2 4 + lo N n f 3 8) := nI_nlt (by omega) (by omega)
  by_cases s2 : ¬ (rest ≤ hi N n f rest 1 12 + hi N n f rest 2 10 + hi N n f rest 3 6)
  · have t2 : nI (hi N n f rest 1 12 + hi N n f rest 2 10 + hi N n f rest 3 6) < nI rest := nI_lt (by omega) (by omega)
    refine ⟨h3, W3, Or.inl ⟨fun z => s2 z.2.2.2.2.2.2.2.2, ?_⟩⟩
    simp only [se_X0_dealsBehind, sm_X0_dealsBehind, gz_sem, gz_ae, Value.category, gz_i, gz_l, gz_nu, gz_li, gz_ll, gz_la, gz_ib, gz_iz, gz_lb, gz_lz, gz_ls, gz_lc, gz_i2l, gz_l2i, gz_get, gz_ald, gz_len, gz_dup, gz_d2, gz_nar, gz_a0, gz_a1, gz_cs, gz_cv, gz_mk, gz_te, gz_j1, gz_j2, gz_jn, gz_jk, gz_jo, gz_ja, gz_sat, gz_seti, gz_seta, gz_set2, gz_inc, gz_put, gz_ast, gz_pop, gz_vs, gz_vv, gz_sup, gz_rv, gz_ri, gz_rl, gz_ra, gz_if, gz_seq, gz_sw, gz_st, gz_st2, rok_I, rok_J, rok_V, rok_Z0, rok_Z1, rok_Zi, rok_R, rok_N, bi_rok, bi_0, bi_1, fit_I, fit_J, fit_Z0, fit_Z1, fit_Zi, fit_R, fit_N, fit_aR, aty_I, aty_Z0, aty_Z1, aty_Zi, aty_J, gz_ix, List.getElem?_cons_zero, List.getElem?_cons_succ, List.getElem?_nil, List.reverse_cons, List.reverse_nil, List.nil_append, List.cons_append, List.take_succ_cons, List.take_zero, List.take_nil, List.length_cons, List.length_nil, decide_true, decide_false, decide_not, Bool.not_true, Bool.not_false, gz_nle, if_true, if_false, and_true, true_and, and_self, and_false, false_and, or_true, true_or, or_false, false_or, Bool.false_eq_true, not_true, not_false_iff, Decidable.not_not, Nat.reduceLeDiff, Nat.reduceAdd, Nat.reduceEqDiff, Nat.reduceSub, Nat.reduceLT, Nat.zero_add, reduceCtorEq, reduceIte, eq_self, i32_10, i32_01, Nat.zero_le, Nat.one_ne_zero, c, v14, t14, l, c', ax', l10, l20, l30, y1, y2, y3, g1, g2, g3, L1, L2, c3, S1, t1, U1, U2, c4, S2, t2]
  have s2 := Classical.not_not.mp s2
  have t2 : ¬ nI (hi N n f rest 1 12 + hi N n f rest 2 10 + hi N n f rest 3 6) < nI rest := nI_nlt (by omega) (by omega)
  obtain ⟨⟨X1, X1'⟩, ⟨X2, X2'⟩, ⟨X3, X3'⟩, X4, -⟩ := x_bd a2 b2 c2 s1 s2 (x1 N n f rest) (x2 N n f rest) (x3 N n f rest) rfl rfl rfl
  have m1 := st_max (nI (lo N n f 1 2)) (nI rest - nI (hi N n f rest 2 10) - nI (hi N n f rest 3 6)) h3
  rw [i_sub2, mx_sub (by omega) (by omega) (by omega)] at m1
  have m1' : nI (max (lo N n f 1 2) (rest - (hi N n f rest 2 10 + hi N n f rest 3 6))) = nI (x1 N n f rest) := rfl
  rw [m1', ← i_sub2] at m1
  have m2 := fun h => st_max (nI (lo N n f 2 4)) (nI rest - nI (x1 N n f rest) - nI (hi N n f rest 3 6)) h
  have m2' : nI (max (lo N n f 2 4) (rest - (x1 N n f rest + hi N n f rest 3 6))) = nI (x2 N n f rest) := rfl
  rw [i_sub2, mx_sub (by omega) (by omega) (by omega), m2', ← i_sub2] at m2
  have m3 : nI rest - nI (x1 N n f rest) - nI (x2 N n f rest) = nI (x3 N n f rest) := by
    rw [pk_sub (by omega), pk_sub (by omega)]; rfl
  generalize hx1 : x1 N n f rest = u1 at *
  generalize hx2 : x2 N n f rest = u2 at *
  generalize hx3 : x3 N n f rest = u3 at *
  have E1 : ∀ f', gz_v (gz_set h3 8 1 (.int (nI u1))) 4 f' = gz_v h3 4 f' := fun f' => by rw [gz_v_set, if_neg (by omega)]
  have E2 : ∀ b i, b < 8 → gz_v (gz_set h3 8 1 (.int (nI u1))) b i = gz_v h3 b i := fun b i hb => by rw [gz_v_set, if_neg (by omega)]
  have E3 : gz_v (gz_set h3 8 1 (.int (nI u1))) 8 1 = .int (nI u1) := by rw [gz_v_set, if_pos ⟨rfl, rfl⟩]
  have E6 := E2 6 2 (by decide)
  have E7 := E2 7 3 (by decide)
  have F1 : ∀ f', gz_v (gz_set (gz_set h3 8 1 (.int (nI u1))) 8 2 (.int (nI u2))) 4 f' = gz_v h3 4 f' := fun f' => by rw [gz_v_set, if_neg (by omega), E1]
  have F3 : gz_v (gz_set (gz_set h3 8 1 (.int (nI u1))) 8 2 (.int (nI u2))) 8 1 = .int (nI u1) := by rw [gz_v_set, if_neg (by omega), E3]
  have F4 : gz_v (gz_set (gz_set h3 8 1 (.int (nI u1))) 8 2 (.int (nI u2))) 8 2 = .int (nI u2) := by rw [gz_v_set, if_pos ⟨rfl, rfl⟩]
  refine ⟨gz_set (gz_set (gz_set h3 8 1 (.int (nI u1))) 8 2 (.int (nI u2))) 8 3 (.int (nI u3)), DW_I (DW_I (DW_I W3 _ _ _ (by omega) (by omega)) _ _ _ (by omega) (by omega)) _ _ _ (by omega) (by omega), Or.inr ⟨⟨q14, a1, a2, b1, b2, c1, c2, s1, s2⟩, ?_, ?_, ?_, ?_⟩⟩
  · simp only [se_X0_dealsBehind, sm_X0_dealsBehind, gz_sem, gz_ae, Value.category, gz_i, gz_l, gz_nu, gz_li, gz_ll, gz_la, gz_ib, gz_iz, gz_lb, gz_lz, gz_ls, gz_lc, gz_i2l, gz_l2i, gz_get, gz_ald, gz_len, gz_dup, gz_d2, gz_nar, gz_a0, gz_a1, gz_cs, gz_cv, gz_mk, gz_te, gz_j1, gz_j2, gz_jn, gz_jk, gz_jo, gz_ja, gz_sat, gz_seti, gz_seta, gz_set2, gz_inc, gz_put, gz_ast, gz_pop, gz_vs, gz_vv, gz_sup, gz_rv, gz_ri, gz_rl, gz_ra, gz_if, gz_seq, gz_sw, gz_st, gz_st2, rok_I, rok_J, rok_V, rok_Z0, rok_Z1, rok_Zi, rok_R, rok_N, bi_rok, bi_0, bi_1, fit_I, fit_J, fit_Z0, fit_Z1, fit_Zi, fit_R, fit_N, fit_aR, aty_I, aty_Z0, aty_Z1, aty_Zi, aty_J, gz_ix, List.getElem?_cons_zero, List.getElem?_cons_succ, List.getElem?_nil, List.reverse_cons, List.reverse_nil, List.nil_append, List.cons_append, List.take_succ_cons, List.take_zero, List.take_nil, List.length_cons, List.length_nil, decide_true, decide_false, decide_not, Bool.not_true, Bool.not_false, gz_nle, if_true, if_false, and_true, true_and, and_self, and_false, false_and, or_true, true_or, or_false, false_or, Bool.false_eq_true, not_true, not_false_iff, Decidable.not_not, Nat.reduceLeDiff, Nat.reduceAdd, Nat.reduceEqDiff, Nat.reduceSub, Nat.reduceLT, Nat.zero_add, reduceCtorEq, reduceIte, eq_self, i32_10, i32_01, Nat.zero_le, Nat.one_ne_zero, c, v14, t14, l, c', ax', l10, l20, l30, y1, y2, y3, g1, g2, g3, L1, L2, c3, S1, t1, U1, U2, c4, S2, t2, m1, m2, m3, E1, E3, E6, E7, F1, F3, F4, gz_n_set, gz_k_set]
  · rw [I_seto _ _ _ _ _ _ (by omega), I_seto _ _ _ _ _ _ (by omega), I_set, if_pos ⟨rfl, rfl⟩]
  · rw [I_seto _ _ _ _ _ _ (by omega), I_set, if_pos ⟨rfl, rfl⟩]
  · rw [I_set, if_pos ⟨rfl, rfl⟩]
