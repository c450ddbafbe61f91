def nP (N : Nat → Nat) : Nat → Nat → Nat
  | 0, r => N r
  | s + 1, r => if r = 2 ^ s then max 1 (nP N s r) else nP N s r
theorem nP_le {N : Nat → Nat} {r x : Nat} : ∀ s, nP N s r ≤ x ↔ N r ≤ x ∧ ∀ k, k < s → r = 2 ^ k → 1 ≤ x
  | 0 => ⟨fun h => ⟨h, fun k hk => by omega⟩, fun h => h.1⟩
  | s + 1 => by
    have ih := nP_le (N := N) (r := r) (x := x) s
    show (if r = 2 ^ s then max 1 (nP N s r) else nP N s r) ≤ x ↔ _
    by_cases q : r = 2 ^ s
    · rw [if_pos q, Nat.max_le, ih]
      constructor
      · rintro ⟨h1, h2, h3⟩
        exact ⟨h2, fun _ _ _ => h1⟩
      · rintro ⟨h1, h2⟩
        exact ⟨h2 s (by omega) q, h1, fun k hk e => h2 k (by omega) e⟩
    · rw [if_neg q, ih]
      constructor
      · rintro ⟨h1, h2⟩
        refine ⟨h1, fun k hk e => ?_⟩
        by_cases z : k = s
        · rw [z] at e; exact absurd e q
        · exact h2 k (by omega) e
      · rintro ⟨h1, h2⟩
        exact ⟨h1, fun k hk e => h2 k (by omega) e⟩
theorem FE_nP {N : Nat → Nat} {n T a b c d : Nat} (n4 : n ≤ 4) : FE (nP N n) n T a b c d ↔ FE N n T a b c d := by
  rw [FE_iff, FE_iff]
  constructor
  · rintro ⟨h0, h⟩
    exact ⟨h0, fun r h1 h2 => ((nP_le n).mp (h r h1 h2)).1⟩
  · rintro ⟨h0, h⟩
    refine ⟨h0, fun r h1 h2 => (nP_le n).mpr ⟨h r h1 h2, fun k hk e => ?_⟩⟩
    obtain ⟨g1, g2, g3, -, g4, -, -⟩ := h0
    have : k = 0 ∨ k = 1 ∨ k = 2 ∨ k = 3 := by omega
    rcases this with rfl | rfl | rfl | rfl
    · rw [show r = 1 from e, dt_1]; exact g1
    · rw [show r = 2 from e, dt_2]; exact g2
    · rw [show r = 4 from e, dt_4]; exact g3 hk
    · rw [show r = 8 from e, dt_8]; exact g4 hk
theorem nP_1 {N : Nat → Nat} {s k : Nat} (hk : k < s) : 1 ≤ nP N s (2 ^ k) := Nat.pos_of_ne_zero (fun z => by
  have := ((nP_le (N := N) (r := 2 ^ k) (x := 0) s).mp (by omega)).2 k hk rfl
  omega)
theorem nP_Z {N : Nat → Nat} {n : Nat} (Z : ∀ r, 2 ^ n ≤ r → r < 16 → N r = 0) : ∀ r, 2 ^ n ≤ r → r < 16 → nP N n r = 0 := fun r h1 h2 => Nat.le_zero.mp ((nP_le n).mpr ⟨by rw [Z r h1 h2]; exact Nat.le_refl _, fun k hk e => by
  have := Nat.pow_lt_pow_right (a := 2) (by omega) hk
  omega⟩)
set_option maxHeartbeats 4000000 in
theorem ls_in {h : gz_H} (m : md h) {p S n : Nat} {Cn Rt : Nat → Nat} {W : Nat → Nat → Bool} (H : RX h p S n Cn Rt W) {N : Nat → Nat} (nh : N8 h N) (a : Nat) (ha : a ≤ 90) : ∀ d b v, 91 - b = d → b ≤ 1000000 → v ≤ 1000 → ∃ e v', gz_loop 181 6 lb_X8_leastSum_181 [.ref 15, .int (nI p), .double 0, .int (nI v), .int (nI a), .int (nI b)] h = some (.inl (231, e, h)) ∧ e.take 5 = [.ref 15, .int (nI p), .double 0, .int (nI v'), .int (nI a)] ∧ v' ≤ 1000 ∧ ∀ T, v' ≤ T ↔ v ≤ T ∨ ∃ b', b ≤ b' ∧ b' ≤ 90 ∧ N 3 ≤ a + b' ∧ a + b' + oth N n a b' ≤ T := by
  have l3 : ¬ (3 : Int32) < 0 := by decide
  have y3 : (3 : Int32).toNatClampNeg = 3 := rfl
  have g3 : 3 < 16 := by decide
  obtain ⟨n3, n3b⟩ := nh 3 (by decide)
  intro d
  induction d with
  | zero =>
    intro b v e hb hv
    have k1 : (90 : Int32) < nI b := nI_lt (a := 90) (by omega) (by omega)
    refine ⟨[.ref 15, .int (nI p), .double 0, .int (nI v), .int (nI a), .int (nI b)], v, gz_loop_exit ?_ (by decide), rfl, hv, fun T => ⟨Or.inl, fun z => ?_⟩⟩
    · simp only [lb_X8_leastSum_181, gz_sem, gz_ae, Value.category, gz_i, gz_l, gz_nu, gz_li, gz_ll, gz_la, gz_ib, gz_iz, gz_lb, gz_lz, gz_ls, gz_lc, gz_i2l, gz_l2i, gz_get, gz_ald, gz_len, gz_dup, gz_d2, gz_nar, gz_a0, gz_a1, gz_cs, gz_cv, gz_mk, gz_te, gz_j1, gz_j2, gz_jn, gz_jk, gz_jo, gz_ja, gz_sat, gz_seti, gz_seta, gz_set2, gz_inc, gz_put, gz_ast, gz_pop, gz_vs, gz_vv, gz_sup, gz_rv, gz_ri, gz_rl, gz_ra, gz_if, gz_seq, gz_sw, gz_st, gz_st2, rok_I, rok_J, rok_V, rok_Z0, rok_Z1, rok_Zi, rok_R, rok_N, bi_rok, bi_0, bi_1, fit_I, fit_J, fit_Z0, fit_Z1, fit_Zi, fit_R, fit_N, fit_aR, aty_I, aty_Z0, aty_Z1, aty_Zi, aty_J, gz_ix, List.getElem?_cons_zero, List.getElem?_cons_succ, List.getElem?_nil, List.reverse_cons, List.reverse_nil, List.nil_append, List.cons_append, List.take_succ_cons, List.take_zero, List.take_nil, List.length_cons, List.length_nil, decide_true, decide_false, decide_not, Bool.not_true, Bool.not_false, gz_nle, if_true, if_false, and_true, true_and, and_self, and_false, false_and, or_true, true_or, or_false, false_or, Bool.false_eq_true, not_true, not_false_iff, Decidable.not_not, Nat.reduceLeDiff, Nat.reduceAdd, Nat.reduceEqDiff, Nat.reduceSub, Nat.reduceLT, Nat.zero_add, reduceCtorEq, reduceIte, eq_self, i32_10, i32_01, Nat.zero_le, Nat.one_ne_zero, k1]
    · rcases z with z | ⟨b', z1, z2, -⟩
      · exact z
      · omega
  | succ d ih =>
    intro b v e hb hv
    have k1 : ¬ (90 : Int32) < nI b := nI_nlt (b := b) (a := 90) (by omega) (by omega)
    have ad : nI a + nI b = nI (a + b) := nI_add _ _
    by_cases q : N 3 ≤ a + b
    · have t : ¬ nI (a + b) < nI (N 3) := nI_nlt q (by omega)
      have os := st_oth m H nh a b (by omega) (by omega)
      have hN : ∀ r, r < 16 → N r ≤ 1000000 := fun r hr => (nh r hr).2
      have ob' : oth N n a b ≤ 2000000 := by
        have B3 : o3 N a b ≤ 1000000 := by rw [← ot_3]; exact ot_bd (Nat.le_refl _) hN 12 (Nat.le_refl _)
        have B4 : o4 N n a b ≤ 1000000 := by rw [← ot_4]; exact ot_bd (by split <;> omega) hN 12 (Nat.le_refl _)
        have Bb : ob N a b ≤ 1000000 := by rw [← ot_b]; exact ot_bd (by omega) hN 12 (Nat.le_refl _)
        unfold oth
        split
        · omega
        · exact Nat.max_le.mpr ⟨by omega, by omega⟩
      have a2 : nI (a + b) + nI (oth N n a b) = nI (a + b + oth N n a b) := nI_add _ _
      have mi := st_min (nI v) (nI (a + b + oth N n a b)) h
      rw [mn_nI (by omega) (by omega)] at mi
      obtain ⟨e', v', r1, r2, r3, r4⟩ := ih (b + 1) (min v (a + b + oth N n a b)) (by omega) (by omega) (by omega)
      have st : lb_X8_leastSum_181 [.ref 15, .int (nI p), .double 0, .int (nI v), .int (nI a), .int (nI b)] h = some (.inl (181, [.ref 15, .int (nI p), .double 0, .int (nI (min v (a + b + oth N n a b))), .int (nI a), .int (nI (b + 1))], h)) := by
        simp only [lb_X8_leastSum_181, gz_sem, gz_ae, Value.category, gz_i, gz_l, gz_nu, gz_li, gz_ll, gz_la, gz_ib, gz_iz, gz_lb, gz_lz, gz_ls, gz_lc, gz_i2l, gz_l2i, gz_get, gz_ald, gz_len, gz_dup, gz_d2, gz_nar, gz_a0, gz_a1, gz_cs, gz_cv, gz_mk, gz_te, gz_j1, gz_j2, gz_jn, gz_jk, gz_jo, gz_ja, gz_sat, gz_seti, gz_seta, gz_set2, gz_inc, gz_put, gz_ast, gz_pop, gz_vs, gz_vv, gz_sup, gz_rv, gz_ri, gz_rl, gz_ra, gz_if, gz_seq, gz_sw, gz_st, gz_st2, rok_I, rok_J, rok_V, rok_Z0, rok_Z1, rok_Zi, rok_R, rok_N, bi_rok, bi_0, bi_1, fit_I, fit_J, fit_Z0, fit_Z1, fit_Zi, fit_R, fit_N, fit_aR, aty_I, aty_Z0, aty_Z1, aty_Zi, aty_J, gz_ix, List.getElem?_cons_zero, List.getElem?_cons_succ, List.getElem?_nil, List.reverse_cons, List.reverse_nil, List.nil_append, List.cons_append, List.take_succ_cons, List.take_zero, List.take_nil, List.length_cons, List.length_nil, decide_true, decide_false, decide_not, Bool.not_true, Bool.not_false, gz_nle, if_true, if_false, and_true, true_and, and_self, and_false, false_and, or_true, true_or, or_false, false_or, Bool.false_eq_true, not_true, not_false_iff, Decidable.not_not, Nat.reduceLeDiff, Nat.reduceAdd, Nat.reduceEqDiff, Nat.reduceSub, Nat.reduceLT, Nat.zero_add, reduceCtorEq, reduceIte, eq_self, i32_10, i32_01, Nat.zero_le, Nat.one_ne_zero, m, md_k, k1, ad, l3, y3, g3, n3, t, os, a2, mi, nI_1]
      refine ⟨e', v', gz_loop_next (k := 6) (env := [.ref 15, .int (nI p), .double 0, .int (nI v), .int (nI a), .int (nI b)]) st r1, r2, r3, fun T => ?_⟩
      rw [r4 T]
      constructor
      · rintro (z | ⟨b', z1, z2⟩)
        · by_cases y : v ≤ T
          · exact Or.inl y
          · exact Or.inr ⟨b, Nat.le_refl _, by omega, q, by omega⟩
        · exact Or.inr ⟨b', by omega, z2⟩
      · rintro (z | ⟨b', z1, z2, z3, z4⟩)
        · exact Or.inl (by omega)
        · by_cases y : b' = b
          · subst y; exact Or.inl (by omega)
          · exact Or.inr ⟨b', by omega, z2, z3, z4⟩
    · have t : nI (a + b) < nI (N 3) := nI_lt (by omega) (by omega)
      obtain ⟨e', v', r1, r2, r3, r4⟩ := ih (b + 1) v (by omega) (by omega) hv
      have st : lb_X8_leastSum_181 [.ref 15, .int (nI p), .double 0, .int (nI v), .int (nI a), .int (nI b)] h = some (.inl (181, [.ref 15, .int (nI p), .double 0, .int (nI v), .int (nI a), .int (nI (b + 1))], h)) := by
        simp only [lb_X8_leastSum_181, gz_sem, gz_ae, Value.category, gz_i, gz_l, gz_nu, gz_li, gz_ll, gz_la, gz_ib, gz_iz, gz_lb, gz_lz, gz_ls, gz_lc, gz_i2l, gz_l2i, gz_get, gz_ald, gz_len, gz_dup, gz_d2, gz_nar, gz_a0, gz_a1, gz_cs, gz_cv, gz_mk, gz_te, gz_j1, gz_j2, gz_jn, gz_jk, gz_jo, gz_ja, gz_sat, gz_seti, gz_seta, gz_set2, gz_inc, gz_put, gz_ast, gz_pop, gz_vs, gz_vv, gz_sup, gz_rv, gz_ri, gz_rl, gz_ra, gz_if, gz_seq, gz_sw, gz_st, gz_st2, rok_I, rok_J, rok_V, rok_Z0, rok_Z1, rok_Zi, rok_R, rok_N, bi_rok, bi_0, bi_1, fit_I, fit_J, fit_Z0, fit_Z1, fit_Zi, fit_R, fit_N, fit_aR, aty_I, aty_Z0, aty_Z1, aty_Zi, aty_J, gz_ix, List.getElem?_cons_zero, List.getElem?_cons_succ, List.getElem?_nil, List.reverse_cons, List.reverse_nil, List.nil_append, List.cons_append, List.take_succ_cons, List.take_zero, List.take_nil, List.length_cons, List.length_nil, decide_true, decide_false, decide_not, Bool.not_true, Bool.not_false, gz_nle, if_true, if_false, and_true, true_and, and_self, and_false, false_and, or_true, true_or, or_false, false_or, Bool.false_eq_true, not_true, not_false_iff, Decidable.not_not, Nat.reduceLeDiff, Nat.reduceAdd, Nat.reduceEqDiff, Nat.reduceSub, Nat.reduceLT, Nat.zero_add, reduceCtorEq, reduceIte, eq_self, i32_10, i32_01, Nat.zero_le, Nat.one_ne_zero, m, md_k, k1, ad, l3, y3, g3, n3, t, nI_1]
      refine ⟨e', v', gz_loop_next (k := 6) (env := [.ref 15, .int (nI p), .double 0, .int (nI v), .int (nI a), .int (nI b)]) st r1, r2, r3, fun T => ?_⟩
      rw [r4 T]
      constructor
      · rintro (z | ⟨b', z1, z2⟩)
        · exact Or.inl z
        · exact Or.inr ⟨b', by omega, z2⟩
      · rintro (z | ⟨b', z1, z2, z3, z4⟩)
        · exact Or.inl z
        · by_cases y : b' = b
          · subst y; exact absurd z3 q
          · exact Or.inr ⟨b', by omega, z2, z3, z4⟩
set_option maxHeartbeats 4000000 in
theorem ls_out {h : gz_H} (m : md h) {p S n : Nat} {Cn Rt : Nat → Nat} {W : Nat → Nat → Bool} (H : RX h p S n Cn Rt W) {N : Nat → Nat} (nh : N8 h N) : ∀ d a v, 91 - a = d → a ≤ 1000000 → v ≤ 1000 → ∃ e v', gz_loop 166 5 lb_X8_leastSum_166 [.ref 15, .int (nI p), .double 0, .int (nI v), .int (nI a)] h = some (.inl (237, e, h)) ∧ e.take 4 = [.ref 15, .int (nI p), .double 0, .int (nI v')] ∧ v' ≤ 1000 ∧ ∀ T, v' ≤ T ↔ v ≤ T ∨ ∃ a' b', a ≤ a' ∧ a' ≤ 90 ∧ N 2 ≤ b' ∧ b' ≤ 90 ∧ N 3 ≤ a' + b' ∧ a' + b' + oth N n a' b' ≤ T := by
  have l2 : ¬ (2 : Int32) < 0 := by decide
  have y2 : (2 : Int32).toNatClampNeg = 2 := rfl
  have g2 : 2 < 16 := by decide
  obtain ⟨n2, n2b⟩ := nh 2 (by decide)
  intro d
  induction d with
  | zero =>
    intro a v e ha hv
    have k1 : (90 : Int32) < nI a := nI_lt (a := 90) (by omega) (by omega)
    refine ⟨[.ref 15, .int (nI p), .double 0, .int (nI v), .int (nI a)], v, gz_loop_exit ?_ (by decide), rfl, hv, fun T => ⟨Or.inl, fun z => ?_⟩⟩
    · simp only [lb_X8_leastSum_166, gz_sem, gz_ae, Value.category, gz_i, gz_l, gz_nu, gz_li, gz_ll, gz_la, gz_ib, gz_iz, gz_lb, gz_lz, gz_ls, gz_lc, gz_i2l, gz_l2i, gz_get, gz_ald, gz_len, gz_dup, gz_d2, gz_nar, gz_a0, gz_a1, gz_cs, gz_cv, gz_mk, gz_te, gz_j1, gz_j2, gz_jn, gz_jk, gz_jo, gz_ja, gz_sat, gz_seti, gz_seta, gz_set2, gz_inc, gz_put, gz_ast, gz_pop, gz_vs, gz_vv, gz_sup, gz_rv, gz_ri, gz_rl, gz_ra, gz_if, gz_seq, gz_sw, gz_st, gz_st2, rok_I, rok_J, rok_V, rok_Z0, rok_Z1, rok_Zi, rok_R, rok_N, bi_rok, bi_0, bi_1, fit_I, fit_J, fit_Z0, fit_Z1, fit_Zi, fit_R, fit_N, fit_aR, aty_I, aty_Z0, aty_Z1, aty_Zi, aty_J, gz_ix, List.getElem?_cons_zero, List.getElem?_cons_succ, List.getElem?_nil, List.reverse_cons, List.reverse_nil, List.nil_append, List.cons_append, List.take_succ_cons, List.take_zero, List.take_nil, List.length_cons, List.length_nil, decide_true, decide_false, decide_not, Bool.not_true, Bool.not_false, gz_nle, if_true, if_false, and_true, true_and, and_self, and_false, false_and, or_true, true_or, or_false, false_or, Bool.false_eq_true, not_true, not_false_iff, Decidable.not_not, Nat.reduceLeDiff, Nat.reduceAdd, Nat.reduceEqDiff, Nat.reduceSub, Nat.reduceLT, Nat.zero_add, reduceCtorEq, reduceIte, eq_self, i32_10, i32_01, Nat.zero_le, Nat.one_ne_zero, k1]
    · rcases z with z | ⟨a', b', z1, z2, -⟩
      · exact z
      · omega
  | succ d ih =>
    intro a v e ha hv
    have k1 : ¬ (90 : Int32) < nI a := nI_nlt (b := a) (a := 90) (by omega) (by omega)
    obtain ⟨e1, v1, s1, s2, s3, s4⟩ := ls_in m H nh a (by omega) (91 - N 2) (N 2) v rfl n2b hv
    obtain ⟨e', v', r1, r2, r3, r4⟩ := ih (a + 1) v1 (by omega) (by omega) s3
    have st : lb_X8_leastSum_166 [.ref 15, .int (nI p), .double 0, .int (nI v), .int (nI a)] h = some (.inl (166, [.ref 15, .int (nI p), .double 0, .int (nI v1), .int (nI (a + 1))], h)) := by
      simp only [lb_X8_leastSum_166, gz_sem, gz_ae, Value.category, gz_i, gz_l, gz_nu, gz_li, gz_ll, gz_la, gz_ib, gz_iz, gz_lb, gz_lz, gz_ls, gz_lc, gz_i2l, gz_l2i, gz_get, gz_ald, gz_len, gz_dup, gz_d2, gz_nar, gz_a0, gz_a1, gz_cs, gz_cv, gz_mk, gz_te, gz_j1, gz_j2, gz_jn, gz_jk, gz_jo, gz_ja, gz_sat, gz_seti, gz_seta, gz_set2, gz_inc, gz_put, gz_ast, gz_pop, gz_vs, gz_vv, gz_sup, gz_rv, gz_ri, gz_rl, gz_ra, gz_if, gz_seq, gz_sw, gz_st, gz_st2, rok_I, rok_J, rok_V, rok_Z0, rok_Z1, rok_Zi, rok_R, rok_N, bi_rok, bi_0, bi_1, fit_I, fit_J, fit_Z0, fit_Z1, fit_Zi, fit_R, fit_N, fit_aR, aty_I, aty_Z0, aty_Z1, aty_Zi, aty_J, gz_ix, List.getElem?_cons_zero, List.getElem?_cons_succ, List.getElem?_nil, List.reverse_cons, List.reverse_nil, List.nil_append, List.cons_append, List.take_succ_cons, List.take_zero, List.take_nil, List.length_cons, List.length_nil, decide_true, decide_false, decide_not, Bool.not_true, Bool.not_false, gz_nle, if_true, if_false, and_true, true_and, and_self, and_false, false_and, or_true, true_or, or_false, false_or, Bool.false_eq_true, not_true, not_false_iff, Decidable.not_not, Nat.reduceLeDiff, Nat.reduceAdd, Nat.reduceEqDiff, Nat.reduceSub, Nat.reduceLT, Nat.zero_add, reduceCtorEq, reduceIte, eq_self, i32_10, i32_01, Nat.zero_le, Nat.one_ne_zero, m, md_k, k1, l2, y2, g2, n2, s1, s2, nI_1]
    refine ⟨e', v', gz_loop_next (k := 5) (env := [.ref 15, .int (nI p), .double 0, .int (nI v), .int (nI a)]) st r1, r2, r3, fun T => ?_⟩
    rw [r4 T, s4 T]
    constructor
    · rintro ((z | ⟨b', z1, z2, z3, z4⟩) | ⟨a', b', z1, z2⟩)
      · exact Or.inl z
      · exact Or.inr ⟨a, b', Nat.le_refl _, by omega, z1, z2, z3, z4⟩
      · exact Or.inr ⟨a', b', by omega, z2⟩
    · rintro (z | ⟨a', b', z1, z2, z3, z4, z5, z6⟩)
      · exact Or.inl (Or.inl z)
      · by_cases y : a' = a
        · subst y; exact Or.inl (Or.inr ⟨b', z3, z4, z5, z6⟩)
        · exact Or.inr ⟨a', b', by omega, z2, z3, z4, z5, z6⟩
theorem lv_0 {W : Nat → Nat → Bool} {Cn Rt : Nat → Nat} {S n c : Nat} (hc : 0 < c) (hR : ∀ i, i < S → 0 < Rt i) : nds (nR Cn Rt 1 c) (rS W n) S 0 = 0 ↔ ¬ LV W Cn S n := by
  rw [← Nat.le_zero, nds_le]
  constructor
  · rintro h ⟨i, i1, i2, i3⟩
    have := h i i1 i3
    unfold nR at this
    rw [pu_le (by rw [Nat.mul_one]; exact hR i i1) (by decide), Nat.zero_mul, Nat.le_zero] at this
    have := Nat.mul_pos i2 hc
    omega
  · intro h i i1 i3
    unfold nR
    rw [pu_le (by rw [Nat.mul_one]; exact hR i i1) (by decide)]
    by_cases q : 0 < Cn i
    · exact absurd ⟨i, i1, q, i3⟩ h
    · rw [show Cn i = 0 by omega, Nat.zero_mul]; exact Nat.zero_le _
set_option maxHeartbeats 8000000 in
theorem st_lsum {h0 : gz_H} (m0 : md h0) {p S n : Nat} {Cn Rt : Nat → Nat} {W : Nat → Nat → Bool} (H : RX h0 p S n Cn Rt W) (c : Nat) (c20 : 20 ≤ c) (c90 : c ≤ 90) : ∃ h' v, se_X8_leastSum [.ref 15, .int (nI p), .int (nI c)] h0 = some (some (.int (nI v)), h') ∧ UW h0 h' ∧ v ≤ 1000 ∧ ∀ T, T ≤ 90 → (v ≤ T ↔ ¬ LV W Cn S n ∧ ∃ a b c' d, FE (nds (nR Cn Rt 1 c) (rS W n) S) n T a b c' d) := by
  have e0 : (0 : Int32) = nI 0 := rfl
  have p2 : ¬ nI p < 0 := nI_pos (by have := H.1; omega)
  have p3 : (nI p).toNatClampNeg = p := nI_clamp (by have := H.1; omega)
  have p8 := H.1
  have p16 : p < 16 := by omega
  obtain ⟨e', h', q1, q2, q3, q4⟩ := gz_forI (L := 2) (k := 4) (X := 21) (a := lb_X8_leastSum_2) 16 (fun k e h => e = [.ref 15, .int (nI p), .int (nI c), .int (nI k)] ∧ UW h0 h ∧ ∀ r, r < k → gz_I h 34 r = 0) (fun e h => e = [.ref 15, .int (nI p), .int (nI c), .int (nI 16)] ∧ UW h0 h ∧ ∀ r, r < 16 → gz_I h 34 r = 0) (by decide) (by
    intro k e h hk ⟨ee, w, r⟩
    subst ee
    have m := w.1
    have k1 : nI k < 16 := nI_lt (b := 16) hk (by decide)
    have d2 : ¬ nI k < 0 := nI_pos (by omega)
    have d3 : (nI k).toNatClampNeg = k := nI_clamp (by omega)
    refine ⟨[.ref 15, .int (nI p), .int (nI c), .int (nI (k + 1))], gz_set h 34 k (.int 0), ?_, rfl, UW_set w _ _, fun y hy => ?_⟩
    · simp only [lb_X8_leastSum_2, gz_sem, gz_ae, Value.category, gz_i, gz_l, gz_nu, gz_li, gz_ll, gz_la, gz_ib, gz_iz, gz_lb, gz_lz, gz_ls, gz_lc, gz_i2l, gz_l2i, gz_get, gz_ald, gz_len, gz_dup, gz_d2, gz_nar, gz_a0, gz_a1, gz_cs, gz_cv, gz_mk, gz_te, gz_j1, gz_j2, gz_jn, gz_jk, gz_jo, gz_ja, gz_sat, gz_seti, gz_seta, gz_set2, gz_inc, gz_put, gz_ast, gz_pop, gz_vs, gz_vv, gz_sup, gz_rv, gz_ri, gz_rl, gz_ra, gz_if, gz_seq, gz_sw, gz_st, gz_st2, rok_I, rok_J, rok_V, rok_Z0, rok_Z1, rok_Zi, rok_R, rok_N, bi_rok, bi_0, bi_1, fit_I, fit_J, fit_Z0, fit_Z1, fit_Zi, fit_R, fit_N, fit_aR, aty_I, aty_Z0, aty_Z1, aty_Zi, aty_J, gz_ix, List.getElem?_cons_zero, List.getElem?_cons_succ, List.getElem?_nil, List.reverse_cons, List.reverse_nil, List.nil_append, List.cons_append, List.take_succ_cons, List.take_zero, List.take_nil, List.length_cons, List.length_nil, decide_true, decide_false, decide_not, Bool.not_true, Bool.not_false, gz_nle, if_true, if_false, and_true, true_and, and_self, and_false, false_and, or_true, true_or, or_false, false_or, Bool.false_eq_true, not_true, not_false_iff, Decidable.not_not, Nat.reduceLeDiff, Nat.reduceAdd, Nat.reduceEqDiff, Nat.reduceSub, Nat.reduceLT, Nat.zero_add, reduceCtorEq, reduceIte, eq_self, i32_10, i32_01, Nat.zero_le, Nat.one_ne_zero, m, md_k, k1, d2, d3, hk, nI_1]
    · rw [I_set]
      by_cases z : y = k
      · rw [if_pos ⟨rfl, z⟩]
      · rw [if_neg (fun u => z u.2)]; exact r y (by omega)) (by
    intro e h ⟨ee, w, r⟩
    subst ee
    have k1 : ¬ nI 16 < 16 := by decide
    refine ⟨_, h, ?_, rfl, w, r⟩
    simp only [lb_X8_leastSum_2, gz_sem, gz_ae, Value.category, gz_i, gz_l, gz_nu, gz_li, gz_ll, gz_la, gz_ib, gz_iz, gz_lb, gz_lz, gz_ls, gz_lc, gz_i2l, gz_l2i, gz_get, gz_ald, gz_len, gz_dup, gz_d2, gz_nar, gz_a0, gz_a1, gz_cs, gz_cv, gz_mk, gz_te, gz_j1, gz_j2, gz_jn, gz_jk, gz_jo, gz_ja, gz_sat, gz_seti, gz_seta, gz_set2, gz_inc, gz_put, gz_ast, gz_pop, gz_vs, gz_vv, gz_sup, gz_rv, gz_ri, gz_rl, gz_ra, gz_if, gz_seq, gz_sw, gz_st, gz_st2, rok_I, rok_J, rok_V, rok_Z0, rok_Z1, rok_Zi, rok_R, rok_N, bi_rok, bi_0, bi_1, fit_I, fit_J, fit_Z0, fit_Z1, fit_Zi, fit_R, fit_N, fit_aR, aty_I, aty_Z0, aty_Z1, aty_Zi, aty_J, gz_ix, List.getElem?_cons_zero, List.getElem?_cons_succ, List.getElem?_nil, List.reverse_cons, List.reverse_nil, List.nil_append, List.cons_append, List.take_succ_cons, List.take_zero, List.take_nil, List.length_cons, List.length_nil, decide_true, decide_false, decide_not, Bool.not_true, Bool.not_false, gz_nle, if_true, if_false, and_true, true_and, and_self, and_false, false_and, or_true, true_or, or_false, false_or, Bool.false_eq_true, not_true, not_false_iff, Decidable.not_not, Nat.reduceLeDiff, Nat.reduceAdd, Nat.reduceEqDiff, Nat.reduceSub, Nat.reduceLT, Nat.zero_add, reduceCtorEq, reduceIte, eq_self, i32_10, i32_01, Nat.zero_le, Nat.one_ne_zero, k1]) 16 0 [.ref 15, .int (nI p), .int (nI c), .int (nI 0)] h0 (by omega) ⟨rfl, UW_rf m0, fun r hr => by omega⟩
  subst q2
  obtain ⟨e2, h2, s1, s2, s3, s5⟩ := gz_forI (L := 23) (k := 4) (X := 103) (a := lb_X8_leastSum_23) S (fun i e h => e = [.ref 15, .int (nI p), .int (nI c), .int (nI i)] ∧ UW h0 h ∧ ∀ r, r < 16 → gz_I h 34 r = nI (nds (nR Cn Rt 1 c) (rS W n) i r)) (fun e h => e = [.ref 15, .int (nI p), .int (nI c), .int (nI S)] ∧ UW h0 h ∧ ∀ r, r < 16 → gz_I h 34 r = nI (nds (nR Cn Rt 1 c) (rS W n) S r)) (by decide) (by
    intro i e h hi ⟨ee, w, r⟩
    subst ee
    have m := w.1
    obtain ⟨-, c2, n2, n4, c5, c6, c7, c8⟩ := RX_UW w H
    obtain ⟨d1, d5, d6, d7, d8⟩ := c7 i hi
    have k1 : nI i < nI S := nI_lt hi (by omega)
    have so := st_so m (p := p) (n := n) (i := i) p8 n4 (by omega) c6 (W i) (fun s hs => c8 i s hi hs)
    have rl := bm_16 (f := W i) n4
    have r2 : ¬ nI (bm (W i) n) < 0 := nI_pos (by omega)
    have r3 : (nI (bm (W i) n)).toNatClampNeg = bm (W i) n := nI_clamp (by omega)
    have w1 : 8 * nI p + nI i = nI (8 * p + i) := by rw [show (8 : Int32) = nI 8 from rfl, pk_mul, nI_add]
    have a2 : ¬ nI (8 * p + i) < 0 := nI_pos (by omega)
    have a3 : (nI (8 * p + i)).toNatClampNeg = 8 * p + i := nI_clamp (by omega)
    have a4 : 8 * p + i < 64 := by omega
    have l3 : nI (Cn i) * nI c = nI (Cn i * c) := pk_mul _ _
    have l4 : nI (Cn i * c) + nI (Rt i) = nI (Cn i * c + Rt i) := nI_add _ _
    have l5 : nI (Cn i * c + Rt i) - 1 = nI (Cn i * c + Rt i - 1) := pk_sub (b := 1) (by omega)
    have b1 : Cn i * c ≤ 3600 * 90 := Nat.mul_le_mul d5 c90
    have l6 : nI (Cn i * c + Rt i - 1) / nI (Rt i) = nI (nR Cn Rt 1 c i) := by
      rw [pk_div (by omega) (by omega) (by omega)]
      unfold nR pu
      rw [Nat.mul_one, Nat.min_eq_right]
      exact Nat.le_trans (Nat.div_le_self _ _) (by omega)
    have l7 : ¬ nI (Rt i) = 0 := nI_ne0 (by omega) (by omega)
    have nb := nR_le Cn Rt 1 c i
    have nd : nds (nR Cn Rt 1 c) (rS W n) i (bm (W i) n) ≤ 1000000 := (nds_le i).mpr (fun k _ _ => nR_le Cn Rt 1 c k)
    have rr := r (bm (W i) n) rl
    have mx := st_max (nI (nds (nR Cn Rt 1 c) (rS W n) i (bm (W i) n))) (nI (nR Cn Rt 1 c i)) h
    rw [mx_nI (by omega) (by omega)] at mx
    refine ⟨[.ref 15, .int (nI p), .int (nI c), .int (nI (i + 1)), .int (nI (bm (W i) n))], gz_set h 34 (bm (W i) n) (.int (nI (max (nds (nR Cn Rt 1 c) (rS W n) i (bm (W i) n)) (nR Cn Rt 1 c i)))), ?_, rfl, UW_set w _ _, fun y hy => ?_⟩
    · simp only [lb_X8_leastSum_23, gz_sem, gz_ae, Value.category, gz_i, gz_l, gz_nu, gz_li, gz_ll, gz_la, gz_ib, gz_iz, gz_lb, gz_lz, gz_ls, gz_lc, gz_i2l, gz_l2i, gz_get, gz_ald, gz_len, gz_dup, gz_d2, gz_nar, gz_a0, gz_a1, gz_cs, gz_cv, gz_mk, gz_te, gz_j1, gz_j2, gz_jn, gz_jk, gz_jo, gz_ja, gz_sat, gz_seti, gz_seta, gz_set2, gz_inc, gz_put, gz_ast, gz_pop, gz_vs, gz_vv, gz_sup, gz_rv, gz_ri, gz_rl, gz_ra, gz_if, gz_seq, gz_sw, gz_st, gz_st2, rok_I, rok_J, rok_V, rok_Z0, rok_Z1, rok_Zi, rok_R, rok_N, bi_rok, bi_0, bi_1, fit_I, fit_J, fit_Z0, fit_Z1, fit_Zi, fit_R, fit_N, fit_aR, aty_I, aty_Z0, aty_Z1, aty_Zi, aty_J, gz_ix, List.getElem?_cons_zero, List.getElem?_cons_succ, List.getElem?_nil, List.reverse_cons, List.reverse_nil, List.nil_append, List.cons_append, List.take_succ_cons, List.take_zero, List.take_nil, List.length_cons, List.length_nil, decide_true, decide_false, decide_not, Bool.not_true, Bool.not_false, gz_nle, if_true, if_false, and_true, true_and, and_self, and_false, false_and, or_true, true_or, or_false, false_or, Bool.false_eq_true, not_true, not_false_iff, Decidable.not_not, Nat.reduceLeDiff, Nat.reduceAdd, Nat.reduceEqDiff, Nat.reduceSub, Nat.reduceLT, Nat.zero_add, reduceCtorEq, reduceIte, eq_self, i32_10, i32_01, Nat.zero_le, Nat.one_ne_zero, m, md_k, p2, p3, p8, c5, k1, so, r2, r3, rl, rr, w1, a2, a3, a4, d1, d6, l3, l4, l5, l6, l7, mx, nI_1]
    · rw [I_set]
      show _ = nI (if bm (W i) n = y then _ else _)
      by_cases z : bm (W i) n = y
      · rw [if_pos ⟨rfl, z.symm⟩, if_pos z, z]
      · rw [if_neg (fun u => z u.2.symm), if_neg z]; exact r y hy) (by
    intro e h ⟨ee, w, r⟩
    subst ee
    have m := w.1
    obtain ⟨-, c2, n2, n4, c5, c6, c7, c8⟩ := RX_UW w H
    have k1 : ¬ nI S < nI S := nI_nlt (Nat.le_refl _) (by omega)
    refine ⟨_, h, ?_, rfl, w, r⟩
    simp only [lb_X8_leastSum_23, gz_sem, gz_ae, Value.category, gz_i, gz_l, gz_nu, gz_li, gz_ll, gz_la, gz_ib, gz_iz, gz_lb, gz_lz, gz_ls, gz_lc, gz_i2l, gz_l2i, gz_get, gz_ald, gz_len, gz_dup, gz_d2, gz_nar, gz_a0, gz_a1, gz_cs, gz_cv, gz_mk, gz_te, gz_j1, gz_j2, gz_jn, gz_jk, gz_jo, gz_ja, gz_sat, gz_seti, gz_seta, gz_set2, gz_inc, gz_put, gz_ast, gz_pop, gz_vs, gz_vv, gz_sup, gz_rv, gz_ri, gz_rl, gz_ra, gz_if, gz_seq, gz_sw, gz_st, gz_st2, rok_I, rok_J, rok_V, rok_Z0, rok_Z1, rok_Zi, rok_R, rok_N, bi_rok, bi_0, bi_1, fit_I, fit_J, fit_Z0, fit_Z1, fit_Zi, fit_R, fit_N, fit_aR, aty_I, aty_Z0, aty_Z1, aty_Zi, aty_J, gz_ix, List.getElem?_cons_zero, List.getElem?_cons_succ, List.getElem?_nil, List.reverse_cons, List.reverse_nil, List.nil_append, List.cons_append, List.take_succ_cons, List.take_zero, List.take_nil, List.length_cons, List.length_nil, decide_true, decide_false, decide_not, Bool.not_true, Bool.not_false, gz_nle, if_true, if_false, and_true, true_and, and_self, and_false, false_and, or_true, true_or, or_false, false_or, Bool.false_eq_true, not_true, not_false_iff, Decidable.not_not, Nat.reduceLeDiff, Nat.reduceAdd, Nat.reduceEqDiff, Nat.reduceSub, Nat.reduceLT, Nat.zero_add, reduceCtorEq, reduceIte, eq_self, i32_10, i32_01, Nat.zero_le, Nat.one_ne_zero, m, md_k, p2, p3, p8, c5, k1]) S 0 [.ref 15, .int (nI p), .int (nI c), .int (nI 0)] h' (by omega) ⟨rfl, q3, fun r hr => q4 r hr⟩
  subst s2
  have nb : ∀ r, nds (nR Cn Rt 1 c) (rS W n) S r ≤ 1000000 := fun r => (nds_le S).mpr (fun k _ _ => nR_le Cn Rt 1 c k)
  have hR : ∀ i, i < S → 0 < Rt i := fun i hi => by have := (H.2.2.2.2.2.2.1 i hi).2.2.2.1; omega
  have lv := lv_0 (W := W) (Cn := Cn) (Rt := Rt) (S := S) (n := n) (c := c) (by omega) hR
  have hS := H.2.1
  have n2' := H.2.2.1
  have n4' := H.2.2.2.1
  have Z := nds_Z (nR Cn Rt 1 c) W S n
  generalize hN : nds (nR Cn Rt 1 c) (rS W n) S = N at *
  have m2 := s3.1
  have l00 : ¬ (0 : Int32) < 0 := by decide
  have y00 : (0 : Int32).toNatClampNeg = 0 := rfl
  have g00 : 0 < 16 := by decide
  have n0 := s5 0 (by decide)
  rw [← e0] at q1 s1
  by_cases z0 : N 0 = 0
  · have nl := lv.mp z0
    have t0 : ¬ 0 < nI (N 0) := by rw [z0]; decide
    obtain ⟨e3, h3, u1, u2, u3, u4⟩ := gz_forI (L := 118) (k := 4) (X := 154) (a := lb_X8_leastSum_118) n (fun s e h => e = [.ref 15, .int (nI p), .double 0, .int (nI s)] ∧ UW h0 h ∧ ∀ r, r < 16 → gz_I h 34 r = nI (nP N s r)) (fun e h => e = [.ref 15, .int (nI p), .double 0, .int (nI n)] ∧ UW h0 h ∧ ∀ r, r < 16 → gz_I h 34 r = nI (nP N n r)) (by decide) (by
      intro s e h hs ⟨ee, w, r⟩
      subst ee
      have m := w.1
      obtain ⟨-, c2, -, -, c5, c6, -, -⟩ := RX_UW w H
      have k1 : nI s < nI n := nI_lt hs (by omega)
      have o1 := one_shl s (by omega)
      have pw : 2 ^ s < 16 := by
        have := Nat.pow_lt_pow_right (a := 2) (by omega) (show s < 4 by omega)
        omega
      have d2 : ¬ nI (2 ^ s) < 0 := nI_pos (by omega)
      have d3 : (nI (2 ^ s)).toNatClampNeg = 2 ^ s := nI_clamp (by omega)
      have rr := r (2 ^ s) pw
      have nb2 : nP N s (2 ^ s) ≤ 1000000 := (nP_le s).mpr ⟨nb _, fun _ _ _ => by decide⟩
      have mx := st_max 1 (nI (nP N s (2 ^ s))) h
      rw [show (1 : Int32) = nI 1 from rfl, mx_nI (by decide) (by omega)] at mx
      have e1 : nI 1 = (1 : Int32) := rfl
      rw [e1] at mx
      refine ⟨[.ref 15, .int (nI p), .double 0, .int (nI (s + 1))], gz_set h 34 (2 ^ s) (.int (nI (max 1 (nP N s (2 ^ s))))), ?_, rfl, UW_set w _ _, fun y hy => ?_⟩
      · simp only [lb_X8_leastSum_118, gz_sem, gz_ae, Value.category, gz_i, gz_l, gz_nu, gz_li, gz_ll, gz_la, gz_ib, gz_iz, gz_lb, gz_lz, gz_ls, gz_lc, gz_i2l, gz_l2i, gz_get, gz_ald, gz_len, gz_dup, gz_d2, gz_nar, gz_a0, gz_a1, gz_cs, gz_cv, gz_mk, gz_te, gz_j1, gz_j2, gz_jn, gz_jk, gz_jo, gz_ja, gz_sat, gz_seti, gz_seta, gz_set2, gz_inc, gz_put, gz_ast, gz_pop, gz_vs, gz_vv, gz_sup, gz_rv, gz_ri, gz_rl, gz_ra, gz_if, gz_seq, gz_sw, gz_st, gz_st2, rok_I, rok_J, rok_V, rok_Z0, rok_Z1, rok_Zi, rok_R, rok_N, bi_rok, bi_0, bi_1, fit_I, fit_J, fit_Z0, fit_Z1, fit_Zi, fit_R, fit_N, fit_aR, aty_I, aty_Z0, aty_Z1, aty_Zi, aty_J, gz_ix, List.getElem?_cons_zero, List.getElem?_cons_succ, List.getElem?_nil, List.reverse_cons, List.reverse_nil, List.nil_append, List.cons_append, List.take_succ_cons, List.take_zero, List.take_nil, List.length_cons, List.length_nil, decide_true, decide_false, decide_not, Bool.not_true, Bool.not_false, gz_nle, if_true, if_false, and_true, true_and, and_self, and_false, false_and, or_true, true_or, or_false, false_or, Bool.false_eq_true, not_true, not_false_iff, Decidable.not_not, Nat.reduceLeDiff, Nat.reduceAdd, Nat.reduceEqDiff, Nat.reduceSub, Nat.reduceLT, Nat.zero_add, reduceCtorEq, reduceIte, eq_self, i32_10, i32_01, Nat.zero_le, Nat.one_ne_zero, m, md_k, p2, p3, p16, c6, k1, o1, d2, d3, pw, rr, mx, nI_1]
      · rw [I_set]
        show _ = nI (if y = 2 ^ s then _ else _)
        by_cases z : y = 2 ^ s
        · rw [if_pos ⟨rfl, z⟩, if_pos z, z]
        · rw [if_neg (fun u => z u.2), if_neg z]; exact r y hy) (by
      intro e h ⟨ee, w, r⟩
      subst ee
      have m := w.1
      obtain ⟨-, c2, -, -, c5, c6, -, -⟩ := RX_UW w H
      have k1 : ¬ nI n < nI n := nI_nlt (Nat.le_refl _) (by omega)
      refine ⟨_, h, ?_, rfl, w, r⟩
      simp only [lb_X8_leastSum_118, gz_sem, gz_ae, Value.category, gz_i, gz_l, gz_nu, gz_li, gz_ll, gz_la, gz_ib, gz_iz, gz_lb, gz_lz, gz_ls, gz_lc, gz_i2l, gz_l2i, gz_get, gz_ald, gz_len, gz_dup, gz_d2, gz_nar, gz_a0, gz_a1, gz_cs, gz_cv, gz_mk, gz_te, gz_j1, gz_j2, gz_jn, gz_jk, gz_jo, gz_ja, gz_sat, gz_seti, gz_seta, gz_set2, gz_inc, gz_put, gz_ast, gz_pop, gz_vs, gz_vv, gz_sup, gz_rv, gz_ri, gz_rl, gz_ra, gz_if, gz_seq, gz_sw, gz_st, gz_st2, rok_I, rok_J, rok_V, rok_Z0, rok_Z1, rok_Zi, rok_R, rok_N, bi_rok, bi_0, bi_1, fit_I, fit_J, fit_Z0, fit_Z1, fit_Zi, fit_R, fit_N, fit_aR, aty_I, aty_Z0, aty_Z1, aty_Zi, aty_J, gz_ix, List.getElem?_cons_zero, List.getElem?_cons_succ, List.getElem?_nil, List.reverse_cons, List.reverse_nil, List.nil_append, List.cons_append, List.take_succ_cons, List.take_zero, List.take_nil, List.length_cons, List.length_nil, decide_true, decide_false, decide_not, Bool.not_true, Bool.not_false, gz_nle, if_true, if_false, and_true, true_and, and_self, and_false, false_and, or_true, true_or, or_false, false_or, Bool.false_eq_true, not_true, not_false_iff, Decidable.not_not, Nat.reduceLeDiff, Nat.reduceAdd, Nat.reduceEqDiff, Nat.reduceSub, Nat.reduceLT, Nat.zero_add, reduceCtorEq, reduceIte, eq_self, i32_10, i32_01, Nat.zero_le, Nat.one_ne_zero, m, md_k, p2, p3, p16, c6, k1]) n 0 [.ref 15, .int (nI p), .double 0, .int (nI 0)] h2 (by omega) ⟨rfl, s3, fun r hr => s5 r hr⟩
    subst u2
    rw [← e0] at u1
    have m3 := u3.1
    have nbP : ∀ r, nP N n r ≤ 1000000 := fun r => (nP_le n).mpr ⟨nb _, fun _ _ _ => by decide⟩
    obtain ⟨e4, v, v1, v2, v3, v4⟩ := ls_out m3 (RX_UW u3 H) (N := nP N n) (fun r hr => ⟨u4 r hr, nbP r⟩) (91 - nP N n 1) (nP N n 1) 1000 rfl (nbP 1) (Nat.le_refl _)
    have l1 : ¬ (1 : Int32) < 0 := by decide
    have y1 : (1 : Int32).toNatClampNeg = 1 := rfl
    have g1 : 1 < 16 := by decide
    have u41 := u4 1 (by decide)
    have e1000 : nI 1000 = (1000 : Int32) := rfl
    rw [e1000] at v1
    refine ⟨h3, v, ?_, u3, v3, fun T hT => ?_⟩
    · simp only [se_X8_leastSum, sm_X8_leastSum, gz_sem, gz_ae, Value.category, gz_i, gz_l, gz_nu, gz_li, gz_ll, gz_la, gz_ib, gz_iz, gz_lb, gz_lz, gz_ls, gz_lc, gz_i2l, gz_l2i, gz_get, gz_ald, gz_len, gz_dup, gz_d2, gz_nar, gz_a0, gz_a1, gz_cs, gz_cv, gz_mk, gz_te, gz_j1, gz_j2, gz_jn, gz_jk, gz_jo, gz_ja, gz_sat, gz_seti, gz_seta, gz_set2, gz_inc, gz_put, gz_ast, gz_pop, gz_vs, gz_vv, gz_sup, gz_rv, gz_ri, gz_rl, gz_ra, gz_if, gz_seq, gz_sw, gz_st, gz_st2, rok_I, rok_J, rok_V, rok_Z0, rok_Z1, rok_Zi, rok_R, rok_N, bi_rok, bi_0, bi_1, fit_I, fit_J, fit_Z0, fit_Z1, fit_Zi, fit_R, fit_N, fit_aR, aty_I, aty_Z0, aty_Z1, aty_Zi, aty_J, gz_ix, List.getElem?_cons_zero, List.getElem?_cons_succ, List.getElem?_nil, List.reverse_cons, List.reverse_nil, List.nil_append, List.cons_append, List.take_succ_cons, List.take_zero, List.take_nil, List.length_cons, List.length_nil, decide_true, decide_false, decide_not, Bool.not_true, Bool.not_false, gz_nle, if_true, if_false, and_true, true_and, and_self, and_false, false_and, or_true, true_or, or_false, false_or, Bool.false_eq_true, not_true, not_false_iff, Decidable.not_not, Nat.reduceLeDiff, Nat.reduceAdd, Nat.reduceEqDiff, Nat.reduceSub, Nat.reduceLT, Nat.zero_add, reduceCtorEq, reduceIte, eq_self, i32_10, i32_01, Nat.zero_le, Nat.one_ne_zero, q1, s1, m2, md_k, l00, y00, g00, n0, t0, u1, m3, l1, y1, g1, u41, v1, v2]
    · rw [v4 T]
      constructor
      · rintro (z | ⟨a', b', z1, z2, z3, z4, z5, z6⟩)
        · omega
        · refine ⟨nl, ?_⟩
          have f1 := nP_1 (N := N) (s := n) (k := 0) (by omega)
          have f2 := nP_1 (N := N) (s := n) (k := 1) (by omega)
          obtain ⟨a, b, c', d, F⟩ := oth_fe n2' n4' (nP_Z Z) (a := a') (b := b') (T := T) (by
            have : 1 ≤ nP N n 1 := f1
            exact Nat.max_le.mpr ⟨by omega, z1⟩) (by
            have : 1 ≤ nP N n 2 := f2
            exact Nat.max_le.mpr ⟨by omega, z3⟩) z5 z6
          exact ⟨a, b, c', d, (FE_nP n4').mp F⟩
      · rintro ⟨-, a, b, c', d, F⟩
        have F' := (FE_nP n4').mpr F
        obtain ⟨g1', g2', g3', g4'⟩ := fe_oth n2' n4' F'
        have sum := F.1.2.2.2.2.2.2
        exact Or.inr ⟨a, b, (Nat.max_le.mp g1').2, by omega, (Nat.max_le.mp g2').2, by omega, g3', g4'⟩
  · have t0 : 0 < nI (N 0) := nI_gt0 (Nat.pos_of_ne_zero z0) (by have := nb 0; omega)
    have yl : LV W Cn S n := Classical.byContradiction (fun z => z0 (lv.mpr z))
    have e1000 : nI 1000 = (1000 : Int32) := rfl
    refine ⟨h2, 1000, ?_, s3, Nat.le_refl _, fun T hT => ⟨fun z => by omega, fun z => absurd yl z.1⟩⟩
    rw [e1000]
    simp only [se_X8_leastSum, sm_X8_leastSum, gz_sem, gz_ae, Value.category, gz_i, gz_l, gz_nu, gz_li, gz_ll, gz_la, gz_ib, gz_iz, gz_lb, gz_lz, gz_ls, gz_lc, gz_i2l, gz_l2i, gz_get, gz_ald, gz_len, gz_dup, gz_d2, gz_nar, gz_a0, gz_a1, gz_cs, gz_cv, gz_mk, gz_te, gz_j1, gz_j2, gz_jn, gz_jk, gz_jo, gz_ja, gz_sat, gz_seti, gz_seta, gz_set2, gz_inc, gz_put, gz_ast, gz_pop, gz_vs, gz_vv, gz_sup, gz_rv, gz_ri, gz_rl, gz_ra, gz_if, gz_seq, gz_sw, gz_st, gz_st2, rok_I, rok_J, rok_V, rok_Z0, rok_Z1, rok_Zi, rok_R, rok_N, bi_rok, bi_0, bi_1, fit_I, fit_J, fit_Z0, fit_Z1, fit_Zi, fit_R, fit_N, fit_aR, aty_I, aty_Z0, aty_Z1, aty_Zi, aty_J, gz_ix, List.getElem?_cons_zero, List.getElem?_cons_succ, List.getElem?_nil, List.reverse_cons, List.reverse_nil, List.nil_append, List.cons_append, List.take_succ_cons, List.take_zero, List.take_nil, List.length_cons, List.length_nil, decide_true, decide_false, decide_not, Bool.not_true, Bool.not_false, gz_nle, if_true, if_false, and_true, true_and, and_self, and_false, false_and, or_true, true_or, or_false, false_or, Bool.false_eq_true, not_true, not_false_iff, Decidable.not_not, Nat.reduceLeDiff, Nat.reduceAdd, Nat.reduceEqDiff, Nat.reduceSub, Nat.reduceLT, Nat.zero_add, reduceCtorEq, reduceIte, eq_self, i32_10, i32_01, Nat.zero_le, Nat.one_ne_zero, q1, s1, m2, md_k, l00, y00, g00, n0, t0]
