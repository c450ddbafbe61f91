/-- only the reference's needs change -/
def UW (h h' : gz_H) : Prop := md h' ∧ fr7 h h' ∧ ∀ b i, b ≠ 34 → gz_v h' b i = gz_v h b i
theorem UW_rf {h : gz_H} (m : md h) : UW h h := ⟨m, fr7_rf _, fun _ _ _ => rfl⟩
theorem UW_set {h h' : gz_H} (w : UW h h') (i : Nat) (x : Int32) : UW h (gz_set h' 34 i (.int x)) := ⟨md_setI w.1 _ _ _ (by omega), fr7_set w.2.1 (by omega), fun b i' hb => by rw [gz_v_set, if_neg (fun z => hb z.1)]; exact w.2.2 b i' hb⟩
theorem UW_I {h h' : gz_H} (w : UW h h') {b : Nat} (hb : b ≠ 34) (i : Nat) : gz_I h' b i = gz_I h b i := vI (w.2.2 b i hb)
/-- the reference's junction and plan -/
def RX (h : gz_H) (p S n : Nat) (Cn Rt : Nat → Nat) (W : Nat → Nat → Bool) : Prop := p < 8 ∧ S ≤ 8 ∧ 2 ≤ n ∧ n ≤ 4 ∧ gz_I h 16 p = nI S ∧ gz_I h 25 p = nI n ∧ (∀ i, i < S → gz_I h 18 (8 * p + i) = nI (Cn i) ∧ Cn i ≤ 3600 ∧ gz_I h 19 (8 * p + i) = nI (Rt i) ∧ 600 ≤ Rt i ∧ Rt i ≤ 3600) ∧ ∀ i s, i < S → s < n → W i s = bt (gz_I h 26 (4 * p + s)) i
theorem RX_UW {h h' : gz_H} {p S n : Nat} {Cn Rt : Nat → Nat} {W : Nat → Nat → Bool} (w : UW h h') (H : RX h p S n Cn Rt W) : RX h' p S n Cn Rt W := by
  obtain ⟨c1, c2, c3, c4, c5, c6, c7, c8⟩ := H
  refine ⟨c1, c2, c3, c4, by rw [UW_I w (by omega)]; exact c5, by rw [UW_I w (by omega)]; exact c6, fun i hi => ?_, fun i s hi hs => ?_⟩
  · rw [UW_I w (by omega), UW_I w (by omega)]; exact c7 i hi
  · rw [UW_I w (by omega)]; exact c8 i s hi hs
def ot (N : Nat → Nat) (a b k t0 : Nat) : Nat → Nat
  | 0 => t0
  | j + 1 => if (4 + j) / 4 = k then max (ot N a b k t0 j) (oN N (4 + j) a b) else ot N a b k t0 j
theorem ot_3 (N : Nat → Nat) (a b : Nat) : ot N a b 1 1 12 = o3 N a b := rfl
theorem ot_4 (N : Nat → Nat) (n a b : Nat) : ot N a b 2 (if 3 < n then 1 else 0) 12 = o4 N n a b := rfl
theorem ot_b (N : Nat → Nat) (a b : Nat) : ot N a b 3 0 12 = ob N a b := rfl
theorem ot_bd {N : Nat → Nat} {a b k t0 : Nat} (h0 : t0 ≤ 1) (hN : ∀ r, r < 16 → N r ≤ 1000000) : ∀ j, j ≤ 12 → ot N a b k t0 j ≤ 1000000
  | 0, _ => by show t0 ≤ _; omega
  | j + 1, hj => by
    have ih := ot_bd (a := a) (b := b) (k := k) h0 hN j (by omega)
    have := hN (4 + j) (by omega)
    show (if _ then max _ (oN N (4 + j) a b) else _) ≤ _
    have o : oN N (4 + j) a b ≤ N (4 + j) := by unfold oN; omega
    split
    · exact Nat.max_le.mpr ⟨ih, by omega⟩
    · exact ih
theorem r_a1 : ∀ r, r < 16 → decide (nI r &&& 1 = 1) = decide (r % 2 = 1) := by decide +kernel
theorem r_a2 : ∀ r, r < 16 → decide (nI r &&& 2 = 2) = decide (r / 2 % 2 = 1) := by decide +kernel
theorem r_a3 : ∀ r, r < 16 → nI r >>> ((2 : Int32) &&& 31) = nI (r / 4) := by decide +kernel
def N8 (h : gz_H) (N : Nat → Nat) : Prop := ∀ r, r < 16 → gz_I h 34 r = nI (N r) ∧ N r ≤ 1000000
set_option maxHeartbeats 8000000 in
theorem st_oth {h : gz_H} (m : md h) {p S n : Nat} {Cn Rt : Nat → Nat} {W : Nat → Nat → Bool} (H : RX h p S n Cn Rt W) {N : Nat → Nat} (nh : N8 h N) (a b : Nat) (ha : a ≤ 1000000) (hb : b ≤ 1000000) : se_X8_others [.ref 15, .int (nI p), .int (nI a), .int (nI b)] h = some (some (.int (nI (oth N n a b))), h) := by
  obtain ⟨c1, c2, n2, n4, -, c6, -⟩ := H
  have d2 : ¬ nI p < 0 := nI_pos (by omega)
  have d3 : (nI p).toNatClampNeg = p := nI_clamp (by omega)
  have d4 : p < 16 := by omega
  by_cases q2 : n = 2
  · have t : decide (nI n = (2 : Int32)) = true := by rw [q2]; decide
    have e : oth N n a b = 0 := by unfold oth; rw [if_pos q2]
    rw [e, nI_0]
    simp only [se_X8_others, sm_X8_others, gz_sem, gz_ae, Value.category, gz_i, gz_l, gz_nu, gz_li, gz_ll, gz_la, gz_ib, gz_iz, gz_lb, gz_lz, gz_ls, gz_lc, gz_i2l, gz_l2i, gz_get, gz_ald, gz_len, gz_dup, gz_d2, gz_nar, gz_a0, gz_a1, gz_cs, gz_cv, gz_mk, gz_te, gz_j1, gz_j2, gz_jn, gz_jk, gz_jo, gz_ja, gz_sat, gz_seti, gz_seta, gz_set2, gz_inc, gz_put, gz_ast, gz_pop, gz_vs, gz_vv, gz_sup, gz_rv, gz_ri, gz_rl, gz_ra, gz_if, gz_seq, gz_sw, gz_st, gz_st2, rok_I, rok_J, rok_V, rok_Z0, rok_Z1, rok_Zi, rok_R, rok_N, bi_rok, bi_0, bi_1, fit_I, fit_J, fit_Z0, fit_Z1, fit_Zi, fit_R, fit_N, fit_aR, aty_I, aty_Z0, aty_Z1, aty_Zi, aty_J, gz_ix, List.getElem?_cons_zero, List.getElem?_cons_succ, List.getElem?_nil, List.reverse_cons, List.reverse_nil, List.nil_append, List.cons_append, List.take_succ_cons, List.take_zero, List.take_nil, List.length_cons, List.length_nil, decide_true, decide_false, decide_not, Bool.not_true, Bool.not_false, gz_nle, if_true, if_false, and_true, true_and, and_self, and_false, false_and, or_true, true_or, or_false, false_or, Bool.false_eq_true, not_true, not_false_iff, Decidable.not_not, Nat.reduceLeDiff, Nat.reduceAdd, Nat.reduceEqDiff, Nat.reduceSub, Nat.reduceLT, Nat.zero_add, reduceCtorEq, reduceIte, eq_self, i32_10, i32_01, Nat.zero_le, Nat.one_ne_zero, m, md_k, d2, d3, d4, c6, t]
  have t : ¬ nI n = (2 : Int32) := fun z => q2 ((nI_eq (b := 2) (by omega) (by omega)).mp z)
  have hN : ∀ r, r < 16 → N r ≤ 1000000 := fun r hr => (nh r hr).2
  have l := gz_forF (L := 38) (k := 8) (X := 137) (a := lb_X8_others_38) 12 (fun j => [.ref 15, .int (nI p), .int (nI a), .int (nI b), .int (nI (ot N a b 1 1 j)), .int (nI (ot N a b 2 (if 3 < n then 1 else 0) j)), .int (nI (ot N a b 3 0 j)), .int (nI (4 + j))]) (fun j => [.ref 15, .int (nI p), .int (nI a), .int (nI b), .int (nI (ot N a b 1 1 (j + 1))), .int (nI (ot N a b 2 (if 3 < n then 1 else 0) (j + 1))), .int (nI (ot N a b 3 0 (j + 1))), .int (nI (4 + j + 1))]) (fun _ => h) (env' := [.ref 15, .int (nI p), .int (nI a), .int (nI b), .int (nI (ot N a b 1 1 12)), .int (nI (ot N a b 2 (if 3 < n then 1 else 0) 12)), .int (nI (ot N a b 3 0 12)), .int (nI 16)]) (h' := h) (by decide) (fun _ => rfl) (fun j hj => by
    have k1 : nI (4 + j) < 16 := nI_lt (b := 16) (by omega) (by decide)
    have i2 : ¬ nI (4 + j) < 0 := nI_pos (by omega)
    have i3 : (nI (4 + j)).toNatClampNeg = 4 + j := nI_clamp (by omega)
    have i4 : 4 + j < 16 := by omega
    obtain ⟨n1, nb⟩ := nh (4 + j) i4
    have f1 := r_a1 (4 + j) i4
    have f2 := r_a2 (4 + j) i4
    have f3 := r_a3 (4 + j) i4
    have b3 := ot_bd (a := a) (b := b) (k := 1) (t0 := 1) (Nat.le_refl _) hN j (by omega)
    have b4 := ot_bd (a := a) (b := b) (k := 2) (t0 := if 3 < n then 1 else 0) (by split <;> omega) hN j (by omega)
    have bb := ot_bd (a := a) (b := b) (k := 3) (t0 := 0) (by omega) hN j (by omega)
    have mx : ∀ t, t ≤ 1000000 → se_J9_max_7cf53 [.int (nI t), .int (nI (N (4 + j)) - nI (if (4 + j) % 2 = 1 then a else 0) - nI (if (4 + j) / 2 % 2 = 1 then b else 0))] h = some (some (.int (nI (max t (oN N (4 + j) a b)))), h) := fun t ht => by
      rw [st_max, i_sub2, mx_sub (by omega) (by omega) (by split <;> split <;> omega)]
      unfold oN
      rw [Nat.sub_sub]
    have m3 := mx _ b3
    have m4 := mx _ b4
    have mb := mx _ bb
    have z0 : nI 0 = (0 : Int32) := rfl
    have s3 : ot N a b 1 1 (j + 1) = if (4 + j) / 4 = 1 then max (ot N a b 1 1 j) (oN N (4 + j) a b) else ot N a b 1 1 j := rfl
    have s4 : ot N a b 2 (if 3 < n then 1 else 0) (j + 1) = if (4 + j) / 4 = 2 then max (ot N a b 2 (if 3 < n then 1 else 0) j) (oN N (4 + j) a b) else ot N a b 2 (if 3 < n then 1 else 0) j := rfl
    have sb : ot N a b 3 0 (j + 1) = if (4 + j) / 4 = 3 then max (ot N a b 3 0 j) (oN N (4 + j) a b) else ot N a b 3 0 j := rfl
    rw [s3, s4, sb]
    generalize ot N a b 1 1 j = t3 at *
    generalize ot N a b 2 (if 3 < n then 1 else 0) j = t4 at *
    generalize ot N a b 3 0 j = tb' at *
    generalize oN N (4 + j) a b = o at *
    have k4 : (4 + j) / 4 = 1 ∨ (4 + j) / 4 = 2 ∨ (4 + j) / 4 = 3 := by omega
    have x10 : ¬ (2 : Int32) = 1 := by decide
    have x31 : ¬ (3 : Int32) = 1 := by decide
    have x32 : ¬ (3 : Int32) = 2 := by decide
    have e1 : nI 1 = (1 : Int32) := rfl
    have e2 : nI 2 = (2 : Int32) := rfl
    have e3 : nI 3 = (3 : Int32) := rfl
    by_cases p1 : (4 + j) % 2 = 1
    · by_cases p2 : (4 + j) / 2 % 2 = 1
      · rw [if_pos p1, if_pos p2] at m3 m4 mb
        rw [decide_eq_true p1] at f1
        rw [decide_eq_true p2] at f2
        rcases k4 with k | k | k
        · rw [k, e1] at f3
          rw [if_pos k, if_neg (by omega), if_neg (by omega)]
          simp only [lb_X8_others_38, gz_sem, gz_ae, Value.category, gz_i, gz_l, gz_nu, gz_li, gz_ll, gz_la, gz_ib, gz_iz, gz_lb, gz_lz, gz_ls, gz_lc, gz_i2l, gz_l2i, gz_get, gz_ald, gz_len, gz_dup, gz_d2, gz_nar, gz_a0, gz_a1, gz_cs, gz_cv, gz_mk, gz_te, gz_j1, gz_j2, gz_jn, gz_jk, gz_jo, gz_ja, gz_sat, gz_seti, gz_seta, gz_set2, gz_inc, gz_put, gz_ast, gz_pop, gz_vs, gz_vv, gz_sup, gz_rv, gz_ri, gz_rl, gz_ra, gz_if, gz_seq, gz_sw, gz_st, gz_st2, rok_I, rok_J, rok_V, rok_Z0, rok_Z1, rok_Zi, rok_R, rok_N, bi_rok, bi_0, bi_1, fit_I, fit_J, fit_Z0, fit_Z1, fit_Zi, fit_R, fit_N, fit_aR, aty_I, aty_Z0, aty_Z1, aty_Zi, aty_J, gz_ix, List.getElem?_cons_zero, List.getElem?_cons_succ, List.getElem?_nil, List.reverse_cons, List.reverse_nil, List.nil_append, List.cons_append, List.take_succ_cons, List.take_zero, List.take_nil, List.length_cons, List.length_nil, decide_true, decide_false, decide_not, Bool.not_true, Bool.not_false, gz_nle, if_true, if_false, and_true, true_and, and_self, and_false, false_and, or_true, true_or, or_false, false_or, Bool.false_eq_true, not_true, not_false_iff, Decidable.not_not, Nat.reduceLeDiff, Nat.reduceAdd, Nat.reduceEqDiff, Nat.reduceSub, Nat.reduceLT, Nat.zero_add, reduceCtorEq, reduceIte, eq_self, i32_10, i32_01, Nat.zero_le, Nat.one_ne_zero, m, md_k, k1, i2, i3, i4, n1, f1, f2, f3, m3, nI_1]
        · rw [k, e2] at f3
          rw [if_neg (by omega), if_pos k, if_neg (by omega)]
          simp only [lb_X8_others_38, gz_sem, gz_ae, Value.category, gz_i, gz_l, gz_nu, gz_li, gz_ll, gz_la, gz_ib, gz_iz, gz_lb, gz_lz, gz_ls, gz_lc, gz_i2l, gz_l2i, gz_get, gz_ald, gz_len, gz_dup, gz_d2, gz_nar, gz_a0, gz_a1, gz_cs, gz_cv, gz_mk, gz_te, gz_j1, gz_j2, gz_jn, gz_jk, gz_jo, gz_ja, gz_sat, gz_seti, gz_seta, gz_set2, gz_inc, gz_put, gz_ast, gz_pop, gz_vs, gz_vv, gz_sup, gz_rv, gz_ri, gz_rl, gz_ra, gz_if, gz_seq, gz_sw, gz_st, gz_st2, rok_I, rok_J, rok_V, rok_Z0, rok_Z1, rok_Zi, rok_R, rok_N, bi_rok, bi_0, bi_1, fit_I, fit_J, fit_Z0, fit_Z1, fit_Zi, fit_R, fit_N, fit_aR, aty_I, aty_Z0, aty_Z1, aty_Zi, aty_J, gz_ix, List.getElem?_cons_zero, List.getElem?_cons_succ, List.getElem?_nil, List.reverse_cons, List.reverse_nil, List.nil_append, List.cons_append, List.take_succ_cons, List.take_zero, List.take_nil, List.length_cons, List.length_nil, decide_true, decide_false, decide_not, Bool.not_true, Bool.not_false, gz_nle, if_true, if_false, and_true, true_and, and_self, and_false, false_and, or_true, true_or, or_false, false_or, Bool.false_eq_true, not_true, not_false_iff, Decidable.not_not, Nat.reduceLeDiff, Nat.reduceAdd, Nat.reduceEqDiff, Nat.reduceSub, Nat.reduceLT, Nat.zero_add, reduceCtorEq, reduceIte, eq_self, i32_10, i32_01, Nat.zero_le, Nat.one_ne_zero, m, md_k, k1, i2, i3, i4, n1, f1, f2, f3, x10, m4, nI_1]
        · rw [k, e3] at f3
          rw [if_neg (by omega), if_neg (by omega), if_pos k]
          simp only [lb_X8_others_38, gz_sem, gz_ae, Value.category, gz_i, gz_l, gz_nu, gz_li, gz_ll, gz_la, gz_ib, gz_iz, gz_lb, gz_lz, gz_ls, gz_lc, gz_i2l, gz_l2i, gz_get, gz_ald, gz_len, gz_dup, gz_d2, gz_nar, gz_a0, gz_a1, gz_cs, gz_cv, gz_mk, gz_te, gz_j1, gz_j2, gz_jn, gz_jk, gz_jo, gz_ja, gz_sat, gz_seti, gz_seta, gz_set2, gz_inc, gz_put, gz_ast, gz_pop, gz_vs, gz_vv, gz_sup, gz_rv, gz_ri, gz_rl, gz_ra, gz_if, gz_seq, gz_sw, gz_st, gz_st2, rok_I, rok_J, rok_V, rok_Z0, rok_Z1, rok_Zi, rok_R, rok_N, bi_rok, bi_0, bi_1, fit_I, fit_J, fit_Z0, fit_Z1, fit_Zi, fit_R, fit_N, fit_aR, aty_I, aty_Z0, aty_Z1, aty_Zi, aty_J, gz_ix, List.getElem?_cons_zero, List.getElem?_cons_succ, List.getElem?_nil, List.reverse_cons, List.reverse_nil, List.nil_append, List.cons_append, List.take_succ_cons, List.take_zero, List.take_nil, List.length_cons, List.length_nil, decide_true, decide_false, decide_not, Bool.not_true, Bool.not_false, gz_nle, if_true, if_false, and_true, true_and, and_self, and_false, false_and, or_true, true_or, or_false, false_or, Bool.false_eq_true, not_true, not_false_iff, Decidable.not_not, Nat.reduceLeDiff, Nat.reduceAdd, Nat.reduceEqDiff, Nat.reduceSub, Nat.reduceLT, Nat.zero_add, reduceCtorEq, reduceIte, eq_self, i32_10, i32_01, Nat.zero_le, Nat.one_ne_zero, m, md_k, k1, i2, i3, i4, n1, f1, f2, f3, x31, x32, mb, nI_1]
      · rw [if_pos p1, if_neg p2, z0] at m3 m4 mb
        rw [decide_eq_true p1] at f1
        rw [decide_eq_false p2] at f2
        rcases k4 with k | k | k
        · rw [k, e1] at f3
          rw [if_pos k, if_neg (by omega), if_neg (by omega)]
          simp only [lb_X8_others_38, gz_sem, gz_ae, Value.category, gz_i, gz_l, gz_nu, gz_li, gz_ll, gz_la, gz_ib, gz_iz, gz_lb, gz_lz, gz_ls, gz_lc, gz_i2l, gz_l2i, gz_get, gz_ald, gz_len, gz_dup, gz_d2, gz_nar, gz_a0, gz_a1, gz_cs, gz_cv, gz_mk, gz_te, gz_j1, gz_j2, gz_jn, gz_jk, gz_jo, gz_ja, gz_sat, gz_seti, gz_seta, gz_set2, gz_inc, gz_put, gz_ast, gz_pop, gz_vs, gz_vv, gz_sup, gz_rv, gz_ri, gz_rl, gz_ra, gz_if, gz_seq, gz_sw, gz_st, gz_st2, rok_I, rok_J, rok_V, rok_Z0, rok_Z1, rok_Zi, rok_R, rok_N, bi_rok, bi_0, bi_1, fit_I, fit_J, fit_Z0, fit_Z1, fit_Zi, fit_R, fit_N, fit_aR, aty_I, aty_Z0, aty_Z1, aty_Zi, aty_J, gz_ix, List.getElem?_cons_zero, List.getElem?_cons_succ, List.getElem?_nil, List.reverse_cons, List.reverse_nil, List.nil_append, List.cons_append, List.take_succ_cons, List.take_zero, List.take_nil, List.length_cons, List.length_nil, decide_true, decide_false, decide_not, Bool.not_true, Bool.not_false, gz_nle, if_true, if_false, and_true, true_and, and_self, and_false, false_and, or_true, true_or, or_false, false_or, Bool.false_eq_true, not_true, not_false_iff, Decidable.not_not, Nat.reduceLeDiff, Nat.reduceAdd, Nat.reduceEqDiff, Nat.reduceSub, Nat.reduceLT, Nat.zero_add, reduceCtorEq, reduceIte, eq_self, i32_10, i32_01, Nat.zero_le, Nat.one_ne_zero, m, md_k, k1, i2, i3, i4, n1, f1, f2, f3, m3, nI_1]
        · rw [k, e2] at f3
          rw [if_neg (by omega), if_pos k, if_neg (by omega)]
          simp only [lb_X8_others_38, gz_sem, gz_ae, Value.category, gz_i, gz_l, gz_nu, gz_li, gz_ll, gz_la, gz_ib, gz_iz, gz_lb, gz_lz, gz_ls, gz_lc, gz_i2l, gz_l2i, gz_get, gz_ald, gz_len, gz_dup, gz_d2, gz_nar, gz_a0, gz_a1, gz_cs, gz_cv, gz_mk, gz_te, gz_j1, gz_j2, gz_jn, gz_jk, gz_jo, gz_ja, gz_sat, gz_seti, gz_seta, gz_set2, gz_inc, gz_put, gz_ast, gz_pop, gz_vs, gz_vv, gz_sup, gz_rv, gz_ri, gz_rl, gz_ra, gz_if, gz_seq, gz_sw, gz_st, gz_st2, rok_I, rok_J, rok_V, rok_Z0, rok_Z1, rok_Zi, rok_R, rok_N, bi_rok, bi_0, bi_1, fit_I, fit_J, fit_Z0, fit_Z1, fit_Zi, fit_R, fit_N, fit_aR, aty_I, aty_Z0, aty_Z1, aty_Zi, aty_J, gz_ix, List.getElem?_cons_zero, List.getElem?_cons_succ, List.getElem?_nil, List.reverse_cons, List.reverse_nil, List.nil_append, List.cons_append, List.take_succ_cons, List.take_zero, List.take_nil, List.length_cons, List.length_nil, decide_true, decide_false, decide_not, Bool.not_true, Bool.not_false, gz_nle, if_true, if_false, and_true, true_and, and_self, and_false, false_and, or_true, true_or, or_false, false_or, Bool.false_eq_true, not_true, not_false_iff, Decidable.not_not, Nat.reduceLeDiff, Nat.reduceAdd, Nat.reduceEqDiff, Nat.reduceSub, Nat.reduceLT, Nat.zero_add, reduceCtorEq, reduceIte, eq_self, i32_10, i32_01, Nat.zero_le, Nat.one_ne_zero, m, md_k, k1, i2, i3, i4, n1, f1, f2, f3, x10, m4, nI_1]
        · rw [k, e3] at f3
          rw [if_neg (by omega), if_neg (by omega), if_pos k]
          simp only [lb_X8_others_38, gz_sem, gz_ae, Value.category, gz_i, gz_l, gz_nu, gz_li, gz_ll, gz_la, gz_ib, gz_iz, gz_lb, gz_lz, gz_ls, gz_lc, gz_i2l, gz_l2i, gz_get, gz_ald, gz_len, gz_dup, gz_d2, gz_nar, gz_a0, gz_a1, gz_cs, gz_cv, gz_mk, gz_te, gz_j1, gz_j2, gz_jn, gz_jk, gz_jo, gz_ja, gz_sat, gz_seti, gz_seta, gz_set2, gz_inc, gz_put, gz_ast, gz_pop, gz_vs, gz_vv, gz_sup, gz_rv, gz_ri, gz_rl, gz_ra, gz_if, gz_seq, gz_sw, gz_st, gz_st2, rok_I, rok_J, rok_V, rok_Z0, rok_Z1, rok_Zi, rok_R, rok_N, bi_rok, bi_0, bi_1, fit_I, fit_J, fit_Z0, fit_Z1, fit_Zi, fit_R, fit_N, fit_aR, aty_I, aty_Z0, aty_Z1, aty_Zi, aty_J, gz_ix, List.getElem?_cons_zero, List.getElem?_cons_succ, List.getElem?_nil, List.reverse_cons, List.reverse_nil, List.nil_append, List.cons_append, List.take_succ_cons, List.take_zero, List.take_nil, List.length_cons, List.length_nil, decide_true, decide_false, decide_not, Bool.not_true, Bool.not_false, gz_nle, if_true, if_false, and_true, true_and, and_self, and_false, false_and, or_true, true_or, or_false, false_or, Bool.false_eq_true, not_true, not_false_iff, Decidable.not_not, Nat.reduceLeDiff, Nat.reduceAdd, Nat.reduceEqDiff, Nat.reduceSub, Nat.reduceLT, Nat.zero_add, reduceCtorEq, reduceIte, eq_self, i32_10, i32_01, Nat.zero_le, Nat.one_ne_zero, m, md_k, k1, i2, i3, i4, n1, f1, f2, f3, x31, x32, mb, nI_1]
    · by_cases p2 : (4 + j) / 2 % 2 = 1
      · rw [if_neg p1, if_pos p2, z0] at m3 m4 mb
        rw [decide_eq_false p1] at f1
        rw [decide_eq_true p2] at f2
        rcases k4 with k | k | k
        · rw [k, e1] at f3
          rw [if_pos k, if_neg (by omega), if_neg (by omega)]
          simp only [lb_X8_others_38, gz_sem, gz_ae, Value.category, gz_i, gz_l, gz_nu, gz_li, gz_ll, gz_la, gz_ib, gz_iz, gz_lb, gz_lz, gz_ls, gz_lc, gz_i2l, gz_l2i, gz_get, gz_ald, gz_len, gz_dup, gz_d2, gz_nar, gz_a0, gz_a1, gz_cs, gz_cv, gz_mk, gz_te, gz_j1, gz_j2, gz_jn, gz_jk, gz_jo, gz_ja, gz_sat, gz_seti, gz_seta, gz_set2, gz_inc, gz_put, gz_ast, gz_pop, gz_vs, gz_vv, gz_sup, gz_rv, gz_ri, gz_rl, gz_ra, gz_if, gz_seq, gz_sw, gz_st, gz_st2, rok_I, rok_J, rok_V, rok_Z0, rok_Z1, rok_Zi, rok_R, rok_N, bi_rok, bi_0, bi_1, fit_I, fit_J, fit_Z0, fit_Z1, fit_Zi, fit_R, fit_N, fit_aR, aty_I, aty_Z0, aty_Z1, aty_Zi, aty_J, gz_ix, List.getElem?_cons_zero, List.getElem?_cons_succ, List.getElem?_nil, List.reverse_cons, List.reverse_nil, List.nil_append, List.cons_append, List.take_succ_cons, List.take_zero, List.take_nil, List.length_cons, List.length_nil, decide_true, decide_false, decide_not, Bool.not_true, Bool.not_false, gz_nle, if_true, if_false, and_true, true_and, and_self, and_false, false_and, or_true, true_or, or_false, false_or, Bool.false_eq_true, not_true, not_false_iff, Decidable.not_not, Nat.reduceLeDiff, Nat.reduceAdd, Nat.reduceEqDiff, Nat.reduceSub, Nat.reduceLT, Nat.zero_add, reduceCtorEq, reduceIte, eq_self, i32_10, i32_01, Nat.zero_le, Nat.one_ne_zero, m, md_k, k1, i2, i3, i4, n1, f1, f2, f3, m3, nI_1]
        · rw [k, e2] at f3
          rw [if_neg (by omega), if_pos k, if_neg (by omega)]
          simp only [lb_X8_others_38, gz_sem, gz_ae, Value.category, gz_i, gz_l, gz_nu, gz_li, gz_ll, gz_la, gz_ib, gz_iz, gz_lb, gz_lz, gz_ls, gz_lc, gz_i2l, gz_l2i, gz_get, gz_ald, gz_len, gz_dup, gz_d2, gz_nar, gz_a0, gz_a1, gz_cs, gz_cv, gz_mk, gz_te, gz_j1, gz_j2, gz_jn, gz_jk, gz_jo, gz_ja, gz_sat, gz_seti, gz_seta, gz_set2, gz_inc, gz_put, gz_ast, gz_pop, gz_vs, gz_vv, gz_sup, gz_rv, gz_ri, gz_rl, gz_ra, gz_if, gz_seq, gz_sw, gz_st, gz_st2, rok_I, rok_J, rok_V, rok_Z0, rok_Z1, rok_Zi, rok_R, rok_N, bi_rok, bi_0, bi_1, fit_I, fit_J, fit_Z0, fit_Z1, fit_Zi, fit_R, fit_N, fit_aR, aty_I, aty_Z0, aty_Z1, aty_Zi, aty_J, gz_ix, List.getElem?_cons_zero, List.getElem?_cons_succ, List.getElem?_nil, List.reverse_cons, List.reverse_nil, List.nil_append, List.cons_append, List.take_succ_cons, List.take_zero, List.take_nil, List.length_cons, List.length_nil, decide_true, decide_false, decide_not, Bool.not_true, Bool.not_false, gz_nle, if_true, if_false, and_true, true_and, and_self, and_false, false_and, or_true, true_or, or_false, false_or, Bool.false_eq_true, not_true, not_false_iff, Decidable.not_not, Nat.reduceLeDiff, Nat.reduceAdd, Nat.reduceEqDiff, Nat.reduceSub, Nat.reduceLT, Nat.zero_add, reduceCtorEq, reduceIte, eq_self, i32_10, i32_01, Nat.zero_le, Nat.one_ne_zero, m, md_k, k1, i2, i3, i4, n1, f1, f2, f3, x10, m4, nI_1]
        · rw [k, e3] at f3
          rw [if_neg (by omega), if_neg (by omega), if_pos k]
          simp only [lb_X8_others_38, gz_sem, gz_ae, Value.category, gz_i, gz_l, gz_nu, gz_li, gz_ll, gz_la, gz_ib, gz_iz, gz_lb, gz_lz, gz_ls, gz_lc, gz_i2l, gz_l2i, gz_get, gz_ald, gz_len, gz_dup, gz_d2, gz_nar, gz_a0, gz_a1, gz_cs, gz_cv, gz_mk, gz_te, gz_j1, gz_j2, gz_jn, gz_jk, gz_jo, gz_ja, gz_sat, gz_seti, gz_seta, gz_set2, gz_inc, gz_put, gz_ast, gz_pop, gz_vs, gz_vv, gz_sup, gz_rv, gz_ri, gz_rl, gz_ra, gz_if, gz_seq, gz_sw, gz_st, gz_st2, rok_I, rok_J, rok_V, rok_Z0, rok_Z1, rok_Zi, rok_R, rok_N, bi_rok, bi_0, bi_1, fit_I, fit_J, fit_Z0, fit_Z1, fit_Zi, fit_R, fit_N, fit_aR, aty_I, aty_Z0, aty_Z1, aty_Zi, aty_J, gz_ix, List.getElem?_cons_zero, List.getElem?_cons_succ, List.getElem?_nil, List.reverse_cons, List.reverse_nil, List.nil_append, List.cons_append, List.take_succ_cons, List.take_zero, List.take_nil, List.length_cons, List.length_nil, decide_true, decide_false, decide_not, Bool.not_true, Bool.not_false, gz_nle, if_true, if_false, and_true, true_and, and_self, and_false, false_and, or_true, true_or, or_false, false_or, Bool.false_eq_true, not_true, not_false_iff, Decidable.not_not, Nat.reduceLeDiff, Nat.reduceAdd, Nat.reduceEqDiff, Nat.reduceSub, Nat.reduceLT, Nat.zero_add, reduceCtorEq, reduceIte, eq_self, i32_10, i32_01, Nat.zero_le, Nat.one_ne_zero, m, md_k, k1, i2, i3, i4, n1, f1, f2, f3, x31, x32, mb, nI_1]
      · rw [if_neg p1, if_neg p2, z0] at m3 m4 mb
        rw [decide_eq_false p1] at f1
        rw [decide_eq_false p2] at f2
        rcases k4 with k | k | k
        · rw [k, e1] at f3
          rw [if_pos k, if_neg (by omega), if_neg (by omega)]
          simp only [lb_X8_others_38, gz_sem, gz_ae, Value.category, gz_i, gz_l, gz_nu, gz_li, gz_ll, gz_la, gz_ib, gz_iz, gz_lb, gz_lz, gz_ls, gz_lc, gz_i2l, gz_l2i, gz_get, gz_ald, gz_len, gz_dup, gz_d2, gz_nar, gz_a0, gz_a1, gz_cs, gz_cv, gz_mk, gz_te, gz_j1, gz_j2, gz_jn, gz_jk, gz_jo, gz_ja, gz_sat, gz_seti, gz_seta, gz_set2, gz_inc, gz_put, gz_ast, gz_pop, gz_vs, gz_vv, gz_sup, gz_rv, gz_ri, gz_rl, gz_ra, gz_if, gz_seq, gz_sw, gz_st, gz_st2, rok_I, rok_J, rok_V, rok_Z0, rok_Z1, rok_Zi, rok_R, rok_N, bi_rok, bi_0, bi_1, fit_I, fit_J, fit_Z0, fit_Z1, fit_Zi, fit_R, fit_N, fit_aR, aty_I, aty_Z0, aty_Z1, aty_Zi, aty_J, gz_ix, List.getElem?_cons_zero, List.getElem?_cons_succ, List.getElem?_nil, List.reverse_cons, List.reverse_nil, List.nil_append, List.cons_append, List.take_succ_cons, List.take_zero, List.take_nil, List.length_cons, List.length_nil, decide_true, decide_false, decide_not, Bool.not_true, Bool.not_false, gz_nle, if_true, if_false, and_true, true_and, and_self, and_false, false_and, or_true, true_or, or_false, false_or, Bool.false_eq_true, not_true, not_false_iff, Decidable.not_not, Nat.reduceLeDiff, Nat.reduceAdd, Nat.reduceEqDiff, Nat.reduceSub, Nat.reduceLT, Nat.zero_add, reduceCtorEq, reduceIte, eq_self, i32_10, i32_01, Nat.zero_le, Nat.one_ne_zero, m, md_k, k1, i2, i3, i4, n1, f1, f2, f3, m3, nI_1]
        · rw [k, e2] at f3
          rw [if_neg (by omega), if_pos k, if_neg (by omega)]
          simp only [lb_X8_others_38, gz_sem, gz_ae, Value.category, gz_i, gz_l, gz_nu, gz_li, gz_ll, gz_la, gz_ib, gz_iz, gz_lb, gz_lz, gz_ls, gz_lc, gz_i2l, gz_l2i, gz_get, gz_ald, gz_len, gz_dup, gz_d2, gz_nar, gz_a0, gz_a1, gz_cs, gz_cv, gz_mk, gz_te, gz_j1, gz_j2, gz_jn, gz_jk, gz_jo, gz_ja, gz_sat, gz_seti, gz_seta, gz_set2, gz_inc, gz_put, gz_ast, gz_pop, gz_vs, gz_vv, gz_sup, gz_rv, gz_ri, gz_rl, gz_ra, gz_if, gz_seq, gz_sw, gz_st, gz_st2, rok_I, rok_J, rok_V, rok_Z0, rok_Z1, rok_Zi, rok_R, rok_N, bi_rok, bi_0, bi_1, fit_I, fit_J, fit_Z0, fit_Z1, fit_Zi, fit_R, fit_N, fit_aR, aty_I, aty_Z0, aty_Z1, aty_Zi, aty_J, gz_ix, List.getElem?_cons_zero, List.getElem?_cons_succ, List.getElem?_nil, List.reverse_cons, List.reverse_nil, List.nil_append, List.cons_append, List.take_succ_cons, List.take_zero, List.take_nil, List.length_cons, List.length_nil, decide_true, decide_false, decide_not, Bool.not_true, Bool.not_false, gz_nle, if_true, if_false, and_true, true_and, and_self, and_false, false_and, or_true, true_or, or_false, false_or, Bool.false_eq_true, not_true, not_false_iff, Decidable.not_not, Nat.reduceLeDiff, Nat.reduceAdd, Nat.reduceEqDiff, Nat.reduceSub, Nat.reduceLT, Nat.zero_add, reduceCtorEq, reduceIte, eq_self, i32_10, i32_01, Nat.zero_le, Nat.one_ne_zero, m, md_k, k1, i2, i3, i4, n1, f1, f2, f3, x10, m4, nI_1]
        · rw [k, e3] at f3
          rw [if_neg (by omega), if_neg (by omega), if_pos k]
          simp only [lb_X8_others_38, gz_sem, gz_ae, Value.category, gz_i, gz_l, gz_nu, gz_li, gz_ll, gz_la, gz_ib, gz_iz, gz_lb, gz_lz, gz_ls, gz_lc, gz_i2l, gz_l2i, gz_get, gz_ald, gz_len, gz_dup, gz_d2, gz_nar, gz_a0, gz_a1, gz_cs, gz_cv, gz_mk, gz_te, gz_j1, gz_j2, gz_jn, gz_jk, gz_jo, gz_ja, gz_sat, gz_seti, gz_seta, gz_set2, gz_inc, gz_put, gz_ast, gz_pop, gz_vs, gz_vv, gz_sup, gz_rv, gz_ri, gz_rl, gz_ra, gz_if, gz_seq, gz_sw, gz_st, gz_st2, rok_I, rok_J, rok_V, rok_Z0, rok_Z1, rok_Zi, rok_R, rok_N, bi_rok, bi_0, bi_1, fit_I, fit_J, fit_Z0, fit_Z1, fit_Zi, fit_R, fit_N, fit_aR, aty_I, aty_Z0, aty_Z1, aty_Zi, aty_J, gz_ix, List.getElem?_cons_zero, List.getElem?_cons_succ, List.getElem?_nil, List.reverse_cons, List.reverse_nil, List.nil_append, List.cons_append, List.take_succ_cons, List.take_zero, List.take_nil, List.length_cons, List.length_nil, decide_true, decide_false, decide_not, Bool.not_true, Bool.not_false, gz_nle, if_true, if_false, and_true, true_and, and_self, and_false, false_and, or_true, true_or, or_false, false_or, Bool.false_eq_true, not_true, not_false_iff, Decidable.not_not, Nat.reduceLeDiff, Nat.reduceAdd, Nat.reduceEqDiff, Nat.reduceSub, Nat.reduceLT, Nat.zero_add, reduceCtorEq, reduceIte, eq_self, i32_10, i32_01, Nat.zero_le, Nat.one_ne_zero, m, md_k, k1, i2, i3, i4, n1, f1, f2, f3, x31, x32, mb, nI_1]) (by
    have k1 : ¬ nI (4 + 12) < 16 := by decide
    simp only [lb_X8_others_38, gz_sem, gz_ae, Value.category, gz_i, gz_l, gz_nu, gz_li, gz_ll, gz_la, gz_ib, gz_iz, gz_lb, gz_lz, gz_ls, gz_lc, gz_i2l, gz_l2i, gz_get, gz_ald, gz_len, gz_dup, gz_d2, gz_nar, gz_a0, gz_a1, gz_cs, gz_cv, gz_mk, gz_te, gz_j1, gz_j2, gz_jn, gz_jk, gz_jo, gz_ja, gz_sat, gz_seti, gz_seta, gz_set2, gz_inc, gz_put, gz_ast, gz_pop, gz_vs, gz_vv, gz_sup, gz_rv, gz_ri, gz_rl, gz_ra, gz_if, gz_seq, gz_sw, gz_st, gz_st2, rok_I, rok_J, rok_V, rok_Z0, rok_Z1, rok_Zi, rok_R, rok_N, bi_rok, bi_0, bi_1, fit_I, fit_J, fit_Z0, fit_Z1, fit_Zi, fit_R, fit_N, fit_aR, aty_I, aty_Z0, aty_Z1, aty_Zi, aty_J, gz_ix, List.getElem?_cons_zero, List.getElem?_cons_succ, List.getElem?_nil, List.reverse_cons, List.reverse_nil, List.nil_append, List.cons_append, List.take_succ_cons, List.take_zero, List.take_nil, List.length_cons, List.length_nil, decide_true, decide_false, decide_not, Bool.not_true, Bool.not_false, gz_nle, if_true, if_false, and_true, true_and, and_self, and_false, false_and, or_true, true_or, or_false, false_or, Bool.false_eq_true, not_true, not_false_iff, Decidable.not_not, Nat.reduceLeDiff, Nat.reduceAdd, Nat.reduceEqDiff, Nat.reduceSub, Nat.reduceLT, Nat.zero_add, reduceCtorEq, reduceIte, eq_self, i32_10, i32_01, Nat.zero_le, Nat.one_ne_zero, k1]) 12 0 (by omega)
  have z3 : nI (ot N a b 1 1 0) = 1 := rfl
  have zb : nI (ot N a b 3 0 0) = 0 := rfl
  have z4 : nI (ot N a b 2 (if 3 < n then 1 else 0) 0) = if 3 < n then 1 else 0 := by show nI (if 3 < n then 1 else 0) = _; split <;> rfl
  have zr : nI (4 + 0) = 4 := rfl
  rw [z3, zb, z4, zr, ot_3, ot_4, ot_b] at l
  have B3 : o3 N a b ≤ 1000000 := by rw [← ot_3]; exact ot_bd (Nat.le_refl _) hN 12 (Nat.le_refl _)
  have B4 : o4 N n a b ≤ 1000000 := by rw [← ot_4]; exact ot_bd (by split <;> omega) hN 12 (Nat.le_refl _)
  have Bb : ob N a b ≤ 1000000 := by rw [← ot_b]; exact ot_bd (by omega) hN 12 (Nat.le_refl _)
  have mx := st_max (nI (o3 N a b + o4 N n a b)) (nI (ob N a b)) h
  rw [mx_nI (by omega) (by omega)] at mx
  have ad : nI (o3 N a b) + nI (o4 N n a b) = nI (o3 N a b + o4 N n a b) := nI_add _ _
  have e : oth N n a b = max (o3 N a b + o4 N n a b) (ob N a b) := by unfold oth; rw [if_neg q2]
  rw [e]
  by_cases q3 : 3 < n
  · rw [if_pos q3] at l
    have t3 : (3 : Int32) < nI n := nI_lt (a := 3) q3 (by omega)
    simp only [se_X8_others, sm_X8_others, gz_sem, gz_ae, Value.category, gz_i, gz_l, gz_nu, gz_li, gz_ll, gz_la, gz_ib, gz_iz, gz_lb, gz_lz, gz_ls, gz_lc, gz_i2l, gz_l2i, gz_get, gz_ald, gz_len, gz_dup, gz_d2, gz_nar, gz_a0, gz_a1, gz_cs, gz_cv, gz_mk, gz_te, gz_j1, gz_j2, gz_jn, gz_jk, gz_jo, gz_ja, gz_sat, gz_seti, gz_seta, gz_set2, gz_inc, gz_put, gz_ast, gz_pop, gz_vs, gz_vv, gz_sup, gz_rv, gz_ri, gz_rl, gz_ra, gz_if, gz_seq, gz_sw, gz_st, gz_st2, rok_I, rok_J, rok_V, rok_Z0, rok_Z1, rok_Zi, rok_R, rok_N, bi_rok, bi_0, bi_1, fit_I, fit_J, fit_Z0, fit_Z1, fit_Zi, fit_R, fit_N, fit_aR, aty_I, aty_Z0, aty_Z1, aty_Zi, aty_J, gz_ix, List.getElem?_cons_zero, List.getElem?_cons_succ, List.getElem?_nil, List.reverse_cons, List.reverse_nil, List.nil_append, List.cons_append, List.take_succ_cons, List.take_zero, List.take_nil, List.length_cons, List.length_nil, decide_true, decide_false, decide_not, Bool.not_true, Bool.not_false, gz_nle, if_true, if_false, and_true, true_and, and_self, and_false, false_and, or_true, true_or, or_false, false_or, Bool.false_eq_true, not_true, not_false_iff, Decidable.not_not, Nat.reduceLeDiff, Nat.reduceAdd, Nat.reduceEqDiff, Nat.reduceSub, Nat.reduceLT, Nat.zero_add, reduceCtorEq, reduceIte, eq_self, i32_10, i32_01, Nat.zero_le, Nat.one_ne_zero, m, md_k, d2, d3, d4, c6, t, t3, l, ad, mx]
  · rw [if_neg q3] at l
    have t3 : ¬ (3 : Int32) < nI n := nI_nlt (b := n) (a := 3) (by omega) (by omega)
    simp only [se_X8_others, sm_X8_others, gz_sem, gz_ae, Value.category, gz_i, gz_l, gz_nu, gz_li, gz_ll, gz_la, gz_ib, gz_iz, gz_lb, gz_lz, gz_ls, gz_lc, gz_i2l, gz_l2i, gz_get, gz_ald, gz_len, gz_dup, gz_d2, gz_nar, gz_a0, gz_a1, gz_cs, gz_cv, gz_mk, gz_te, gz_j1, gz_j2, gz_jn, gz_jk, gz_jo, gz_ja, gz_sat, gz_seti, gz_seta, gz_set2, gz_inc, gz_put, gz_ast, gz_pop, gz_vs, gz_vv, gz_sup, gz_rv, gz_ri, gz_rl, gz_ra, gz_if, gz_seq, gz_sw, gz_st, gz_st2, rok_I, rok_J, rok_V, rok_Z0, rok_Z1, rok_Zi, rok_R, rok_N, bi_rok, bi_0, bi_1, fit_I, fit_J, fit_Z0, fit_Z1, fit_Zi, fit_R, fit_N, fit_aR, aty_I, aty_Z0, aty_Z1, aty_Zi, aty_J, gz_ix, List.getElem?_cons_zero, List.getElem?_cons_succ, List.getElem?_nil, List.reverse_cons, List.reverse_nil, List.nil_append, List.cons_append, List.take_succ_cons, List.take_zero, List.take_nil, List.length_cons, List.length_nil, decide_true, decide_false, decide_not, Bool.not_true, Bool.not_false, gz_nle, if_true, if_false, and_true, true_and, and_self, and_false, false_and, or_true, true_or, or_false, false_or, Bool.false_eq_true, not_true, not_false_iff, Decidable.not_not, Nat.reduceLeDiff, Nat.reduceAdd, Nat.reduceEqDiff, Nat.reduceSub, Nat.reduceLT, Nat.zero_add, reduceCtorEq, reduceIte, eq_self, i32_10, i32_01, Nat.zero_le, Nat.one_ne_zero, m, md_k, d2, d3, d4, c6, t, t3, l, ad, mx]
