section GZT
variable {h : gz_H} {j S F T : Nat} {ap : Nat → Nat → Nat} {i al al2 : Int32}
set_option maxHeartbeats 4000000 in
theorem t_X8_check (m : md h) (A : ck_A h j S F T ap) : ((∀ u, F + u < T → ∀ k, k < S → ¬ ck_2 h j S i al F ap (F + u) k) → gz_loop 73 7 lb_X8_check_73 [.ref 15, .int (nI j), .int i, .int al, .int (nI F), .int al2, .int (nI F)] h = some (.inl (207, [.ref 15, .int (nI j), .int i, .int al, .int (nI F), .int al2, .int (nI T)], h))) ∧ (∀ u, F + u < T → (∃ k, k < S ∧ ck_2 h j S i al F ap (F + u) k) → (∀ v, v < u → ¬ ∃ k, k < S ∧ ck_2 h j S i al F ap (F + v) k) → gz_loop 73 7 lb_X8_check_73 [.ref 15, .int (nI j), .int i, .int al, .int (nI F), .int al2, .int (nI F)] h = some (.inr (some (.int (nI (F + u))), h))) := by
  have A' := A
  obtain ⟨hj, hFT, hT, hsec, hS, h8, hap⟩ := A
  have c2 : ¬ nI j < 0 := nI_pos (by omega)
  have c3 : (nI j).toNatClampNeg = j := nI_clamp (by omega)
  have go : ∀ u, u < T - F → ¬ (∃ k, k < S ∧ ck_2 h j S i al F ap (F + u) k) → ∃ e, e.take 7 = ([Value.ref 15, .int (nI j), .int i, .int al, .int (nI F), .int al2, .int (nI (F + (u + 1)))] : List Value).take 7 ∧ lb_X8_check_73 ([Value.ref 15, .int (nI j), .int i, .int al, .int (nI F), .int al2, .int (nI (F + u))].take 7) h = some (.inl (73, e, h)) := by
    intro u hu no
    have k1 : nI (F + u) < nI T := nI_lt (by omega) (by omega)
    refine ⟨[.ref 15, .int (nI j), .int i, .int al, .int (nI F), .int al2, .int (nI (F + u + 1))], rfl, ?_⟩
    have l := gz_seekNE (L := 85) (k := 8) (X := 201) (a := lb_X8_check_85) (h := h) S (ck_2 h j S i al F ap (F + u)) (fun k => [.ref 15, .int (nI j), .int i, .int al, .int (nI F), .int al2, .int (nI (F + u)), .int (nI k)]) (env' := [.ref 15, .int (nI j), .int i, .int al, .int (nI F), .int al2, .int (nI (F + u)), .int (nI S)]) (h' := h) (by decide) (k_X8_check m A' (F + u) (by omega) (by omega)).1 (by
      have k2 : ¬ nI S < nI S := nI_nlt (Nat.le_refl _) (by omega)
      simp only [lb_X8_check_85, gz_sem, gz_ae, Value.category, gz_i, gz_l, gz_nu, gz_li, gz_ll, gz_la, gz_ib, gz_iz, gz_lb, gz_lz, gz_ls, gz_lc, gz_i2l, gz_l2i, gz_get, gz_ald, gz_len, gz_dup, gz_d2, gz_nar, gz_a0, gz_a1, gz_cs, gz_cv, gz_mk, gz_te, gz_j1, gz_j2, gz_jn, gz_jk, gz_jo, gz_ja, gz_sat, gz_seti, gz_seta, gz_set2, gz_inc, gz_put, gz_ast, gz_pop, gz_vs, gz_vv, gz_sup, gz_rv, gz_ri, gz_rl, gz_ra, gz_if, gz_seq, gz_sw, gz_st, gz_st2, rok_I, rok_J, rok_V, rok_Z0, rok_Z1, rok_Zi, rok_R, rok_N, bi_rok, bi_0, bi_1, fit_I, fit_J, fit_Z0, fit_Z1, fit_Zi, fit_R, fit_N, fit_aR, aty_I, aty_Z0, aty_Z1, aty_Zi, aty_J, gz_ix, List.getElem?_cons_zero, List.getElem?_cons_succ, List.getElem?_nil, List.reverse_cons, List.reverse_nil, List.nil_append, List.cons_append, List.take_succ_cons, List.take_zero, List.take_nil, List.length_cons, List.length_nil, decide_true, decide_false, decide_not, Bool.not_true, Bool.not_false, gz_nle, if_true, if_false, and_true, true_and, and_self, and_false, false_and, or_true, true_or, or_false, false_or, Bool.false_eq_true, not_true, not_false_iff, Decidable.not_not, Nat.reduceLeDiff, Nat.reduceAdd, Nat.reduceEqDiff, Nat.reduceSub, Nat.reduceLT, Nat.zero_add, reduceCtorEq, reduceIte, eq_self, i32_10, i32_01, Nat.zero_le, Nat.one_ne_zero, m, md_k, c2, c3, hj, hS, k2]) (fun k hk q => no ⟨k, hk, q⟩)
    rw [nI_0] at l
    simp only [lb_X8_check_73, gz_sem, gz_ae, Value.category, gz_i, gz_l, gz_nu, gz_li, gz_ll, gz_la, gz_ib, gz_iz, gz_lb, gz_lz, gz_ls, gz_lc, gz_i2l, gz_l2i, gz_get, gz_ald, gz_len, gz_dup, gz_d2, gz_nar, gz_a0, gz_a1, gz_cs, gz_cv, gz_mk, gz_te, gz_j1, gz_j2, gz_jn, gz_jk, gz_jo, gz_ja, gz_sat, gz_seti, gz_seta, gz_set2, gz_inc, gz_put, gz_ast, gz_pop, gz_vs, gz_vv, gz_sup, gz_rv, gz_ri, gz_rl, gz_ra, gz_if, gz_seq, gz_sw, gz_st, gz_st2, rok_I, rok_J, rok_V, rok_Z0, rok_Z1, rok_Zi, rok_R, rok_N, bi_rok, bi_0, bi_1, fit_I, fit_J, fit_Z0, fit_Z1, fit_Zi, fit_R, fit_N, fit_aR, aty_I, aty_Z0, aty_Z1, aty_Zi, aty_J, gz_ix, List.getElem?_cons_zero, List.getElem?_cons_succ, List.getElem?_nil, List.reverse_cons, List.reverse_nil, List.nil_append, List.cons_append, List.take_succ_cons, List.take_zero, List.take_nil, List.length_cons, List.length_nil, decide_true, decide_false, decide_not, Bool.not_true, Bool.not_false, gz_nle, if_true, if_false, and_true, true_and, and_self, and_false, false_and, or_true, true_or, or_false, false_or, Bool.false_eq_true, not_true, not_false_iff, Decidable.not_not, Nat.reduceLeDiff, Nat.reduceAdd, Nat.reduceEqDiff, Nat.reduceSub, Nat.reduceLT, Nat.zero_add, reduceCtorEq, reduceIte, eq_self, i32_10, i32_01, Nat.zero_le, Nat.one_ne_zero, m, md_k, hsec, k1, l, nI_1]
  constructor
  · intro no
    have l := gz_seekNE (L := 73) (k := 7) (X := 207) (a := lb_X8_check_73) (h := h) (T - F) (fun u => ∃ k, k < S ∧ ck_2 h j S i al F ap (F + u) k) (fun u => [.ref 15, .int (nI j), .int i, .int al, .int (nI F), .int al2, .int (nI (F + u))]) (env' := [.ref 15, .int (nI j), .int i, .int al, .int (nI F), .int al2, .int (nI T)]) (h' := h) (by decide) go (by
      have k2 : ¬ nI T < nI T := nI_nlt (Nat.le_refl _) (by omega)
      have e : F + (T - F) = T := by omega
      simp only [lb_X8_check_73, gz_sem, gz_ae, Value.category, gz_i, gz_l, gz_nu, gz_li, gz_ll, gz_la, gz_ib, gz_iz, gz_lb, gz_lz, gz_ls, gz_lc, gz_i2l, gz_l2i, gz_get, gz_ald, gz_len, gz_dup, gz_d2, gz_nar, gz_a0, gz_a1, gz_cs, gz_cv, gz_mk, gz_te, gz_j1, gz_j2, gz_jn, gz_jk, gz_jo, gz_ja, gz_sat, gz_seti, gz_seta, gz_set2, gz_inc, gz_put, gz_ast, gz_pop, gz_vs, gz_vv, gz_sup, gz_rv, gz_ri, gz_rl, gz_ra, gz_if, gz_seq, gz_sw, gz_st, gz_st2, rok_I, rok_J, rok_V, rok_Z0, rok_Z1, rok_Zi, rok_R, rok_N, bi_rok, bi_0, bi_1, fit_I, fit_J, fit_Z0, fit_Z1, fit_Zi, fit_R, fit_N, fit_aR, aty_I, aty_Z0, aty_Z1, aty_Zi, aty_J, gz_ix, List.getElem?_cons_zero, List.getElem?_cons_succ, List.getElem?_nil, List.reverse_cons, List.reverse_nil, List.nil_append, List.cons_append, List.take_succ_cons, List.take_zero, List.take_nil, List.length_cons, List.length_nil, decide_true, decide_false, decide_not, Bool.not_true, Bool.not_false, gz_nle, if_true, if_false, and_true, true_and, and_self, and_false, false_and, or_true, true_or, or_false, false_or, Bool.false_eq_true, not_true, not_false_iff, Decidable.not_not, Nat.reduceLeDiff, Nat.reduceAdd, Nat.reduceEqDiff, Nat.reduceSub, Nat.reduceLT, Nat.zero_add, reduceCtorEq, reduceIte, eq_self, i32_10, i32_01, Nat.zero_le, Nat.one_ne_zero, m, md_k, hsec, e, k2]) (fun u hu ⟨k, hk, q⟩ => no u (by omega) k hk q)
    rw [Nat.add_zero] at l
    exact l
  · intro u hu ex fi
    obtain ⟨k, k1, k2, k3⟩ := gz_least (ck_2 h j S i al F ap (F + u)) S ex
    have l := gz_seek0E (L := 73) (k := 7) (a := lb_X8_check_73) (h := h) (T - F) (fun u => ∃ k, k < S ∧ ck_2 h j S i al F ap (F + u) k) (fun u => [.ref 15, .int (nI j), .int i, .int al, .int (nI F), .int al2, .int (nI (F + u))]) (fun u => (some (.int (nI (F + u))), h)) go u (by
      have q1 : nI (F + u) < nI T := nI_lt (by omega) (by omega)
      have l := gz_seek0E (L := 85) (k := 8) (a := lb_X8_check_85) (h := h) S (ck_2 h j S i al F ap (F + u)) (fun k => [.ref 15, .int (nI j), .int i, .int al, .int (nI F), .int al2, .int (nI (F + u)), .int (nI k)]) (fun _ => (some (.int (nI (F + u))), h)) (k_X8_check m A' (F + u) (by omega) (by omega)).1 k ((k_X8_check m A' (F + u) (by omega) (by omega)).2 k k1 k2) k1 k3
      rw [nI_0] at l
      simp only [lb_X8_check_73, gz_sem, gz_ae, Value.category, gz_i, gz_l, gz_nu, gz_li, gz_ll, gz_la, gz_ib, gz_iz, gz_lb, gz_lz, gz_ls, gz_lc, gz_i2l, gz_l2i, gz_get, gz_ald, gz_len, gz_dup, gz_d2, gz_nar, gz_a0, gz_a1, gz_cs, gz_cv, gz_mk, gz_te, gz_j1, gz_j2, gz_jn, gz_jk, gz_jo, gz_ja, gz_sat, gz_seti, gz_seta, gz_set2, gz_inc, gz_put, gz_ast, gz_pop, gz_vs, gz_vv, gz_sup, gz_rv, gz_ri, gz_rl, gz_ra, gz_if, gz_seq, gz_sw, gz_st, gz_st2, rok_I, rok_J, rok_V, rok_Z0, rok_Z1, rok_Zi, rok_R, rok_N, bi_rok, bi_0, bi_1, fit_I, fit_J, fit_Z0, fit_Z1, fit_Zi, fit_R, fit_N, fit_aR, aty_I, aty_Z0, aty_Z1, aty_Zi, aty_J, gz_ix, List.getElem?_cons_zero, List.getElem?_cons_succ, List.getElem?_nil, List.reverse_cons, List.reverse_nil, List.nil_append, List.cons_append, List.take_succ_cons, List.take_zero, List.take_nil, List.length_cons, List.length_nil, decide_true, decide_false, decide_not, Bool.not_true, Bool.not_false, gz_nle, if_true, if_false, and_true, true_and, and_self, and_false, false_and, or_true, true_or, or_false, false_or, Bool.false_eq_true, not_true, not_false_iff, Decidable.not_not, Nat.reduceLeDiff, Nat.reduceAdd, Nat.reduceEqDiff, Nat.reduceSub, Nat.reduceLT, Nat.zero_add, reduceCtorEq, reduceIte, eq_self, i32_10, i32_01, Nat.zero_le, Nat.one_ne_zero, m, md_k, hsec, q1, l]) (by omega) fi
    rw [Nat.add_zero] at l
    exact l
end GZT
theorem io_yes' {lo hi x : Int32} (q : ¬ (x < lo ∨ hi < x)) (h h' : gz_H) : se_X7_outside [.int x, .int lo, .int hi] h = some (some (.int 0), h) ∧ se_X8_isIn [.int x, .int lo, .int hi] h' = some (some (.int 1), h') := by
  rw [st_X7_outside, st_X8_isIn, if_neg q, if_pos ⟨fun z => q (Or.inl z), fun z => q (Or.inr z)⟩]
  exact ⟨rfl, rfl⟩
theorem mx_200 {T : Nat} (hT : T ≤ 100000) : gz_mx 0 (nI T - 200) = nI (T - 200) := by
  unfold gz_mx
  by_cases q : 200 < T
  · have e : nI T - 200 = nI (T - 200) := pk_sub (b := 200) (by omega)
    rw [e, if_pos (nI_gt0 (by omega) (by omega))]
  · by_cases q2 : T = 200
    · subst q2; decide
    · have n := pk_sneg (a := T) (b := 200) (by omega) (by omega)
      have e : nI T - nI 200 = nI T - 200 := rfl
      rw [e] at n
      rw [if_neg, show T - 200 = 0 by omega]
      · rfl
      · rw [Int32.lt_iff_toInt_lt] at *
        omega
set_option maxHeartbeats 8000000 in
theorem pb_check (x y z : Int32) : PB se_X7_check se_X8_check [.int x, .int y, .int z] := by
  intro g T hc hr H
  have c := IV_cs H
  have m := IV_md H
  have h8 := IV_8 H
  have w := H.1.2.2.1
  obtain ⟨T1, T2, T3⟩ := IV_T H
  have T1' := gz_I_of T1
  rcases ja_cs h8 x with hx | ⟨j, hj, rfl⟩
  · obtain ⟨j1, j2⟩ := ja_no H hx
    refine ⟨.int (-2), hc, hr, g, T, ?_, ?_, fr8_rf _, fr7_rf _, H⟩
    · simp only [se_X7_check, sm_X7_check, gz_sem, gz_ae, Value.category, gz_i, gz_l, gz_nu, gz_li, gz_ll, gz_la, gz_ib, gz_iz, gz_lb, gz_lz, gz_ls, gz_lc, gz_i2l, gz_l2i, gz_get, gz_ald, gz_len, gz_dup, gz_d2, gz_nar, gz_a0, gz_a1, gz_cs, gz_cv, gz_mk, gz_te, gz_j1, gz_j2, gz_jn, gz_jk, gz_jo, gz_ja, gz_sat, gz_seti, gz_seta, gz_set2, gz_inc, gz_put, gz_ast, gz_pop, gz_vs, gz_vv, gz_sup, gz_rv, gz_ri, gz_rl, gz_ra, gz_if, gz_seq, gz_sw, gz_st, gz_st2, rok_I, rok_J, rok_V, rok_Z0, rok_Z1, rok_Zi, rok_R, rok_N, bi_rok, bi_0, bi_1, fit_I, fit_J, fit_Z0, fit_Z1, fit_Zi, fit_R, fit_N, fit_aR, aty_I, aty_Z0, aty_Z1, aty_Zi, aty_J, gz_ix, List.getElem?_cons_zero, List.getElem?_cons_succ, List.getElem?_nil, List.reverse_cons, List.reverse_nil, List.nil_append, List.cons_append, List.take_succ_cons, List.take_zero, List.take_nil, List.length_cons, List.length_nil, decide_true, decide_false, decide_not, Bool.not_true, Bool.not_false, gz_nle, if_true, if_false, and_true, true_and, and_self, and_false, false_and, or_true, true_or, or_false, false_or, Bool.false_eq_true, not_true, not_false_iff, Decidable.not_not, Nat.reduceLeDiff, Nat.reduceAdd, Nat.reduceEqDiff, Nat.reduceSub, Nat.reduceLT, Nat.zero_add, reduceCtorEq, reduceIte, eq_self, i32_10, i32_01, Nat.zero_le, Nat.one_ne_zero, c, j1]
    · simp only [se_X8_check, sm_X8_check, gz_sem, gz_ae, Value.category, gz_i, gz_l, gz_nu, gz_li, gz_ll, gz_la, gz_ib, gz_iz, gz_lb, gz_lz, gz_ls, gz_lc, gz_i2l, gz_l2i, gz_get, gz_ald, gz_len, gz_dup, gz_d2, gz_nar, gz_a0, gz_a1, gz_cs, gz_cv, gz_mk, gz_te, gz_j1, gz_j2, gz_jn, gz_jk, gz_jo, gz_ja, gz_sat, gz_seti, gz_seta, gz_set2, gz_inc, gz_put, gz_ast, gz_pop, gz_vs, gz_vv, gz_sup, gz_rv, gz_ri, gz_rl, gz_ra, gz_if, gz_seq, gz_sw, gz_st, gz_st2, rok_I, rok_J, rok_V, rok_Z0, rok_Z1, rok_Zi, rok_R, rok_N, bi_rok, bi_0, bi_1, fit_I, fit_J, fit_Z0, fit_Z1, fit_Zi, fit_R, fit_N, fit_aR, aty_I, aty_Z0, aty_Z1, aty_Zi, aty_J, gz_ix, List.getElem?_cons_zero, List.getElem?_cons_succ, List.getElem?_nil, List.reverse_cons, List.reverse_nil, List.nil_append, List.cons_append, List.take_succ_cons, List.take_zero, List.take_nil, List.length_cons, List.length_nil, decide_true, decide_false, decide_not, Bool.not_true, Bool.not_false, gz_nle, if_true, if_false, and_true, true_and, and_self, and_false, false_and, or_true, true_or, or_false, false_or, Bool.false_eq_true, not_true, not_false_iff, Decidable.not_not, Nat.reduceLeDiff, Nat.reduceAdd, Nat.reduceEqDiff, Nat.reduceSub, Nat.reduceLT, Nat.zero_add, reduceCtorEq, reduceIte, eq_self, i32_10, i32_01, Nat.zero_le, Nat.one_ne_zero, m, md_k, j2]
  obtain ⟨j1, j2⟩ := ja_yes H hj
  have jk := IV_jc H hj
  have hS := IV_S H j
  have V := H.2.2.1 j hj
  have mx := mx_200 T3
  obtain ⟨F, hF⟩ : ∃ F, F = T - 200 := ⟨_, rfl⟩
  rw [← hF] at mx
  obtain ⟨N, hN⟩ : ∃ N, F + N = T := ⟨T - F, by omega⟩
  have exa : ∃ ap : Nat → Nat → Nat, ∀ i k', i < 8 → k' < 8 → md_ap hr j i k' = nI (ap i k') ∧ ap i k' ≤ 20 := by
    have e1 : ∀ i k', ∃ a, i < 8 → k' < 8 → md_ap hr j i k' = nI a ∧ a ≤ 20 := fun i k' => by
      by_cases hi : i < 8
      · by_cases hk : k' < 8
        · obtain ⟨a, a1, a2⟩ := ap_20 V.2.1 hi hk
          exact ⟨a, fun _ _ => ⟨a2, a1⟩⟩
        · exact ⟨0, fun _ z => absurd z hk⟩
      · exact ⟨0, fun z => absurd z hi⟩
    exact ⟨fun i k' => (e1 i k').choose, fun i k' h1 h2 => (e1 i k').choose_spec h1 h2⟩
  obtain ⟨ap, hap⟩ := exa
  have A : ck_A hr j (g 6 j) F T ap := ⟨by omega, by omega, by omega, T2, IV_16 H (by omega), hS, hap⟩
  have rbL := V.2.1.2.2.2.2.2
  have gaL := gap_ap V.2.1
  -- both sides over the same lamps
  have key : ∀ (tu : Int32) (al2 : Int32) (eqv : ∀ t k, k < 8 → t < T → (bt (gz_I hc (g 0 j + 5) (t % 200) ^^^ (if nI t = z then tu else 0)) k = true ↔ ck_L hr j y z k t)) (r7 : ∀ v h', se_X5_firstClashRead [.ref 2, .ref (g 0 j), .int (nI F), .int (nI T), .int z, .int tu] hc = some (some (.int v), h') → se_X7_check [.ref 0, .int (nI j), .int y, .int z] hc = some (some (.int v), h')) (r8 : (∀ e h', gz_loop 73 7 lb_X8_check_73 [.ref 15, .int (nI j), .int y, .int z, .int (nI F), .int al2, .int (nI F)] hr = some (.inl (207, e, h')) → se_X8_check [.ref 15, .int (nI j), .int y, .int z] hr = some (some (.int (-1)), h')) ∧ (∀ v h', gz_loop 73 7 lb_X8_check_73 [.ref 15, .int (nI j), .int y, .int z, .int (nI F), .int al2, .int (nI F)] hr = some (.inr (some (.int v), h')) → se_X8_check [.ref 15, .int (nI j), .int y, .int z] hr = some (some (.int v), h'))), ∃ v hc' hr' g' T', se_X7_check [.ref 0, .int (nI j), .int y, .int z] hc = some (some v, hc') ∧ se_X8_check [.ref 15, .int (nI j), .int y, .int z] hr = some (some v, hr') ∧ fr8 hc hc' ∧ fr7 hr hr' ∧ IV g' T' (fun _ => 0) hc' hr' := by
    intro tu al2 eqv r7 r8
    obtain ⟨bs, hbs⟩ : ∃ bs : Nat → Int32, ∀ u, bs u = gz_I hc (g 0 j + 5) ((F + u) % 200) ^^^ (if nI (F + u) = z then tu else 0) := ⟨fun u => gz_I hc (g 0 j + 5) ((F + u) % 200) ^^^ (if nI (F + u) = z then tu else 0), fun _ => rfl⟩
    obtain ⟨f1, f2⟩ := st_X5_firstClashRead hc (g 0 j) (g 6 j) F T z tu w jk hS V.1.1 (by omega) (by omega) bs (fun u _ => hbs u)
    obtain ⟨t1, t2⟩ := t_X8_check (i := y) (al := z) (al2 := al2) m A
    have lit : ∀ u k, k < 8 → F + u < T → (bt (bs u) k = true ↔ ck_L hr j y z k (F + u)) := fun u k hk hu => by
      rw [hbs u]; exact eqv _ k hk hu
    have EE : ∀ u k i, F + u < T → k < 8 → i < 8 → (cl_E hc (g 0 j) bs (u + 1) k i ↔ ck_1 hr j y z F ap (F + u) k i) := by
      intro u k i hu hk hi
      obtain ⟨r1, r2, r3, r4⟩ := rbL
      obtain ⟨e1, e2⟩ := hap i k hi hk
      have pos : 0 < md_ap hr j i k ↔ 0 < ap i k := by
        rw [e1]
        constructor
        · intro q
          rcases Nat.eq_zero_or_pos (ap i k) with z | z
          · rw [z] at q; exact absurd q (by decide)
          · exact z
        · intro q; exact nI_gt0 q (by omega)
      have nb : bt (gz_I hc (g 0 j + 4) k) i = true ↔ 0 < ap i k := by rw [r1 k i hk hi, ← r3 i k hi hk, pos]
      unfold cl_E ck_1
      rw [nb]
      refine and_congr_right (fun p => ?_)
      rw [gaL i k hi hk (pos.mpr p), e1]
      have sb := sn_b bs i (u + 1)
      have q1 : (¬ nI (ap i k) < nI (sn bs (u + 1) i)) ↔ sn bs (u + 1) i ≤ ap i k := by
        rw [nI_ltI (by omega) (by omega)]
        omega
      rw [q1, sn_le bs i (ap i k) (by omega)]
      constructor
      · rintro ⟨d, d1, d2, d3⟩
        refine ⟨d, d1, by omega, ?_⟩
        rw [show u + 1 - 1 - d = u - d by omega, lit (u - d) i hi (by omega), show F + (u - d) = F + u - d by omega] at d3
        exact d3
      · rintro ⟨d, d1, d2, d3⟩
        refine ⟨d, d1, by omega, ?_⟩
        rw [show u + 1 - 1 - d = u - d by omega, lit (u - d) i hi (by omega), show F + (u - d) = F + u - d by omega]
        exact d3
    have CC : ∀ u k, F + u < T → k < 8 → (cl_C hc (g 0 j) (g 6 j) bs u k ↔ ck_2 hr j (g 6 j) y z F ap (F + u) k) := by
      intro u k hu hk
      unfold cl_C ck_2
      rw [lit u k hk hu]
      refine and_congr_right (fun _ => ⟨?_, ?_⟩)
      · rintro ⟨i, hi, q⟩; exact ⟨i, hi, (EE u k i hu hk (by omega)).mp q⟩
      · rintro ⟨i, hi, q⟩; exact ⟨i, hi, (EE u k i hu hk (by omega)).mpr q⟩
    by_cases ex : ∃ u, u < N ∧ ∃ k, k < g 6 j ∧ ck_2 hr j (g 6 j) y z F ap (F + u) k
    · obtain ⟨u, u1, u2, u3⟩ := gz_least (fun u => ∃ k, k < g 6 j ∧ ck_2 hr j (g 6 j) y z F ap (F + u) k) _ ex
      obtain ⟨k, k1, k2, k3⟩ := gz_least (fun k => ck_2 hr j (g 6 j) y z F ap (F + u) k) (g 6 j) u2
      obtain ⟨i, i1, i2, i3⟩ := gz_least (fun i => ck_1 hr j y z F ap (F + u) k i) (g 6 j) k2.2
      have f := f2 u k i (by omega) k1 i1 ((lit u k (by omega) (by omega)).mpr k2.1) ((EE u k i (by omega) (by omega) (by omega)).mpr i2) (fun v hv q => i3 v hv ((EE u k v (by omega) (by omega) (by omega)).mp q)) (fun v hv q => k3 v hv ((CC u v (by omega) (by omega)).mp q)) (fun v hv k' hk q => u3 v hv ⟨k', hk, (CC v k' (by omega) (by omega)).mp q⟩)
      have t := t2 u (by omega) u2 (fun v hv q => u3 v hv q)
      exact ⟨_, _, _, g, T, r7 _ _ f, r8.2 _ _ t, fr8_set (fr8_set (fr8_wr (fr8_rf _) (by omega)) (by omega)) (by omega), fr7_rf _, IV_waT (IV_wh H bs (u + 1)) i k⟩
    · have f := f1 (fun u hu k hk q => ex ⟨u, by omega, k, hk, (CC u k hu (by omega)).mp q⟩)
      have t := t1 (fun u hu k hk q => ex ⟨u, by omega, k, hk, q⟩)
      exact ⟨_, _, _, g, T, r7 _ _ f, r8.1 _ _ t, fr8_wr (fr8_rf _) (by omega), fr7_rf _, IV_wh H bs _⟩
  have rd : ∀ t, t < 2 ^ 31 → gz_I hc (g 0 j + 5) (t % 200) = gz_I hr 52 (200 * j + t % 200) := fun t _ => V.2.2.2.2.2.2.2.2 _ (Nat.mod_lt _ (by omega))
  by_cases zn : z = -1
  · subst zn
    refine key 0 0 (fun t k hk ht => ?_) (fun v h' e => ?_) ⟨fun e h' q => ?_, fun v h' q => ?_⟩
    · have ne : ¬ nI t = -1 := fun q => by
        have := nI_pos (n := t) (by omega)
        rw [q] at this
        exact this (by decide)
      rw [if_neg ne, Int32.xor_zero, rd t (by omega)]
      unfold ck_L
      exact ⟨fun q => ⟨fun _ q2 => ne q2.1, fun _ => q⟩, fun q => q.mpr (fun q2 => ne q2.1)⟩
    · simp only [se_X7_check, sm_X7_check, gz_sem, gz_ae, Value.category, gz_i, gz_l, gz_nu, gz_li, gz_ll, gz_la, gz_ib, gz_iz, gz_lb, gz_lz, gz_ls, gz_lc, gz_i2l, gz_l2i, gz_get, gz_ald, gz_len, gz_dup, gz_d2, gz_nar, gz_a0, gz_a1, gz_cs, gz_cv, gz_mk, gz_te, gz_j1, gz_j2, gz_jn, gz_jk, gz_jo, gz_ja, gz_sat, gz_seti, gz_seta, gz_set2, gz_inc, gz_put, gz_ast, gz_pop, gz_vs, gz_vv, gz_sup, gz_rv, gz_ri, gz_rl, gz_ra, gz_if, gz_seq, gz_sw, gz_st, gz_st2, rok_I, rok_J, rok_V, rok_Z0, rok_Z1, rok_Zi, rok_R, rok_N, bi_rok, bi_0, bi_1, fit_I, fit_J, fit_Z0, fit_Z1, fit_Zi, fit_R, fit_N, fit_aR, aty_I, aty_Z0, aty_Z1, aty_Zi, aty_J, gz_ix, List.getElem?_cons_zero, List.getElem?_cons_succ, List.getElem?_nil, List.reverse_cons, List.reverse_nil, List.nil_append, List.cons_append, List.take_succ_cons, List.take_zero, List.take_nil, List.length_cons, List.length_nil, decide_true, decide_false, decide_not, Bool.not_true, Bool.not_false, gz_nle, if_true, if_false, and_true, true_and, and_self, and_false, false_and, or_true, true_or, or_false, false_or, Bool.false_eq_true, not_true, not_false_iff, Decidable.not_not, Nat.reduceLeDiff, Nat.reduceAdd, Nat.reduceEqDiff, Nat.reduceSub, Nat.reduceLT, Nat.zero_add, reduceCtorEq, reduceIte, eq_self, i32_10, i32_01, Nat.zero_le, Nat.one_ne_zero, c, w, j1, st_max, T1', mx, e]
    · simp only [se_X8_check, sm_X8_check, gz_sem, gz_ae, Value.category, gz_i, gz_l, gz_nu, gz_li, gz_ll, gz_la, gz_ib, gz_iz, gz_lb, gz_lz, gz_ls, gz_lc, gz_i2l, gz_l2i, gz_get, gz_ald, gz_len, gz_dup, gz_d2, gz_nar, gz_a0, gz_a1, gz_cs, gz_cv, gz_mk, gz_te, gz_j1, gz_j2, gz_jn, gz_jk, gz_jo, gz_ja, gz_sat, gz_seti, gz_seta, gz_set2, gz_inc, gz_put, gz_ast, gz_pop, gz_vs, gz_vv, gz_sup, gz_rv, gz_ri, gz_rl, gz_ra, gz_if, gz_seq, gz_sw, gz_st, gz_st2, rok_I, rok_J, rok_V, rok_Z0, rok_Z1, rok_Zi, rok_R, rok_N, bi_rok, bi_0, bi_1, fit_I, fit_J, fit_Z0, fit_Z1, fit_Zi, fit_R, fit_N, fit_aR, aty_I, aty_Z0, aty_Z1, aty_Zi, aty_J, gz_ix, List.getElem?_cons_zero, List.getElem?_cons_succ, List.getElem?_nil, List.reverse_cons, List.reverse_nil, List.nil_append, List.cons_append, List.take_succ_cons, List.take_zero, List.take_nil, List.length_cons, List.length_nil, decide_true, decide_false, decide_not, Bool.not_true, Bool.not_false, gz_nle, if_true, if_false, and_true, true_and, and_self, and_false, false_and, or_true, true_or, or_false, false_or, Bool.false_eq_true, not_true, not_false_iff, Decidable.not_not, Nat.reduceLeDiff, Nat.reduceAdd, Nat.reduceEqDiff, Nat.reduceSub, Nat.reduceLT, Nat.zero_add, reduceCtorEq, reduceIte, eq_self, i32_10, i32_01, Nat.zero_le, Nat.one_ne_zero, m, md_k, j2, st_max, T2, mx, q]
    · simp only [se_X8_check, sm_X8_check, gz_sem, gz_ae, Value.category, gz_i, gz_l, gz_nu, gz_li, gz_ll, gz_la, gz_ib, gz_iz, gz_lb, gz_lz, gz_ls, gz_lc, gz_i2l, gz_l2i, gz_get, gz_ald, gz_len, gz_dup, gz_d2, gz_nar, gz_a0, gz_a1, gz_cs, gz_cv, gz_mk, gz_te, gz_j1, gz_j2, gz_jn, gz_jk, gz_jo, gz_ja, gz_sat, gz_seti, gz_seta, gz_set2, gz_inc, gz_put, gz_ast, gz_pop, gz_vs, gz_vv, gz_sup, gz_rv, gz_ri, gz_rl, gz_ra, gz_if, gz_seq, gz_sw, gz_st, gz_st2, rok_I, rok_J, rok_V, rok_Z0, rok_Z1, rok_Zi, rok_R, rok_N, bi_rok, bi_0, bi_1, fit_I, fit_J, fit_Z0, fit_Z1, fit_Zi, fit_R, fit_N, fit_aR, aty_I, aty_Z0, aty_Z1, aty_Zi, aty_J, gz_ix, List.getElem?_cons_zero, List.getElem?_cons_succ, List.getElem?_nil, List.reverse_cons, List.reverse_nil, List.nil_append, List.cons_append, List.take_succ_cons, List.take_zero, List.take_nil, List.length_cons, List.length_nil, decide_true, decide_false, decide_not, Bool.not_true, Bool.not_false, gz_nle, if_true, if_false, and_true, true_and, and_self, and_false, false_and, or_true, true_or, or_false, false_or, Bool.false_eq_true, not_true, not_false_iff, Decidable.not_not, Nat.reduceLeDiff, Nat.reduceAdd, Nat.reduceEqDiff, Nat.reduceSub, Nat.reduceLT, Nat.zero_add, reduceCtorEq, reduceIte, eq_self, i32_10, i32_01, Nat.zero_le, Nat.one_ne_zero, m, md_k, j2, st_max, T2, mx, q]
  rcases ja_cs hS y with hy | ⟨i, hi, rfl⟩
  · obtain ⟨a1, a2, a3⟩ := mb_no H hj hy
    refine ⟨.int (-2), hc, hr, g, T, ?_, ?_, fr8_rf _, fr7_rf _, H⟩
    · simp only [se_X7_check, sm_X7_check, gz_sem, gz_ae, Value.category, gz_i, gz_l, gz_nu, gz_li, gz_ll, gz_la, gz_ib, gz_iz, gz_lb, gz_lz, gz_ls, gz_lc, gz_i2l, gz_l2i, gz_get, gz_ald, gz_len, gz_dup, gz_d2, gz_nar, gz_a0, gz_a1, gz_cs, gz_cv, gz_mk, gz_te, gz_j1, gz_j2, gz_jn, gz_jk, gz_jo, gz_ja, gz_sat, gz_seti, gz_seta, gz_set2, gz_inc, gz_put, gz_ast, gz_pop, gz_vs, gz_vv, gz_sup, gz_rv, gz_ri, gz_rl, gz_ra, gz_if, gz_seq, gz_sw, gz_st, gz_st2, rok_I, rok_J, rok_V, rok_Z0, rok_Z1, rok_Zi, rok_R, rok_N, bi_rok, bi_0, bi_1, fit_I, fit_J, fit_Z0, fit_Z1, fit_Zi, fit_R, fit_N, fit_aR, aty_I, aty_Z0, aty_Z1, aty_Zi, aty_J, gz_ix, List.getElem?_cons_zero, List.getElem?_cons_succ, List.getElem?_nil, List.reverse_cons, List.reverse_nil, List.nil_append, List.cons_append, List.take_succ_cons, List.take_zero, List.take_nil, List.length_cons, List.length_nil, decide_true, decide_false, decide_not, Bool.not_true, Bool.not_false, gz_nle, if_true, if_false, and_true, true_and, and_self, and_false, false_and, or_true, true_or, or_false, false_or, Bool.false_eq_true, not_true, not_false_iff, Decidable.not_not, Nat.reduceLeDiff, Nat.reduceAdd, Nat.reduceEqDiff, Nat.reduceSub, Nat.reduceLT, Nat.zero_add, reduceCtorEq, reduceIte, eq_self, i32_10, i32_01, Nat.zero_le, Nat.one_ne_zero, c, jk, j1, st_max, T1', mx, zn, a1]
    · simp only [se_X8_check, sm_X8_check, gz_sem, gz_ae, Value.category, gz_i, gz_l, gz_nu, gz_li, gz_ll, gz_la, gz_ib, gz_iz, gz_lb, gz_lz, gz_ls, gz_lc, gz_i2l, gz_l2i, gz_get, gz_ald, gz_len, gz_dup, gz_d2, gz_nar, gz_a0, gz_a1, gz_cs, gz_cv, gz_mk, gz_te, gz_j1, gz_j2, gz_jn, gz_jk, gz_jo, gz_ja, gz_sat, gz_seti, gz_seta, gz_set2, gz_inc, gz_put, gz_ast, gz_pop, gz_vs, gz_vv, gz_sup, gz_rv, gz_ri, gz_rl, gz_ra, gz_if, gz_seq, gz_sw, gz_st, gz_st2, rok_I, rok_J, rok_V, rok_Z0, rok_Z1, rok_Zi, rok_R, rok_N, bi_rok, bi_0, bi_1, fit_I, fit_J, fit_Z0, fit_Z1, fit_Zi, fit_R, fit_N, fit_aR, aty_I, aty_Z0, aty_Z1, aty_Zi, aty_J, gz_ix, List.getElem?_cons_zero, List.getElem?_cons_succ, List.getElem?_nil, List.reverse_cons, List.reverse_nil, List.nil_append, List.cons_append, List.take_succ_cons, List.take_zero, List.take_nil, List.length_cons, List.length_nil, decide_true, decide_false, decide_not, Bool.not_true, Bool.not_false, gz_nle, if_true, if_false, and_true, true_and, and_self, and_false, false_and, or_true, true_or, or_false, false_or, Bool.false_eq_true, not_true, not_false_iff, Decidable.not_not, Nat.reduceLeDiff, Nat.reduceAdd, Nat.reduceEqDiff, Nat.reduceSub, Nat.reduceLT, Nat.zero_add, reduceCtorEq, reduceIte, eq_self, i32_10, i32_01, Nat.zero_le, Nat.one_ne_zero, m, md_k, j2, st_max, T2, mx, zn, a3]
  obtain ⟨a1, a2, a3⟩ := mb_yes H hj hi
  by_cases oz : z < nI F ∨ nI T - 1 < z
  · obtain ⟨o1, o2⟩ := io_no oz hc hr
    refine ⟨.int (-2), hc, hr, g, T, ?_, ?_, fr8_rf _, fr7_rf _, H⟩
    · simp only [se_X7_check, sm_X7_check, gz_sem, gz_ae, Value.category, gz_i, gz_l, gz_nu, gz_li, gz_ll, gz_la, gz_ib, gz_iz, gz_lb, gz_lz, gz_ls, gz_lc, gz_i2l, gz_l2i, gz_get, gz_ald, gz_len, gz_dup, gz_d2, gz_nar, gz_a0, gz_a1, gz_cs, gz_cv, gz_mk, gz_te, gz_j1, gz_j2, gz_jn, gz_jk, gz_jo, gz_ja, gz_sat, gz_seti, gz_seta, gz_set2, gz_inc, gz_put, gz_ast, gz_pop, gz_vs, gz_vv, gz_sup, gz_rv, gz_ri, gz_rl, gz_ra, gz_if, gz_seq, gz_sw, gz_st, gz_st2, rok_I, rok_J, rok_V, rok_Z0, rok_Z1, rok_Zi, rok_R, rok_N, bi_rok, bi_0, bi_1, fit_I, fit_J, fit_Z0, fit_Z1, fit_Zi, fit_R, fit_N, fit_aR, aty_I, aty_Z0, aty_Z1, aty_Zi, aty_J, gz_ix, List.getElem?_cons_zero, List.getElem?_cons_succ, List.getElem?_nil, List.reverse_cons, List.reverse_nil, List.nil_append, List.cons_append, List.take_succ_cons, List.take_zero, List.take_nil, List.length_cons, List.length_nil, decide_true, decide_false, decide_not, Bool.not_true, Bool.not_false, gz_nle, if_true, if_false, and_true, true_and, and_self, and_false, false_and, or_true, true_or, or_false, false_or, Bool.false_eq_true, not_true, not_false_iff, Decidable.not_not, Nat.reduceLeDiff, Nat.reduceAdd, Nat.reduceEqDiff, Nat.reduceSub, Nat.reduceLT, Nat.zero_add, reduceCtorEq, reduceIte, eq_self, i32_10, i32_01, Nat.zero_le, Nat.one_ne_zero, c, jk, j1, st_max, T1', mx, zn, a1, o1]
    · simp only [se_X8_check, sm_X8_check, gz_sem, gz_ae, Value.category, gz_i, gz_l, gz_nu, gz_li, gz_ll, gz_la, gz_ib, gz_iz, gz_lb, gz_lz, gz_ls, gz_lc, gz_i2l, gz_l2i, gz_get, gz_ald, gz_len, gz_dup, gz_d2, gz_nar, gz_a0, gz_a1, gz_cs, gz_cv, gz_mk, gz_te, gz_j1, gz_j2, gz_jn, gz_jk, gz_jo, gz_ja, gz_sat, gz_seti, gz_seta, gz_set2, gz_inc, gz_put, gz_ast, gz_pop, gz_vs, gz_vv, gz_sup, gz_rv, gz_ri, gz_rl, gz_ra, gz_if, gz_seq, gz_sw, gz_st, gz_st2, rok_I, rok_J, rok_V, rok_Z0, rok_Z1, rok_Zi, rok_R, rok_N, bi_rok, bi_0, bi_1, fit_I, fit_J, fit_Z0, fit_Z1, fit_Zi, fit_R, fit_N, fit_aR, aty_I, aty_Z0, aty_Z1, aty_Zi, aty_J, gz_ix, List.getElem?_cons_zero, List.getElem?_cons_succ, List.getElem?_nil, List.reverse_cons, List.reverse_nil, List.nil_append, List.cons_append, List.take_succ_cons, List.take_zero, List.take_nil, List.length_cons, List.length_nil, decide_true, decide_false, decide_not, Bool.not_true, Bool.not_false, gz_nle, if_true, if_false, and_true, true_and, and_self, and_false, false_and, or_true, true_or, or_false, false_or, Bool.false_eq_true, not_true, not_false_iff, Decidable.not_not, Nat.reduceLeDiff, Nat.reduceAdd, Nat.reduceEqDiff, Nat.reduceSub, Nat.reduceLT, Nat.zero_add, reduceCtorEq, reduceIte, eq_self, i32_10, i32_01, Nat.zero_le, Nat.one_ne_zero, m, md_k, j2, st_max, T2, mx, zn, a3, o2]
  obtain ⟨o1, o2⟩ := io_yes' oz hc hr
  refine key ((1 : Int32) <<< (nI i &&& 31)) 1 (fun t k hk ht => ?_) (fun v h' e => ?_) ⟨fun e h' q => ?_, fun v h' q => ?_⟩
  · rw [rd t (by omega)]
    unfold ck_L
    have bi : bt ((1 : Int32) <<< (nI i &&& 31)) k = decide (k = i) := by
      rw [one_shl i (by omega), bt_nI (by omega), Nat.testBit_two_pow]
      by_cases q : i = k
      · subst q; simp
      · simp [q, Ne.symm q]
    have ik : nI k = nI i ↔ k = i := nI_eq (by omega) (by omega)
    by_cases q : nI t = z
    · rw [if_pos q, b_xor, bi, ik]
      by_cases q2 : k = i
      · have q3 : nI t = z ∧ k = i := ⟨q, q2⟩
        simp only [q3, q2, decide_true, Bool.xor_true]
        cases bt (gz_I hr 52 (200 * j + t % 200)) i <;> simp
      · have q3 : ¬ (nI t = z ∧ k = i) := fun w => q2 w.2
        simp only [q3, q2, decide_false, Bool.xor_false, and_false, not_false_iff, iff_true]
    · have q3 : ¬ (nI t = z ∧ nI k = nI i) := fun w => q w.1
      rw [if_neg q, Int32.xor_zero]
      simp only [q3, not_false_iff, iff_true]
  · simp only [se_X7_check, sm_X7_check, gz_sem, gz_ae, Value.category, gz_i, gz_l, gz_nu, gz_li, gz_ll, gz_la, gz_ib, gz_iz, gz_lb, gz_lz, gz_ls, gz_lc, gz_i2l, gz_l2i, gz_get, gz_ald, gz_len, gz_dup, gz_d2, gz_nar, gz_a0, gz_a1, gz_cs, gz_cv, gz_mk, gz_te, gz_j1, gz_j2, gz_jn, gz_jk, gz_jo, gz_ja, gz_sat, gz_seti, gz_seta, gz_set2, gz_inc, gz_put, gz_ast, gz_pop, gz_vs, gz_vv, gz_sup, gz_rv, gz_ri, gz_rl, gz_ra, gz_if, gz_seq, gz_sw, gz_st, gz_st2, rok_I, rok_J, rok_V, rok_Z0, rok_Z1, rok_Zi, rok_R, rok_N, bi_rok, bi_0, bi_1, fit_I, fit_J, fit_Z0, fit_Z1, fit_Zi, fit_R, fit_N, fit_aR, aty_I, aty_Z0, aty_Z1, aty_Zi, aty_J, gz_ix, List.getElem?_cons_zero, List.getElem?_cons_succ, List.getElem?_nil, List.reverse_cons, List.reverse_nil, List.nil_append, List.cons_append, List.take_succ_cons, List.take_zero, List.take_nil, List.length_cons, List.length_nil, decide_true, decide_false, decide_not, Bool.not_true, Bool.not_false, gz_nle, if_true, if_false, and_true, true_and, and_self, and_false, false_and, or_true, true_or, or_false, false_or, Bool.false_eq_true, not_true, not_false_iff, Decidable.not_not, Nat.reduceLeDiff, Nat.reduceAdd, Nat.reduceEqDiff, Nat.reduceSub, Nat.reduceLT, Nat.zero_add, reduceCtorEq, reduceIte, eq_self, i32_10, i32_01, Nat.zero_le, Nat.one_ne_zero, c, w, jk, j1, st_max, T1', mx, zn, a1, o1, e]
  · simp only [se_X8_check, sm_X8_check, gz_sem, gz_ae, Value.category, gz_i, gz_l, gz_nu, gz_li, gz_ll, gz_la, gz_ib, gz_iz, gz_lb, gz_lz, gz_ls, gz_lc, gz_i2l, gz_l2i, gz_get, gz_ald, gz_len, gz_dup, gz_d2, gz_nar, gz_a0, gz_a1, gz_cs, gz_cv, gz_mk, gz_te, gz_j1, gz_j2, gz_jn, gz_jk, gz_jo, gz_ja, gz_sat, gz_seti, gz_seta, gz_set2, gz_inc, gz_put, gz_ast, gz_pop, gz_vs, gz_vv, gz_sup, gz_rv, gz_ri, gz_rl, gz_ra, gz_if, gz_seq, gz_sw, gz_st, gz_st2, rok_I, rok_J, rok_V, rok_Z0, rok_Z1, rok_Zi, rok_R, rok_N, bi_rok, bi_0, bi_1, fit_I, fit_J, fit_Z0, fit_Z1, fit_Zi, fit_R, fit_N, fit_aR, aty_I, aty_Z0, aty_Z1, aty_Zi, aty_J, gz_ix, List.getElem?_cons_zero, List.getElem?_cons_succ, List.getElem?_nil, List.reverse_cons, List.reverse_nil, List.nil_append, List.cons_append, List.take_succ_cons, List.take_zero, List.take_nil, List.length_cons, List.length_nil, decide_true, decide_false, decide_not, Bool.not_true, Bool.not_false, gz_nle, if_true, if_false, and_true, true_and, and_self, and_false, false_and, or_true, true_or, or_false, false_or, Bool.false_eq_true, not_true, not_false_iff, Decidable.not_not, Nat.reduceLeDiff, Nat.reduceAdd, Nat.reduceEqDiff, Nat.reduceSub, Nat.reduceLT, Nat.zero_add, reduceCtorEq, reduceIte, eq_self, i32_10, i32_01, Nat.zero_le, Nat.one_ne_zero, m, md_k, j2, st_max, T2, mx, zn, a3, o2, q]
  · simp only [se_X8_check, sm_X8_check, gz_sem, gz_ae, Value.category, gz_i, gz_l, gz_nu, gz_li, gz_ll, gz_la, gz_ib, gz_iz, gz_lb, gz_lz, gz_ls, gz_lc, gz_i2l, gz_l2i, gz_get, gz_ald, gz_len, gz_dup, gz_d2, gz_nar, gz_a0, gz_a1, gz_cs, gz_cv, gz_mk, gz_te, gz_j1, gz_j2, gz_jn, gz_jk, gz_jo, gz_ja, gz_sat, gz_seti, gz_seta, gz_set2, gz_inc, gz_put, gz_ast, gz_pop, gz_vs, gz_vv, gz_sup, gz_rv, gz_ri, gz_rl, gz_ra, gz_if, gz_seq, gz_sw, gz_st, gz_st2, rok_I, rok_J, rok_V, rok_Z0, rok_Z1, rok_Zi, rok_R, rok_N, bi_rok, bi_0, bi_1, fit_I, fit_J, fit_Z0, fit_Z1, fit_Zi, fit_R, fit_N, fit_aR, aty_I, aty_Z0, aty_Z1, aty_Zi, aty_J, gz_ix, List.getElem?_cons_zero, List.getElem?_cons_succ, List.getElem?_nil, List.reverse_cons, List.reverse_nil, List.nil_append, List.cons_append, List.take_succ_cons, List.take_zero, List.take_nil, List.length_cons, List.length_nil, decide_true, decide_false, decide_not, Bool.not_true, Bool.not_false, gz_nle, if_true, if_false, and_true, true_and, and_self, and_false, false_and, or_true, true_or, or_false, false_or, Bool.false_eq_true, not_true, not_false_iff, Decidable.not_not, Nat.reduceLeDiff, Nat.reduceAdd, Nat.reduceEqDiff, Nat.reduceSub, Nat.reduceLT, Nat.zero_add, reduceCtorEq, reduceIte, eq_self, i32_10, i32_01, Nat.zero_le, Nat.one_ne_zero, m, md_k, j2, st_max, T2, mx, zn, a3, o2, q]
