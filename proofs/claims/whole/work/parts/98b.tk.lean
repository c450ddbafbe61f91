/-- lamps and stages by places -/
theorem ps_one {g b : Nat → Nat} {s s' t : Nat} (h1 : gz_ps g b s ≤ t) (h2 : t < gz_ps g b (s + 1)) (h3 : gz_ps g b s' ≤ t) (h4 : t < gz_ps g b (s' + 1)) : s = s' := by
  rcases Nat.lt_trichotomy s s' with q | q | q
  · have := ps_le (g := g) (b := b) (s := s + 1) (t := s') (by omega)
    omega
  · exact q
  · have := ps_le (g := g) (b := b) (s := s' + 1) (t := s) (by omega)
    omega
theorem ex_T (n : Nat) (g b : Nat → Nat) : ∃ T, gz_SS n g b T := by
  refine ⟨fun t => @dite Int32 (∃ s, gz_ps g b s ≤ t ∧ t < gz_ps g b (s + 1)) (Classical.propDecidable _) (fun h => nI h.choose) (fun _ => 0), fun s hs t h1 h2 => ?_⟩
  have ex : ∃ s, gz_ps g b s ≤ t ∧ t < gz_ps g b (s + 1) := ⟨s, h1, h2⟩
  refine (dif_pos ex).trans ?_
  rw [ps_one ex.choose_spec.1 ex.choose_spec.2 h1 h2]
theorem ex_L (n : Nat) (g b : Nat → Nat) (r : Nat → Int32) : ∃ L, gz_LS n g b r L := by
  refine ⟨fun t => @dite Int32 (∃ s, gz_ps g b s ≤ t ∧ t < gz_ps g b (s + 1)) (Classical.propDecidable _) (fun h => if t < gz_ps g b h.choose + g h.choose then r h.choose else r h.choose &&& r (gz_nx n h.choose)) (fun _ => 0), fun s hs => ⟨fun t h1 h2 => ?_, fun t h1 h2 => ?_⟩⟩
  · have ex : ∃ s, gz_ps g b s ≤ t ∧ t < gz_ps g b (s + 1) := ⟨s, h1, by show t < gz_ps g b s + g s + b s; omega⟩
    refine (dif_pos ex).trans ?_
    have e := ps_one ex.choose_spec.1 ex.choose_spec.2 h1 (show t < gz_ps g b s + g s + b s by omega)
    rw [e, if_pos h2]
  · have ex : ∃ s, gz_ps g b s ≤ t ∧ t < gz_ps g b (s + 1) := ⟨s, by omega, h2⟩
    refine (dif_pos ex).trans ?_
    have e := ps_one ex.choose_spec.1 ex.choose_spec.2 (show gz_ps g b s ≤ t by omega) h2
    rw [e, if_neg (by omega)]
theorem LS_c {n : Nat} {g b : Nat → Nat} {r r' L : Nat → Int32} (e : ∀ s, s < n → r' s = r s) (H : gz_LS n g b r L) : gz_LS n g b r' L := fun s hs => by
  rw [e s hs, e _ (nx_lt hs)]
  exact H s hs
/-- a fold of greatest ones stays below 20 -/
theorem fo_20 {f : Nat → Int32 → Int32} : ∀ n, (∀ i, i < n → ∀ x, (∃ m, m ≤ 20 ∧ x = nI m) → ∃ m, m ≤ 20 ∧ f i x = nI m) → ∀ x, (∃ m, m ≤ 20 ∧ x = nI m) → ∃ m, m ≤ 20 ∧ gz_fo f x n = nI m := by
  intro n
  induction n with
  | zero => intro _ x hx; exact hx
  | succ n ih => intro h x hx; exact h n (by omega) _ (ih (fun i hi => h i (by omega)) x hx)
theorem ap_20 {hc hr : gz_H} {a j : Nat} (H : J2 hc hr a j) {i k : Nat} (hi : i < 8) (hk : k < 8) : ∃ m, m ≤ 20 ∧ md_ap hr j i k = nI m := by
  unfold md_ap
  by_cases z : gz_I hr 22 (64 * j + 8 * i + k) = 0 ∧ gz_I hr 22 (64 * j + 8 * k + i) = 0
  · rw [if_pos z]; exact H.2.1 i k hi hk
  · rw [if_neg z]; exact ⟨0, by omega, rfl⟩
theorem bw_20 {hc hr : gz_H} {a j : Nat} (H : J2 hc hr a j) (e b : Int32) : ∃ m, m ≤ 20 ∧ md_bw hr j e b = nI m := by
  unfold md_bw
  refine fo_20 8 (fun i hi x hx => fo_20 8 (fun k hk y hy => ?_) x hx) 0 ⟨0, by omega, rfl⟩
  show ∃ m, m ≤ 20 ∧ (if bt e i = true ∧ bt b k = true then gz_mx y (md_ap hr j i k) else y) = nI m
  by_cases z : bt e i = true ∧ bt b k = true
  · rw [if_pos z]
    obtain ⟨m1, h1, e1⟩ := hy
    obtain ⟨m2, h2, e2⟩ := ap_20 H hi hk
    rw [e1, e2, mx_nI (by omega) (by omega)]
    exact ⟨max m1 m2, by omega, rfl⟩
  · rw [if_neg z]; exact hy
/-- greens and betweens of a plan as numbers -/
theorem gb_of {hc hr : gz_H} {a j S q p n c : Nat} (hp : p % 8 = j) (H2 : J2 hc hr a j) (H : PV hc hr S q p n c) : ∃ G B : Nat → Nat, (∀ s, s < n → gz_I hc (q + 2) s = nI (G s) ∧ gz_I hr 27 (4 * p + s) = nI (G s) ∧ G s ≤ 90) ∧ ∀ s, s < n → gz_I hc (q + 3) s = nI (B s) ∧ bw hr p n s = nI (B s) ∧ B s ≤ 20 := by
  obtain ⟨h1, h2, h3, h4, h5, h6, h7, h8⟩ := H
  have e1 : ∀ s, ∃ m, s < n → gz_I hc (q + 2) s = nI m ∧ gz_I hr 27 (4 * p + s) = nI m ∧ m ≤ 90 := fun s => by
    by_cases hs : s < n
    · obtain ⟨-, -, -, a4, ⟨m, m1, m2⟩, -⟩ := h8 s hs
      exact ⟨m, fun _ => ⟨by rw [a4, m2], m2, m1⟩⟩
    · exact ⟨0, fun z => absurd z hs⟩
  have e2 : ∀ s, ∃ m, s < n → gz_I hc (q + 3) s = nI m ∧ bw hr p n s = nI m ∧ m ≤ 20 := fun s => by
    by_cases hs : s < n
    · obtain ⟨-, -, -, -, -, a6⟩ := h8 s hs
      have : ∃ m, m ≤ 20 ∧ bw hr p n s = nI m := by
        unfold bw
        rw [hp]
        exact bw_20 H2 _ _
      obtain ⟨m, m1, m2⟩ := this
      exact ⟨m, fun _ => ⟨by rw [a6, m2], m2, m1⟩⟩
    · exact ⟨0, fun z => absurd z hs⟩
  exact ⟨fun s => (e1 s).choose, fun s => (e2 s).choose, fun s hs => (e1 s).choose_spec hs, fun s hs => (e2 s).choose_spec hs⟩
theorem sum_ps {h : gz_H} {a b n : Nat} {G B : Nat → Nat} (hG : ∀ s, s < n → gz_I h a s = nI (G s)) (hB : ∀ s, s < n → gz_I h b s = nI (B s)) : ∀ k, k ≤ n → gz_sum h a k + gz_sum h b k = nI (gz_ps G B k) := by
  intro k
  induction k with
  | zero => intro _; rfl
  | succ k ih =>
    intro hk
    show gz_sum h a k + gz_I h a k + (gz_sum h b k + gz_I h b k) = nI (gz_ps G B k + G k + B k)
    rw [hG k (by omega), hB k (by omega), ← nI_add, ← nI_add, ← ih (by omega), Int32.add_assoc, Int32.add_assoc, Int32.add_assoc]
    congr 1
    rw [← Int32.add_assoc, ← Int32.add_assoc, Int32.add_comm (nI (G k)) (gz_sum h b k)]
theorem ps_bd {G B : Nat → Nat} {n : Nat} (hG : ∀ s, s < n → G s ≤ 90) (hB : ∀ s, s < n → B s ≤ 20) : ∀ k, k ≤ n → gz_ps G B k ≤ 110 * k := by
  intro k
  induction k with
  | zero => intro _; exact Nat.le_refl _
  | succ k ih =>
    intro hk
    have a1 := ih (by omega)
    have a2 := hG k (by omega)
    have a3 := hB k (by omega)
    show gz_ps G B k + G k + B k ≤ 110 * (k + 1)
    omega
set_option maxHeartbeats 4000000 in
theorem st_X7_tellsShortGreen (h : gz_H) (J a S q n c : Nat) (lN : Nat → Nat) (cc : cs h J) (j : jc h a S) (h8 : S ≤ 8) (k : pc h q n) (hc : gz_I h q 0 = nI c) (h0 : 0 < c) (h9 : c ≤ 90) (hs : ∀ i, i < S → sl h a i (lN i) ∧ lN i ≤ 30) : ((∀ t, t < c → ∀ i, i < S → ¬ pc_short h q c t i (lN i)) → se_X7_tellsShortGreen [.ref 0, .ref a, .ref q] h = some (some (.int 0), h)) ∧ (∀ t i, t < c → i < S → pc_short h q c t i (lN i) → (∀ u, u < i → ¬ pc_short h q c t u (lN u)) → (∀ t', t' < t → ∀ i, i < S → ¬ pc_short h q c t' i (lN i)) → se_X7_tellsShortGreen [.ref 0, .ref a, .ref q] h = some (some (.int 1), gz_set (gz_set (gz_set h 0 6 (.int (nI t))) 0 7 (.int (nI i))) 0 8 (.int (-1)))) := by
  have go : ∀ t, t < c → (∀ i, i < S → ¬ pc_short h q c t i (lN i)) → lb_X7_tellsShortGreen_2 ([Value.ref 0, .ref a, .ref q, .int (nI t)].take 4) h = some (.inl (2, [.ref 0, .ref a, .ref q, .int (nI (t + 1)), .int (-1)], h)) := by
    intro t ht no
    have k1 : nI t < nI c := nI_lt ht (by omega)
    have f := (st_X1_firstShortGreen h a S q n c t lN j h8 k hc h0 h9 ht hs).1 no
    simp only [lb_X7_tellsShortGreen_2, gz_sem, gz_ae, Value.category, gz_i, gz_l, gz_nu, gz_li, gz_ll, gz_la, gz_ib, gz_iz, gz_lb, gz_lz, gz_ls, gz_lc, gz_i2l, gz_l2i, gz_get, gz_ald, gz_len, gz_dup, gz_d2, gz_nar, gz_a0, gz_a1, gz_cs, gz_cv, gz_mk, gz_te, gz_j1, gz_j2, gz_jn, gz_jk, gz_jo, gz_ja, gz_sat, gz_seti, gz_seta, gz_set2, gz_inc, gz_put, gz_ast, gz_pop, gz_vs, gz_vv, gz_sup, gz_rv, gz_ri, gz_rl, gz_ra, gz_if, gz_seq, gz_sw, gz_st, gz_st2, rok_I, rok_J, rok_V, rok_Z0, rok_Z1, rok_Zi, rok_R, rok_N, bi_rok, bi_0, bi_1, fit_I, fit_J, fit_Z0, fit_Z1, fit_Zi, fit_R, fit_N, fit_aR, aty_I, aty_Z0, aty_Z1, aty_Zi, aty_J, gz_ix, List.getElem?_cons_zero, List.getElem?_cons_succ, List.getElem?_nil, List.reverse_cons, List.reverse_nil, List.nil_append, List.cons_append, List.take_succ_cons, List.take_zero, List.take_nil, List.length_cons, List.length_nil, decide_true, decide_false, decide_not, Bool.not_true, Bool.not_false, gz_nle, if_true, if_false, and_true, true_and, and_self, and_false, false_and, or_true, true_or, or_false, false_or, Bool.false_eq_true, not_true, not_false_iff, Decidable.not_not, Nat.reduceLeDiff, Nat.reduceAdd, Nat.reduceEqDiff, Nat.reduceSub, Nat.reduceLT, Nat.zero_add, reduceCtorEq, reduceIte, eq_self, i32_10, i32_01, Nat.zero_le, Nat.one_ne_zero, cc, j, k, hc, k1, f, nI_1]
  constructor
  · intro no
    have l := gz_forF (L := 2) (k := 4) (X := 48) (a := lb_X7_tellsShortGreen_2) c (fun t => [.ref 0, .ref a, .ref q, .int (nI t)]) (fun t => [.ref 0, .ref a, .ref q, .int (nI (t + 1)), .int (-1)]) (fun _ => h) (env' := [.ref 0, .ref a, .ref q, .int (nI c)]) (h' := h) (by decide) (fun _ => rfl) (fun t ht => go t ht (no t ht)) (by
      have k1 : ¬ nI c < nI c := nI_nlt (Nat.le_refl _) (by omega)
      simp only [lb_X7_tellsShortGreen_2, gz_sem, gz_ae, Value.category, gz_i, gz_l, gz_nu, gz_li, gz_ll, gz_la, gz_ib, gz_iz, gz_lb, gz_lz, gz_ls, gz_lc, gz_i2l, gz_l2i, gz_get, gz_ald, gz_len, gz_dup, gz_d2, gz_nar, gz_a0, gz_a1, gz_cs, gz_cv, gz_mk, gz_te, gz_j1, gz_j2, gz_jn, gz_jk, gz_jo, gz_ja, gz_sat, gz_seti, gz_seta, gz_set2, gz_inc, gz_put, gz_ast, gz_pop, gz_vs, gz_vv, gz_sup, gz_rv, gz_ri, gz_rl, gz_ra, gz_if, gz_seq, gz_sw, gz_st, gz_st2, rok_I, rok_J, rok_V, rok_Z0, rok_Z1, rok_Zi, rok_R, rok_N, bi_rok, bi_0, bi_1, fit_I, fit_J, fit_Z0, fit_Z1, fit_Zi, fit_R, fit_N, fit_aR, aty_I, aty_Z0, aty_Z1, aty_Zi, aty_J, gz_ix, List.getElem?_cons_zero, List.getElem?_cons_succ, List.getElem?_nil, List.reverse_cons, List.reverse_nil, List.nil_append, List.cons_append, List.take_succ_cons, List.take_zero, List.take_nil, List.length_cons, List.length_nil, decide_true, decide_false, decide_not, Bool.not_true, Bool.not_false, gz_nle, if_true, if_false, and_true, true_and, and_self, and_false, false_and, or_true, true_or, or_false, false_or, Bool.false_eq_true, not_true, not_false_iff, Decidable.not_not, Nat.reduceLeDiff, Nat.reduceAdd, Nat.reduceEqDiff, Nat.reduceSub, Nat.reduceLT, Nat.zero_add, reduceCtorEq, reduceIte, eq_self, i32_10, i32_01, Nat.zero_le, Nat.one_ne_zero, k, hc, k1]) c 0 (by omega)
    rw [nI_0] at l
    simp only [se_X7_tellsShortGreen, sm_X7_tellsShortGreen, gz_sem, gz_ae, Value.category, gz_i, gz_l, gz_nu, gz_li, gz_ll, gz_la, gz_ib, gz_iz, gz_lb, gz_lz, gz_ls, gz_lc, gz_i2l, gz_l2i, gz_get, gz_ald, gz_len, gz_dup, gz_d2, gz_nar, gz_a0, gz_a1, gz_cs, gz_cv, gz_mk, gz_te, gz_j1, gz_j2, gz_jn, gz_jk, gz_jo, gz_ja, gz_sat, gz_seti, gz_seta, gz_set2, gz_inc, gz_put, gz_ast, gz_pop, gz_vs, gz_vv, gz_sup, gz_rv, gz_ri, gz_rl, gz_ra, gz_if, gz_seq, gz_sw, gz_st, gz_st2, rok_I, rok_J, rok_V, rok_Z0, rok_Z1, rok_Zi, rok_R, rok_N, bi_rok, bi_0, bi_1, fit_I, fit_J, fit_Z0, fit_Z1, fit_Zi, fit_R, fit_N, fit_aR, aty_I, aty_Z0, aty_Z1, aty_Zi, aty_J, gz_ix, List.getElem?_cons_zero, List.getElem?_cons_succ, List.getElem?_nil, List.reverse_cons, List.reverse_nil, List.nil_append, List.cons_append, List.take_succ_cons, List.take_zero, List.take_nil, List.length_cons, List.length_nil, decide_true, decide_false, decide_not, Bool.not_true, Bool.not_false, gz_nle, if_true, if_false, and_true, true_and, and_self, and_false, false_and, or_true, true_or, or_false, false_or, Bool.false_eq_true, not_true, not_false_iff, Decidable.not_not, Nat.reduceLeDiff, Nat.reduceAdd, Nat.reduceEqDiff, Nat.reduceSub, Nat.reduceLT, Nat.zero_add, reduceCtorEq, reduceIte, eq_self, i32_10, i32_01, Nat.zero_le, Nat.one_ne_zero, l]
  · intro t i ht hi hy hi2 ht2
    have k1 : nI t < nI c := nI_lt ht (by omega)
    have f := (st_X1_firstShortGreen h a S q n c t lN j h8 k hc h0 h9 ht hs).2 i hi hy hi2
    have ne : ¬ nI i = -1 := fun z => by
      have := nI_pos (n := i) (by omega)
      rw [z] at this
      exact this (by decide)
    have l := gz_seek0E (L := 2) (k := 4) (a := lb_X7_tellsShortGreen_2) (h := h) c (fun t => ∃ i, i < S ∧ pc_short h q c t i (lN i)) (fun t => [.ref 0, .ref a, .ref q, .int (nI t)]) (fun t => (some (.int 1), gz_set (gz_set (gz_set h 0 6 (.int (nI t))) 0 7 (.int (nI i))) 0 8 (.int (-1)))) (fun u hu hn => ⟨[.ref 0, .ref a, .ref q, .int (nI (u + 1)), .int (-1)], rfl, go u hu (fun i hi z => hn ⟨i, hi, z⟩)⟩) t (by
      simp only [lb_X7_tellsShortGreen_2, gz_sem, gz_ae, Value.category, gz_i, gz_l, gz_nu, gz_li, gz_ll, gz_la, gz_ib, gz_iz, gz_lb, gz_lz, gz_ls, gz_lc, gz_i2l, gz_l2i, gz_get, gz_ald, gz_len, gz_dup, gz_d2, gz_nar, gz_a0, gz_a1, gz_cs, gz_cv, gz_mk, gz_te, gz_j1, gz_j2, gz_jn, gz_jk, gz_jo, gz_ja, gz_sat, gz_seti, gz_seta, gz_set2, gz_inc, gz_put, gz_ast, gz_pop, gz_vs, gz_vv, gz_sup, gz_rv, gz_ri, gz_rl, gz_ra, gz_if, gz_seq, gz_sw, gz_st, gz_st2, rok_I, rok_J, rok_V, rok_Z0, rok_Z1, rok_Zi, rok_R, rok_N, bi_rok, bi_0, bi_1, fit_I, fit_J, fit_Z0, fit_Z1, fit_Zi, fit_R, fit_N, fit_aR, aty_I, aty_Z0, aty_Z1, aty_Zi, aty_J, gz_ix, List.getElem?_cons_zero, List.getElem?_cons_succ, List.getElem?_nil, List.reverse_cons, List.reverse_nil, List.nil_append, List.cons_append, List.take_succ_cons, List.take_zero, List.take_nil, List.length_cons, List.length_nil, decide_true, decide_false, decide_not, Bool.not_true, Bool.not_false, gz_nle, if_true, if_false, and_true, true_and, and_self, and_false, false_and, or_true, true_or, or_false, false_or, Bool.false_eq_true, not_true, not_false_iff, Decidable.not_not, Nat.reduceLeDiff, Nat.reduceAdd, Nat.reduceEqDiff, Nat.reduceSub, Nat.reduceLT, Nat.zero_add, reduceCtorEq, reduceIte, eq_self, i32_10, i32_01, Nat.zero_le, Nat.one_ne_zero, cc, j, k, hc, k1, f, ne, gz_n_set, gz_k_set]) ht (fun u hu ⟨i, hi, z⟩ => ht2 u hu i hi z)
    rw [nI_0] at l
    simp only [se_X7_tellsShortGreen, sm_X7_tellsShortGreen, gz_sem, gz_ae, Value.category, gz_i, gz_l, gz_nu, gz_li, gz_ll, gz_la, gz_ib, gz_iz, gz_lb, gz_lz, gz_ls, gz_lc, gz_i2l, gz_l2i, gz_get, gz_ald, gz_len, gz_dup, gz_d2, gz_nar, gz_a0, gz_a1, gz_cs, gz_cv, gz_mk, gz_te, gz_j1, gz_j2, gz_jn, gz_jk, gz_jo, gz_ja, gz_sat, gz_seti, gz_seta, gz_set2, gz_inc, gz_put, gz_ast, gz_pop, gz_vs, gz_vv, gz_sup, gz_rv, gz_ri, gz_rl, gz_ra, gz_if, gz_seq, gz_sw, gz_st, gz_st2, rok_I, rok_J, rok_V, rok_Z0, rok_Z1, rok_Zi, rok_R, rok_N, bi_rok, bi_0, bi_1, fit_I, fit_J, fit_Z0, fit_Z1, fit_Zi, fit_R, fit_N, fit_aR, aty_I, aty_Z0, aty_Z1, aty_Zi, aty_J, gz_ix, List.getElem?_cons_zero, List.getElem?_cons_succ, List.getElem?_nil, List.reverse_cons, List.reverse_nil, List.nil_append, List.cons_append, List.take_succ_cons, List.take_zero, List.take_nil, List.length_cons, List.length_nil, decide_true, decide_false, decide_not, Bool.not_true, Bool.not_false, gz_nle, if_true, if_false, and_true, true_and, and_self, and_false, false_and, or_true, true_or, or_false, false_or, Bool.false_eq_true, not_true, not_false_iff, Decidable.not_not, Nat.reduceLeDiff, Nat.reduceAdd, Nat.reduceEqDiff, Nat.reduceSub, Nat.reduceLT, Nat.zero_add, reduceCtorEq, reduceIte, eq_self, i32_10, i32_01, Nat.zero_le, Nat.one_ne_zero, l]
set_option maxHeartbeats 4000000 in
theorem no_X7_tellsClash (h h' : gz_H) (J a q : Nat) (cc : cs h J) (w : wc h 2) (e : se_X5_firstClashOf [.ref 2, .ref a, .ref q] h = some (some (.int (-1)), h')) : se_X7_tellsClash [.ref 0, .ref a, .ref q] h = some (some (.int 0), h') := by
  simp only [se_X7_tellsClash, sm_X7_tellsClash, gz_sem, gz_ae, Value.category, gz_i, gz_l, gz_nu, gz_li, gz_ll, gz_la, gz_ib, gz_iz, gz_lb, gz_lz, gz_ls, gz_lc, gz_i2l, gz_l2i, gz_get, gz_ald, gz_len, gz_dup, gz_d2, gz_nar, gz_a0, gz_a1, gz_cs, gz_cv, gz_mk, gz_te, gz_j1, gz_j2, gz_jn, gz_jk, gz_jo, gz_ja, gz_sat, gz_seti, gz_seta, gz_set2, gz_inc, gz_put, gz_ast, gz_pop, gz_vs, gz_vv, gz_sup, gz_rv, gz_ri, gz_rl, gz_ra, gz_if, gz_seq, gz_sw, gz_st, gz_st2, rok_I, rok_J, rok_V, rok_Z0, rok_Z1, rok_Zi, rok_R, rok_N, bi_rok, bi_0, bi_1, fit_I, fit_J, fit_Z0, fit_Z1, fit_Zi, fit_R, fit_N, fit_aR, aty_I, aty_Z0, aty_Z1, aty_Zi, aty_J, gz_ix, List.getElem?_cons_zero, List.getElem?_cons_succ, List.getElem?_nil, List.reverse_cons, List.reverse_nil, List.nil_append, List.cons_append, List.take_succ_cons, List.take_zero, List.take_nil, List.length_cons, List.length_nil, decide_true, decide_false, decide_not, Bool.not_true, Bool.not_false, gz_nle, if_true, if_false, and_true, true_and, and_self, and_false, false_and, or_true, true_or, or_false, false_or, Bool.false_eq_true, not_true, not_false_iff, Decidable.not_not, Nat.reduceLeDiff, Nat.reduceAdd, Nat.reduceEqDiff, Nat.reduceSub, Nat.reduceLT, Nat.zero_add, reduceCtorEq, reduceIte, eq_self, i32_10, i32_01, Nat.zero_le, Nat.one_ne_zero, cc, w, e]
set_option maxHeartbeats 4000000 in
theorem yes_X7_tellsClash (h h1 : gz_H) (J a q t i k : Nat) (cc : cs h J) (w : wc h 2) (c1 : cs h1 J) (w1 : wc h1 2) (ht : t < 2 ^ 31) (e : se_X5_firstClashOf [.ref 2, .ref a, .ref q] h = some (some (.int (nI t)), wa_T h1 2 i k)) : se_X7_tellsClash [.ref 0, .ref a, .ref q] h = some (some (.int 1), gz_set (gz_set (gz_set (wa_T h1 2 i k) 0 6 (.int (nI t))) 0 7 (.int (nI i))) 0 8 (.int (nI k))) := by
  have ne : ¬ nI t = -1 := fun z => by
    have := nI_pos (n := t) ht
    rw [z] at this
    exact this (by decide)
  have a1 : ∀ f, gz_v (wa_T h1 2 i k) 0 f = gz_v h1 0 f := fun f => by unfold wa_T; rw [gz_v_set, if_neg (by omega), gz_v_set, if_neg (by omega)]
  have a2 : gz_v (wa_T h1 2 i k) 2 1 = .int (nI i) := by unfold wa_T; rw [gz_v_set, if_neg (by omega), gz_v_set, if_pos ⟨rfl, rfl⟩]
  have a3 : gz_v (wa_T h1 2 i k) 2 2 = .int (nI k) := by unfold wa_T; rw [gz_v_set, if_pos ⟨rfl, rfl⟩]
  have a4 : ∀ x, gz_k (wa_T h1 2 i k) x = gz_k h1 x := fun x => rfl
  have a5 : (wa_T h1 2 i k).1 = h1.1 := rfl
  have b1 : ∀ f, f ≠ 6 → gz_v (gz_set (wa_T h1 2 i k) 0 6 (.int (nI t))) 0 f = gz_v h1 0 f := fun f hf => by rw [gz_v_set, if_neg (fun z => hf z.2), a1]
  have b2 : ∀ f, gz_v (gz_set (wa_T h1 2 i k) 0 6 (.int (nI t))) 2 f = gz_v (wa_T h1 2 i k) 2 f := fun f => by rw [gz_v_set, if_neg (by omega)]
  have c2 : ∀ f, f ≠ 6 → f ≠ 7 → gz_v (gz_set (gz_set (wa_T h1 2 i k) 0 6 (.int (nI t))) 0 7 (.int (nI i))) 0 f = gz_v h1 0 f := fun f hf h7 => by rw [gz_v_set, if_neg (fun z => h7 z.2), b1 f hf]
  have c3 : ∀ f, gz_v (gz_set (gz_set (wa_T h1 2 i k) 0 6 (.int (nI t))) 0 7 (.int (nI i))) 2 f = gz_v (wa_T h1 2 i k) 2 f := fun f => by rw [gz_v_set, if_neg (by omega), b2]
  have b11 := b1 1 (by omega)
  have c21 := c2 1 (by omega) (by omega)
  simp only [se_X7_tellsClash, sm_X7_tellsClash, gz_sem, gz_ae, Value.category, gz_i, gz_l, gz_nu, gz_li, gz_ll, gz_la, gz_ib, gz_iz, gz_lb, gz_lz, gz_ls, gz_lc, gz_i2l, gz_l2i, gz_get, gz_ald, gz_len, gz_dup, gz_d2, gz_nar, gz_a0, gz_a1, gz_cs, gz_cv, gz_mk, gz_te, gz_j1, gz_j2, gz_jn, gz_jk, gz_jo, gz_ja, gz_sat, gz_seti, gz_seta, gz_set2, gz_inc, gz_put, gz_ast, gz_pop, gz_vs, gz_vv, gz_sup, gz_rv, gz_ri, gz_rl, gz_ra, gz_if, gz_seq, gz_sw, gz_st, gz_st2, rok_I, rok_J, rok_V, rok_Z0, rok_Z1, rok_Zi, rok_R, rok_N, bi_rok, bi_0, bi_1, fit_I, fit_J, fit_Z0, fit_Z1, fit_Zi, fit_R, fit_N, fit_aR, aty_I, aty_Z0, aty_Z1, aty_Zi, aty_J, gz_ix, List.getElem?_cons_zero, List.getElem?_cons_succ, List.getElem?_nil, List.reverse_cons, List.reverse_nil, List.nil_append, List.cons_append, List.take_succ_cons, List.take_zero, List.take_nil, List.length_cons, List.length_nil, decide_true, decide_false, decide_not, Bool.not_true, Bool.not_false, gz_nle, if_true, if_false, and_true, true_and, and_self, and_false, false_and, or_true, true_or, or_false, false_or, Bool.false_eq_true, not_true, not_false_iff, Decidable.not_not, Nat.reduceLeDiff, Nat.reduceAdd, Nat.reduceEqDiff, Nat.reduceSub, Nat.reduceLT, Nat.zero_add, reduceCtorEq, reduceIte, eq_self, i32_10, i32_01, Nat.zero_le, Nat.one_ne_zero, cc, w, c1, w1, e, ne, a1, a2, a3, a4, a5, b11, b2, c21, c3, gz_n_set, gz_k_set]
/-- the same clashes on both sides -/
theorem cl_md {h hr : gz_H} {a j c : Nat} {ap : Nat → Nat → Nat} {bs L : Nat → Int32} (h20 : 20 ≤ c) (r : rb h hr j a) (hg : ∀ i k, i < 8 → k < 8 → 0 < md_ap hr j i k → gz_I h (a + 2) (8 * i + k) = md_ap hr j i k) (hap : ∀ i k, i < 8 → k < 8 → md_ap hr j i k = nI (ap i k) ∧ ap i k ≤ 20) (hbs : ∀ t, t < c → bs t = L t ∧ bs (c + t) = L t) (hL : ∀ t, t < c → gz_I hr 32 (90 * j + t) = L t) {t k i : Nat} (ht : t < c) (h9 : c ≤ 90) (hk : k < 8) (hi : i < 8) : cl_E h a bs (c + t + 1) k i ↔ md_C1 hr j c ap t k i := by
  obtain ⟨r1, r2, r3, r4⟩ := r
  obtain ⟨e1, e2⟩ := hap i k hi hk
  have pos : 0 < md_ap hr j i k ↔ 0 < ap i k := by
    rw [e1]
    constructor
    · intro q
      rcases Nat.eq_zero_or_pos (ap i k) with z | z
      · rw [z] at q; exact absurd q (by decide)
      · exact z
    · intro q; exact nI_gt0 q (by omega)
  have nb : bt (gz_I h (a + 4) k) i = true ↔ 0 < ap i k := by rw [r1 k i hk hi, ← r3 i k hi hk, pos]
  unfold cl_E md_C1
  rw [nb]
  refine and_congr_right (fun p => ?_)
  rw [hg i k hi hk (pos.mpr p), e1]
  have sb := sn_b bs i (c + t + 1)
  have q1 : (¬ nI (ap i k) < nI (sn bs (c + t + 1) i)) ↔ sn bs (c + t + 1) i ≤ ap i k := by
    rw [nI_ltI (by omega) (by omega)]
    omega
  rw [q1, sn_le bs i (ap i k) (by omega)]
  have bsm : ∀ d, d ≤ 20 → bs (c + t + 1 - 1 - d) = L ((t + c - d) % c) := fun d hd => by
    by_cases z : d ≤ t
    · have e3 : c + t + 1 - 1 - d = c + (t - d) := by omega
      rw [e3, (hbs (t - d) (by omega)).2, show t + c - d = (t - d) + c by omega, Nat.add_mod_right, Nat.mod_eq_of_lt (by omega)]
    · have e3 : c + t + 1 - 1 - d = t + c - d := by omega
      rw [e3, (hbs (t + c - d) (by omega)).1, Nat.mod_eq_of_lt (by omega)]
  constructor
  · rintro ⟨d, d1, d2, d3⟩
    rw [bsm d (by omega)] at d3
    refine ⟨d, d1, ?_⟩
    unfold md_G
    rw [hL _ (Nat.mod_lt _ (by omega))]
    exact d3
  · rintro ⟨d, d1, d2⟩
    unfold md_G at d2
    rw [hL _ (Nat.mod_lt _ (by omega))] at d2
    exact ⟨d, d1, by omega, by rw [bsm d (by omega)]; exact d2⟩
theorem clC_md {h hr : gz_H} {a j c S : Nat} {ap : Nat → Nat → Nat} {bs L : Nat → Int32} (h8 : S ≤ 8) (h20 : 20 ≤ c) (r : rb h hr j a) (hg : ∀ i k, i < 8 → k < 8 → 0 < md_ap hr j i k → gz_I h (a + 2) (8 * i + k) = md_ap hr j i k) (hap : ∀ i k, i < 8 → k < 8 → md_ap hr j i k = nI (ap i k) ∧ ap i k ≤ 20) (hbs : ∀ t, t < c → bs t = L t ∧ bs (c + t) = L t) (hL : ∀ t, t < c → gz_I hr 32 (90 * j + t) = L t) {t k : Nat} (ht : t < c) (h9 : c ≤ 90) (hk : k < 8) : (bt (bs (c + t)) k = true ↔ md_G hr j c k t) ∧ (cl_C h a S bs (c + t) k ↔ md_C2 hr j c S ap t k) := by
  have g : bt (bs (c + t)) k = true ↔ md_G hr j c k t := by
    unfold md_G
    rw [(hbs t ht).2, Nat.mod_eq_of_lt ht, hL t ht]
  refine ⟨g, ?_⟩
  unfold cl_C md_C2
  rw [g]
  refine and_congr_right (fun _ => ?_)
  constructor
  · rintro ⟨i, hi, z⟩
    exact ⟨i, hi, (cl_md h20 r hg hap hbs hL ht h9 hk (by omega)).mp z⟩
  · rintro ⟨i, hi, z⟩
    exact ⟨i, hi, (cl_md h20 r hg hap hbs hL ht h9 hk (by omega)).mpr z⟩
