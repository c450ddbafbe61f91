theorem wr_J {h : gz_H} {a lo hi : Nat} {f : Nat → Int32} {b i : Nat} (hb : b ≠ a) : gz_J (gz_wr h a lo hi f) b i = gz_J h b i := by unfold gz_J; rw [wr_o h hb]
theorem md_wr {h : gz_H} (m : md h) (a lo hi : Nat) (f : Nat → Int32) (ha : (16 ≤ a ∧ a ≤ 44) ∨ (51 ≤ a ∧ a ≤ 54)) : md (gz_wr h a lo hi f) := by
  obtain ⟨m1, m2, m3, m4, m5, m6, m7, m8, m9, m10, m11, m12⟩ := m
  have ty : ∀ b i, gz_v h b i = .int (gz_I h b i) → gz_v (gz_wr h a lo hi f) b i = .int (gz_I (gz_wr h a lo hi f) b i) := fun b i hx => by
    rw [wr_v, wr_I]
    by_cases q : b = a ∧ lo ≤ i ∧ i < hi
    · rw [if_pos q, if_pos q]
    · rw [if_neg q, if_neg q]; exact hx
  have o15 : ∀ i, gz_v (gz_wr h a lo hi f) 15 i = gz_v h 15 i := fun i => wr_o h (by omega) i
  refine ⟨m1, m2, fun q h1 h2 => by rw [o15]; exact m3 q h1 h2, fun q h1 h2 => by rw [o15]; exact m4 q h1 h2, fun q h1 h2 => by rw [o15]; exact m5 q h1 h2, fun b i h1 h2 => ty b i (m6 b i h1 h2), fun b i h1 h2 => ?_, fun b i h1 h2 => ty b i (m8 b i h1 h2), fun q h1 => ty 15 q (m9 q h1), fun q h1 h2 => ty 15 q (m10 q h1 h2), fun q h1 h2 => ?_, ty 15 47 m12⟩
  · rw [wr_o h (by omega), wr_J (by omega)]; exact m7 b i h1 h2
  · rw [o15, wr_J (by omega)]; exact m11 q h1 h2
/-- the stage of each second -/
def gz_SS (n : Nat) (g b : Nat → Nat) (T : Nat → Int32) : Prop := ∀ s, s < n → ∀ t, gz_ps g b s ≤ t → t < gz_ps g b (s + 1) → T t = nI s
def gz_lo (h : gz_H) (p q : Nat) (L T : Nat → Int32) : gz_H := gz_wr (gz_wr h 32 (90 * p) (90 * p + q) (fun i => L (i - 90 * p))) 33 (90 * p) (90 * p + q) (fun i => T (i - 90 * p))
theorem lo_md {h : gz_H} (m : md h) (p q : Nat) (L T : Nat → Int32) : md (gz_lo h p q L T) := md_wr (md_wr m _ _ _ _ (Or.inl ⟨by omega, by omega⟩)) _ _ _ _ (Or.inl ⟨by omega, by omega⟩)
theorem lo_I {h : gz_H} {p q x i : Nat} {L T : Nat → Int32} (h2 : x ≠ 32) (h3 : x ≠ 33) : gz_I (gz_lo h p q L T) x i = gz_I h x i := by unfold gz_lo; rw [wr_Io h3, wr_Io h2]
theorem set_wr {h : gz_H} {a lo hi b i : Nat} {f : Nat → Int32} {v : Value} (hab : b ≠ a) : gz_set (gz_wr h a lo hi f) b i v = gz_wr (gz_set h b i v) a lo hi f := by
  unfold gz_set gz_wr
  have e : (fun x j => if x = b ∧ j = i then v else (if x = a ∧ lo ≤ j ∧ j < hi then Value.int (f j) else h.2.2 x j)) = (fun x j => if x = a ∧ lo ≤ j ∧ j < hi then Value.int (f j) else (if x = b ∧ j = i then v else h.2.2 x j)) := by
    funext x j
    by_cases q1 : x = b ∧ j = i
    · rw [if_pos q1, if_neg (fun z => hab (q1.1.symm.trans z.1)), if_pos q1]
    · rw [if_neg q1, if_neg q1]
  rw [e]
theorem lo_s {h : gz_H} {p q : Nat} {L T : Nat → Int32} : gz_set (gz_set (gz_lo h p q L T) 32 (90 * p + q) (.int (L q))) 33 (90 * p + q) (.int (T q)) = gz_lo h p (q + 1) L T := by
  unfold gz_lo
  rw [set_wr (by decide)]
  have e1 : gz_set (gz_wr h 32 (90 * p) (90 * p + q) (fun i => L (i - 90 * p))) 32 (90 * p + q) (.int (L q)) = gz_wr h 32 (90 * p) (90 * p + (q + 1)) (fun i => L (i - 90 * p)) := by
    have := wr_s (h := h) (a := 32) (f := fun i => L (i - 90 * p)) (by omega : 90 * p ≤ 90 * p + q)
    rw [show 90 * p + q - 90 * p = q by omega] at this
    exact this
  rw [e1]
  have := wr_s (h := gz_wr h 32 (90 * p) (90 * p + (q + 1)) (fun i => L (i - 90 * p))) (a := 33) (f := fun i => T (i - 90 * p)) (by omega : 90 * p ≤ 90 * p + q)
  rw [show 90 * p + q - 90 * p = q by omega] at this
  exact this
theorem md_bw_c {h h' : gz_H} {j : Nat} {e b : Int32} (h1 : ∀ i, gz_I h' 21 i = gz_I h 21 i) (h2 : ∀ i, gz_I h' 22 i = gz_I h 22 i) : md_bw h' j e b = md_bw h j e b := by
  have : md_ap h' = md_ap h := by
    funext j i k
    unfold md_ap
    rw [h1, h2, h2]
  unfold md_bw
  rw [this]
set_option maxHeartbeats 8000000 in
theorem st_X8_layOut (h : gz_H) (m : md h) (p n : Nat) (hp : p < 16) (hn : n ≤ 4) (hN : gz_I h 25 p = nI n) (g b : Nat → Nat) (hg : ∀ s, s < n → gz_I h 27 (4 * p + s) = nI (g s)) (hb : ∀ s, s < n → md_bw h (p % 8) (gz_I h 26 (4 * p + s) &&& (gz_I h 26 (4 * p + (s + 1) % n) ^^^ -1)) (gz_I h 26 (4 * p + (s + 1) % n) &&& (gz_I h 26 (4 * p + s) ^^^ -1)) = nI (b s)) (L T : Nat → Int32) (hL : gz_LS n g b (fun s => gz_I h 26 (4 * p + s)) L) (hT : gz_SS n g b T) (h90 : gz_ps g b n ≤ 90) : se_X8_layOut [.ref 15, .int (nI p)] h = some (none, gz_lo h p (gz_ps g b n) L T) := by
  have c2 : ¬ nI p < 0 := nI_pos (by omega)
  have c3 : (nI p).toNatClampNeg = p := nI_clamp (by omega)
  have d0 : 4 * nI p = nI (4 * p) := pk_mul 4 p
  have inner : ∀ s, s < n → ∀ (he bo : Int32), (∀ t, gz_ps g b s ≤ t → t < gz_ps g b s + g s → L t = he) → (∀ t, gz_ps g b s + g s ≤ t → t < gz_ps g b (s + 1) → L t = bo) → ∀ d k, k + d = g s + b s → gz_loop 64 8 lb_X8_layOut_64 [.ref 15, .int (nI p), .int (nI (90 * p + (gz_ps g b s + k))), .int (nI s), .int he, .int bo, .int (nI (b s)), .int (nI k)] (gz_lo h p (gz_ps g b s + k) L T) = some (.inl (126, [.ref 15, .int (nI p), .int (nI (90 * p + gz_ps g b (s + 1))), .int (nI s), .int he, .int bo, .int (nI (b s)), .int (nI (g s + b s))], gz_lo h p (gz_ps g b (s + 1)) L T)) := by
    intro s hs he bo L1 L2 d
    have hp1 : gz_ps g b (s + 1) ≤ gz_ps g b n := ps_le (by omega)
    have hp2 : gz_ps g b (s + 1) = gz_ps g b s + g s + b s := rfl
    have d1 : nI (4 * p) + nI s = nI (4 * p + s) := nI_add _ _
    have d2 : ¬ nI (4 * p + s) < 0 := nI_pos (by omega)
    have d3 : (nI (4 * p + s)).toNatClampNeg = 4 * p + s := nI_clamp (by omega)
    have d4 : 4 * p + s < 64 := by omega
    have q1 : nI (g s) + nI (b s) = nI (g s + b s) := nI_add _ _
    induction d with
    | zero =>
      intro k hk
      have hk : k = g s + b s := by omega
      subst hk
      have e : gz_ps g b s + (g s + b s) = gz_ps g b (s + 1) := by omega
      rw [e]
      have mA := lo_md m p (gz_ps g b (s + 1)) L T
      have gA : gz_I (gz_lo h p (gz_ps g b (s + 1)) L T) 27 (4 * p + s) = nI (g s) := by rw [lo_I (by decide) (by decide)]; exact hg s hs
      have k1 : ¬ nI (g s + b s) < nI (g s + b s) := nI_nlt (Nat.le_refl _) (by omega)
      refine gz_loop_exit ?_ (by decide)
      simp only [lb_X8_layOut_64, gz_sem, gz_ae, Value.category, gz_i, gz_l, gz_nu, gz_li, gz_ll, gz_la, gz_ib, gz_iz, gz_lb, gz_lz, gz_ls, gz_lc, gz_i2l, gz_l2i, gz_get, gz_ald, gz_len, gz_dup, gz_d2, gz_nar, gz_a0, gz_a1, gz_cs, gz_cv, gz_mk, gz_te, gz_j1, gz_j2, gz_jn, gz_jk, gz_jo, gz_ja, gz_sat, gz_seti, gz_seta, gz_set2, gz_inc, gz_put, gz_ast, gz_pop, gz_vs, gz_vv, gz_sup, gz_rv, gz_ri, gz_rl, gz_ra, gz_if, gz_seq, gz_sw, gz_st, gz_st2, rok_I, rok_J, rok_V, rok_Z0, rok_Z1, rok_Zi, rok_R, rok_N, bi_rok, bi_0, bi_1, fit_I, fit_J, fit_Z0, fit_Z1, fit_Zi, fit_R, fit_N, fit_aR, aty_I, aty_Z0, aty_Z1, aty_Zi, aty_J, gz_ix, List.getElem?_cons_zero, List.getElem?_cons_succ, List.getElem?_nil, List.reverse_cons, List.reverse_nil, List.nil_append, List.cons_append, List.take_succ_cons, List.take_zero, List.take_nil, List.length_cons, List.length_nil, decide_true, decide_false, decide_not, Bool.not_true, Bool.not_false, gz_nle, if_true, if_false, and_true, true_and, and_self, and_false, false_and, or_true, true_or, or_false, false_or, Bool.false_eq_true, not_true, not_false_iff, Decidable.not_not, Nat.reduceLeDiff, Nat.reduceAdd, Nat.reduceEqDiff, Nat.reduceSub, Nat.reduceLT, Nat.zero_add, reduceCtorEq, reduceIte, eq_self, i32_10, i32_01, Nat.zero_le, Nat.one_ne_zero, mA, md_k, d0, d1, d2, d3, d4, gA, q1, k1]
    | succ d ih =>
      intro k hk
      have ih := ih (k + 1) (by omega)
      have mA := lo_md m p (gz_ps g b s + k) L T
      have gA : gz_I (gz_lo h p (gz_ps g b s + k) L T) 27 (4 * p + s) = nI (g s) := by rw [lo_I (by decide) (by decide)]; exact hg s hs
      have k1 : nI k < nI (g s + b s) := nI_lt (by omega) (by omega)
      have f2 : ¬ nI (90 * p + (gz_ps g b s + k)) < 0 := nI_pos (by omega)
      have f3 : (nI (90 * p + (gz_ps g b s + k))).toNatClampNeg = 90 * p + (gz_ps g b s + k) := nI_clamp (by omega)
      have f4 : 90 * p + (gz_ps g b s + k) < 1440 := by omega
      have st := lo_s (h := h) (p := p) (q := gz_ps g b s + k) (L := L) (T := T)
      have hTk : T (gz_ps g b s + k) = nI s := hT s hs _ (by omega) (by omega)
      rw [hTk] at st
      have e1 : nI (90 * p + (gz_ps g b s + k)) + 1 = nI (90 * p + (gz_ps g b s + (k + 1))) := nI_1 _
      refine gz_loop_next ?_ ih
      by_cases hkg : k < g s
      · have k2 : nI k < nI (g s) := nI_lt hkg (by omega)
        rw [L1 _ (by omega) (by omega)] at st
        have n1 : (gz_set (gz_lo h p (gz_ps g b s + k) L T) 32 (90 * p + (gz_ps g b s + k)) (.int he)).1 = (gz_lo h p (gz_ps g b s + k) L T).1 := rfl
        have v1 : ∀ q, gz_v (gz_set (gz_lo h p (gz_ps g b s + k) L T) 32 (90 * p + (gz_ps g b s + k)) (.int he)) 15 q = gz_v (gz_lo h p (gz_ps g b s + k) L T) 15 q := fun q => by rw [gz_v_set, if_neg (fun z => absurd z.1 (by decide))]
        simp only [lb_X8_layOut_64, gz_sem, gz_ae, Value.category, gz_i, gz_l, gz_nu, gz_li, gz_ll, gz_la, gz_ib, gz_iz, gz_lb, gz_lz, gz_ls, gz_lc, gz_i2l, gz_l2i, gz_get, gz_ald, gz_len, gz_dup, gz_d2, gz_nar, gz_a0, gz_a1, gz_cs, gz_cv, gz_mk, gz_te, gz_j1, gz_j2, gz_jn, gz_jk, gz_jo, gz_ja, gz_sat, gz_seti, gz_seta, gz_set2, gz_inc, gz_put, gz_ast, gz_pop, gz_vs, gz_vv, gz_sup, gz_rv, gz_ri, gz_rl, gz_ra, gz_if, gz_seq, gz_sw, gz_st, gz_st2, rok_I, rok_J, rok_V, rok_Z0, rok_Z1, rok_Zi, rok_R, rok_N, bi_rok, bi_0, bi_1, fit_I, fit_J, fit_Z0, fit_Z1, fit_Zi, fit_R, fit_N, fit_aR, aty_I, aty_Z0, aty_Z1, aty_Zi, aty_J, gz_ix, List.getElem?_cons_zero, List.getElem?_cons_succ, List.getElem?_nil, List.reverse_cons, List.reverse_nil, List.nil_append, List.cons_append, List.take_succ_cons, List.take_zero, List.take_nil, List.length_cons, List.length_nil, decide_true, decide_false, decide_not, Bool.not_true, Bool.not_false, gz_nle, if_true, if_false, and_true, true_and, and_self, and_false, false_and, or_true, true_or, or_false, false_or, Bool.false_eq_true, not_true, not_false_iff, Decidable.not_not, Nat.reduceLeDiff, Nat.reduceAdd, Nat.reduceEqDiff, Nat.reduceSub, Nat.reduceLT, Nat.zero_add, reduceCtorEq, reduceIte, eq_self, i32_10, i32_01, Nat.zero_le, Nat.one_ne_zero, mA, md_k, d0, d1, d2, d3, d4, gA, q1, k1, k2, f2, f3, f4, n1, v1, gz_k_set, st, e1, nI_1]
        rfl
      · have k2 : ¬ nI k < nI (g s) := nI_nlt (by omega) (by omega)
        rw [L2 _ (by omega) (by omega)] at st
        have n1 : (gz_set (gz_lo h p (gz_ps g b s + k) L T) 32 (90 * p + (gz_ps g b s + k)) (.int bo)).1 = (gz_lo h p (gz_ps g b s + k) L T).1 := rfl
        have v1 : ∀ q, gz_v (gz_set (gz_lo h p (gz_ps g b s + k) L T) 32 (90 * p + (gz_ps g b s + k)) (.int bo)) 15 q = gz_v (gz_lo h p (gz_ps g b s + k) L T) 15 q := fun q => by rw [gz_v_set, if_neg (fun z => absurd z.1 (by decide))]
        simp only [lb_X8_layOut_64, gz_sem, gz_ae, Value.category, gz_i, gz_l, gz_nu, gz_li, gz_ll, gz_la, gz_ib, gz_iz, gz_lb, gz_lz, gz_ls, gz_lc, gz_i2l, gz_l2i, gz_get, gz_ald, gz_len, gz_dup, gz_d2, gz_nar, gz_a0, gz_a1, gz_cs, gz_cv, gz_mk, gz_te, gz_j1, gz_j2, gz_jn, gz_jk, gz_jo, gz_ja, gz_sat, gz_seti, gz_seta, gz_set2, gz_inc, gz_put, gz_ast, gz_pop, gz_vs, gz_vv, gz_sup, gz_rv, gz_ri, gz_rl, gz_ra, gz_if, gz_seq, gz_sw, gz_st, gz_st2, rok_I, rok_J, rok_V, rok_Z0, rok_Z1, rok_Zi, rok_R, rok_N, bi_rok, bi_0, bi_1, fit_I, fit_J, fit_Z0, fit_Z1, fit_Zi, fit_R, fit_N, fit_aR, aty_I, aty_Z0, aty_Z1, aty_Zi, aty_J, gz_ix, List.getElem?_cons_zero, List.getElem?_cons_succ, List.getElem?_nil, List.reverse_cons, List.reverse_nil, List.nil_append, List.cons_append, List.take_succ_cons, List.take_zero, List.take_nil, List.length_cons, List.length_nil, decide_true, decide_false, decide_not, Bool.not_true, Bool.not_false, gz_nle, if_true, if_false, and_true, true_and, and_self, and_false, false_and, or_true, true_or, or_false, false_or, Bool.false_eq_true, not_true, not_false_iff, Decidable.not_not, Nat.reduceLeDiff, Nat.reduceAdd, Nat.reduceEqDiff, Nat.reduceSub, Nat.reduceLT, Nat.zero_add, reduceCtorEq, reduceIte, eq_self, i32_10, i32_01, Nat.zero_le, Nat.one_ne_zero, mA, md_k, d0, d1, d2, d3, d4, gA, q1, k1, k2, f2, f3, f4, n1, v1, gz_k_set, st, e1, nI_1]
        rfl
  have l := gz_forF (L := 7) (k := 4) (X := 132) (a := lb_X8_layOut_7) n (fun s => [.ref 15, .int (nI p), .int (nI (90 * p + gz_ps g b s)), .int (nI s)]) (fun s => [.ref 15, .int (nI p), .int (nI (90 * p + gz_ps g b (s + 1))), .int (nI (s + 1))]) (fun s => gz_lo h p (gz_ps g b s) L T) (env' := [.ref 15, .int (nI p), .int (nI (90 * p + gz_ps g b n)), .int (nI n)]) (h' := gz_lo h p (gz_ps g b n) L T) (by decide) (fun _ => rfl) (fun s hs => by
    have k1 : nI s < nI n := nI_lt hs (by omega)
    have mA := lo_md m p (gz_ps g b s) L T
    have nA : gz_I (gz_lo h p (gz_ps g b s) L T) 25 p = nI n := by rw [lo_I (by decide) (by decide)]; exact hN
    have rA : ∀ i, gz_I (gz_lo h p (gz_ps g b s) L T) 26 i = gz_I h 26 i := fun i => lo_I (by decide) (by decide)
    have d1 : nI (4 * p) + nI s = nI (4 * p + s) := nI_add _ _
    have d2 : ¬ nI (4 * p + s) < 0 := nI_pos (by omega)
    have d3 : (nI (4 * p + s)).toNatClampNeg = 4 * p + s := nI_clamp (by omega)
    have d4 : 4 * p + s < 64 := by omega
    have hr : (s + 1) % n < n := Nat.mod_lt _ (by omega)
    have e0 : nI (s + 1) - nI (s + 1) / nI n * nI n = nI ((s + 1) % n) := pk_rem (by omega) (by omega) (by omega)
    have e1 : nI (4 * p) + nI ((s + 1) % n) = nI (4 * p + (s + 1) % n) := nI_add _ _
    have e2 : ¬ nI (4 * p + (s + 1) % n) < 0 := nI_pos (by omega)
    have e3 : (nI (4 * p + (s + 1) % n)).toNatClampNeg = 4 * p + (s + 1) % n := nI_clamp (by omega)
    have e4 : 4 * p + (s + 1) % n < 64 := by omega
    have g1 : ¬ nI n = 0 := nI_ne0 (by omega) (by omega)
    have bt := st_X8_between (gz_lo h p (gz_ps g b s) L T) mA p s n hp hs hn nA
    rw [md_bw_c (h := h) (fun i => lo_I (by decide) (by decide)) (fun i => lo_I (by decide) (by decide)), rA, rA, hb s hs] at bt
    obtain ⟨L1, L2⟩ := hL s hs
    have nxe : (s + 1) % n = gz_nx n s := by
      unfold gz_nx
      by_cases q : s + 1 < n
      · rw [if_pos q]; exact Nat.mod_eq_of_lt q
      · rw [if_neg q, show s + 1 = n by omega]; exact Nat.mod_self n
    have inn := inner s hs (gz_I h 26 (4 * p + s)) (gz_I h 26 (4 * p + s) &&& gz_I h 26 (4 * p + (s + 1) % n)) L1 (by rw [nxe]; exact L2) (g s + b s) 0 (by omega)
    rw [Nat.add_zero, nI_0] at inn
    simp only [lb_X8_layOut_7, gz_sem, gz_ae, Value.category, gz_i, gz_l, gz_nu, gz_li, gz_ll, gz_la, gz_ib, gz_iz, gz_lb, gz_lz, gz_ls, gz_lc, gz_i2l, gz_l2i, gz_get, gz_ald, gz_len, gz_dup, gz_d2, gz_nar, gz_a0, gz_a1, gz_cs, gz_cv, gz_mk, gz_te, gz_j1, gz_j2, gz_jn, gz_jk, gz_jo, gz_ja, gz_sat, gz_seti, gz_seta, gz_set2, gz_inc, gz_put, gz_ast, gz_pop, gz_vs, gz_vv, gz_sup, gz_rv, gz_ri, gz_rl, gz_ra, gz_if, gz_seq, gz_sw, gz_st, gz_st2, rok_I, rok_J, rok_V, rok_Z0, rok_Z1, rok_Zi, rok_R, rok_N, bi_rok, bi_0, bi_1, fit_I, fit_J, fit_Z0, fit_Z1, fit_Zi, fit_R, fit_N, fit_aR, aty_I, aty_Z0, aty_Z1, aty_Zi, aty_J, gz_ix, List.getElem?_cons_zero, List.getElem?_cons_succ, List.getElem?_nil, List.reverse_cons, List.reverse_nil, List.nil_append, List.cons_append, List.take_succ_cons, List.take_zero, List.take_nil, List.length_cons, List.length_nil, decide_true, decide_false, decide_not, Bool.not_true, Bool.not_false, gz_nle, if_true, if_false, and_true, true_and, and_self, and_false, false_and, or_true, true_or, or_false, false_or, Bool.false_eq_true, not_true, not_false_iff, Decidable.not_not, Nat.reduceLeDiff, Nat.reduceAdd, Nat.reduceEqDiff, Nat.reduceSub, Nat.reduceLT, Nat.zero_add, reduceCtorEq, reduceIte, eq_self, i32_10, i32_01, Nat.zero_le, Nat.one_ne_zero, mA, md_k, c2, c3, hp, d0, d1, d2, d3, d4, e0, e1, e2, e3, e4, g1, k1, nA, rA, bt, inn, nI_1]) (by
    have k1 : ¬ nI n < nI n := nI_nlt (Nat.le_refl _) (by omega)
    have mA := lo_md m p (gz_ps g b n) L T
    have nA : gz_I (gz_lo h p (gz_ps g b n) L T) 25 p = nI n := by rw [lo_I (by decide) (by decide)]; exact hN
    simp only [lb_X8_layOut_7, gz_sem, gz_ae, Value.category, gz_i, gz_l, gz_nu, gz_li, gz_ll, gz_la, gz_ib, gz_iz, gz_lb, gz_lz, gz_ls, gz_lc, gz_i2l, gz_l2i, gz_get, gz_ald, gz_len, gz_dup, gz_d2, gz_nar, gz_a0, gz_a1, gz_cs, gz_cv, gz_mk, gz_te, gz_j1, gz_j2, gz_jn, gz_jk, gz_jo, gz_ja, gz_sat, gz_seti, gz_seta, gz_set2, gz_inc, gz_put, gz_ast, gz_pop, gz_vs, gz_vv, gz_sup, gz_rv, gz_ri, gz_rl, gz_ra, gz_if, gz_seq, gz_sw, gz_st, gz_st2, rok_I, rok_J, rok_V, rok_Z0, rok_Z1, rok_Zi, rok_R, rok_N, bi_rok, bi_0, bi_1, fit_I, fit_J, fit_Z0, fit_Z1, fit_Zi, fit_R, fit_N, fit_aR, aty_I, aty_Z0, aty_Z1, aty_Zi, aty_J, gz_ix, List.getElem?_cons_zero, List.getElem?_cons_succ, List.getElem?_nil, List.reverse_cons, List.reverse_nil, List.nil_append, List.cons_append, List.take_succ_cons, List.take_zero, List.take_nil, List.length_cons, List.length_nil, decide_true, decide_false, decide_not, Bool.not_true, Bool.not_false, gz_nle, if_true, if_false, and_true, true_and, and_self, and_false, false_and, or_true, true_or, or_false, false_or, Bool.false_eq_true, not_true, not_false_iff, Decidable.not_not, Nat.reduceLeDiff, Nat.reduceAdd, Nat.reduceEqDiff, Nat.reduceSub, Nat.reduceLT, Nat.zero_add, reduceCtorEq, reduceIte, eq_self, i32_10, i32_01, Nat.zero_le, Nat.one_ne_zero, mA, md_k, c2, c3, hp, nA, k1]) n 0 (by omega)
  have z0 : gz_lo h p (gz_ps g b 0) L T = h := by
    unfold gz_lo
    rw [show gz_ps g b 0 = 0 from rfl, Nat.add_zero, wr_0]
    exact wr_0 _ _ _ _
  have z1 : 90 * nI p = nI (90 * p + gz_ps g b 0) := pk_mul 90 p
  simp only [z0, nI_0] at l
  simp only [se_X8_layOut, sm_X8_layOut, gz_sem, gz_ae, Value.category, gz_i, gz_l, gz_nu, gz_li, gz_ll, gz_la, gz_ib, gz_iz, gz_lb, gz_lz, gz_ls, gz_lc, gz_i2l, gz_l2i, gz_get, gz_ald, gz_len, gz_dup, gz_d2, gz_nar, gz_a0, gz_a1, gz_cs, gz_cv, gz_mk, gz_te, gz_j1, gz_j2, gz_jn, gz_jk, gz_jo, gz_ja, gz_sat, gz_seti, gz_seta, gz_set2, gz_inc, gz_put, gz_ast, gz_pop, gz_vs, gz_vv, gz_sup, gz_rv, gz_ri, gz_rl, gz_ra, gz_if, gz_seq, gz_sw, gz_st, gz_st2, rok_I, rok_J, rok_V, rok_Z0, rok_Z1, rok_Zi, rok_R, rok_N, bi_rok, bi_0, bi_1, fit_I, fit_J, fit_Z0, fit_Z1, fit_Zi, fit_R, fit_N, fit_aR, aty_I, aty_Z0, aty_Z1, aty_Zi, aty_J, gz_ix, List.getElem?_cons_zero, List.getElem?_cons_succ, List.getElem?_nil, List.reverse_cons, List.reverse_nil, List.nil_append, List.cons_append, List.take_succ_cons, List.take_zero, List.take_nil, List.length_cons, List.length_nil, decide_true, decide_false, decide_not, Bool.not_true, Bool.not_false, gz_nle, if_true, if_false, and_true, true_and, and_self, and_false, false_and, or_true, true_or, or_false, false_or, Bool.false_eq_true, not_true, not_false_iff, Decidable.not_not, Nat.reduceLeDiff, Nat.reduceAdd, Nat.reduceEqDiff, Nat.reduceSub, Nat.reduceLT, Nat.zero_add, reduceCtorEq, reduceIte, eq_self, i32_10, i32_01, Nat.zero_le, Nat.one_ne_zero, z1, l]
