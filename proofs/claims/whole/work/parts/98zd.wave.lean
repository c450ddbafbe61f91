/-- the best so far -/
def wsv (a b : Nat) (S : Option (Nat × Nat × Nat × Nat)) (s t : Nat) : Option (Nat × Nat × Nat × Nat) := match S with
  | none => some (min a b, a + b, s, t)
  | some (l, u, b', c') => if l < min a b ∨ (min a b = l ∧ u < a + b) then some (min a b, a + b, s, t) else some (l, u, b', c')
def wrow (A B : Nat → Nat → Nat) (S : Option (Nat × Nat × Nat × Nat)) (b : Nat) : Nat → Option (Nat × Nat × Nat × Nat)
  | 0 => S
  | c + 1 => wsv (A b c) (B b c) (wrow A B S b c) b c
def wall (A B : Nat → Nat → Nat) (m : Nat) : Nat → Option (Nat × Nat × Nat × Nat)
  | 0 => none
  | b + 1 => wrow A B (wall A B m b) b m
theorem wsv_some (a b : Nat) (S : Option (Nat × Nat × Nat × Nat)) (s t : Nat) : ∃ l u b' c', wsv a b S s t = some (l, u, b', c') := by
  unfold wsv
  split
  · exact ⟨_, _, _, _, rfl⟩
  · split
    · exact ⟨_, _, _, _, rfl⟩
    · exact ⟨_, _, _, _, rfl⟩
theorem wall_some (A B : Nat → Nat → Nat) {m n : Nat} (hm : 0 < m) (hn : 0 < n) : ∃ l u b' c', wall A B m n = some (l, u, b', c') := by
  obtain ⟨m', rfl⟩ : ∃ m', m = m' + 1 := ⟨m - 1, by omega⟩
  obtain ⟨n', rfl⟩ : ∃ n', n = n' + 1 := ⟨n - 1, by omega⟩
  exact wsv_some _ _ _ _ _
/-- the best in the way's cells -/
def CR (h : gz_H) (S : Option (Nat × Nat × Nat × Nat)) : Prop := match S with
  | none => gz_I h 9 6 = -1 ∧ gz_I h 9 7 = -1
  | some (l, u, b, c) => l ≤ 90 ∧ u ≤ 180 ∧ gz_I h 9 6 = nI l ∧ gz_I h 9 7 = nI u ∧ gz_I h 9 8 = nI b ∧ gz_I h 9 9 = nI c
/-- only the best changes -/
def BW (h h' : gz_H) : Prop := h'.1 = h.1 ∧ (∀ x, gz_k h' x = gz_k h x) ∧ yc h' ∧ ∀ b i, ¬ (b = 9 ∧ 6 ≤ i ∧ i ≤ 9) → gz_v h' b i = gz_v h b i
theorem BW_rf {h : gz_H} (y : yc h) : BW h h := ⟨rfl, fun _ => rfl, y, fun _ _ _ => rfl⟩
theorem BW_tr {h h' h'' : gz_H} (a : BW h h') (b : BW h' h'') : BW h h'' := ⟨b.1.trans a.1, fun x => (b.2.1 x).trans (a.2.1 x), b.2.2.1, fun x i n => (b.2.2.2 x i n).trans (a.2.2.2 x i n)⟩
theorem BW_set {h h' : gz_H} (a : BW h h') {i : Nat} (x : Int32) (h1 : 6 ≤ i) (h2 : i ≤ 9) : BW h (gz_set h' 9 i (.int x)) := ⟨a.1, fun z => a.2.1 z, yc_I a.2.2.1 _ _ _ (by omega), fun b' i' n => by
  rw [gz_v_set, if_neg (fun z => n ⟨z.1, by omega, by omega⟩)]; exact a.2.2.2 b' i' n⟩
theorem BW_sm {h h' : gz_H} (a : BW h h') {x : Nat} (n : x ≠ 9) : sm h h' x := ⟨funext (fun i => a.2.2.2 x i (by omega)), a.2.1 x⟩
theorem BW_cs {h h' : gz_H} {J : Nat} (a : BW h h') (c : cs h J) : cs h' J := cs_fr (by rw [a.1]; exact Nat.le_refl _) (fun x _ => a.2.1 x) (fun f _ => a.2.2.2 _ _ (by omega)) (fun f h1 h2 => by rw [sm_I (BW_sm a (by omega)), a.2.2.2 _ _ (by omega)]; exact c.2.2.2.2.2.2.2.2.2.2.2.2.2.2.2.2.2.2.2.2.2.1 f h1 h2) (fun i _ => a.2.2.2 _ _ (by omega)) c
theorem BW_WH {h h' : gz_H} {JJ K cy : Nat} {Q Sg Tm : Nat → Nat} (w : BW h h') (H : WH h JJ K cy Q Sg Tm) : WH h' JJ K cy Q Sg Tm := by
  obtain ⟨w1, w2, w3, w4, w5⟩ := H
  have s : ∀ x, x ≠ 9 → gz_I h' x = gz_I h x := fun x hx => sm_I (BW_sm w hx)
  refine ⟨BW_cs w w1, w.2.2.1, by rw [vI (w.2.2.2 9 5 (by omega))]; exact w3, fun k hk => ?_, fun leg h1 h2 => by rw [s _ (by omega), s _ (by omega)]; exact w5 leg h1 h2⟩
  obtain ⟨u1, ⟨n, u2⟩, u3, u4⟩ := w4 k hk
  exact ⟨u1, ⟨n, pc_sm (by rw [w.1]; exact Nat.le_refl _) (fun k _ => BW_sm w (by omega)) u2⟩, by rw [s _ (by omega)]; exact u3, by rw [w.2.2.2 _ _ (by omega)]; exact u4⟩
theorem BW_GL {h0 h h' : gz_H} {K cy : Nat} {Q Sg Tm : Nat → Nat} {m : Nat} (w : BW h h') (r : GL h0 h K cy Q Sg Tm m) : GL h0 h' K cy Q Sg Tm m := by
  have e : ∀ b i, b ≠ 9 → gz_J h' b i = gz_J h b i := fun b i hb => by rw [sm_J (BW_sm w hb)]
  intro leg hl
  obtain ⟨r1, r2⟩ := r leg hl
  refine ⟨fun z o ho => ?_, fun z => ?_⟩
  · rw [e _ _ (by omega), e _ _ (by omega)]; exact r1 z o ho
  · rw [e _ _ (by omega), e _ _ (by omega)]; exact r2 z
theorem BW_YW {h h' : gz_H} (a : BW h h') : YW h h' := ⟨a.1, a.2.1, fun x hx => BW_sm a (by omega), a.2.2.1⟩
theorem LF_YW {A : Nat → Prop} {h h' : gz_H} (a : LF A h h') : YW h h' := ⟨a.1, a.2.1, fun x hx => LF_sm a (by omega) (by omega), a.2.2.1⟩
def kb4 (h : gz_H) (l u s t : Int32) : gz_H := gz_set (gz_set (gz_set (gz_set h 9 6 (.int l)) 9 7 (.int u)) 9 8 (.int s)) 9 9 (.int t)
theorem kb_bw {h : gz_H} (y : yc h) (l u s t : Int32) : BW h (kb4 h l u s t) := BW_set (BW_set (BW_set (BW_set (BW_rf y) _ (by omega) (by omega)) _ (by omega) (by omega)) _ (by omega) (by omega)) _ (by omega) (by omega)
theorem kb_cr (h : gz_H) (l u s t : Nat) (hl : l ≤ 90) (hu : u ≤ 180) : CR (kb4 h (nI l) (nI u) (nI s) (nI t)) (some (l, u, s, t)) := by
  unfold kb4
  refine ⟨hl, hu, ?_, ?_, ?_, ?_⟩
  · rw [I_seto _ _ _ _ _ _ (by omega), I_seto _ _ _ _ _ _ (by omega), I_seto _ _ _ _ _ _ (by omega), I_set, if_pos ⟨rfl, rfl⟩]
  · rw [I_seto _ _ _ _ _ _ (by omega), I_seto _ _ _ _ _ _ (by omega), I_set, if_pos ⟨rfl, rfl⟩]
  · rw [I_seto _ _ _ _ _ _ (by omega), I_set, if_pos ⟨rfl, rfl⟩]
  · rw [I_set, if_pos ⟨rfl, rfl⟩]
theorem m1_lt {n : Nat} (h : n < 2 ^ 31) : (-1 : Int32) < nI n := by
  rw [Int32.lt_iff_toInt_lt, nI_toInt h]
  have : (-1 : Int32).toInt = -1 := by decide
  omega
set_option maxHeartbeats 4000000 in
theorem st_kb {h0 h : gz_H} {JJ K cy : Nat} {Q Sg Tm : Nat → Nat} (H : WH h JJ K cy Q Sg Tm) (hK : K = 2 ∨ K = 3) (c0 : 0 < cy) (c9 : cy ≤ 90) (G : GL h0 h K cy Q Sg Tm 6) (o0 : Nat) (e1 : gz_I h (Q 0) 1 = nI o0) (ho0 : o0 < cy) (s t : Nat) (hs : s < cy) (ht : t < cy) (ht2 : K = 2 → t = 0) (S : Option (Nat × Nat × Nat × Nat)) (R : CR h S) : ∃ h', se_X6_keepIfBetter [.ref 9, .int (nI s), .int (nI t)] h = some (none, h') ∧ BW h h' ∧ CR h' (wsv (cN (wF h0 K cy Q Sg Tm 0 o0 s t) cy) (cN (wF h0 K cy Q Sg Tm 1 o0 s t) cy) S s t) := by
  have p0 := st_pby H hK c0 c9 G o0 e1 ho0 0 s t (Or.inl rfl) hs ht ht2
  have p1 := st_pby H hK c0 c9 G o0 e1 ho0 1 s t (Or.inr rfl) hs ht ht2
  have b0 := cN_le (wF h0 K cy Q Sg Tm 0 o0 s t) cy
  have b1 := cN_le (wF h0 K cy Q Sg Tm 1 o0 s t) cy
  generalize cN (wF h0 K cy Q Sg Tm 0 o0 s t) cy = a at *
  generalize cN (wF h0 K cy Q Sg Tm 1 o0 s t) cy = b at *
  have z0 : nI 0 = (0 : Int32) := rfl
  have z1 : nI 1 = (1 : Int32) := rfl
  rw [z0] at p0
  rw [z1] at p1
  obtain ⟨c, yy, w5, wp, wl⟩ := H
  have mi := st_min (nI a) (nI b) h
  rw [mn_nI (by omega) (by omega)] at mi
  have sa : nI a + nI b = nI (a + b) := nI_add _ _
  have bm1 : min a b ≤ 90 := by omega
  cases S with
  | none =>
    obtain ⟨r6, r7⟩ := R
    have k1 : (-1 : Int32) < nI (min a b) := m1_lt (by omega)
    refine ⟨_, ?_, kb_bw yy (nI (min a b)) (nI (a + b)) (nI s) (nI t), kb_cr h _ _ s t bm1 (by omega)⟩
    simp only [se_X6_keepIfBetter, sm_X6_keepIfBetter, gz_sem, gz_ae, Value.category, gz_i, gz_l, gz_nu, gz_li, gz_ll, gz_la, gz_ib, gz_iz, gz_lb, gz_lz, gz_ls, gz_lc, gz_i2l, gz_l2i, gz_get, gz_ald, gz_len, gz_dup, gz_d2, gz_nar, gz_a0, gz_a1, gz_cs, gz_cv, gz_mk, gz_te, gz_j1, gz_j2, gz_jn, gz_jk, gz_jo, gz_ja, gz_sat, gz_seti, gz_seta, gz_set2, gz_inc, gz_put, gz_ast, gz_pop, gz_vs, gz_vv, gz_sup, gz_rv, gz_ri, gz_rl, gz_ra, gz_if, gz_seq, gz_sw, gz_st, gz_st2, rok_I, rok_J, rok_V, rok_Z0, rok_Z1, rok_Zi, rok_R, rok_N, bi_rok, bi_0, bi_1, fit_I, fit_J, fit_Z0, fit_Z1, fit_Zi, fit_R, fit_N, fit_aR, aty_I, aty_Z0, aty_Z1, aty_Zi, aty_J, gz_ix, List.getElem?_cons_zero, List.getElem?_cons_succ, List.getElem?_nil, List.reverse_cons, List.reverse_nil, List.nil_append, List.cons_append, List.take_succ_cons, List.take_zero, List.take_nil, List.length_cons, List.length_nil, decide_true, decide_false, decide_not, Bool.not_true, Bool.not_false, gz_nle, if_true, if_false, and_true, true_and, and_self, and_false, false_and, or_true, true_or, or_false, false_or, Bool.false_eq_true, not_true, not_false_iff, Decidable.not_not, Nat.reduceLeDiff, Nat.reduceAdd, Nat.reduceEqDiff, Nat.reduceSub, Nat.reduceLT, Nat.zero_add, reduceCtorEq, reduceIte, eq_self, i32_10, i32_01, Nat.zero_le, Nat.one_ne_zero, c, yy, p0, p1, mi, sa, r6, r7, k1, gz_n_set, gz_k_set, kb4]
  | some S =>
    obtain ⟨l, u, b', c'⟩ := S
    have R' := R
    obtain ⟨r1, r2, r3, r4, r5, r6⟩ := R
    by_cases q1 : l < min a b
    · have k1 : nI l < nI (min a b) := nI_lt q1 (by omega)
      refine ⟨kb4 h (nI (min a b)) (nI (a + b)) (nI s) (nI t), ?_, kb_bw yy _ _ _ _, ?_⟩
      · simp only [se_X6_keepIfBetter, sm_X6_keepIfBetter, gz_sem, gz_ae, Value.category, gz_i, gz_l, gz_nu, gz_li, gz_ll, gz_la, gz_ib, gz_iz, gz_lb, gz_lz, gz_ls, gz_lc, gz_i2l, gz_l2i, gz_get, gz_ald, gz_len, gz_dup, gz_d2, gz_nar, gz_a0, gz_a1, gz_cs, gz_cv, gz_mk, gz_te, gz_j1, gz_j2, gz_jn, gz_jk, gz_jo, gz_ja, gz_sat, gz_seti, gz_seta, gz_set2, gz_inc, gz_put, gz_ast, gz_pop, gz_vs, gz_vv, gz_sup, gz_rv, gz_ri, gz_rl, gz_ra, gz_if, gz_seq, gz_sw, gz_st, gz_st2, rok_I, rok_J, rok_V, rok_Z0, rok_Z1, rok_Zi, rok_R, rok_N, bi_rok, bi_0, bi_1, fit_I, fit_J, fit_Z0, fit_Z1, fit_Zi, fit_R, fit_N, fit_aR, aty_I, aty_Z0, aty_Z1, aty_Zi, aty_J, gz_ix, List.getElem?_cons_zero, List.getElem?_cons_succ, List.getElem?_nil, List.reverse_cons, List.reverse_nil, List.nil_append, List.cons_append, List.take_succ_cons, List.take_zero, List.take_nil, List.length_cons, List.length_nil, decide_true, decide_false, decide_not, Bool.not_true, Bool.not_false, gz_nle, if_true, if_false, and_true, true_and, and_self, and_false, false_and, or_true, true_or, or_false, false_or, Bool.false_eq_true, not_true, not_false_iff, Decidable.not_not, Nat.reduceLeDiff, Nat.reduceAdd, Nat.reduceEqDiff, Nat.reduceSub, Nat.reduceLT, Nat.zero_add, reduceCtorEq, reduceIte, eq_self, i32_10, i32_01, Nat.zero_le, Nat.one_ne_zero, c, yy, p0, p1, mi, sa, r3, r4, k1, gz_n_set, gz_k_set, kb4]
      · show CR _ (if _ then _ else _)
        rw [if_pos (Or.inl q1)]
        exact kb_cr h _ _ s t bm1 (by omega)
    · have k1 : ¬ nI l < nI (min a b) := nI_nlt (by omega) (by omega)
      by_cases q2 : min a b = l
      · have k2 : decide (nI (min a b) = nI l) = true := by rw [q2]; exact decide_eq_true rfl
        by_cases q3 : u < a + b
        · have k3 : nI u < nI (a + b) := nI_lt q3 (by omega)
          refine ⟨kb4 h (nI (min a b)) (nI (a + b)) (nI s) (nI t), ?_, kb_bw yy _ _ _ _, ?_⟩
          · simp only [se_X6_keepIfBetter, sm_X6_keepIfBetter, gz_sem, gz_ae, Value.category, gz_i, gz_l, gz_nu, gz_li, gz_ll, gz_la, gz_ib, gz_iz, gz_lb, gz_lz, gz_ls, gz_lc, gz_i2l, gz_l2i, gz_get, gz_ald, gz_len, gz_dup, gz_d2, gz_nar, gz_a0, gz_a1, gz_cs, gz_cv, gz_mk, gz_te, gz_j1, gz_j2, gz_jn, gz_jk, gz_jo, gz_ja, gz_sat, gz_seti, gz_seta, gz_set2, gz_inc, gz_put, gz_ast, gz_pop, gz_vs, gz_vv, gz_sup, gz_rv, gz_ri, gz_rl, gz_ra, gz_if, gz_seq, gz_sw, gz_st, gz_st2, rok_I, rok_J, rok_V, rok_Z0, rok_Z1, rok_Zi, rok_R, rok_N, bi_rok, bi_0, bi_1, fit_I, fit_J, fit_Z0, fit_Z1, fit_Zi, fit_R, fit_N, fit_aR, aty_I, aty_Z0, aty_Z1, aty_Zi, aty_J, gz_ix, List.getElem?_cons_zero, List.getElem?_cons_succ, List.getElem?_nil, List.reverse_cons, List.reverse_nil, List.nil_append, List.cons_append, List.take_succ_cons, List.take_zero, List.take_nil, List.length_cons, List.length_nil, decide_true, decide_false, decide_not, Bool.not_true, Bool.not_false, gz_nle, if_true, if_false, and_true, true_and, and_self, and_false, false_and, or_true, true_or, or_false, false_or, Bool.false_eq_true, not_true, not_false_iff, Decidable.not_not, Nat.reduceLeDiff, Nat.reduceAdd, Nat.reduceEqDiff, Nat.reduceSub, Nat.reduceLT, Nat.zero_add, reduceCtorEq, reduceIte, eq_self, i32_10, i32_01, Nat.zero_le, Nat.one_ne_zero, c, yy, p0, p1, mi, sa, r3, r4, k1, k2, k3, gz_n_set, gz_k_set, kb4]
          · show CR _ (if _ then _ else _)
            rw [if_pos (Or.inr ⟨q2, q3⟩)]
            exact kb_cr h _ _ s t bm1 (by omega)
        · have k3 : ¬ nI u < nI (a + b) := nI_nlt (by omega) (by omega)
          refine ⟨h, ?_, BW_rf yy, ?_⟩
          · simp only [se_X6_keepIfBetter, sm_X6_keepIfBetter, gz_sem, gz_ae, Value.category, gz_i, gz_l, gz_nu, gz_li, gz_ll, gz_la, gz_ib, gz_iz, gz_lb, gz_lz, gz_ls, gz_lc, gz_i2l, gz_l2i, gz_get, gz_ald, gz_len, gz_dup, gz_d2, gz_nar, gz_a0, gz_a1, gz_cs, gz_cv, gz_mk, gz_te, gz_j1, gz_j2, gz_jn, gz_jk, gz_jo, gz_ja, gz_sat, gz_seti, gz_seta, gz_set2, gz_inc, gz_put, gz_ast, gz_pop, gz_vs, gz_vv, gz_sup, gz_rv, gz_ri, gz_rl, gz_ra, gz_if, gz_seq, gz_sw, gz_st, gz_st2, rok_I, rok_J, rok_V, rok_Z0, rok_Z1, rok_Zi, rok_R, rok_N, bi_rok, bi_0, bi_1, fit_I, fit_J, fit_Z0, fit_Z1, fit_Zi, fit_R, fit_N, fit_aR, aty_I, aty_Z0, aty_Z1, aty_Zi, aty_J, gz_ix, List.getElem?_cons_zero, List.getElem?_cons_succ, List.getElem?_nil, List.reverse_cons, List.reverse_nil, List.nil_append, List.cons_append, List.take_succ_cons, List.take_zero, List.take_nil, List.length_cons, List.length_nil, decide_true, decide_false, decide_not, Bool.not_true, Bool.not_false, gz_nle, if_true, if_false, and_true, true_and, and_self, and_false, false_and, or_true, true_or, or_false, false_or, Bool.false_eq_true, not_true, not_false_iff, Decidable.not_not, Nat.reduceLeDiff, Nat.reduceAdd, Nat.reduceEqDiff, Nat.reduceSub, Nat.reduceLT, Nat.zero_add, reduceCtorEq, reduceIte, eq_self, i32_10, i32_01, Nat.zero_le, Nat.one_ne_zero, c, yy, p0, p1, mi, sa, r3, r4, k1, k2, k3]
          · show CR _ (if _ then _ else _)
            rw [if_neg (fun z => by omega)]
            exact R'
      · have k2 : decide (nI (min a b) = nI l) = false := decide_eq_false (fun z => q2 ((nI_eq (by omega) (by omega)).mp z))
        refine ⟨h, ?_, BW_rf yy, ?_⟩
        · simp only [se_X6_keepIfBetter, sm_X6_keepIfBetter, gz_sem, gz_ae, Value.category, gz_i, gz_l, gz_nu, gz_li, gz_ll, gz_la, gz_ib, gz_iz, gz_lb, gz_lz, gz_ls, gz_lc, gz_i2l, gz_l2i, gz_get, gz_ald, gz_len, gz_dup, gz_d2, gz_nar, gz_a0, gz_a1, gz_cs, gz_cv, gz_mk, gz_te, gz_j1, gz_j2, gz_jn, gz_jk, gz_jo, gz_ja, gz_sat, gz_seti, gz_seta, gz_set2, gz_inc, gz_put, gz_ast, gz_pop, gz_vs, gz_vv, gz_sup, gz_rv, gz_ri, gz_rl, gz_ra, gz_if, gz_seq, gz_sw, gz_st, gz_st2, rok_I, rok_J, rok_V, rok_Z0, rok_Z1, rok_Zi, rok_R, rok_N, bi_rok, bi_0, bi_1, fit_I, fit_J, fit_Z0, fit_Z1, fit_Zi, fit_R, fit_N, fit_aR, aty_I, aty_Z0, aty_Z1, aty_Zi, aty_J, gz_ix, List.getElem?_cons_zero, List.getElem?_cons_succ, List.getElem?_nil, List.reverse_cons, List.reverse_nil, List.nil_append, List.cons_append, List.take_succ_cons, List.take_zero, List.take_nil, List.length_cons, List.length_nil, decide_true, decide_false, decide_not, Bool.not_true, Bool.not_false, gz_nle, if_true, if_false, and_true, true_and, and_self, and_false, false_and, or_true, true_or, or_false, false_or, Bool.false_eq_true, not_true, not_false_iff, Decidable.not_not, Nat.reduceLeDiff, Nat.reduceAdd, Nat.reduceEqDiff, Nat.reduceSub, Nat.reduceLT, Nat.zero_add, reduceCtorEq, reduceIte, eq_self, i32_10, i32_01, Nat.zero_le, Nat.one_ne_zero, c, yy, p0, p1, mi, sa, r3, r4, k1, k2]
        · show CR _ (if _ then _ else _)
          rw [if_neg (fun z => by omega)]
          exact R'
def wm (K cy : Nat) : Nat := if K = 3 then cy else 1
set_option maxHeartbeats 4000000 in
theorem st_fb {h0 : gz_H} {JJ K cy : Nat} {Q Sg Tm : Nat → Nat} (H : WH h0 JJ K cy Q Sg Tm) (hK : K = 2 ∨ K = 3) (c0 : 0 < cy) (c9 : cy ≤ 90) (o0 : Nat) (e1 : gz_I h0 (Q 0) 1 = nI o0) (ho0 : o0 < cy) : ∃ h', se_X6_findBest [.ref 9] h0 = some (none, h') ∧ YW h0 h' ∧ gz_I h' 9 5 = nI K ∧ CR h' (wall (fun s t => cN (wF h0 K cy Q Sg Tm 0 o0 s t) cy) (fun s t => cN (wF h0 K cy Q Sg Tm 1 o0 s t) cy) (wm K cy) cy) := by
  obtain ⟨h1, g1, g2, g3⟩ := st_lg H (by omega) c0 c9
  have H1 := WH_LF g2 H
  generalize hA : (fun s t => cN (wF h0 K cy Q Sg Tm 0 o0 s t) cy) = A
  generalize hB : (fun s t => cN (wF h0 K cy Q Sg Tm 1 o0 s t) cy) = B
  have eA : ∀ s t, A s t = cN (wF h0 K cy Q Sg Tm 0 o0 s t) cy := fun s t => by rw [← hA]
  have eB : ∀ s t, B s t = cN (wF h0 K cy Q Sg Tm 1 o0 s t) cy := fun s t => by rw [← hB]
  have hQ0 := (H.2.2.2.1 0 (by omega)).1
  have hm : wm K cy ≤ cy ∧ (K = 2 → wm K cy = 1) := by
    unfold wm
    rcases hK with z | z
    · rw [if_neg (by omega)]; exact ⟨by omega, fun _ => rfl⟩
    · rw [if_pos z]; exact ⟨by omega, fun y => by omega⟩
  generalize hmm : wm K cy = m at *
  have B2 : BW h1 (gz_set (gz_set h1 9 6 (.int (-1))) 9 7 (.int (-1))) := BW_set (BW_set (BW_rf H1.2.1) _ (by omega) (by omega)) _ (by omega) (by omega)
  obtain ⟨e', h', q1, q2, q3, q4⟩ := gz_forI (L := 40) (k := 4) (X := 73) (a := lb_X6_findBest_40) cy (fun s e h => e = [.ref 9, .int (nI cy), .int (nI m), .int (nI s)] ∧ BW h1 h ∧ CR h (wall A B m s)) (fun e h => e = [.ref 9, .int (nI cy), .int (nI m), .int (nI cy)] ∧ BW h1 h ∧ CR h (wall A B m cy)) (by decide) (by
    intro s e h hs ⟨ee, w, r⟩
    subst ee
    have k1 : nI s < nI cy := nI_lt hs (by omega)
    have z0 : (0 : Int32) = nI 0 := rfl
    have i1 : nI s + 1 = nI (s + 1) := nI_add s 1
    obtain ⟨e2, h2, s1, s2, s3, s4⟩ := gz_forI (L := 48) (k := 5) (X := 67) (a := lb_X6_findBest_48) m (fun t e h => e = [.ref 9, .int (nI cy), .int (nI m), .int (nI s), .int (nI t)] ∧ BW h1 h ∧ CR h (wrow A B (wall A B m s) s t)) (fun e h => e = [.ref 9, .int (nI cy), .int (nI m), .int (nI s), .int (nI m)] ∧ BW h1 h ∧ CR h (wrow A B (wall A B m s) s m)) (by decide) (by
      intro t e h ht ⟨ee, w, r⟩
      subst ee
      have k2 : nI t < nI m := nI_lt ht (by omega)
      have i2 : nI t + 1 = nI (t + 1) := nI_add t 1
      have Hh := BW_WH w H1
      obtain ⟨h3, u1, u2, u3⟩ := st_kb Hh hK c0 c9 (BW_GL w g3) o0 (by rw [sm_I (BW_sm w (by omega)), sm_I (LF_sm g2 (by omega) (by omega))]; exact e1) ho0 s t hs (by omega) (fun z => by have := hm.2 z; omega) _ r
      rw [← eA, ← eB] at u3
      obtain ⟨c, yy, -⟩ := Hh
      refine ⟨[.ref 9, .int (nI cy), .int (nI m), .int (nI s), .int (nI (t + 1))], h3, ?_, rfl, BW_tr w u2, u3⟩
      simp only [lb_X6_findBest_48, gz_sem, gz_ae, Value.category, gz_i, gz_l, gz_nu, gz_li, gz_ll, gz_la, gz_ib, gz_iz, gz_lb, gz_lz, gz_ls, gz_lc, gz_i2l, gz_l2i, gz_get, gz_ald, gz_len, gz_dup, gz_d2, gz_nar, gz_a0, gz_a1, gz_cs, gz_cv, gz_mk, gz_te, gz_j1, gz_j2, gz_jn, gz_jk, gz_jo, gz_ja, gz_sat, gz_seti, gz_seta, gz_set2, gz_inc, gz_put, gz_ast, gz_pop, gz_vs, gz_vv, gz_sup, gz_rv, gz_ri, gz_rl, gz_ra, gz_if, gz_seq, gz_sw, gz_st, gz_st2, rok_I, rok_J, rok_V, rok_Z0, rok_Z1, rok_Zi, rok_R, rok_N, bi_rok, bi_0, bi_1, fit_I, fit_J, fit_Z0, fit_Z1, fit_Zi, fit_R, fit_N, fit_aR, aty_I, aty_Z0, aty_Z1, aty_Zi, aty_J, gz_ix, List.getElem?_cons_zero, List.getElem?_cons_succ, List.getElem?_nil, List.reverse_cons, List.reverse_nil, List.nil_append, List.cons_append, List.take_succ_cons, List.take_zero, List.take_nil, List.length_cons, List.length_nil, decide_true, decide_false, decide_not, Bool.not_true, Bool.not_false, gz_nle, if_true, if_false, and_true, true_and, and_self, and_false, false_and, or_true, true_or, or_false, false_or, Bool.false_eq_true, not_true, not_false_iff, Decidable.not_not, Nat.reduceLeDiff, Nat.reduceAdd, Nat.reduceEqDiff, Nat.reduceSub, Nat.reduceLT, Nat.zero_add, reduceCtorEq, reduceIte, eq_self, i32_10, i32_01, Nat.zero_le, Nat.one_ne_zero, c, yy, k2, u1, i2]) (by
      intro e h ⟨ee, w, r⟩
      subst ee
      have k2 : ¬ nI m < nI m := nI_nlt (Nat.le_refl _) (by omega)
      refine ⟨_, h, ?_, rfl, w, r⟩
      simp only [lb_X6_findBest_48, gz_sem, gz_ae, Value.category, gz_i, gz_l, gz_nu, gz_li, gz_ll, gz_la, gz_ib, gz_iz, gz_lb, gz_lz, gz_ls, gz_lc, gz_i2l, gz_l2i, gz_get, gz_ald, gz_len, gz_dup, gz_d2, gz_nar, gz_a0, gz_a1, gz_cs, gz_cv, gz_mk, gz_te, gz_j1, gz_j2, gz_jn, gz_jk, gz_jo, gz_ja, gz_sat, gz_seti, gz_seta, gz_set2, gz_inc, gz_put, gz_ast, gz_pop, gz_vs, gz_vv, gz_sup, gz_rv, gz_ri, gz_rl, gz_ra, gz_if, gz_seq, gz_sw, gz_st, gz_st2, rok_I, rok_J, rok_V, rok_Z0, rok_Z1, rok_Zi, rok_R, rok_N, bi_rok, bi_0, bi_1, fit_I, fit_J, fit_Z0, fit_Z1, fit_Zi, fit_R, fit_N, fit_aR, aty_I, aty_Z0, aty_Z1, aty_Zi, aty_J, gz_ix, List.getElem?_cons_zero, List.getElem?_cons_succ, List.getElem?_nil, List.reverse_cons, List.reverse_nil, List.nil_append, List.cons_append, List.take_succ_cons, List.take_zero, List.take_nil, List.length_cons, List.length_nil, decide_true, decide_false, decide_not, Bool.not_true, Bool.not_false, gz_nle, if_true, if_false, and_true, true_and, and_self, and_false, false_and, or_true, true_or, or_false, false_or, Bool.false_eq_true, not_true, not_false_iff, Decidable.not_not, Nat.reduceLeDiff, Nat.reduceAdd, Nat.reduceEqDiff, Nat.reduceSub, Nat.reduceLT, Nat.zero_add, reduceCtorEq, reduceIte, eq_self, i32_10, i32_01, Nat.zero_le, Nat.one_ne_zero, k2]) m 0 [.ref 9, .int (nI cy), .int (nI m), .int (nI s), .int (nI 0)] h (by omega) ⟨rfl, w, r⟩
    rw [← z0] at s1
    subst s2
    refine ⟨[.ref 9, .int (nI cy), .int (nI m), .int (nI (s + 1))], h2, ?_, rfl, s3, s4⟩
    simp only [lb_X6_findBest_40, gz_sem, gz_ae, Value.category, gz_i, gz_l, gz_nu, gz_li, gz_ll, gz_la, gz_ib, gz_iz, gz_lb, gz_lz, gz_ls, gz_lc, gz_i2l, gz_l2i, gz_get, gz_ald, gz_len, gz_dup, gz_d2, gz_nar, gz_a0, gz_a1, gz_cs, gz_cv, gz_mk, gz_te, gz_j1, gz_j2, gz_jn, gz_jk, gz_jo, gz_ja, gz_sat, gz_seti, gz_seta, gz_set2, gz_inc, gz_put, gz_ast, gz_pop, gz_vs, gz_vv, gz_sup, gz_rv, gz_ri, gz_rl, gz_ra, gz_if, gz_seq, gz_sw, gz_st, gz_st2, rok_I, rok_J, rok_V, rok_Z0, rok_Z1, rok_Zi, rok_R, rok_N, bi_rok, bi_0, bi_1, fit_I, fit_J, fit_Z0, fit_Z1, fit_Zi, fit_R, fit_N, fit_aR, aty_I, aty_Z0, aty_Z1, aty_Zi, aty_J, gz_ix, List.getElem?_cons_zero, List.getElem?_cons_succ, List.getElem?_nil, List.reverse_cons, List.reverse_nil, List.nil_append, List.cons_append, List.take_succ_cons, List.take_zero, List.take_nil, List.length_cons, List.length_nil, decide_true, decide_false, decide_not, Bool.not_true, Bool.not_false, gz_nle, if_true, if_false, and_true, true_and, and_self, and_false, false_and, or_true, true_or, or_false, false_or, Bool.false_eq_true, not_true, not_false_iff, Decidable.not_not, Nat.reduceLeDiff, Nat.reduceAdd, Nat.reduceEqDiff, Nat.reduceSub, Nat.reduceLT, Nat.zero_add, reduceCtorEq, reduceIte, eq_self, i32_10, i32_01, Nat.zero_le, Nat.one_ne_zero, k1, s1, i1]) (by
    intro e h ⟨ee, w, r⟩
    subst ee
    have k2 : ¬ nI cy < nI cy := nI_nlt (Nat.le_refl _) (by omega)
    refine ⟨_, h, ?_, rfl, w, r⟩
    simp only [lb_X6_findBest_40, gz_sem, gz_ae, Value.category, gz_i, gz_l, gz_nu, gz_li, gz_ll, gz_la, gz_ib, gz_iz, gz_lb, gz_lz, gz_ls, gz_lc, gz_i2l, gz_l2i, gz_get, gz_ald, gz_len, gz_dup, gz_d2, gz_nar, gz_a0, gz_a1, gz_cs, gz_cv, gz_mk, gz_te, gz_j1, gz_j2, gz_jn, gz_jk, gz_jo, gz_ja, gz_sat, gz_seti, gz_seta, gz_set2, gz_inc, gz_put, gz_ast, gz_pop, gz_vs, gz_vv, gz_sup, gz_rv, gz_ri, gz_rl, gz_ra, gz_if, gz_seq, gz_sw, gz_st, gz_st2, rok_I, rok_J, rok_V, rok_Z0, rok_Z1, rok_Zi, rok_R, rok_N, bi_rok, bi_0, bi_1, fit_I, fit_J, fit_Z0, fit_Z1, fit_Zi, fit_R, fit_N, fit_aR, aty_I, aty_Z0, aty_Z1, aty_Zi, aty_J, gz_ix, List.getElem?_cons_zero, List.getElem?_cons_succ, List.getElem?_nil, List.reverse_cons, List.reverse_nil, List.nil_append, List.cons_append, List.take_succ_cons, List.take_zero, List.take_nil, List.length_cons, List.length_nil, decide_true, decide_false, decide_not, Bool.not_true, Bool.not_false, gz_nle, if_true, if_false, and_true, true_and, and_self, and_false, false_and, or_true, true_or, or_false, false_or, Bool.false_eq_true, not_true, not_false_iff, Decidable.not_not, Nat.reduceLeDiff, Nat.reduceAdd, Nat.reduceEqDiff, Nat.reduceSub, Nat.reduceLT, Nat.zero_add, reduceCtorEq, reduceIte, eq_self, i32_10, i32_01, Nat.zero_le, Nat.one_ne_zero, k2]) cy 0 [.ref 9, .int (nI cy), .int (nI m), .int (nI 0)] (gz_set (gz_set h1 9 6 (.int (-1))) 9 7 (.int (-1))) (by omega) (by
    refine ⟨rfl, B2, ?_, ?_⟩
    · rw [I_seto _ _ _ _ _ _ (by omega), I_set, if_pos ⟨rfl, rfl⟩]
    · rw [I_set, if_pos ⟨rfl, rfl⟩])
  have z0 : (0 : Int32) = nI 0 := rfl
  rw [← z0] at q1
  refine ⟨h', ?_, YW_tr (LF_YW g2) (BW_YW q3), by rw [vI (q3.2.2.2 9 5 (by omega)), vI (g2.2.2.2 9 5 (by omega))]; exact H.2.2.1, q4⟩
  obtain ⟨c, yy, w5, wp, -⟩ := H
  obtain ⟨c', yy', -⟩ := H1
  obtain ⟨u1, ⟨n, u2⟩, u3, u4⟩ := wp 0 (by omega)
  have l00 : ¬ (0 : Int32) < 0 := by decide
  have c00 : (0 : Int32).toNatClampNeg = 0 := rfl
  have q03 : 0 < 3 := by decide
  rcases hK with z | z
  · have kd : ¬ nI K = 3 := by rw [z]; decide
    have em : m = 1 := hm.2 z
    have e1' : nI m = 1 := by rw [em]; rfl
    rw [e1'] at q1
    simp only [se_X6_findBest, sm_X6_findBest, gz_sem, gz_ae, Value.category, gz_i, gz_l, gz_nu, gz_li, gz_ll, gz_la, gz_ib, gz_iz, gz_lb, gz_lz, gz_ls, gz_lc, gz_i2l, gz_l2i, gz_get, gz_ald, gz_len, gz_dup, gz_d2, gz_nar, gz_a0, gz_a1, gz_cs, gz_cv, gz_mk, gz_te, gz_j1, gz_j2, gz_jn, gz_jk, gz_jo, gz_ja, gz_sat, gz_seti, gz_seta, gz_set2, gz_inc, gz_put, gz_ast, gz_pop, gz_vs, gz_vv, gz_sup, gz_rv, gz_ri, gz_rl, gz_ra, gz_if, gz_seq, gz_sw, gz_st, gz_st2, rok_I, rok_J, rok_V, rok_Z0, rok_Z1, rok_Zi, rok_R, rok_N, bi_rok, bi_0, bi_1, fit_I, fit_J, fit_Z0, fit_Z1, fit_Zi, fit_R, fit_N, fit_aR, aty_I, aty_Z0, aty_Z1, aty_Zi, aty_J, gz_ix, List.getElem?_cons_zero, List.getElem?_cons_succ, List.getElem?_nil, List.reverse_cons, List.reverse_nil, List.nil_append, List.cons_append, List.take_succ_cons, List.take_zero, List.take_nil, List.length_cons, List.length_nil, decide_true, decide_false, decide_not, Bool.not_true, Bool.not_false, gz_nle, if_true, if_false, and_true, true_and, and_self, and_false, false_and, or_true, true_or, or_false, false_or, Bool.false_eq_true, not_true, not_false_iff, Decidable.not_not, Nat.reduceLeDiff, Nat.reduceAdd, Nat.reduceEqDiff, Nat.reduceSub, Nat.reduceLT, Nat.zero_add, reduceCtorEq, reduceIte, eq_self, i32_10, i32_01, Nat.zero_le, Nat.one_ne_zero, c, yy, c', yy', l00, c00, q03, u4, u2, u3, w5, kd, g1, gz_n_set, gz_k_set, q1]
  · have kd : decide (nI K = 3) = true := by rw [z]; decide
    have em : m = cy := by rw [← hmm]; unfold wm; rw [if_pos z]
    rw [em] at q1
    simp only [se_X6_findBest, sm_X6_findBest, gz_sem, gz_ae, Value.category, gz_i, gz_l, gz_nu, gz_li, gz_ll, gz_la, gz_ib, gz_iz, gz_lb, gz_lz, gz_ls, gz_lc, gz_i2l, gz_l2i, gz_get, gz_ald, gz_len, gz_dup, gz_d2, gz_nar, gz_a0, gz_a1, gz_cs, gz_cv, gz_mk, gz_te, gz_j1, gz_j2, gz_jn, gz_jk, gz_jo, gz_ja, gz_sat, gz_seti, gz_seta, gz_set2, gz_inc, gz_put, gz_ast, gz_pop, gz_vs, gz_vv, gz_sup, gz_rv, gz_ri, gz_rl, gz_ra, gz_if, gz_seq, gz_sw, gz_st, gz_st2, rok_I, rok_J, rok_V, rok_Z0, rok_Z1, rok_Zi, rok_R, rok_N, bi_rok, bi_0, bi_1, fit_I, fit_J, fit_Z0, fit_Z1, fit_Zi, fit_R, fit_N, fit_aR, aty_I, aty_Z0, aty_Z1, aty_Zi, aty_J, gz_ix, List.getElem?_cons_zero, List.getElem?_cons_succ, List.getElem?_nil, List.reverse_cons, List.reverse_nil, List.nil_append, List.cons_append, List.take_succ_cons, List.take_zero, List.take_nil, List.length_cons, List.length_nil, decide_true, decide_false, decide_not, Bool.not_true, Bool.not_false, gz_nle, if_true, if_false, and_true, true_and, and_self, and_false, false_and, or_true, true_or, or_false, false_or, Bool.false_eq_true, not_true, not_false_iff, Decidable.not_not, Nat.reduceLeDiff, Nat.reduceAdd, Nat.reduceEqDiff, Nat.reduceSub, Nat.reduceLT, Nat.zero_add, reduceCtorEq, reduceIte, eq_self, i32_10, i32_01, Nat.zero_le, Nat.one_ne_zero, c, yy, c', yy', l00, c00, q03, u4, u2, u3, w5, kd, g1, gz_n_set, gz_k_set, q1]
