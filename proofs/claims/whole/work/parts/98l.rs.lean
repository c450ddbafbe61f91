theorem cmp_lt {a b : Nat} (ha : a < 2 ^ 31) (hb : b < 2 ^ 31) : (lg_cmp (lN a) (lN b) < 0) ↔ a < b := by
  unfold lg_cmp
  by_cases q : b < a
  · rw [if_pos ((lN_lt hb ha).mpr q)]
    exact ⟨fun z => absurd z (by decide), fun z => by omega⟩
  · rw [if_neg (fun z => q ((lN_lt hb ha).mp z))]
    by_cases q2 : a = b
    · subst q2
      rw [if_pos rfl]
      exact ⟨fun z => absurd z (by decide), fun z => by omega⟩
    · rw [if_neg (fun z => q2 ((lN_eq ha hb).mp z))]
      exact ⟨fun _ => by omega, fun _ => by decide⟩
set_option maxHeartbeats 4000000 in
theorem no_X8_isFull (h : gz_H) (m : md h) (s : Nat) (hs : s < 64) (h37 : gz_I h 37 s = 0) : se_X8_isFull [.ref 15, .int (nI s)] h = some (some (.int 0), h) := by
  have d2 : ¬ nI s < 0 := nI_pos (by omega)
  have d3 : (nI s).toNatClampNeg = s := nI_clamp (by omega)
  simp only [se_X8_isFull, sm_X8_isFull, gz_sem, gz_ae, Value.category, gz_i, gz_l, gz_nu, gz_li, gz_ll, gz_la, gz_ib, gz_iz, gz_lb, gz_lz, gz_ls, gz_lc, gz_i2l, gz_l2i, gz_get, gz_ald, gz_len, gz_dup, gz_d2, gz_nar, gz_a0, gz_a1, gz_cs, gz_cv, gz_mk, gz_te, gz_j1, gz_j2, gz_jn, gz_jk, gz_jo, gz_ja, gz_sat, gz_seti, gz_seta, gz_set2, gz_inc, gz_put, gz_ast, gz_pop, gz_vs, gz_vv, gz_sup, gz_rv, gz_ri, gz_rl, gz_ra, gz_if, gz_seq, gz_sw, gz_st, gz_st2, rok_I, rok_J, rok_V, rok_Z0, rok_Z1, rok_Zi, rok_R, rok_N, bi_rok, bi_0, bi_1, fit_I, fit_J, fit_Z0, fit_Z1, fit_Zi, fit_R, fit_N, fit_aR, aty_I, aty_Z0, aty_Z1, aty_Zi, aty_J, gz_ix, List.getElem?_cons_zero, List.getElem?_cons_succ, List.getElem?_nil, List.reverse_cons, List.reverse_nil, List.nil_append, List.cons_append, List.take_succ_cons, List.take_zero, List.take_nil, List.length_cons, List.length_nil, decide_true, decide_false, decide_not, Bool.not_true, Bool.not_false, gz_nle, if_true, if_false, and_true, true_and, and_self, and_false, false_and, or_true, true_or, or_false, false_or, Bool.false_eq_true, not_true, not_false_iff, Decidable.not_not, Nat.reduceLeDiff, Nat.reduceAdd, Nat.reduceEqDiff, Nat.reduceSub, Nat.reduceLT, Nat.zero_add, reduceCtorEq, reduceIte, eq_self, i32_10, i32_01, Nat.zero_le, Nat.one_ne_zero, m, md_k, d2, d3, hs, h37]
set_option maxHeartbeats 4000000 in
theorem st_X8_isFull (h : gz_H) (m : md h) (s e n we rm : Nat) (hs : s < 64) (he : e < 64) (h37 : gz_I h 37 s = 1) (h38 : gz_I h 38 s = nI e) (h41 : gz_I h 41 s = nI n) (h45 : gz_J h 45 e = lN we) (h40 : gz_I h 40 s = nI rm) (n6 : n ≤ 60) (we3 : we < 2 ^ 29) (rm6 : rm ≤ 60) : se_X8_isFull [.ref 15, .int (nI s)] h = some (some (.int (gz_bi (¬ n + we < rm))), h) := by
  have d2 : ¬ nI s < 0 := nI_pos (by omega)
  have d3 : (nI s).toNatClampNeg = s := nI_clamp (by omega)
  have e2 : ¬ nI e < 0 := nI_pos (by omega)
  have e3 : (nI e).toNatClampNeg = e := nI_clamp (by omega)
  have i1 : (nI n).toInt64 = lN n := nI_l (by omega)
  have i2 : (nI rm).toInt64 = lN rm := nI_l (by omega)
  have i3 : lN n + lN we = lN (n + we) := lN_add _ _
  have c := cmp_lt (a := n + we) (b := rm) (by omega) (by omega)
  by_cases q : n + we < rm
  · have q' := c.mpr q
    rw [bi_f (fun z => z q)]
    simp only [se_X8_isFull, sm_X8_isFull, gz_sem, gz_ae, Value.category, gz_i, gz_l, gz_nu, gz_li, gz_ll, gz_la, gz_ib, gz_iz, gz_lb, gz_lz, gz_ls, gz_lc, gz_i2l, gz_l2i, gz_get, gz_ald, gz_len, gz_dup, gz_d2, gz_nar, gz_a0, gz_a1, gz_cs, gz_cv, gz_mk, gz_te, gz_j1, gz_j2, gz_jn, gz_jk, gz_jo, gz_ja, gz_sat, gz_seti, gz_seta, gz_set2, gz_inc, gz_put, gz_ast, gz_pop, gz_vs, gz_vv, gz_sup, gz_rv, gz_ri, gz_rl, gz_ra, gz_if, gz_seq, gz_sw, gz_st, gz_st2, rok_I, rok_J, rok_V, rok_Z0, rok_Z1, rok_Zi, rok_R, rok_N, bi_rok, bi_0, bi_1, fit_I, fit_J, fit_Z0, fit_Z1, fit_Zi, fit_R, fit_N, fit_aR, aty_I, aty_Z0, aty_Z1, aty_Zi, aty_J, gz_ix, List.getElem?_cons_zero, List.getElem?_cons_succ, List.getElem?_nil, List.reverse_cons, List.reverse_nil, List.nil_append, List.cons_append, List.take_succ_cons, List.take_zero, List.take_nil, List.length_cons, List.length_nil, decide_true, decide_false, decide_not, Bool.not_true, Bool.not_false, gz_nle, if_true, if_false, and_true, true_and, and_self, and_false, false_and, or_true, true_or, or_false, false_or, Bool.false_eq_true, not_true, not_false_iff, Decidable.not_not, Nat.reduceLeDiff, Nat.reduceAdd, Nat.reduceEqDiff, Nat.reduceSub, Nat.reduceLT, Nat.zero_add, reduceCtorEq, reduceIte, eq_self, i32_10, i32_01, Nat.zero_le, Nat.one_ne_zero, m, md_k, d2, d3, hs, e2, e3, he, h37, h38, h41, h45, h40, i1, i2, i3, q']
  · have q' : ¬ lg_cmp (lN (n + we)) (lN rm) < 0 := fun z => q (c.mp z)
    rw [bi_t q]
    simp only [se_X8_isFull, sm_X8_isFull, gz_sem, gz_ae, Value.category, gz_i, gz_l, gz_nu, gz_li, gz_ll, gz_la, gz_ib, gz_iz, gz_lb, gz_lz, gz_ls, gz_lc, gz_i2l, gz_l2i, gz_get, gz_ald, gz_len, gz_dup, gz_d2, gz_nar, gz_a0, gz_a1, gz_cs, gz_cv, gz_mk, gz_te, gz_j1, gz_j2, gz_jn, gz_jk, gz_jo, gz_ja, gz_sat, gz_seti, gz_seta, gz_set2, gz_inc, gz_put, gz_ast, gz_pop, gz_vs, gz_vv, gz_sup, gz_rv, gz_ri, gz_rl, gz_ra, gz_if, gz_seq, gz_sw, gz_st, gz_st2, rok_I, rok_J, rok_V, rok_Z0, rok_Z1, rok_Zi, rok_R, rok_N, bi_rok, bi_0, bi_1, fit_I, fit_J, fit_Z0, fit_Z1, fit_Zi, fit_R, fit_N, fit_aR, aty_I, aty_Z0, aty_Z1, aty_Zi, aty_J, gz_ix, List.getElem?_cons_zero, List.getElem?_cons_succ, List.getElem?_nil, List.reverse_cons, List.reverse_nil, List.nil_append, List.cons_append, List.take_succ_cons, List.take_zero, List.take_nil, List.length_cons, List.length_nil, decide_true, decide_false, decide_not, Bool.not_true, Bool.not_false, gz_nle, if_true, if_false, and_true, true_and, and_self, and_false, false_and, or_true, true_or, or_false, false_or, Bool.false_eq_true, not_true, not_false_iff, Decidable.not_not, Nat.reduceLeDiff, Nat.reduceAdd, Nat.reduceEqDiff, Nat.reduceSub, Nat.reduceLT, Nat.zero_add, reduceCtorEq, reduceIte, eq_self, i32_10, i32_01, Nat.zero_le, Nat.one_ne_zero, m, md_k, d2, d3, hs, e2, e3, he, h37, h38, h41, h45, h40, i1, i2, i3, q']
def sd8 (R : gz_H) (s T tm n : Nat) : gz_H := gz_set (gz_set R 42 (60 * s + n) (.int (nI (T + tm)))) 41 s (.int (nI (n + 1)))
set_option maxHeartbeats 16000000 in
theorem rs8 (R R2 : gz_H) (m0 : md R) (m2 : md R2) (s a c w m l p q ho rt T : Nat) (t : Int64) (gb : Int32) (hs : s < 64) (h18 : gz_I R 18 s = nI ho) (h19 : gz_I R2 19 s = nI rt) (ha : a < 3600) (hho : ho ≤ 3600) (hc : c ≤ 3600) (hrt : rt ≤ 3600) (hw : w + 66 < 2 ^ 29) (hq : q < 2 ^ 30) (hg : gb = 0 ∨ gb = 1) (hT : T < 2 ^ 28) (k2 a1 kk : Nat) (k64 : k2 ≤ 64) (ekk : kk = (if a + ho < 3600 then 0 else 1) + k2) (ea1 : a1 = if a + ho < 3600 then a + ho else a + ho - 3600) (lp : ∀ a w m p, w < 2 ^ 29 → gz_loop 47 4 lb_X8_runStream_47 [.ref 15, .int (nI s), .int gb, .int 0] (sw8 R s a c w m l p q t) = some (.inl (171, [.ref 15, .int (nI s), .int gb, .int (nI 64)], sw8 R2 s a c (w + k2) (m + k2) l (cq gb w p k2) q t))) (can : Prop) (h15 : gz_I R2 15 1 = nI T) (out : (gz_I R2 37 s = 0 ∧ (can ↔ (3600 ≤ (if gb = 0 then 0 else c + rt) ∧ 0 < w + kk))) ∨ (∃ e n we rm, e < 64 ∧ e ≠ s ∧ gz_I R2 37 s = 1 ∧ gz_I R2 38 s = nI e ∧ gz_I R2 41 s = nI n ∧ gz_J R2 45 e = lN we ∧ gz_I R2 40 s = nI rm ∧ n ≤ 60 ∧ we < 2 ^ 29 ∧ rm ≤ 60 ∧ (can ↔ (3600 ≤ (if gb = 0 then 0 else c + rt) ∧ 0 < w + kk ∧ n + we < rm)))) : (¬ can → se_X8_runStream [.ref 15, .int (nI s), .int gb] (sw8 R s a c w m l p q t) = some (none, gz_set (sw8 R2 s a1 (min (if gb = 0 then 0 else c + rt) 3600) (w + kk) (m + kk) l (cq gb w p kk) (max q (w + kk)) (t + lN (w + kk))) 51 s (.int gb))) ∧ (can → (gz_I R2 37 s = 0 → se_X8_runStream [.ref 15, .int (nI s), .int gb] (sw8 R s a c w m l p q t) = some (none, gz_set (sw8 R2 s a1 (min ((if gb = 0 then 0 else c + rt) - 3600) 3600) (w + kk - 1) (m + kk) (l + 1) (cq gb w p kk) (max q (w + kk - 1)) (t + lN (w + kk - 1))) 51 s (.int gb))) ∧ (∀ n tm, gz_I R2 37 s = 1 → gz_I R2 41 s = nI n → gz_I R2 39 s = nI tm → n < 60 → tm ≤ 60 → se_X8_runStream [.ref 15, .int (nI s), .int gb] (sw8 R s a c w m l p q t) = some (none, gz_set (sw8 (sd8 R2 s T tm n) s a1 (min ((if gb = 0 then 0 else c + rt) - 3600) 3600) (w + kk - 1) (m + kk) (l + 1) (cq gb w p kk) (max q (w + kk - 1)) (t + lN (w + kk - 1))) 51 s (.int gb)))) := by
  have d2 : ¬ nI s < 0 := nI_pos (by omega)
  have d3 : (nI s).toNatClampNeg = s := nI_clamp (by omega)
  have ms : ∀ a c w m l p q t, md (sw8 R s a c w m l p q t) := fun a c w m l p q t => sw8_md R s a c w m l p q t m0
  have ms2 : ∀ a c w m l p q t, md (sw8 R2 s a c w m l p q t) := fun a c w m l p q t => sw8_md R2 s a c w m l p q t m2
  have oI : ∀ R b i a c w m l p q t, (b < 43 ∨ 50 < b) → gz_I (sw8 R s a c w m l p q t) b i = gz_I R b i := fun R b i a c w m l p q t hb => vI (sw8_o _ _ _ _ _ _ _ _ _ _ (Or.inr hb))
  have o18 : ∀ a c w m l p q t, gz_I (sw8 R s a c w m l p q t) 18 s = nI ho := fun a c w m l p q t => (oI R 18 s a c w m l p q t (by omega)).trans h18
  have o19 : ∀ a c w m l p q t, gz_I (sw8 R2 s a c w m l p q t) 19 s = nI rt := fun a c w m l p q t => (oI R2 19 s a c w m l p q t (by omega)).trans h19
  have o15 : ∀ a c w m l p q t, gz_I (sw8 R2 s a c w m l p q t) 15 1 = nI T := fun a c w m l p q t => (oI R2 15 1 a c w m l p q t (by omega)).trans h15
  have e1 : nI a + nI ho = nI (a + ho) := nI_add _ _
  have atg : gz_aty 101 (sw8 R s a c w m l p q t) (.int gb) = true := by rcases hg with rfl | rfl <;> rfl
  have aty : ∀ h, gz_aty 101 h (.int gb) = true := fun h => by rcases hg with rfl | rfl <;> rfl
  have kb : kk ≤ 65 := by
    by_cases z : a + ho < 3600
    · rw [if_pos z] at ekk; omega
    · rw [if_neg z] at ekk; omega
  have cw := cmp_0 (w := w + kk) (by omega)
  have e20 : nI c + nI rt = nI (c + rt) := nI_add _ _
  have a36 : ∀ n, n < 2 ^ 31 → (nI n < 3600 ↔ n < 3600) := fun n h => k36 h
  have q0 : nI 0 < (3600 : Int32) := by decide
  have mn0 := mn36 (c := 0) (by omega)
  have i1 : nI 64 = (64 : Int32) := rfl
  have o37 : ∀ a c w m l p q t, gz_I (sw8 R2 s a c w m l p q t) 37 s = gz_I R2 37 s := fun a c w m l p q t => oI R2 37 s a c w m l p q t (by omega)
  have full : ∀ a c w m l p q t, se_X8_isFull [.ref 15, .int (nI s)] (sw8 R2 s a c w m l p q t) = some (some (.int (gz_bi (gz_I R2 37 s = 1 ∧ ∀ n we e rm, gz_I R2 38 s = nI e → gz_I R2 41 s = nI n → gz_J R2 45 e = lN we → gz_I R2 40 s = nI rm → e < 64 → n ≤ 60 → we < 2 ^ 29 → rm ≤ 60 → ¬ n + we < rm))), sw8 R2 s a c w m l p q t) := by
    intro a c w m l p q t
    rcases out with ⟨h37, -⟩ | ⟨e, n, we, rm, he, hes, h37, h38, h41, h45, h40, n6, we3, rm6, -⟩
    · rw [no_X8_isFull _ (ms2 a c w m l p q t) s hs (by rw [o37]; exact h37), bi_f (fun z => by rw [h37] at z; exact absurd z.1 (by decide))]
    · rw [st_X8_isFull _ (ms2 a c w m l p q t) s e n we rm hs he (by rw [o37]; exact h37) ((oI R2 38 s a c w m l p q t (by omega)).trans h38) ((oI R2 41 s a c w m l p q t (by omega)).trans h41) ((vJ (sw8_o _ _ _ _ _ _ _ _ _ _ (Or.inl hes))).trans h45) ((oI R2 40 s a c w m l p q t (by omega)).trans h40) n6 we3 rm6]
      have : (¬ n + we < rm) ↔ (gz_I R2 37 s = 1 ∧ ∀ n we e rm, gz_I R2 38 s = nI e → gz_I R2 41 s = nI n → gz_J R2 45 e = lN we → gz_I R2 40 s = nI rm → e < 64 → n ≤ 60 → we < 2 ^ 29 → rm ≤ 60 → ¬ n + we < rm) := by
        constructor
        · intro z
          refine ⟨h37, fun n' we' e' rm' x1 x2 x3 x4 x5 x6 x7 x8 => ?_⟩
          rw [h38] at x1
          rw [h41] at x2
          rw [h40] at x4
          have y1 : e = e' := (nI_eq (by omega) (by omega)).mp x1
          have y2 : n = n' := (nI_eq (by omega) (by omega)).mp x2
          have y4 : rm = rm' := (nI_eq (by omega) (by omega)).mp x4
          rw [← y1, h45] at x3
          have y3 : we = we' := (lN_eq (by omega) (by omega)).mp x3
          rw [← y2, ← y3, ← y4]; exact z
        · intro z
          exact z.2 n we e rm h38 h41 h45 h40 he n6 we3 rm6
      rw [bi_c this]
  -- whether it is full
  have fc : (3600 ≤ (if gb = 0 then 0 else c + rt) → 0 < w + kk → (can ↔ ¬ (gz_I R2 37 s = 1 ∧ ∀ n we e rm, gz_I R2 38 s = nI e → gz_I R2 41 s = nI n → gz_J R2 45 e = lN we → gz_I R2 40 s = nI rm → e < 64 → n ≤ 60 → we < 2 ^ 29 → rm ≤ 60 → ¬ n + we < rm))) ∧ (can → 3600 ≤ (if gb = 0 then 0 else c + rt) ∧ 0 < w + kk) := by
    rcases out with ⟨h37, hc⟩ | ⟨e, n, we, rm, he, hes, h37, h38, h41, h45, h40, n6, we3, rm6, hc⟩
    · refine ⟨fun x1 x2 => ⟨fun _ z => by rw [h37] at z; exact absurd z.1 (by decide), fun _ => hc.mpr ⟨x1, x2⟩⟩, fun z => hc.mp z⟩
    · refine ⟨fun x1 x2 => ⟨fun y z => z.2 n we e rm h38 h41 h45 h40 he n6 we3 rm6 (hc.mp y).2.2, fun y => hc.mpr ⟨x1, x2, ?_⟩⟩, fun z => ⟨(hc.mp z).1, (hc.mp z).2.1⟩⟩
      refine Classical.byContradiction (fun u => y ⟨h37, fun n' we' e' rm' x1 x2 x3 x4 x5 x6 x7 x8 => ?_⟩)
      rw [h38] at x1
      rw [h41] at x2
      rw [h40] at x4
      have y1 : e = e' := (nI_eq (by omega) (by omega)).mp x1
      have y2 : n = n' := (nI_eq (by omega) (by omega)).mp x2
      have y4 : rm = rm' := (nI_eq (by omega) (by omega)).mp x4
      rw [← y1, h45] at x3
      have y3 : we = we' := (lN_eq (by omega) (by omega)).mp x3
      rw [← y2, ← y3, ← y4]; exact u
  generalize hF : (gz_I R2 37 s = 1 ∧ ∀ n we e rm, gz_I R2 38 s = nI e → gz_I R2 41 s = nI n → gz_J R2 45 e = lN we → gz_I R2 40 s = nI rm → e < 64 → n ≤ 60 → we < 2 ^ 29 → rm ≤ 60 → ¬ n + we < rm) = FU at full fc
  by_cases z : a + ho < 3600
  · have z' := (a36 (a + ho) (by omega)).mpr z
    rw [if_pos z] at ekk ea1
    rw [Nat.zero_add] at ekk
    have lp' := lp (a + ho) w m p (by omega)
    rw [← ekk] at lp'
    subst ea1
    have s44 : gz_set (sw8 R2 s (a + ho) c (w + kk) (m + kk) l (cq gb w p kk) q t) 44 s (.int 0) = sw8 R2 s (a + ho) 0 (w + kk) (m + kk) l (cq gb w p kk) q t := sw8_44 _ _ _ _ _ _ _ _ _ _ 0
    have max_l1 := fun h => max_l q (w + kk) (by omega) (by omega) h
    constructor
    · intro nc
      by_cases g0 : gb = 0
      · subst g0
        rw [if_pos rfl]
        simp only [se_X8_runStream, sm_X8_runStream, gz_sem, gz_ae, Value.category, gz_i, gz_l, gz_nu, gz_li, gz_ll, gz_la, gz_ib, gz_iz, gz_lb, gz_lz, gz_ls, gz_lc, gz_i2l, gz_l2i, gz_get, gz_ald, gz_len, gz_dup, gz_d2, gz_nar, gz_a0, gz_a1, gz_cs, gz_cv, gz_mk, gz_te, gz_j1, gz_j2, gz_jn, gz_jk, gz_jo, gz_ja, gz_sat, gz_seti, gz_seta, gz_set2, gz_inc, gz_put, gz_ast, gz_pop, gz_vs, gz_vv, gz_sup, gz_rv, gz_ri, gz_rl, gz_ra, gz_if, gz_seq, gz_sw, gz_st, gz_st2, rok_I, rok_J, rok_V, rok_Z0, rok_Z1, rok_Zi, rok_R, rok_N, bi_rok, bi_0, bi_1, fit_I, fit_J, fit_Z0, fit_Z1, fit_Zi, fit_R, fit_N, fit_aR, aty_I, aty_Z0, aty_Z1, aty_Zi, aty_J, gz_ix, List.getElem?_cons_zero, List.getElem?_cons_succ, List.getElem?_nil, List.reverse_cons, List.reverse_nil, List.nil_append, List.cons_append, List.take_succ_cons, List.take_zero, List.take_nil, List.length_cons, List.length_nil, decide_true, decide_false, decide_not, Bool.not_true, Bool.not_false, gz_nle, if_true, if_false, and_true, true_and, and_self, and_false, false_and, or_true, true_or, or_false, false_or, Bool.false_eq_true, not_true, not_false_iff, Decidable.not_not, Nat.reduceLeDiff, Nat.reduceAdd, Nat.reduceEqDiff, Nat.reduceSub, Nat.reduceLT, Nat.zero_add, reduceCtorEq, reduceIte, eq_self, i32_10, i32_01, Nat.zero_le, Nat.one_ne_zero, ms, ms2, md_k, d2, d3, hs, sw8_x, sw8_43, sw8_44, sw8_45, sw8_47, sw8_48, sw8_50, o18, o19, o15, e1, aty, i1, e20, st_min, max_l1, z', lp', s44, q0, mn0]
      · rw [if_neg g0] at fc ⊢
        have mn1 := mn36 (c := c + rt) (by omega)
        by_cases q1 : c + rt < 3600
        · have q1' := (a36 (c + rt) (by omega)).mpr q1
          simp only [se_X8_runStream, sm_X8_runStream, gz_sem, gz_ae, Value.category, gz_i, gz_l, gz_nu, gz_li, gz_ll, gz_la, gz_ib, gz_iz, gz_lb, gz_lz, gz_ls, gz_lc, gz_i2l, gz_l2i, gz_get, gz_ald, gz_len, gz_dup, gz_d2, gz_nar, gz_a0, gz_a1, gz_cs, gz_cv, gz_mk, gz_te, gz_j1, gz_j2, gz_jn, gz_jk, gz_jo, gz_ja, gz_sat, gz_seti, gz_seta, gz_set2, gz_inc, gz_put, gz_ast, gz_pop, gz_vs, gz_vv, gz_sup, gz_rv, gz_ri, gz_rl, gz_ra, gz_if, gz_seq, gz_sw, gz_st, gz_st2, rok_I, rok_J, rok_V, rok_Z0, rok_Z1, rok_Zi, rok_R, rok_N, bi_rok, bi_0, bi_1, fit_I, fit_J, fit_Z0, fit_Z1, fit_Zi, fit_R, fit_N, fit_aR, aty_I, aty_Z0, aty_Z1, aty_Zi, aty_J, gz_ix, List.getElem?_cons_zero, List.getElem?_cons_succ, List.getElem?_nil, List.reverse_cons, List.reverse_nil, List.nil_append, List.cons_append, List.take_succ_cons, List.take_zero, List.take_nil, List.length_cons, List.length_nil, decide_true, decide_false, decide_not, Bool.not_true, Bool.not_false, gz_nle, if_true, if_false, and_true, true_and, and_self, and_false, false_and, or_true, true_or, or_false, false_or, Bool.false_eq_true, not_true, not_false_iff, Decidable.not_not, Nat.reduceLeDiff, Nat.reduceAdd, Nat.reduceEqDiff, Nat.reduceSub, Nat.reduceLT, Nat.zero_add, reduceCtorEq, reduceIte, eq_self, i32_10, i32_01, Nat.zero_le, Nat.one_ne_zero, ms, ms2, md_k, d2, d3, hs, sw8_x, sw8_43, sw8_44, sw8_45, sw8_47, sw8_48, sw8_50, o18, o19, o15, e1, aty, i1, e20, st_min, max_l1, z', lp', g0, q1', mn1]
        · have q1' : ¬ nI (c + rt) < 3600 := fun u => q1 ((a36 _ (by omega)).mp u)
          by_cases q3 : 0 < w + kk
          · have q3' := cw.mpr q3
            have q4 : FU := Classical.byContradiction (fun u => nc ((fc.1 (by omega) q3).mpr u))
            simp only [se_X8_runStream, sm_X8_runStream, gz_sem, gz_ae, Value.category, gz_i, gz_l, gz_nu, gz_li, gz_ll, gz_la, gz_ib, gz_iz, gz_lb, gz_lz, gz_ls, gz_lc, gz_i2l, gz_l2i, gz_get, gz_ald, gz_len, gz_dup, gz_d2, gz_nar, gz_a0, gz_a1, gz_cs, gz_cv, gz_mk, gz_te, gz_j1, gz_j2, gz_jn, gz_jk, gz_jo, gz_ja, gz_sat, gz_seti, gz_seta, gz_set2, gz_inc, gz_put, gz_ast, gz_pop, gz_vs, gz_vv, gz_sup, gz_rv, gz_ri, gz_rl, gz_ra, gz_if, gz_seq, gz_sw, gz_st, gz_st2, rok_I, rok_J, rok_V, rok_Z0, rok_Z1, rok_Zi, rok_R, rok_N, bi_rok, bi_0, bi_1, fit_I, fit_J, fit_Z0, fit_Z1, fit_Zi, fit_R, fit_N, fit_aR, aty_I, aty_Z0, aty_Z1, aty_Zi, aty_J, gz_ix, List.getElem?_cons_zero, List.getElem?_cons_succ, List.getElem?_nil, List.reverse_cons, List.reverse_nil, List.nil_append, List.cons_append, List.take_succ_cons, List.take_zero, List.take_nil, List.length_cons, List.length_nil, decide_true, decide_false, decide_not, Bool.not_true, Bool.not_false, gz_nle, if_true, if_false, and_true, true_and, and_self, and_false, false_and, or_true, true_or, or_false, false_or, Bool.false_eq_true, not_true, not_false_iff, Decidable.not_not, Nat.reduceLeDiff, Nat.reduceAdd, Nat.reduceEqDiff, Nat.reduceSub, Nat.reduceLT, Nat.zero_add, reduceCtorEq, reduceIte, eq_self, i32_10, i32_01, Nat.zero_le, Nat.one_ne_zero, ms, ms2, md_k, d2, d3, hs, sw8_x, sw8_43, sw8_44, sw8_45, sw8_47, sw8_48, sw8_50, o18, o19, o15, e1, aty, i1, e20, st_min, max_l1, z', lp', g0, q1', q3', full, q4, bi_t, mn1]
          · have q3' : ¬ 0 < lg_cmp (lN (w + kk)) 0 := fun u => q3 (cw.mp u)
            simp only [se_X8_runStream, sm_X8_runStream, gz_sem, gz_ae, Value.category, gz_i, gz_l, gz_nu, gz_li, gz_ll, gz_la, gz_ib, gz_iz, gz_lb, gz_lz, gz_ls, gz_lc, gz_i2l, gz_l2i, gz_get, gz_ald, gz_len, gz_dup, gz_d2, gz_nar, gz_a0, gz_a1, gz_cs, gz_cv, gz_mk, gz_te, gz_j1, gz_j2, gz_jn, gz_jk, gz_jo, gz_ja, gz_sat, gz_seti, gz_seta, gz_set2, gz_inc, gz_put, gz_ast, gz_pop, gz_vs, gz_vv, gz_sup, gz_rv, gz_ri, gz_rl, gz_ra, gz_if, gz_seq, gz_sw, gz_st, gz_st2, rok_I, rok_J, rok_V, rok_Z0, rok_Z1, rok_Zi, rok_R, rok_N, bi_rok, bi_0, bi_1, fit_I, fit_J, fit_Z0, fit_Z1, fit_Zi, fit_R, fit_N, fit_aR, aty_I, aty_Z0, aty_Z1, aty_Zi, aty_J, gz_ix, List.getElem?_cons_zero, List.getElem?_cons_succ, List.getElem?_nil, List.reverse_cons, List.reverse_nil, List.nil_append, List.cons_append, List.take_succ_cons, List.take_zero, List.take_nil, List.length_cons, List.length_nil, decide_true, decide_false, decide_not, Bool.not_true, Bool.not_false, gz_nle, if_true, if_false, and_true, true_and, and_self, and_false, false_and, or_true, true_or, or_false, false_or, Bool.false_eq_true, not_true, not_false_iff, Decidable.not_not, Nat.reduceLeDiff, Nat.reduceAdd, Nat.reduceEqDiff, Nat.reduceSub, Nat.reduceLT, Nat.zero_add, reduceCtorEq, reduceIte, eq_self, i32_10, i32_01, Nat.zero_le, Nat.one_ne_zero, ms, ms2, md_k, d2, d3, hs, sw8_x, sw8_43, sw8_44, sw8_45, sw8_47, sw8_48, sw8_50, o18, o19, o15, e1, aty, i1, e20, st_min, max_l1, z', lp', g0, q1', q3', mn1]
    · intro yc
      obtain ⟨q1, q3⟩ := fc.2 yc
      have q4 := (fc.1 q1 q3).mp yc
      have g0 : ¬ gb = 0 := fun u => by rw [if_pos u] at q1; omega
      rw [if_neg g0] at q1 ⊢
      have q1' : ¬ nI (c + rt) < 3600 := fun u => by have := (a36 _ (by omega)).mp u; omega
      have q3' := cw.mpr q3
      have e3 : nI (c + rt) - 3600 = nI (c + rt - 3600) := pk_sub (b := 3600) (by omega)
      have e4 : lN (w + kk) - 1 = lN (w + kk - 1) := lN_sub (a := w + kk) (b := 1) (by omega)
      have mn1 := mn36 (c := c + rt - 3600) (by omega)
      have max_l1 := fun h => max_l q (w + kk - 1) (by omega) (by omega) h
      constructor
      · intro h37
        simp only [se_X8_runStream, sm_X8_runStream, gz_sem, gz_ae, Value.category, gz_i, gz_l, gz_nu, gz_li, gz_ll, gz_la, gz_ib, gz_iz, gz_lb, gz_lz, gz_ls, gz_lc, gz_i2l, gz_l2i, gz_get, gz_ald, gz_len, gz_dup, gz_d2, gz_nar, gz_a0, gz_a1, gz_cs, gz_cv, gz_mk, gz_te, gz_j1, gz_j2, gz_jn, gz_jk, gz_jo, gz_ja, gz_sat, gz_seti, gz_seta, gz_set2, gz_inc, gz_put, gz_ast, gz_pop, gz_vs, gz_vv, gz_sup, gz_rv, gz_ri, gz_rl, gz_ra, gz_if, gz_seq, gz_sw, gz_st, gz_st2, rok_I, rok_J, rok_V, rok_Z0, rok_Z1, rok_Zi, rok_R, rok_N, bi_rok, bi_0, bi_1, fit_I, fit_J, fit_Z0, fit_Z1, fit_Zi, fit_R, fit_N, fit_aR, aty_I, aty_Z0, aty_Z1, aty_Zi, aty_J, gz_ix, List.getElem?_cons_zero, List.getElem?_cons_succ, List.getElem?_nil, List.reverse_cons, List.reverse_nil, List.nil_append, List.cons_append, List.take_succ_cons, List.take_zero, List.take_nil, List.length_cons, List.length_nil, decide_true, decide_false, decide_not, Bool.not_true, Bool.not_false, gz_nle, if_true, if_false, and_true, true_and, and_self, and_false, false_and, or_true, true_or, or_false, false_or, Bool.false_eq_true, not_true, not_false_iff, Decidable.not_not, Nat.reduceLeDiff, Nat.reduceAdd, Nat.reduceEqDiff, Nat.reduceSub, Nat.reduceLT, Nat.zero_add, reduceCtorEq, reduceIte, eq_self, i32_10, i32_01, Nat.zero_le, Nat.one_ne_zero, ms, ms2, md_k, d2, d3, hs, sw8_x, sw8_43, sw8_44, sw8_45, sw8_47, sw8_48, sw8_50, o18, o19, o15, e1, aty, i1, e20, st_min, max_l1, z', lp', g0, q1', q3', full, q4, bi_f, e3, e4, o37, h37, mn1, lN_1]
      · intro n tm h37 h41 h39 n6 tm6
        have w1 : 60 * nI s + nI n = nI (60 * s + n) := by
          rw [show (60 : Int32) = nI 60 from rfl, pk_mul, nI_add]
        have w2 : ¬ nI (60 * s + n) < 0 := nI_pos (by omega)
        have w3 : (nI (60 * s + n)).toNatClampNeg = 60 * s + n := nI_clamp (by omega)
        have w4 : 60 * s + n < 3840 := by omega
        have w5 : nI T + nI tm = nI (T + tm) := nI_add _ _
        have o41 : ∀ a c w m l p q t, gz_I (sw8 R2 s a c w m l p q t) 41 s = nI n := fun a c w m l p q t => (oI R2 41 s a c w m l p q t (by omega)).trans h41
        have o39 : ∀ a c w m l p q t, gz_I (sw8 R2 s a c w m l p q t) 39 s = nI tm := fun a c w m l p q t => (oI R2 39 s a c w m l p q t (by omega)).trans h39
        have s42 : ∀ a c w m l p q t, gz_set (sw8 R2 s a c w m l p q t) 42 (60 * s + n) (.int (nI (T + tm))) = sw8 (gz_set R2 42 (60 * s + n) (.int (nI (T + tm)))) s a c w m l p q t := fun a c w m l p q t => sw8_set _ _ _ _ _ _ _ _ _ _ _ _ _ (by omega)
        have m3 := md_setI m2 42 (60 * s + n) (nI (T + tm)) (by omega)
        have ms3 : ∀ a c w m l p q t, md (sw8 (gz_set R2 42 (60 * s + n) (.int (nI (T + tm)))) s a c w m l p q t) := fun a c w m l p q t => sw8_md _ s a c w m l p q t m3
        have p41 : ∀ a c w m l p q t, gz_I (sw8 (gz_set R2 42 (60 * s + n) (.int (nI (T + tm)))) s a c w m l p q t) 41 s = nI n := fun a c w m l p q t => (oI _ 41 s a c w m l p q t (by omega)).trans (by rw [I_seto _ _ _ _ _ _ (by omega)]; exact h41)
        have s41 : ∀ a c w m l p q t, gz_set (sw8 (gz_set R2 42 (60 * s + n) (.int (nI (T + tm)))) s a c w m l p q t) 41 s (.int (nI (n + 1))) = sw8 (sd8 R2 s T tm n) s a c w m l p q t := fun a c w m l p q t => sw8_set _ _ _ _ _ _ _ _ _ _ _ _ _ (by omega)
        have m4 : md (sd8 R2 s T tm n) := md_setI m3 41 s (nI (n + 1)) (by omega)
        have ms4 : ∀ a c w m l p q t, md (sw8 (sd8 R2 s T tm n) s a c w m l p q t) := fun a c w m l p q t => sw8_md _ s a c w m l p q t m4
        simp only [se_X8_runStream, sm_X8_runStream, gz_sem, gz_ae, Value.category, gz_i, gz_l, gz_nu, gz_li, gz_ll, gz_la, gz_ib, gz_iz, gz_lb, gz_lz, gz_ls, gz_lc, gz_i2l, gz_l2i, gz_get, gz_ald, gz_len, gz_dup, gz_d2, gz_nar, gz_a0, gz_a1, gz_cs, gz_cv, gz_mk, gz_te, gz_j1, gz_j2, gz_jn, gz_jk, gz_jo, gz_ja, gz_sat, gz_seti, gz_seta, gz_set2, gz_inc, gz_put, gz_ast, gz_pop, gz_vs, gz_vv, gz_sup, gz_rv, gz_ri, gz_rl, gz_ra, gz_if, gz_seq, gz_sw, gz_st, gz_st2, rok_I, rok_J, rok_V, rok_Z0, rok_Z1, rok_Zi, rok_R, rok_N, bi_rok, bi_0, bi_1, fit_I, fit_J, fit_Z0, fit_Z1, fit_Zi, fit_R, fit_N, fit_aR, aty_I, aty_Z0, aty_Z1, aty_Zi, aty_J, gz_ix, List.getElem?_cons_zero, List.getElem?_cons_succ, List.getElem?_nil, List.reverse_cons, List.reverse_nil, List.nil_append, List.cons_append, List.take_succ_cons, List.take_zero, List.take_nil, List.length_cons, List.length_nil, decide_true, decide_false, decide_not, Bool.not_true, Bool.not_false, gz_nle, if_true, if_false, and_true, true_and, and_self, and_false, false_and, or_true, true_or, or_false, false_or, Bool.false_eq_true, not_true, not_false_iff, Decidable.not_not, Nat.reduceLeDiff, Nat.reduceAdd, Nat.reduceEqDiff, Nat.reduceSub, Nat.reduceLT, Nat.zero_add, reduceCtorEq, reduceIte, eq_self, i32_10, i32_01, Nat.zero_le, Nat.one_ne_zero, ms, ms2, md_k, d2, d3, hs, sw8_x, sw8_43, sw8_44, sw8_45, sw8_47, sw8_48, sw8_50, o18, o19, o15, e1, aty, i1, e20, st_min, max_l1, z', lp', g0, q1', q3', full, q4, bi_f, e3, e4, o37, h37, mn1, lN_1, w1, w2, w3, w4, w5, o41, o39, s42, ms3, p41, nI_1, s41, ms4]
  · have z' : ¬ nI (a + ho) < 3600 := fun u => z ((a36 _ (by omega)).mp u)
    rw [if_neg z] at ekk ea1
    have e2 : nI (a + ho) - 3600 = nI a1 := by rw [ea1]; exact pk_sub (b := 3600) (by omega)
    have co := co8 R s a1 c w m l p q t m0 hs (by omega) gb
    have lp' := lp a1 (w + 1) (m + 1) (cq gb w p 1) (by omega)
    rw [cq_add, show w + 1 + k2 = w + (1 + k2) by omega, show m + 1 + k2 = m + (1 + k2) by omega, ← ekk] at lp'
    have s44 : gz_set (sw8 R2 s a1 c (w + kk) (m + kk) l (cq gb w p kk) q t) 44 s (.int 0) = sw8 R2 s a1 0 (w + kk) (m + kk) l (cq gb w p kk) q t := sw8_44 _ _ _ _ _ _ _ _ _ _ 0
    have max_l1 := fun h => max_l q (w + kk) (by omega) (by omega) h
    constructor
    · intro nc
      by_cases g0 : gb = 0
      · subst g0
        rw [if_pos rfl]
        simp only [se_X8_runStream, sm_X8_runStream, gz_sem, gz_ae, Value.category, gz_i, gz_l, gz_nu, gz_li, gz_ll, gz_la, gz_ib, gz_iz, gz_lb, gz_lz, gz_ls, gz_lc, gz_i2l, gz_l2i, gz_get, gz_ald, gz_len, gz_dup, gz_d2, gz_nar, gz_a0, gz_a1, gz_cs, gz_cv, gz_mk, gz_te, gz_j1, gz_j2, gz_jn, gz_jk, gz_jo, gz_ja, gz_sat, gz_seti, gz_seta, gz_set2, gz_inc, gz_put, gz_ast, gz_pop, gz_vs, gz_vv, gz_sup, gz_rv, gz_ri, gz_rl, gz_ra, gz_if, gz_seq, gz_sw, gz_st, gz_st2, rok_I, rok_J, rok_V, rok_Z0, rok_Z1, rok_Zi, rok_R, rok_N, bi_rok, bi_0, bi_1, fit_I, fit_J, fit_Z0, fit_Z1, fit_Zi, fit_R, fit_N, fit_aR, aty_I, aty_Z0, aty_Z1, aty_Zi, aty_J, gz_ix, List.getElem?_cons_zero, List.getElem?_cons_succ, List.getElem?_nil, List.reverse_cons, List.reverse_nil, List.nil_append, List.cons_append, List.take_succ_cons, List.take_zero, List.take_nil, List.length_cons, List.length_nil, decide_true, decide_false, decide_not, Bool.not_true, Bool.not_false, gz_nle, if_true, if_false, and_true, true_and, and_self, and_false, false_and, or_true, true_or, or_false, false_or, Bool.false_eq_true, not_true, not_false_iff, Decidable.not_not, Nat.reduceLeDiff, Nat.reduceAdd, Nat.reduceEqDiff, Nat.reduceSub, Nat.reduceLT, Nat.zero_add, reduceCtorEq, reduceIte, eq_self, i32_10, i32_01, Nat.zero_le, Nat.one_ne_zero, ms, ms2, md_k, d2, d3, hs, sw8_x, sw8_43, sw8_44, sw8_45, sw8_47, sw8_48, sw8_50, o18, o19, o15, e1, aty, i1, e20, st_min, max_l1, z', e2, co, lp', s44, q0, mn0]
      · rw [if_neg g0] at fc ⊢
        have mn1 := mn36 (c := c + rt) (by omega)
        by_cases q1 : c + rt < 3600
        · have q1' := (a36 (c + rt) (by omega)).mpr q1
          simp only [se_X8_runStream, sm_X8_runStream, gz_sem, gz_ae, Value.category, gz_i, gz_l, gz_nu, gz_li, gz_ll, gz_la, gz_ib, gz_iz, gz_lb, gz_lz, gz_ls, gz_lc, gz_i2l, gz_l2i, gz_get, gz_ald, gz_len, gz_dup, gz_d2, gz_nar, gz_a0, gz_a1, gz_cs, gz_cv, gz_mk, gz_te, gz_j1, gz_j2, gz_jn, gz_jk, gz_jo, gz_ja, gz_sat, gz_seti, gz_seta, gz_set2, gz_inc, gz_put, gz_ast, gz_pop, gz_vs, gz_vv, gz_sup, gz_rv, gz_ri, gz_rl, gz_ra, gz_if, gz_seq, gz_sw, gz_st, gz_st2, rok_I, rok_J, rok_V, rok_Z0, rok_Z1, rok_Zi, rok_R, rok_N, bi_rok, bi_0, bi_1, fit_I, fit_J, fit_Z0, fit_Z1, fit_Zi, fit_R, fit_N, fit_aR, aty_I, aty_Z0, aty_Z1, aty_Zi, aty_J, gz_ix, List.getElem?_cons_zero, List.getElem?_cons_succ, List.getElem?_nil, List.reverse_cons, List.reverse_nil, List.nil_append, List.cons_append, List.take_succ_cons, List.take_zero, List.take_nil, List.length_cons, List.length_nil, decide_true, decide_false, decide_not, Bool.not_true, Bool.not_false, gz_nle, if_true, if_false, and_true, true_and, and_self, and_false, false_and, or_true, true_or, or_false, false_or, Bool.false_eq_true, not_true, not_false_iff, Decidable.not_not, Nat.reduceLeDiff, Nat.reduceAdd, Nat.reduceEqDiff, Nat.reduceSub, Nat.reduceLT, Nat.zero_add, reduceCtorEq, reduceIte, eq_self, i32_10, i32_01, Nat.zero_le, Nat.one_ne_zero, ms, ms2, md_k, d2, d3, hs, sw8_x, sw8_43, sw8_44, sw8_45, sw8_47, sw8_48, sw8_50, o18, o19, o15, e1, aty, i1, e20, st_min, max_l1, z', e2, co, lp', g0, q1', mn1]
        · have q1' : ¬ nI (c + rt) < 3600 := fun u => q1 ((a36 _ (by omega)).mp u)
          by_cases q3 : 0 < w + kk
          · have q3' := cw.mpr q3
            have q4 : FU := Classical.byContradiction (fun u => nc ((fc.1 (by omega) q3).mpr u))
            simp only [se_X8_runStream, sm_X8_runStream, gz_sem, gz_ae, Value.category, gz_i, gz_l, gz_nu, gz_li, gz_ll, gz_la, gz_ib, gz_iz, gz_lb, gz_lz, gz_ls, gz_lc, gz_i2l, gz_l2i, gz_get, gz_ald, gz_len, gz_dup, gz_d2, gz_nar, gz_a0, gz_a1, gz_cs, gz_cv, gz_mk, gz_te, gz_j1, gz_j2, gz_jn, gz_jk, gz_jo, gz_ja, gz_sat, gz_seti, gz_seta, gz_set2, gz_inc, gz_put, gz_ast, gz_pop, gz_vs, gz_vv, gz_sup, gz_rv, gz_ri, gz_rl, gz_ra, gz_if, gz_seq, gz_sw, gz_st, gz_st2, rok_I, rok_J, rok_V, rok_Z0, rok_Z1, rok_Zi, rok_R, rok_N, bi_rok, bi_0, bi_1, fit_I, fit_J, fit_Z0, fit_Z1, fit_Zi, fit_R, fit_N, fit_aR, aty_I, aty_Z0, aty_Z1, aty_Zi, aty_J, gz_ix, List.getElem?_cons_zero, List.getElem?_cons_succ, List.getElem?_nil, List.reverse_cons, List.reverse_nil, List.nil_append, List.cons_append, List.take_succ_cons, List.take_zero, List.take_nil, List.length_cons, List.length_nil, decide_true, decide_false, decide_not, Bool.not_true, Bool.not_false, gz_nle, if_true, if_false, and_true, true_and, and_self, and_false, false_and, or_true, true_or, or_false, false_or, Bool.false_eq_true, not_true, not_false_iff, Decidable.not_not, Nat.reduceLeDiff, Nat.reduceAdd, Nat.reduceEqDiff, Nat.reduceSub, Nat.reduceLT, Nat.zero_add, reduceCtorEq, reduceIte, eq_self, i32_10, i32_01, Nat.zero_le, Nat.one_ne_zero, ms, ms2, md_k, d2, d3, hs, sw8_x, sw8_43, sw8_44, sw8_45, sw8_47, sw8_48, sw8_50, o18, o19, o15, e1, aty, i1, e20, st_min, max_l1, z', e2, co, lp', g0, q1', q3', full, q4, bi_t, mn1]
          · have q3' : ¬ 0 < lg_cmp (lN (w + kk)) 0 := fun u => q3 (cw.mp u)
            simp only [se_X8_runStream, sm_X8_runStream, gz_sem, gz_ae, Value.category, gz_i, gz_l, gz_nu, gz_li, gz_ll, gz_la, gz_ib, gz_iz, gz_lb, gz_lz, gz_ls, gz_lc, gz_i2l, gz_l2i, gz_get, gz_ald, gz_len, gz_dup, gz_d2, gz_nar, gz_a0, gz_a1, gz_cs, gz_cv, gz_mk, gz_te, gz_j1, gz_j2, gz_jn, gz_jk, gz_jo, gz_ja, gz_sat, gz_seti, gz_seta, gz_set2, gz_inc, gz_put, gz_ast, gz_pop, gz_vs, gz_vv, gz_sup, gz_rv, gz_ri, gz_rl, gz_ra, gz_if, gz_seq, gz_sw, gz_st, gz_st2, rok_I, rok_J, rok_V, rok_Z0, rok_Z1, rok_Zi, rok_R, rok_N, bi_rok, bi_0, bi_1, fit_I, fit_J, fit_Z0, fit_Z1, fit_Zi, fit_R, fit_N, fit_aR, aty_I, aty_Z0, aty_Z1, aty_Zi, aty_J, gz_ix, List.getElem?_cons_zero, List.getElem?_cons_succ, List.getElem?_nil, List.reverse_cons, List.reverse_nil, List.nil_append, List.cons_append, List.take_succ_cons, List.take_zero, List.take_nil, List.length_cons, List.length_nil, decide_true, decide_false, decide_not, Bool.not_true, Bool.not_false, gz_nle, if_true, if_false, and_true, true_and, and_self, and_false, false_and, or_true, true_or, or_false, false_or, Bool.false_eq_true, not_true, not_false_iff, Decidable.not_not, Nat.reduceLeDiff, Nat.reduceAdd, Nat.reduceEqDiff, Nat.reduceSub, Nat.reduceLT, Nat.zero_add, reduceCtorEq, reduceIte, eq_self, i32_10, i32_01, Nat.zero_le, Nat.one_ne_zero, ms, ms2, md_k, d2, d3, hs, sw8_x, sw8_43, sw8_44, sw8_45, sw8_47, sw8_48, sw8_50, o18, o19, o15, e1, aty, i1, e20, st_min, max_l1, z', e2, co, lp', g0, q1', q3', mn1]
    · intro yc
      obtain ⟨q1, q3⟩ := fc.2 yc
      have q4 := (fc.1 q1 q3).mp yc
      have g0 : ¬ gb = 0 := fun u => by rw [if_pos u] at q1; omega
      rw [if_neg g0] at q1 ⊢
      have q1' : ¬ nI (c + rt) < 3600 := fun u => by have := (a36 _ (by omega)).mp u; omega
      have q3' := cw.mpr q3
      have e3 : nI (c + rt) - 3600 = nI (c + rt - 3600) := pk_sub (b := 3600) (by omega)
      have e4 : lN (w + kk) - 1 = lN (w + kk - 1) := lN_sub (a := w + kk) (b := 1) (by omega)
      have mn1 := mn36 (c := c + rt - 3600) (by omega)
      have max_l1 := fun h => max_l q (w + kk - 1) (by omega) (by omega) h
      constructor
      · intro h37
        simp only [se_X8_runStream, sm_X8_runStream, gz_sem, gz_ae, Value.category, gz_i, gz_l, gz_nu, gz_li, gz_ll, gz_la, gz_ib, gz_iz, gz_lb, gz_lz, gz_ls, gz_lc, gz_i2l, gz_l2i, gz_get, gz_ald, gz_len, gz_dup, gz_d2, gz_nar, gz_a0, gz_a1, gz_cs, gz_cv, gz_mk, gz_te, gz_j1, gz_j2, gz_jn, gz_jk, gz_jo, gz_ja, gz_sat, gz_seti, gz_seta, gz_set2, gz_inc, gz_put, gz_ast, gz_pop, gz_vs, gz_vv, gz_sup, gz_rv, gz_ri, gz_rl, gz_ra, gz_if, gz_seq, gz_sw, gz_st, gz_st2, rok_I, rok_J, rok_V, rok_Z0, rok_Z1, rok_Zi, rok_R, rok_N, bi_rok, bi_0, bi_1, fit_I, fit_J, fit_Z0, fit_Z1, fit_Zi, fit_R, fit_N, fit_aR, aty_I, aty_Z0, aty_Z1, aty_Zi, aty_J, gz_ix, List.getElem?_cons_zero, List.getElem?_cons_succ, List.getElem?_nil, List.reverse_cons, List.reverse_nil, List.nil_append, List.cons_append, List.take_succ_cons, List.take_zero, List.take_nil, List.length_cons, List.length_nil, decide_true, decide_false, decide_not, Bool.not_true, Bool.not_false, gz_nle, if_true, if_false, and_true, true_and, and_self, and_false, false_and, or_true, true_or, or_false, false_or, Bool.false_eq_true, not_true, not_false_iff, Decidable.not_not, Nat.reduceLeDiff, Nat.reduceAdd, Nat.reduceEqDiff, Nat.reduceSub, Nat.reduceLT, Nat.zero_add, reduceCtorEq, reduceIte, eq_self, i32_10, i32_01, Nat.zero_le, Nat.one_ne_zero, ms, ms2, md_k, d2, d3, hs, sw8_x, sw8_43, sw8_44, sw8_45, sw8_47, sw8_48, sw8_50, o18, o19, o15, e1, aty, i1, e20, st_min, max_l1, z', e2, co, lp', g0, q1', q3', full, q4, bi_f, e3, e4, o37, h37, mn1, lN_1]
      · intro n tm h37 h41 h39 n6 tm6
        have w1 : 60 * nI s + nI n = nI (60 * s + n) := by
          rw [show (60 : Int32) = nI 60 from rfl, pk_mul, nI_add]
        have w2 : ¬ nI (60 * s + n) < 0 := nI_pos (by omega)
        have w3 : (nI (60 * s + n)).toNatClampNeg = 60 * s + n := nI_clamp (by omega)
        have w4 : 60 * s + n < 3840 := by omega
        have w5 : nI T + nI tm = nI (T + tm) := nI_add _ _
        have o41 : ∀ a c w m l p q t, gz_I (sw8 R2 s a c w m l p q t) 41 s = nI n := fun a c w m l p q t => (oI R2 41 s a c w m l p q t (by omega)).trans h41
        have o39 : ∀ a c w m l p q t, gz_I (sw8 R2 s a c w m l p q t) 39 s = nI tm := fun a c w m l p q t => (oI R2 39 s a c w m l p q t (by omega)).trans h39
        have s42 : ∀ a c w m l p q t, gz_set (sw8 R2 s a c w m l p q t) 42 (60 * s + n) (.int (nI (T + tm))) = sw8 (gz_set R2 42 (60 * s + n) (.int (nI (T + tm)))) s a c w m l p q t := fun a c w m l p q t => sw8_set _ _ _ _ _ _ _ _ _ _ _ _ _ (by omega)
        have m3 := md_setI m2 42 (60 * s + n) (nI (T + tm)) (by omega)
        have ms3 : ∀ a c w m l p q t, md (sw8 (gz_set R2 42 (60 * s + n) (.int (nI (T + tm)))) s a c w m l p q t) := fun a c w m l p q t => sw8_md _ s a c w m l p q t m3
        have p41 : ∀ a c w m l p q t, gz_I (sw8 (gz_set R2 42 (60 * s + n) (.int (nI (T + tm)))) s a c w m l p q t) 41 s = nI n := fun a c w m l p q t => (oI _ 41 s a c w m l p q t (by omega)).trans (by rw [I_seto _ _ _ _ _ _ (by omega)]; exact h41)
        have s41 : ∀ a c w m l p q t, gz_set (sw8 (gz_set R2 42 (60 * s + n) (.int (nI (T + tm)))) s a c w m l p q t) 41 s (.int (nI (n + 1))) = sw8 (sd8 R2 s T tm n) s a c w m l p q t := fun a c w m l p q t => sw8_set _ _ _ _ _ _ _ _ _ _ _ _ _ (by omega)
        have m4 : md (sd8 R2 s T tm n) := md_setI m3 41 s (nI (n + 1)) (by omega)
        have ms4 : ∀ a c w m l p q t, md (sw8 (sd8 R2 s T tm n) s a c w m l p q t) := fun a c w m l p q t => sw8_md _ s a c w m l p q t m4
        simp only [se_X8_runStream, sm_X8_runStream, gz_sem, gz_ae, Value.category, gz_i, gz_l, gz_nu, gz_li, gz_ll, gz_la, gz_ib, gz_iz, gz_lb, gz_lz, gz_ls, gz_lc, gz_i2l, gz_l2i, gz_get, gz_ald, gz_len, gz_dup, gz_d2, gz_nar, gz_a0, gz_a1, gz_cs, gz_cv, gz_mk, gz_te, gz_j1, gz_j2, gz_jn, gz_jk, gz_jo, gz_ja, gz_sat, gz_seti, gz_seta, gz_set2, gz_inc, gz_put, gz_ast, gz_pop, gz_vs, gz_vv, gz_sup, gz_rv, gz_ri, gz_rl, gz_ra, gz_if, gz_seq, gz_sw, gz_st, gz_st2, rok_I, rok_J, rok_V, rok_Z0, rok_Z1, rok_Zi, rok_R, rok_N, bi_rok, bi_0, bi_1, fit_I, fit_J, fit_Z0, fit_Z1, fit_Zi, fit_R, fit_N, fit_aR, aty_I, aty_Z0, aty_Z1, aty_Zi, aty_J, gz_ix, List.getElem?_cons_zero, List.getElem?_cons_succ, List.getElem?_nil, List.reverse_cons, List.reverse_nil, List.nil_append, List.cons_append, List.take_succ_cons, List.take_zero, List.take_nil, List.length_cons, List.length_nil, decide_true, decide_false, decide_not, Bool.not_true, Bool.not_false, gz_nle, if_true, if_false, and_true, true_and, and_self, and_false, false_and, or_true, true_or, or_false, false_or, Bool.false_eq_true, not_true, not_false_iff, Decidable.not_not, Nat.reduceLeDiff, Nat.reduceAdd, Nat.reduceEqDiff, Nat.reduceSub, Nat.reduceLT, Nat.zero_add, reduceCtorEq, reduceIte, eq_self, i32_10, i32_01, Nat.zero_le, Nat.one_ne_zero, ms, ms2, md_k, d2, d3, hs, sw8_x, sw8_43, sw8_44, sw8_45, sw8_47, sw8_48, sw8_50, o18, o19, o15, e1, aty, i1, e20, st_min, max_l1, z', e2, co, lp', g0, q1', q3', full, q4, bi_f, e3, e4, o37, h37, mn1, lN_1, w1, w2, w3, w4, w5, o41, o39, s42, ms3, p41, nI_1, s41, ms4]
