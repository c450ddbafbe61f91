theorem J1_row {g : gz_G} {hc : gz_H} {j b i : Nat} {x : Int32} (H : J1 g hc j) (hb : g 0 j + 2 ≤ b) (hb2 : b ≤ g 0 j + 5) : J1 g (gz_set hc b i (.int x)) j := by
  obtain ⟨h1, h2, h3, h4, h5⟩ := H
  refine ⟨h1, jc_setI h2 _ _ _ (by omega), ?_, h4, fun k hk => ?_⟩
  · rw [gz_v_set, if_neg (by omega)]; exact h3
  · rw [gz_v_set, if_neg (by omega)]; exact h5 k hk
theorem J1_fld {g : gz_G} {hc : gz_H} {j f : Nat} {v : Value} (H : J1 g hc j) (hf : 6 ≤ f) : J1 g (gz_set hc (g 0 j) f v) j := by
  obtain ⟨h1, h2, h3, h4, h5⟩ := H
  refine ⟨h1, jc_f h2 _ _ hf, ?_, h4, fun k hk => ?_⟩
  · rw [gz_v_set, if_neg (by omega)]; exact h3
  · rw [gz_v_set, if_neg (by omega)]; exact h5 k hk
def ag7 (h : gz_H) (a i k : Nat) (t b : Int32) : gz_H := gz_set (gz_set h (a + 2) (8 * i + k) (.int t)) (a + 2) (8 * k + i) (.int b)
def ag7b (h h0 : gz_H) (a i k : Nat) : gz_H := gz_set (gz_set h (a + 4) i (.int (gz_I h0 (a + 4) i ||| (1 : Int32) <<< (nI k &&& 31)))) (a + 4) k (.int (gz_I h0 (a + 4) k ||| (1 : Int32) <<< (nI i &&& 31)))
set_option maxHeartbeats 4000000 in
theorem st_X1_oppose (h : gz_H) (a S : Nat) (c : jc h a S) (i k : Nat) (hi : i < 8) (hk : k < 8) (ik : i ≠ k) (t b : Int32) : ((bt (gz_I h (a + 3) i) k = true ∨ bt (gz_I h (a + 3) k) i = true) → se_X1_oppose [.ref a, .int (nI i), .int (nI k), .int t, .int b] h = some (none, ag7 h a i k t b)) ∧ (¬ (bt (gz_I h (a + 3) i) k = true ∨ bt (gz_I h (a + 3) k) i = true) → se_X1_oppose [.ref a, .int (nI i), .int (nI k), .int t, .int b] h = some (none, ag7b (ag7 h a i k t b) h a i k)) := by
  have d1 : nI i * 8 + nI k = nI (8 * i + k) := by
    rw [show (8 : Int32) = nI 8 from rfl, pk_mul, nI_add, Nat.mul_comm]
  have d2 : ¬ nI (8 * i + k) < 0 := nI_pos (by omega)
  have d3 : (nI (8 * i + k)).toNatClampNeg = 8 * i + k := nI_clamp (by omega)
  have d4 : 8 * i + k < 64 := by omega
  have e1 : nI k * 8 + nI i = nI (8 * k + i) := by
    rw [show (8 : Int32) = nI 8 from rfl, pk_mul, nI_add, Nat.mul_comm]
  have e2 : ¬ nI (8 * k + i) < 0 := nI_pos (by omega)
  have e3 : (nI (8 * k + i)).toNatClampNeg = 8 * k + i := nI_clamp (by omega)
  have e4 : 8 * k + i < 64 := by omega
  have f2 : ¬ nI i < 0 := nI_pos (by omega)
  have f3 : (nI i).toNatClampNeg = i := nI_clamp (by omega)
  have g2 : ¬ nI k < 0 := nI_pos (by omega)
  have g3 : (nI k).toNatClampNeg = k := nI_clamp (by omega)
  have j1 := jc_setI c (a + 2) (8 * i + k) t (by omega)
  have j2 := jc_setI j1 (a + 2) (8 * k + i) b (by omega)
  have i3 : ∀ u, gz_I (gz_set (gz_set h (a + 2) (8 * i + k) (.int t)) (a + 2) (8 * k + i) (.int b)) (a + 3) u = gz_I h (a + 3) u := fun u => by rw [I_seto _ _ _ _ _ _ (by omega), I_seto _ _ _ _ _ _ (by omega)]
  have i4 : ∀ u, gz_I (gz_set (gz_set h (a + 2) (8 * i + k) (.int t)) (a + 2) (8 * k + i) (.int b)) (a + 4) u = gz_I h (a + 4) u := fun u => by rw [I_seto _ _ _ _ _ _ (by omega), I_seto _ _ _ _ _ _ (by omega)]
  have b1 := bt_t (i := k) (by omega) (gz_I h (a + 3) i)
  have b2 := bt_t (i := i) (by omega) (gz_I h (a + 3) k)
  constructor
  · intro q
    by_cases q1 : bt (gz_I h (a + 3) i) k = true
    · simp only [se_X1_oppose, sm_X1_oppose, gz_sem, gz_ae, Value.category, gz_i, gz_l, gz_nu, gz_li, gz_ll, gz_la, gz_ib, gz_iz, gz_lb, gz_lz, gz_ls, gz_lc, gz_i2l, gz_l2i, gz_get, gz_ald, gz_len, gz_dup, gz_d2, gz_nar, gz_a0, gz_a1, gz_cs, gz_cv, gz_mk, gz_te, gz_j1, gz_j2, gz_jn, gz_jk, gz_jo, gz_ja, gz_sat, gz_seti, gz_seta, gz_set2, gz_inc, gz_put, gz_ast, gz_pop, gz_vs, gz_vv, gz_sup, gz_rv, gz_ri, gz_rl, gz_ra, gz_if, gz_seq, gz_sw, gz_st, gz_st2, rok_I, rok_J, rok_V, rok_Z0, rok_Z1, rok_Zi, rok_R, rok_N, bi_rok, bi_0, bi_1, fit_I, fit_J, fit_Z0, fit_Z1, fit_Zi, fit_R, fit_N, fit_aR, aty_I, aty_Z0, aty_Z1, aty_Zi, aty_J, gz_ix, List.getElem?_cons_zero, List.getElem?_cons_succ, List.getElem?_nil, List.reverse_cons, List.reverse_nil, List.nil_append, List.cons_append, List.take_succ_cons, List.take_zero, List.take_nil, List.length_cons, List.length_nil, decide_true, decide_false, decide_not, Bool.not_true, Bool.not_false, gz_nle, if_true, if_false, and_true, true_and, and_self, and_false, false_and, or_true, true_or, or_false, false_or, Bool.false_eq_true, not_true, not_false_iff, Decidable.not_not, Nat.reduceLeDiff, Nat.reduceAdd, Nat.reduceEqDiff, Nat.reduceSub, Nat.reduceLT, Nat.zero_add, reduceCtorEq, reduceIte, eq_self, i32_10, i32_01, Nat.zero_le, Nat.one_ne_zero, c, j1, j2, d1, d2, d3, d4, e1, e2, e3, e4, f2, f3, g2, g3, hi, hk, i3, b1, b2, q1, ag7]
    · have q2 := q.resolve_left q1
      simp only [se_X1_oppose, sm_X1_oppose, gz_sem, gz_ae, Value.category, gz_i, gz_l, gz_nu, gz_li, gz_ll, gz_la, gz_ib, gz_iz, gz_lb, gz_lz, gz_ls, gz_lc, gz_i2l, gz_l2i, gz_get, gz_ald, gz_len, gz_dup, gz_d2, gz_nar, gz_a0, gz_a1, gz_cs, gz_cv, gz_mk, gz_te, gz_j1, gz_j2, gz_jn, gz_jk, gz_jo, gz_ja, gz_sat, gz_seti, gz_seta, gz_set2, gz_inc, gz_put, gz_ast, gz_pop, gz_vs, gz_vv, gz_sup, gz_rv, gz_ri, gz_rl, gz_ra, gz_if, gz_seq, gz_sw, gz_st, gz_st2, rok_I, rok_J, rok_V, rok_Z0, rok_Z1, rok_Zi, rok_R, rok_N, bi_rok, bi_0, bi_1, fit_I, fit_J, fit_Z0, fit_Z1, fit_Zi, fit_R, fit_N, fit_aR, aty_I, aty_Z0, aty_Z1, aty_Zi, aty_J, gz_ix, List.getElem?_cons_zero, List.getElem?_cons_succ, List.getElem?_nil, List.reverse_cons, List.reverse_nil, List.nil_append, List.cons_append, List.take_succ_cons, List.take_zero, List.take_nil, List.length_cons, List.length_nil, decide_true, decide_false, decide_not, Bool.not_true, Bool.not_false, gz_nle, if_true, if_false, and_true, true_and, and_self, and_false, false_and, or_true, true_or, or_false, false_or, Bool.false_eq_true, not_true, not_false_iff, Decidable.not_not, Nat.reduceLeDiff, Nat.reduceAdd, Nat.reduceEqDiff, Nat.reduceSub, Nat.reduceLT, Nat.zero_add, reduceCtorEq, reduceIte, eq_self, i32_10, i32_01, Nat.zero_le, Nat.one_ne_zero, c, j1, j2, d1, d2, d3, d4, e1, e2, e3, e4, f2, f3, g2, g3, hi, hk, i3, b1, b2, q1, q2, ag7]
  · intro q
    have q1 : ¬ bt (gz_I h (a + 3) i) k = true := fun z => q (Or.inl z)
    have q2 : ¬ bt (gz_I h (a + 3) k) i = true := fun z => q (Or.inr z)
    have j3 := jc_setI j2 (a + 4) i (gz_I h (a + 4) i ||| (1 : Int32) <<< (nI k &&& 31)) (by omega)
    have i5 : gz_I (gz_set (gz_set (gz_set h (a + 2) (8 * i + k) (.int t)) (a + 2) (8 * k + i) (.int b)) (a + 4) i (.int (gz_I h (a + 4) i ||| (1 : Int32) <<< (nI k &&& 31)))) (a + 4) k = gz_I h (a + 4) k := by rw [I_seto _ _ _ _ _ _ (by omega), i4]
    simp only [se_X1_oppose, sm_X1_oppose, gz_sem, gz_ae, Value.category, gz_i, gz_l, gz_nu, gz_li, gz_ll, gz_la, gz_ib, gz_iz, gz_lb, gz_lz, gz_ls, gz_lc, gz_i2l, gz_l2i, gz_get, gz_ald, gz_len, gz_dup, gz_d2, gz_nar, gz_a0, gz_a1, gz_cs, gz_cv, gz_mk, gz_te, gz_j1, gz_j2, gz_jn, gz_jk, gz_jo, gz_ja, gz_sat, gz_seti, gz_seta, gz_set2, gz_inc, gz_put, gz_ast, gz_pop, gz_vs, gz_vv, gz_sup, gz_rv, gz_ri, gz_rl, gz_ra, gz_if, gz_seq, gz_sw, gz_st, gz_st2, rok_I, rok_J, rok_V, rok_Z0, rok_Z1, rok_Zi, rok_R, rok_N, bi_rok, bi_0, bi_1, fit_I, fit_J, fit_Z0, fit_Z1, fit_Zi, fit_R, fit_N, fit_aR, aty_I, aty_Z0, aty_Z1, aty_Zi, aty_J, gz_ix, List.getElem?_cons_zero, List.getElem?_cons_succ, List.getElem?_nil, List.reverse_cons, List.reverse_nil, List.nil_append, List.cons_append, List.take_succ_cons, List.take_zero, List.take_nil, List.length_cons, List.length_nil, decide_true, decide_false, decide_not, Bool.not_true, Bool.not_false, gz_nle, if_true, if_false, and_true, true_and, and_self, and_false, false_and, or_true, true_or, or_false, false_or, Bool.false_eq_true, not_true, not_false_iff, Decidable.not_not, Nat.reduceLeDiff, Nat.reduceAdd, Nat.reduceEqDiff, Nat.reduceSub, Nat.reduceLT, Nat.zero_add, reduceCtorEq, reduceIte, eq_self, i32_10, i32_01, Nat.zero_le, Nat.one_ne_zero, c, j1, j2, j3, d1, d2, d3, d4, e1, e2, e3, e4, f2, f3, g2, g3, hi, hk, i3, i4, i5, b1, b2, q1, q2, ag7, ag7b]
def ag8 (hr : gz_H) (j i k : Nat) (t b : Int32) : gz_H := gz_set (gz_set hr 21 (64 * j + 8 * i + k) (.int t)) 21 (64 * j + 8 * k + i) (.int b)
theorem ag8_21 {hr : gz_H} {j i k : Nat} {t b : Int32} (hi : i < 8) (hk : k < 8) {u v : Nat} (hu : u < 8) (hv : v < 8) : gz_I (ag8 hr j i k t b) 21 (64 * j + 8 * u + v) = if u = k ∧ v = i then b else if u = i ∧ v = k then t else gz_I hr 21 (64 * j + 8 * u + v) := by
  unfold ag8
  rw [I_set, I_set]
  by_cases q1 : u = k ∧ v = i
  · rw [if_pos q1, if_pos ⟨rfl, by omega⟩]
  · rw [if_neg q1, if_neg (fun z => q1 (by omega))]
    by_cases q2 : u = i ∧ v = k
    · rw [if_pos q2, if_pos ⟨rfl, by omega⟩]
    · rw [if_neg q2, if_neg (fun z => q2 (by omega))]
theorem ag7_2 {h : gz_H} {a i k : Nat} {t b : Int32} (hi : i < 8) (hk : k < 8) {u v : Nat} (hu : u < 8) (hv : v < 8) : gz_I (ag7 h a i k t b) (a + 2) (8 * u + v) = if u = k ∧ v = i then b else if u = i ∧ v = k then t else gz_I h (a + 2) (8 * u + v) := by
  unfold ag7
  rw [I_set, I_set]
  by_cases q1 : u = k ∧ v = i
  · rw [if_pos q1, if_pos ⟨rfl, by omega⟩]
  · rw [if_neg q1, if_neg (fun z => q1 (by omega))]
    by_cases q2 : u = i ∧ v = k
    · rw [if_pos q2, if_pos ⟨rfl, by omega⟩]
    · rw [if_neg q2, if_neg (fun z => q2 (by omega))]
theorem ag8_o {hr : gz_H} {j i k : Nat} {t b : Int32} {x y : Nat} (hx : x ≠ 21) : gz_v (ag8 hr j i k t b) x y = gz_v hr x y := by
  unfold ag8
  rw [gz_v_set, if_neg (fun z => hx z.1), gz_v_set, if_neg (fun z => hx z.1)]
theorem ag7_o {h : gz_H} {a i k : Nat} {t b : Int32} {x y : Nat} (hx : x ≠ a + 2) : gz_v (ag7 h a i k t b) x y = gz_v h x y := by
  unfold ag7
  rw [gz_v_set, if_neg (fun z => hx z.1), gz_v_set, if_neg (fun z => hx z.1)]
theorem ag7b_o {h h0 : gz_H} {a i k : Nat} {x y : Nat} (hx : x ≠ a + 4) : gz_v (ag7b h h0 a i k) x y = gz_v h x y := by
  unfold ag7b
  rw [gz_v_set, if_neg (fun z => hx z.1), gz_v_set, if_neg (fun z => hx z.1)]
theorem ag8_ap {hr : gz_H} {j i k : Nat} {t b : Int32} (hi : i < 8) (hk : k < 8) {u v : Nat} (hu : u < 8) (hv : v < 8) : md_ap (ag8 hr j i k t b) j u v = if gz_I hr 22 (64 * j + 8 * u + v) = 0 ∧ gz_I hr 22 (64 * j + 8 * v + u) = 0 then (if u = k ∧ v = i then b else if u = i ∧ v = k then t else gz_I hr 21 (64 * j + 8 * u + v)) else 0 := by
  unfold md_ap
  rw [ag8_21 hi hk hu hv, vI (ag8_o (by decide)), vI (ag8_o (by decide))]
theorem ag7b_4 {h h0 : gz_H} {a i k : Nat} (ik : i ≠ k) (e : ∀ u, gz_I h (a + 4) u = gz_I h0 (a + 4) u) (u : Nat) : gz_I (ag7b h h0 a i k) (a + 4) u = if u = k then gz_I h0 (a + 4) k ||| (1 : Int32) <<< (nI i &&& 31) else if u = i then gz_I h0 (a + 4) i ||| (1 : Int32) <<< (nI k &&& 31) else gz_I h0 (a + 4) u := by
  unfold ag7b
  rw [I_set, I_set, e]
  by_cases q1 : u = k
  · rw [if_pos ⟨rfl, q1⟩, if_pos q1]
  · rw [if_neg (fun z => q1 z.2), if_neg q1]
    by_cases q2 : u = i
    · rw [if_pos ⟨rfl, q2⟩, if_pos q2]
    · rw [if_neg (fun z => q2 z.2), if_neg q2]
theorem nI_gt0 {n : Nat} (h0 : 0 < n) (h : n < 2 ^ 31) : 0 < nI n := by
  have := nI_lt h0 h
  rw [nI_0] at this
  exact this
theorem lt_irr (x : Int32) : ¬ x < x := fun q => by
  rw [Int32.lt_iff_toInt_lt] at q; omega
/-- gaps that were set -/
theorem J2_ag {hc hc' hr : gz_H} {a j i k t b : Nat} (hi : i < 8) (hk : k < 8) (ik : i ≠ k) (t0 : 1 ≤ t) (t1 : t ≤ 20) (b0 : 1 ≤ b) (b1 : b ≤ 20) (H : J2 hc hr a j) (h2 : ∀ u v, u < 8 → v < 8 → gz_I hc' (a + 2) (8 * u + v) = if u = k ∧ v = i then nI b else if u = i ∧ v = k then nI t else gz_I hc (a + 2) (8 * u + v)) (h3 : ∀ u, gz_I hc' (a + 3) u = gz_I hc (a + 3) u) (h4 : ((bt (gz_I hc (a + 3) i) k = true ∨ bt (gz_I hc (a + 3) k) i = true) ∧ ∀ u, gz_I hc' (a + 4) u = gz_I hc (a + 4) u) ∨ (¬ (bt (gz_I hc (a + 3) i) k = true ∨ bt (gz_I hc (a + 3) k) i = true) ∧ ∀ u, gz_I hc' (a + 4) u = if u = k then gz_I hc (a + 4) k ||| (1 : Int32) <<< (nI i &&& 31) else if u = i then gz_I hc (a + 4) i ||| (1 : Int32) <<< (nI k &&& 31) else gz_I hc (a + 4) u)) : J2 hc' (ag8 hr j i k (nI t) (nI b)) a j := by
  obtain ⟨g1, g2, g3, g4, g5, r1, r2, r3, r4⟩ := H
  have nt : ¬ nI t = 0 := nI_ne0 (by omega) (by omega)
  have nb : ¬ nI b = 0 := nI_ne0 (by omega) (by omega)
  have pt : 0 < nI t := nI_gt0 (by omega) (by omega)
  have pb : 0 < nI b := nI_gt0 (by omega) (by omega)
  have y1 := g5 i k hi hk
  have y2 := g5 k i hk hi
  -- what is apart
  have ap : ∀ u v, u < 8 → v < 8 → (0 < md_ap (ag8 hr j i k (nI t) (nI b)) j u v ↔ (0 < md_ap hr j u v ∨ (¬ (bt (gz_I hc (a + 3) i) k = true ∨ bt (gz_I hc (a + 3) k) i = true) ∧ ((u = k ∧ v = i) ∨ (u = i ∧ v = k))))) := by
    intro u v hu hv
    rw [ag8_ap hi hk hu hv]
    unfold md_ap
    by_cases z : gz_I hr 22 (64 * j + 8 * u + v) = 0 ∧ gz_I hr 22 (64 * j + 8 * v + u) = 0
    · rw [if_pos z, if_pos z]
      by_cases q1 : u = k ∧ v = i
      · obtain ⟨rfl, rfl⟩ := q1
        rw [if_pos ⟨rfl, rfl⟩]
        refine ⟨fun _ => Or.inr ⟨fun w => w.elim (fun w => y1.mp w z.2) (fun w => y2.mp w z.1), Or.inl ⟨rfl, rfl⟩⟩, fun _ => pb⟩
      · rw [if_neg q1]
        by_cases q2 : u = i ∧ v = k
        · obtain ⟨rfl, rfl⟩ := q2
          rw [if_pos ⟨rfl, rfl⟩]
          refine ⟨fun _ => Or.inr ⟨fun w => w.elim (fun w => y1.mp w z.1) (fun w => y2.mp w z.2), Or.inr ⟨rfl, rfl⟩⟩, fun _ => pt⟩
        · rw [if_neg q2]
          exact ⟨fun w => Or.inl w, fun w => w.elim id (fun w => (w.2.elim q1 q2).elim)⟩
    · rw [if_neg z, if_neg z]
      refine ⟨fun w => (lt_irr _ w).elim, fun w => w.elim (fun w => w) (fun w => ?_)⟩
      refine (z ?_).elim
      have n1 : gz_I hr 22 (64 * j + 8 * i + k) = 0 := Classical.byContradiction (fun q => w.1 (Or.inl (y1.mpr q)))
      have n2 : gz_I hr 22 (64 * j + 8 * k + i) = 0 := Classical.byContradiction (fun q => w.1 (Or.inr (y2.mpr q)))
      rcases w.2 with ⟨rfl, rfl⟩ | ⟨rfl, rfl⟩
      · exact ⟨n2, n1⟩
      · exact ⟨n1, n2⟩
  refine ⟨fun u v hu hv => ?_, fun u v hu hv => ?_, fun u v hu hv => ?_, fun u hu => ?_, fun u v hu hv => ?_, fun u v hu hv => ?_, fun u v hu hv => ?_, fun u v hu hv => ?_, fun u hu => ?_⟩
  · rw [h2 u v hu hv, ag8_21 hi hk hu hv, g1 u v hu hv]
  · rw [ag8_21 hi hk hu hv]
    by_cases q1 : u = k ∧ v = i
    · rw [if_pos q1]; exact ⟨b, b1, rfl⟩
    · rw [if_neg q1]
      by_cases q2 : u = i ∧ v = k
      · rw [if_pos q2]; exact ⟨t, t1, rfl⟩
      · rw [if_neg q2]; exact g2 u v hu hv
  · rw [ag8_21 hi hk hu hv, ag8_21 hi hk hv hu]
    by_cases q1 : u = k ∧ v = i
    · rw [if_pos q1]; exact fun q => (nb q).elim
    · rw [if_neg q1]
      by_cases q2 : u = i ∧ v = k
      · rw [if_pos q2]; exact fun q => (nt q).elim
      · rw [if_neg q2, if_neg (fun z => q2 ⟨z.2, z.1⟩), if_neg (fun z => q1 ⟨z.2, z.1⟩)]
        exact g3 u v hu hv
  · rw [ag8_21 hi hk hu hu, if_neg (by omega), if_neg (by omega)]
    exact g4 u hu
  · rw [h3, vI (ag8_o (by decide))]
    exact g5 u v hu hv
  · rw [ap u v hu hv]
    rcases h4 with ⟨y, e⟩ | ⟨y, e⟩
    · rw [e, r1 u v hu hv]
      exact ⟨fun w => Or.inl w, fun w => w.elim id (fun w => (w.1 y).elim)⟩
    · rw [e]
      by_cases q1 : u = k
      · subst q1
        rw [if_pos rfl, bt_or1 (by omega) (by omega), Bool.or_eq_true, decide_eq_true_eq, r1 u v hu hv]
        exact ⟨fun w => w.elim Or.inl (fun w => Or.inr ⟨y, Or.inl ⟨rfl, w⟩⟩), fun w => w.elim Or.inl (fun w => Or.inr (w.2.elim (fun z => z.2) (fun z => absurd z.1.symm ik)))⟩
      · rw [if_neg q1]
        by_cases q2 : u = i
        · subst q2
          rw [if_pos rfl, bt_or1 (by omega) (by omega), Bool.or_eq_true, decide_eq_true_eq, r1 u v hu hv]
          exact ⟨fun w => w.elim Or.inl (fun w => Or.inr ⟨y, Or.inr ⟨rfl, w⟩⟩), fun w => w.elim Or.inl (fun w => Or.inr (w.2.elim (fun z => absurd z.1 ik) (fun z => z.2)))⟩
        · rw [if_neg q2, r1 u v hu hv]
          exact ⟨fun w => Or.inl w, fun w => w.elim id (fun w => (w.2.elim (fun z => q1 z.1) (fun z => q2 z.1)).elim)⟩
  · rcases h4 with ⟨y, e⟩ | ⟨y, e⟩
    · rw [e]; exact r2 u v hu hv
    · rw [e]
      by_cases q1 : u = k
      · subst q1
        rw [if_pos rfl]
        by_cases h32 : v < 32
        · rw [bt_or1 (by omega) h32, r2 u v hu hv]
          simp; omega
        · exact b_big (by omega)
      · rw [if_neg q1]
        by_cases q2 : u = i
        · subst q2
          rw [if_pos rfl]
          by_cases h32 : v < 32
          · rw [bt_or1 (by omega) h32, r2 u v hu hv]
            simp; omega
          · exact b_big (by omega)
        · rw [if_neg q2]; exact r2 u v hu hv
  · rw [ap u v hu hv, ap v u hv hu, r3 u v hu hv]
    exact ⟨fun w => w.elim Or.inl (fun w => Or.inr ⟨w.1, w.2.elim (fun z => Or.inr ⟨z.2, z.1⟩) (fun z => Or.inl ⟨z.2, z.1⟩)⟩), fun w => w.elim Or.inl (fun w => Or.inr ⟨w.1, w.2.elim (fun z => Or.inr ⟨z.2, z.1⟩) (fun z => Or.inl ⟨z.2, z.1⟩)⟩)⟩
  · rw [ap u u hu hu]
    exact fun w => w.elim (r4 u hu) (fun w => w.2.elim (fun z => ik (z.2.symm.trans z.1)) (fun z => ik (z.1.symm.trans z.2)))
