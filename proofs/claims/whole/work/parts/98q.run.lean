set_option maxHeartbeats 4000000 in
theorem sc_loop {g : gz_G} {T : Nat} (hT : T < 100000) (n k : Int32) : ∀ dd j, j + dd = g 7 0 → ∀ (P : Nat → Nat) (hc hr : gz_H), IC g T P hc hr → (∀ u, P u ≤ 1) → (∀ u, 8 * j ≤ u → P u = 0) → (∀ u, u < 8 * j → EX g u → P u = 1) → (∀ i, i < j → ∀ u, u < g 6 i → gz_I hr 51 (8 * i + u) = if bt (gz_I hc (g 0 i) 10) u = true then 1 else 0) → ∃ hc' hr' P', gz_loop 33 4 lb_X7_run_33 [.ref 0, .int n, .int k, .int (nI j)] hc = some (.inl (60, [.ref 0, .int n, .int k, .int (nI (g 7 0))], hc')) ∧ gz_loop 33 4 lb_X8_run_33 [.ref 15, .int n, .int k, .int (nI j)] hr = some (.inl (52, [.ref 15, .int n, .int k, .int (nI (g 7 0))], hr')) ∧ IC g T P' hc' hr' ∧ (∀ u, EX g u → P' u = 1) ∧ (∀ i, i < g 7 0 → ∀ u, u < g 6 i → gz_I hr' 51 (8 * i + u) = if bt (gz_I hc' (g 0 i) 10) u = true then 1 else 0) ∧ hc'.1 = hc.1 ∧ fr8 hc hc' ∧ fr7 hr hr' := by
  intro dd
  induction dd with
  | zero =>
    intro j hj P hc hr H hP hz hd hw
    have c := H.1.2.1
    have m := H.1.1
    have h8 := H.1.2.2.2.2.2.1
    have f13 := H.1.2.2.2.2.2.2.2.2.2.2.2.2.1
    have e0 : gz_I hr 15 0 = nI (g 7 0) := H.1.2.2.2.2.2.2.1
    have hj : j = g 7 0 := by omega
    have k1 : ¬ nI (g 7 0) < nI (g 7 0) := nI_nlt (Nat.le_refl _) (by omega)
    subst hj
    refine ⟨hc, hr, P, gz_loop_exit ?_ (by decide), gz_loop_exit ?_ (by decide), H, fun u hu => hd u ?_ hu, fun i hi u hu => hw i hi u hu, rfl, fr8_rf _, fr7_rf _⟩
    · simp only [lb_X7_run_33, gz_sem, gz_ae, Value.category, gz_i, gz_l, gz_nu, gz_li, gz_ll, gz_la, gz_ib, gz_iz, gz_lb, gz_lz, gz_ls, gz_lc, gz_i2l, gz_l2i, gz_get, gz_ald, gz_len, gz_dup, gz_d2, gz_nar, gz_a0, gz_a1, gz_cs, gz_cv, gz_mk, gz_te, gz_j1, gz_j2, gz_jn, gz_jk, gz_jo, gz_ja, gz_sat, gz_seti, gz_seta, gz_set2, gz_inc, gz_put, gz_ast, gz_pop, gz_vs, gz_vv, gz_sup, gz_rv, gz_ri, gz_rl, gz_ra, gz_if, gz_seq, gz_sw, gz_st, gz_st2, rok_I, rok_J, rok_V, rok_Z0, rok_Z1, rok_Zi, rok_R, rok_N, bi_rok, bi_0, bi_1, fit_I, fit_J, fit_Z0, fit_Z1, fit_Zi, fit_R, fit_N, fit_aR, aty_I, aty_Z0, aty_Z1, aty_Zi, aty_J, gz_ix, List.getElem?_cons_zero, List.getElem?_cons_succ, List.getElem?_nil, List.reverse_cons, List.reverse_nil, List.nil_append, List.cons_append, List.take_succ_cons, List.take_zero, List.take_nil, List.length_cons, List.length_nil, decide_true, decide_false, decide_not, Bool.not_true, Bool.not_false, gz_nle, if_true, if_false, and_true, true_and, and_self, and_false, false_and, or_true, true_or, or_false, false_or, Bool.false_eq_true, not_true, not_false_iff, Decidable.not_not, Nat.reduceLeDiff, Nat.reduceAdd, Nat.reduceEqDiff, Nat.reduceSub, Nat.reduceLT, Nat.zero_add, reduceCtorEq, reduceIte, eq_self, i32_10, i32_01, Nat.zero_le, Nat.one_ne_zero, c, k1]
    · simp only [lb_X8_run_33, gz_sem, gz_ae, Value.category, gz_i, gz_l, gz_nu, gz_li, gz_ll, gz_la, gz_ib, gz_iz, gz_lb, gz_lz, gz_ls, gz_lc, gz_i2l, gz_l2i, gz_get, gz_ald, gz_len, gz_dup, gz_d2, gz_nar, gz_a0, gz_a1, gz_cs, gz_cv, gz_mk, gz_te, gz_j1, gz_j2, gz_jn, gz_jk, gz_jo, gz_ja, gz_sat, gz_seti, gz_seta, gz_set2, gz_inc, gz_put, gz_ast, gz_pop, gz_vs, gz_vv, gz_sup, gz_rv, gz_ri, gz_rl, gz_ra, gz_if, gz_seq, gz_sw, gz_st, gz_st2, rok_I, rok_J, rok_V, rok_Z0, rok_Z1, rok_Zi, rok_R, rok_N, bi_rok, bi_0, bi_1, fit_I, fit_J, fit_Z0, fit_Z1, fit_Zi, fit_R, fit_N, fit_aR, aty_I, aty_Z0, aty_Z1, aty_Zi, aty_J, gz_ix, List.getElem?_cons_zero, List.getElem?_cons_succ, List.getElem?_nil, List.reverse_cons, List.reverse_nil, List.nil_append, List.cons_append, List.take_succ_cons, List.take_zero, List.take_nil, List.length_cons, List.length_nil, decide_true, decide_false, decide_not, Bool.not_true, Bool.not_false, gz_nle, if_true, if_false, and_true, true_and, and_self, and_false, false_and, or_true, true_or, or_false, false_or, Bool.false_eq_true, not_true, not_false_iff, Decidable.not_not, Nat.reduceLeDiff, Nat.reduceAdd, Nat.reduceEqDiff, Nat.reduceSub, Nat.reduceLT, Nat.zero_add, reduceCtorEq, reduceIte, eq_self, i32_10, i32_01, Nat.zero_le, Nat.one_ne_zero, m, md_k, e0, k1]
    · have := hu.2
      by_cases z : u / 8 < g 7 0
      · omega
      · rw [f13 (u / 8) (by omega)] at this; omega
  | succ dd ih =>
    intro j hj P hc hr H hP hz hd hw
    have c := H.1.2.1
    have m := H.1.1
    have h8 := H.1.2.2.2.2.2.1
    have S8 := H.1.2.2.2.2.2.2.2.2.2.2.2.1
    have e0 : gz_I hr 15 0 = nI (g 7 0) := H.1.2.2.2.2.2.2.1
    have e5 : gz_I hc 0 5 = nI T := gz_I_of H.1.2.2.2.2.2.2.2.1
    have f15 := H.1.2.2.2.2.2.2.2.2.2.2.2.2.2.2.1
    have f16 := H.1.2.2.2.2.2.2.2.2.2.2.2.2.2.2.2
    have jl : j < g 7 0 := by omega
    have k1 : nI j < nI (g 7 0) := nI_lt jl (by omega)
    have d2 : ¬ nI j < 0 := nI_pos (by omega)
    have d3 : (nI j).toNatClampNeg = j := nI_clamp (by omega)
    have d4 : j < 8 := by omega
    obtain ⟨h1, r1, P1, a1, a2, a3, a4, a5, a6, a7, a8, a9, a10, a11, a12⟩ := jn_step H hT jl hP (fun u hu => hz _ (by omega))
    have v := (H.2.2.1 j jl).1.2.2.1
    have jk := (H.2.2.1 j jl).1.2.1
    have S8j := S8 j
    obtain ⟨h2, r2, P2, b1, b2, b3, b4, b5, b6, b7, b8⟩ := ih (j + 1) (by omega) P1 h1 r1 a3 a4 (fun u hu => by rw [a6 u (by omega)]; exact hz u (by omega)) (fun u hu ex => by
      by_cases z : 8 * j ≤ u
      · have e1 := ex.2
        rw [show u / 8 = j by omega] at e1
        have := a5 (u - 8 * j) (by omega)
        rw [show 8 * j + (u - 8 * j) = u by omega] at this
        exact this
      · rw [a6 u (by omega)]; exact hd u (by omega) ex) (fun i hi u hu => by
      by_cases z : i = j
      · subst z; exact a11 u hu
      · have S8i := S8 i
        rw [vI (a10 _ (by omega))]
        have V := H.2.2.1 i (by omega)
        have ca := V.1.2.2.2.1 0 (by omega)
        rw [Nat.add_zero] at ca
        rw [sm_I (a8 _ (by omega) (by omega))]
        exact hw i (by omega) u hu)
    refine ⟨h2, r2, P2, gz_loop_next (env1 := [.ref 0, .int n, .int k, .int (nI (j + 1))]) ?_ b1, gz_loop_next (env1 := [.ref 15, .int n, .int k, .int (nI (j + 1))]) ?_ b2, b3, b4, b5, b6.trans a7, fr8_tr ⟨by omega, fun x h1 h2 => a8 x (by rw [f16 x h1 h2]; omega) (by rw [f16 x h1 h2]; omega)⟩ b7, ⟨b8.1.trans a9.1, fun y hy => ⟨(b8.2 y hy).1.trans (a9.2 y hy).1, (b8.2 y hy).2.trans (a9.2 y hy).2⟩⟩⟩
    · simp only [lb_X7_run_33, gz_sem, gz_ae, Value.category, gz_i, gz_l, gz_nu, gz_li, gz_ll, gz_la, gz_ib, gz_iz, gz_lb, gz_lz, gz_ls, gz_lc, gz_i2l, gz_l2i, gz_get, gz_ald, gz_len, gz_dup, gz_d2, gz_nar, gz_a0, gz_a1, gz_cs, gz_cv, gz_mk, gz_te, gz_j1, gz_j2, gz_jn, gz_jk, gz_jo, gz_ja, gz_sat, gz_seti, gz_seta, gz_set2, gz_inc, gz_put, gz_ast, gz_pop, gz_vs, gz_vv, gz_sup, gz_rv, gz_ri, gz_rl, gz_ra, gz_if, gz_seq, gz_sw, gz_st, gz_st2, rok_I, rok_J, rok_V, rok_Z0, rok_Z1, rok_Zi, rok_R, rok_N, bi_rok, bi_0, bi_1, fit_I, fit_J, fit_Z0, fit_Z1, fit_Zi, fit_R, fit_N, fit_aR, aty_I, aty_Z0, aty_Z1, aty_Zi, aty_J, gz_ix, List.getElem?_cons_zero, List.getElem?_cons_succ, List.getElem?_nil, List.reverse_cons, List.reverse_nil, List.nil_append, List.cons_append, List.take_succ_cons, List.take_zero, List.take_nil, List.length_cons, List.length_nil, decide_true, decide_false, decide_not, Bool.not_true, Bool.not_false, gz_nle, if_true, if_false, and_true, true_and, and_self, and_false, false_and, or_true, true_or, or_false, false_or, Bool.false_eq_true, not_true, not_false_iff, Decidable.not_not, Nat.reduceLeDiff, Nat.reduceAdd, Nat.reduceEqDiff, Nat.reduceSub, Nat.reduceLT, Nat.zero_add, reduceCtorEq, reduceIte, eq_self, i32_10, i32_01, Nat.zero_le, Nat.one_ne_zero, c, k1, d2, d3, d4, v, jk, e5, a1, nI_1]
    · simp only [lb_X8_run_33, gz_sem, gz_ae, Value.category, gz_i, gz_l, gz_nu, gz_li, gz_ll, gz_la, gz_ib, gz_iz, gz_lb, gz_lz, gz_ls, gz_lc, gz_i2l, gz_l2i, gz_get, gz_ald, gz_len, gz_dup, gz_d2, gz_nar, gz_a0, gz_a1, gz_cs, gz_cv, gz_mk, gz_te, gz_j1, gz_j2, gz_jn, gz_jk, gz_jo, gz_ja, gz_sat, gz_seti, gz_seta, gz_set2, gz_inc, gz_put, gz_ast, gz_pop, gz_vs, gz_vv, gz_sup, gz_rv, gz_ri, gz_rl, gz_ra, gz_if, gz_seq, gz_sw, gz_st, gz_st2, rok_I, rok_J, rok_V, rok_Z0, rok_Z1, rok_Zi, rok_R, rok_N, bi_rok, bi_0, bi_1, fit_I, fit_J, fit_Z0, fit_Z1, fit_Zi, fit_R, fit_N, fit_aR, aty_I, aty_Z0, aty_Z1, aty_Zi, aty_J, gz_ix, List.getElem?_cons_zero, List.getElem?_cons_succ, List.getElem?_nil, List.reverse_cons, List.reverse_nil, List.nil_append, List.cons_append, List.take_succ_cons, List.take_zero, List.take_nil, List.length_cons, List.length_nil, decide_true, decide_false, decide_not, Bool.not_true, Bool.not_false, gz_nle, if_true, if_false, and_true, true_and, and_self, and_false, false_and, or_true, true_or, or_false, false_or, Bool.false_eq_true, not_true, not_false_iff, Decidable.not_not, Nat.reduceLeDiff, Nat.reduceAdd, Nat.reduceEqDiff, Nat.reduceSub, Nat.reduceLT, Nat.zero_add, reduceCtorEq, reduceIte, eq_self, i32_10, i32_01, Nat.zero_le, Nat.one_ne_zero, m, md_k, e0, k1, a2, nI_1]
/-- the second is over -/
theorem IC_next {g : gz_G} {T : Nat} {P : Nat → Nat} {hc hr : gz_H} (H : IC g T P hc hr) (hT : T < 100000) (h1 : ∀ u, EX g u → P u = 1) (hw : ∀ i, i < g 7 0 → ∀ u, u < g 6 i → gz_I hr 51 (8 * i + u) = if bt (gz_I hc (g 0 i) 10) u = true then 1 else 0) : IV g (T + 1) (fun _ => 0) (gz_set hc 0 5 (.int (nI (T + 1)))) (gz_set hr 15 1 (.int (nI (T + 1)))) := by
  obtain ⟨F, HW, HJ, HB, HZ⟩ := H
  obtain ⟨f1, f2, f3, f4, f5, f6, f7, f8, f9, f10, f11, f12, f13, f14, f15, f16⟩ := F
  have e : ∀ x, x ≠ 0 → sm hc (gz_set hc 0 5 (.int (nI (T + 1)))) x := fun x hx => sm_set (sm_rf _ _) hx
  have r : ∀ b i, ¬ (b = 15 ∧ i = 1) → gz_v (gz_set hr 15 1 (.int (nI (T + 1)))) b i = gz_v hr b i := fun b i h => by rw [gz_v_set, if_neg h]
  have v0 : ∀ f, f ≠ 5 → gz_v (gz_set hc 0 5 (.int (nI (T + 1)))) 0 f = gz_v hc 0 f := fun f hf => by rw [gz_v_set, if_neg (fun z => hf z.2)]
  have v5 : gz_v (gz_set hc 0 5 (.int (nI (T + 1)))) 0 5 = .int (nI (T + 1)) := by rw [gz_v_set, if_pos ⟨rfl, rfl⟩]
  have R : ∀ i, i < 99 → ro hr (gz_set hr 15 1 (.int (nI (T + 1)))) i := fun i hi => ro_set (ro_rf _ _) (by simp [rj] <;> omega)
  have RS : ∀ i, i < 99 → so hr (gz_set hr 15 1 (.int (nI (T + 1)))) i := fun i hi => so_set (so_rf _ _) (by simp [rt] <;> omega)
  have nz : ∀ x, g 5 x ≠ 50 → x ≠ 0 := fun x hx z => hx (by rw [z]; exact f15 0 (by omega))
  have B1 := BV_fr (hc := hc) (hr := hr) (hc' := gz_set hc 0 5 (.int (nI (T + 1)))) (hr' := gz_set hr 15 1 (.int (nI (T + 1)))) HZ (Nat.le_refl _) (fun _ => Iff.rfl) (fun _ _ => rfl) (fun _ _ => rfl) (fun x hx h1 h2 => ⟨rfl, e x (nz x (by omega))⟩) (fun s hs => RS s (by omega)) HB
  refine ⟨⟨md_set15 f1 1 _ (by omega), ?_, wc_sm (h := hc) (Nat.le_refl _) (fun x hx _ => e x (by omega)) f3, ac_sm (fun x hx _ => e x (by omega)) f4, yc_sm (fun x hx _ => e x (by omega)) f5, f6, by rw [vI (r _ _ (by omega))]; exact f7, v5, by rw [I_set, if_pos ⟨rfl, rfl⟩], by omega, fun i hi => by rw [vI (r _ _ (by omega))]; exact f11 i hi, f12, f13, f14, f15, f16⟩, ?_, fun i hi => ?_, fun i hi => ⟨fun u hu => ?_, fun z => absurd z (by omega)⟩, ⟨fun s hs => ?_, fun o ho h => ?_⟩, ZV_fr rfl (fun _ => Iff.rfl) (fun i h1 h2 => R i (by omega)) (fun s hs => RS s (by omega)) HZ⟩
  · exact cs_fr (hc := hc) (Nat.le_refl _) (fun x hx => rfl) (fun f hf => v0 f (by omega)) (fun f q1 q2 => by
      by_cases z : f = 5
      · subst z; rw [gz_I_of v5]; exact v5
      · rw [vI (v0 f z), v0 f z]; exact f2.2.2.2.2.2.2.2.2.2.2.2.2.2.2.2.2.2.2.2.2.2.1 f q1 q2) (fun i _ => by rw [(e 1 (by omega)).1]) f2
  · unfold WV at *
    rw [v0 6 (by omega), v0 7 (by omega), v0 8 (by omega), vI (r 15 18 (by omega)), vI (r 15 19 (by omega)), vI (r 15 20 (by omega)), vI (r 15 21 (by omega))]
    exact HW
  · exact JV_fr (hc := hc) (by omega) (Nat.le_refl _) ⟨rfl, rfl, fun _ _ => rfl, rfl, rfl⟩ (fun x hx hg => ⟨rfl, e x (nz x (by omega))⟩) (by rw [(e 1 (by omega)).1]) (R i (by omega)) (HJ i hi)
  · have V := HJ i hi
    have ca := V.1.2.2.2.1 0 (by omega)
    rw [Nat.add_zero] at ca
    rw [vI (r _ _ (by omega)), sm_I (e _ (nz _ (by omega)))]
    exact hw i hi u hu
  · obtain ⟨b1, b2, b3, b4⟩ := B1.1 s hs
    rw [h1 s hs] at b2
    exact ⟨b1, b2, b3, b4⟩
  · have h' := h
    rw [vI (r _ _ (by omega))] at h'
    have ex := ZV_ex HZ ho h'
    obtain ⟨b1, b2, b3, b4, ee, tm, rm, n, D, d1, d2, d3, d4, d5, d6, d7, d8, d9, d10, d11, d12, d13, d14, d15, d16, d17, d18⟩ := B1.2 o ho h
    rw [h1 ee d1, h1 o ex] at d16
    exact ⟨b1, b2, b3, b4, ee, tm, rm, n, D, d1, d2, d3, d4, d5, d6, d7, d8, d9, d10, d11, d12, d13, d14, d15, fun k hk => ⟨(d16 k hk).1, (d16 k hk).2.1, by have := (d16 k hk).2.2; show D k < T + 1 + tm + 0; omega⟩, d17, d18⟩
set_option maxHeartbeats 8000000 in
theorem rn_loop {g : gz_G} (n : Nat) (hn : n ≤ 300) : ∀ dd k, k + dd = n → ∀ (T : Nat) (hc hr : gz_H), IV g T (fun _ => 0) hc hr → T + dd ≤ 100000 → ∃ hc' hr' e e', gz_loop 26 3 lb_X7_run_26 [.ref 0, .int (nI n), .int (nI k)] hc = some (.inl (76, .ref 0 :: e, hc')) ∧ gz_loop 26 3 lb_X8_run_26 [.ref 15, .int (nI n), .int (nI k)] hr = some (.inl (68, .ref 15 :: e', hr')) ∧ IV g (T + dd) (fun _ => 0) hc' hr' ∧ fr8 hc hc' ∧ fr7 hr hr' := by
  intro dd
  induction dd with
  | zero =>
    intro k hk T hc hr H hT
    have hk : k = n := by omega
    subst hk
    have k1 : ¬ nI k < nI k := nI_nlt (Nat.le_refl _) (by omega)
    refine ⟨hc, hr, [.int (nI k), .int (nI k)], [.int (nI k), .int (nI k)], gz_loop_exit ?_ (by decide), gz_loop_exit ?_ (by decide), H, fr8_rf _, fr7_rf _⟩
    · simp only [lb_X7_run_26, gz_sem, gz_ae, Value.category, gz_i, gz_l, gz_nu, gz_li, gz_ll, gz_la, gz_ib, gz_iz, gz_lb, gz_lz, gz_ls, gz_lc, gz_i2l, gz_l2i, gz_get, gz_ald, gz_len, gz_dup, gz_d2, gz_nar, gz_a0, gz_a1, gz_cs, gz_cv, gz_mk, gz_te, gz_j1, gz_j2, gz_jn, gz_jk, gz_jo, gz_ja, gz_sat, gz_seti, gz_seta, gz_set2, gz_inc, gz_put, gz_ast, gz_pop, gz_vs, gz_vv, gz_sup, gz_rv, gz_ri, gz_rl, gz_ra, gz_if, gz_seq, gz_sw, gz_st, gz_st2, rok_I, rok_J, rok_V, rok_Z0, rok_Z1, rok_Zi, rok_R, rok_N, bi_rok, bi_0, bi_1, fit_I, fit_J, fit_Z0, fit_Z1, fit_Zi, fit_R, fit_N, fit_aR, aty_I, aty_Z0, aty_Z1, aty_Zi, aty_J, gz_ix, List.getElem?_cons_zero, List.getElem?_cons_succ, List.getElem?_nil, List.reverse_cons, List.reverse_nil, List.nil_append, List.cons_append, List.take_succ_cons, List.take_zero, List.take_nil, List.length_cons, List.length_nil, decide_true, decide_false, decide_not, Bool.not_true, Bool.not_false, gz_nle, if_true, if_false, and_true, true_and, and_self, and_false, false_and, or_true, true_or, or_false, false_or, Bool.false_eq_true, not_true, not_false_iff, Decidable.not_not, Nat.reduceLeDiff, Nat.reduceAdd, Nat.reduceEqDiff, Nat.reduceSub, Nat.reduceLT, Nat.zero_add, reduceCtorEq, reduceIte, eq_self, i32_10, i32_01, Nat.zero_le, Nat.one_ne_zero, k1]
    · simp only [lb_X8_run_26, gz_sem, gz_ae, Value.category, gz_i, gz_l, gz_nu, gz_li, gz_ll, gz_la, gz_ib, gz_iz, gz_lb, gz_lz, gz_ls, gz_lc, gz_i2l, gz_l2i, gz_get, gz_ald, gz_len, gz_dup, gz_d2, gz_nar, gz_a0, gz_a1, gz_cs, gz_cv, gz_mk, gz_te, gz_j1, gz_j2, gz_jn, gz_jk, gz_jo, gz_ja, gz_sat, gz_seti, gz_seta, gz_set2, gz_inc, gz_put, gz_ast, gz_pop, gz_vs, gz_vv, gz_sup, gz_rv, gz_ri, gz_rl, gz_ra, gz_if, gz_seq, gz_sw, gz_st, gz_st2, rok_I, rok_J, rok_V, rok_Z0, rok_Z1, rok_Zi, rok_R, rok_N, bi_rok, bi_0, bi_1, fit_I, fit_J, fit_Z0, fit_Z1, fit_Zi, fit_R, fit_N, fit_aR, aty_I, aty_Z0, aty_Z1, aty_Zi, aty_J, gz_ix, List.getElem?_cons_zero, List.getElem?_cons_succ, List.getElem?_nil, List.reverse_cons, List.reverse_nil, List.nil_append, List.cons_append, List.take_succ_cons, List.take_zero, List.take_nil, List.length_cons, List.length_nil, decide_true, decide_false, decide_not, Bool.not_true, Bool.not_false, gz_nle, if_true, if_false, and_true, true_and, and_self, and_false, false_and, or_true, true_or, or_false, false_or, Bool.false_eq_true, not_true, not_false_iff, Decidable.not_not, Nat.reduceLeDiff, Nat.reduceAdd, Nat.reduceEqDiff, Nat.reduceSub, Nat.reduceLT, Nat.zero_add, reduceCtorEq, reduceIte, eq_self, i32_10, i32_01, Nat.zero_le, Nat.one_ne_zero, k1]
  | succ dd ih =>
    intro k hk T hc hr H hT
    have k1 : nI k < nI n := nI_lt (by omega) (by omega)
    have HC : IC g T (fun _ => 0) hc hr := ⟨H.1, H.2.1, H.2.2.1, H.2.2.2.2.1, H.2.2.2.2.2⟩
    obtain ⟨h1, r1, P1, a1, a2, a3, a4, a5, a6, a7, a8⟩ := sc_loop (g := g) (T := T) (by omega) (nI n) (nI k) (g 7 0) 0 (by omega) (fun _ => 0) hc hr HC (fun _ => by omega) (fun _ _ => rfl) (fun u hu => by omega) (fun i hi => by omega)
    rw [nI_0] at a1 a2
    have I1 := IC_next a3 (by omega) a4 a5
    have c1 := a3.1.2.1
    have m1 := a3.1.1
    have e5 := gz_I_of a3.1.2.2.2.2.2.2.2.1
    have e15 := a3.1.2.2.2.2.2.2.2.2.1
    obtain ⟨h2, r2, e, e', b1, b2, b3, b4, b5⟩ := ih (k + 1) (by omega) (T + 1) _ _ I1 (by omega)
    refine ⟨h2, r2, e, e', gz_loop_next (env1 := [.ref 0, .int (nI n), .int (nI (k + 1))]) ?_ b1, gz_loop_next (env1 := [.ref 15, .int (nI n), .int (nI (k + 1))]) ?_ b2, ?_, fr8_tr a7 (fr8_tr (fr8_set (fr8_rf _) (by omega)) b4), ?_⟩
    · simp only [lb_X7_run_26, gz_sem, gz_ae, Value.category, gz_i, gz_l, gz_nu, gz_li, gz_ll, gz_la, gz_ib, gz_iz, gz_lb, gz_lz, gz_ls, gz_lc, gz_i2l, gz_l2i, gz_get, gz_ald, gz_len, gz_dup, gz_d2, gz_nar, gz_a0, gz_a1, gz_cs, gz_cv, gz_mk, gz_te, gz_j1, gz_j2, gz_jn, gz_jk, gz_jo, gz_ja, gz_sat, gz_seti, gz_seta, gz_set2, gz_inc, gz_put, gz_ast, gz_pop, gz_vs, gz_vv, gz_sup, gz_rv, gz_ri, gz_rl, gz_ra, gz_if, gz_seq, gz_sw, gz_st, gz_st2, rok_I, rok_J, rok_V, rok_Z0, rok_Z1, rok_Zi, rok_R, rok_N, bi_rok, bi_0, bi_1, fit_I, fit_J, fit_Z0, fit_Z1, fit_Zi, fit_R, fit_N, fit_aR, aty_I, aty_Z0, aty_Z1, aty_Zi, aty_J, gz_ix, List.getElem?_cons_zero, List.getElem?_cons_succ, List.getElem?_nil, List.reverse_cons, List.reverse_nil, List.nil_append, List.cons_append, List.take_succ_cons, List.take_zero, List.take_nil, List.length_cons, List.length_nil, decide_true, decide_false, decide_not, Bool.not_true, Bool.not_false, gz_nle, if_true, if_false, and_true, true_and, and_self, and_false, false_and, or_true, true_or, or_false, false_or, Bool.false_eq_true, not_true, not_false_iff, Decidable.not_not, Nat.reduceLeDiff, Nat.reduceAdd, Nat.reduceEqDiff, Nat.reduceSub, Nat.reduceLT, Nat.zero_add, reduceCtorEq, reduceIte, eq_self, i32_10, i32_01, Nat.zero_le, Nat.one_ne_zero, k1, a1, c1, e5, nI_1]
    · simp only [lb_X8_run_26, gz_sem, gz_ae, Value.category, gz_i, gz_l, gz_nu, gz_li, gz_ll, gz_la, gz_ib, gz_iz, gz_lb, gz_lz, gz_ls, gz_lc, gz_i2l, gz_l2i, gz_get, gz_ald, gz_len, gz_dup, gz_d2, gz_nar, gz_a0, gz_a1, gz_cs, gz_cv, gz_mk, gz_te, gz_j1, gz_j2, gz_jn, gz_jk, gz_jo, gz_ja, gz_sat, gz_seti, gz_seta, gz_set2, gz_inc, gz_put, gz_ast, gz_pop, gz_vs, gz_vv, gz_sup, gz_rv, gz_ri, gz_rl, gz_ra, gz_if, gz_seq, gz_sw, gz_st, gz_st2, rok_I, rok_J, rok_V, rok_Z0, rok_Z1, rok_Zi, rok_R, rok_N, bi_rok, bi_0, bi_1, fit_I, fit_J, fit_Z0, fit_Z1, fit_Zi, fit_R, fit_N, fit_aR, aty_I, aty_Z0, aty_Z1, aty_Zi, aty_J, gz_ix, List.getElem?_cons_zero, List.getElem?_cons_succ, List.getElem?_nil, List.reverse_cons, List.reverse_nil, List.nil_append, List.cons_append, List.take_succ_cons, List.take_zero, List.take_nil, List.length_cons, List.length_nil, decide_true, decide_false, decide_not, Bool.not_true, Bool.not_false, gz_nle, if_true, if_false, and_true, true_and, and_self, and_false, false_and, or_true, true_or, or_false, false_or, Bool.false_eq_true, not_true, not_false_iff, Decidable.not_not, Nat.reduceLeDiff, Nat.reduceAdd, Nat.reduceEqDiff, Nat.reduceSub, Nat.reduceLT, Nat.zero_add, reduceCtorEq, reduceIte, eq_self, i32_10, i32_01, Nat.zero_le, Nat.one_ne_zero, k1, a2, m1, md_k, e15, nI_1]
    · rw [show T + (dd + 1) = T + 1 + dd by omega]; exact b3
    · have f := fr7_set (i := 1) (v := .int (nI (T + 1))) a8 (b := 15) (by omega)
      exact ⟨b5.1.trans f.1, fun y hy => ⟨(b5.2 y hy).1.trans (f.2 y hy).1, (b5.2 y hy).2.trans (f.2 y hy).2⟩⟩
theorem pb_run (x : Int32) : PB se_X7_run se_X8_run [.int x] := by
  intro g T hc hr H
  have c := IV_cs H
  have m := IV_md H
  obtain ⟨T1, T2, T3⟩ := IV_T H
  have T1' := gz_I_of T1
  have e300 : nI 300 = (300 : Int32) := rfl
  rcases in_cs 0 300 (by decide) (by decide) x with o | ⟨n, n0, n1, rfl⟩
  · obtain ⟨o1, o2⟩ := io_no o hc hr
    rw [nI_0, e300] at o1 o2
    refine ⟨.int (-1), hc, hr, g, T, ?_, ?_, fr8_rf _, fr7_rf _, H⟩
    · simp only [se_X7_run, sm_X7_run, gz_sem, gz_ae, Value.category, gz_i, gz_l, gz_nu, gz_li, gz_ll, gz_la, gz_ib, gz_iz, gz_lb, gz_lz, gz_ls, gz_lc, gz_i2l, gz_l2i, gz_get, gz_ald, gz_len, gz_dup, gz_d2, gz_nar, gz_a0, gz_a1, gz_cs, gz_cv, gz_mk, gz_te, gz_j1, gz_j2, gz_jn, gz_jk, gz_jo, gz_ja, gz_sat, gz_seti, gz_seta, gz_set2, gz_inc, gz_put, gz_ast, gz_pop, gz_vs, gz_vv, gz_sup, gz_rv, gz_ri, gz_rl, gz_ra, gz_if, gz_seq, gz_sw, gz_st, gz_st2, rok_I, rok_J, rok_V, rok_Z0, rok_Z1, rok_Zi, rok_R, rok_N, bi_rok, bi_0, bi_1, fit_I, fit_J, fit_Z0, fit_Z1, fit_Zi, fit_R, fit_N, fit_aR, aty_I, aty_Z0, aty_Z1, aty_Zi, aty_J, gz_ix, List.getElem?_cons_zero, List.getElem?_cons_succ, List.getElem?_nil, List.reverse_cons, List.reverse_nil, List.nil_append, List.cons_append, List.take_succ_cons, List.take_zero, List.take_nil, List.length_cons, List.length_nil, decide_true, decide_false, decide_not, Bool.not_true, Bool.not_false, gz_nle, if_true, if_false, and_true, true_and, and_self, and_false, false_and, or_true, true_or, or_false, false_or, Bool.false_eq_true, not_true, not_false_iff, Decidable.not_not, Nat.reduceLeDiff, Nat.reduceAdd, Nat.reduceEqDiff, Nat.reduceSub, Nat.reduceLT, Nat.zero_add, reduceCtorEq, reduceIte, eq_self, i32_10, i32_01, Nat.zero_le, Nat.one_ne_zero, o1]
    · simp only [se_X8_run, sm_X8_run, gz_sem, gz_ae, Value.category, gz_i, gz_l, gz_nu, gz_li, gz_ll, gz_la, gz_ib, gz_iz, gz_lb, gz_lz, gz_ls, gz_lc, gz_i2l, gz_l2i, gz_get, gz_ald, gz_len, gz_dup, gz_d2, gz_nar, gz_a0, gz_a1, gz_cs, gz_cv, gz_mk, gz_te, gz_j1, gz_j2, gz_jn, gz_jk, gz_jo, gz_ja, gz_sat, gz_seti, gz_seta, gz_set2, gz_inc, gz_put, gz_ast, gz_pop, gz_vs, gz_vv, gz_sup, gz_rv, gz_ri, gz_rl, gz_ra, gz_if, gz_seq, gz_sw, gz_st, gz_st2, rok_I, rok_J, rok_V, rok_Z0, rok_Z1, rok_Zi, rok_R, rok_N, bi_rok, bi_0, bi_1, fit_I, fit_J, fit_Z0, fit_Z1, fit_Zi, fit_R, fit_N, fit_aR, aty_I, aty_Z0, aty_Z1, aty_Zi, aty_J, gz_ix, List.getElem?_cons_zero, List.getElem?_cons_succ, List.getElem?_nil, List.reverse_cons, List.reverse_nil, List.nil_append, List.cons_append, List.take_succ_cons, List.take_zero, List.take_nil, List.length_cons, List.length_nil, decide_true, decide_false, decide_not, Bool.not_true, Bool.not_false, gz_nle, if_true, if_false, and_true, true_and, and_self, and_false, false_and, or_true, true_or, or_false, false_or, Bool.false_eq_true, not_true, not_false_iff, Decidable.not_not, Nat.reduceLeDiff, Nat.reduceAdd, Nat.reduceEqDiff, Nat.reduceSub, Nat.reduceLT, Nat.zero_add, reduceCtorEq, reduceIte, eq_self, i32_10, i32_01, Nat.zero_le, Nat.one_ne_zero, o2]
  obtain ⟨o1, o2⟩ := io_yes n0 n1 (by decide) hc hr
  rw [nI_0, e300] at o1 o2
  have e1 : nI T + nI n = nI (T + n) := nI_add _ _
  have e2 : 100000 < nI (T + n) ↔ 100000 < T + n := nI_ltI (a := 100000) (by decide) (by omega)
  by_cases z : 100000 < T + n
  · have z' := e2.mpr z
    refine ⟨.int (-1), hc, hr, g, T, ?_, ?_, fr8_rf _, fr7_rf _, H⟩
    · simp only [se_X7_run, sm_X7_run, gz_sem, gz_ae, Value.category, gz_i, gz_l, gz_nu, gz_li, gz_ll, gz_la, gz_ib, gz_iz, gz_lb, gz_lz, gz_ls, gz_lc, gz_i2l, gz_l2i, gz_get, gz_ald, gz_len, gz_dup, gz_d2, gz_nar, gz_a0, gz_a1, gz_cs, gz_cv, gz_mk, gz_te, gz_j1, gz_j2, gz_jn, gz_jk, gz_jo, gz_ja, gz_sat, gz_seti, gz_seta, gz_set2, gz_inc, gz_put, gz_ast, gz_pop, gz_vs, gz_vv, gz_sup, gz_rv, gz_ri, gz_rl, gz_ra, gz_if, gz_seq, gz_sw, gz_st, gz_st2, rok_I, rok_J, rok_V, rok_Z0, rok_Z1, rok_Zi, rok_R, rok_N, bi_rok, bi_0, bi_1, fit_I, fit_J, fit_Z0, fit_Z1, fit_Zi, fit_R, fit_N, fit_aR, aty_I, aty_Z0, aty_Z1, aty_Zi, aty_J, gz_ix, List.getElem?_cons_zero, List.getElem?_cons_succ, List.getElem?_nil, List.reverse_cons, List.reverse_nil, List.nil_append, List.cons_append, List.take_succ_cons, List.take_zero, List.take_nil, List.length_cons, List.length_nil, decide_true, decide_false, decide_not, Bool.not_true, Bool.not_false, gz_nle, if_true, if_false, and_true, true_and, and_self, and_false, false_and, or_true, true_or, or_false, false_or, Bool.false_eq_true, not_true, not_false_iff, Decidable.not_not, Nat.reduceLeDiff, Nat.reduceAdd, Nat.reduceEqDiff, Nat.reduceSub, Nat.reduceLT, Nat.zero_add, reduceCtorEq, reduceIte, eq_self, i32_10, i32_01, Nat.zero_le, Nat.one_ne_zero, o1, c, T1', e1, z']
    · simp only [se_X8_run, sm_X8_run, gz_sem, gz_ae, Value.category, gz_i, gz_l, gz_nu, gz_li, gz_ll, gz_la, gz_ib, gz_iz, gz_lb, gz_lz, gz_ls, gz_lc, gz_i2l, gz_l2i, gz_get, gz_ald, gz_len, gz_dup, gz_d2, gz_nar, gz_a0, gz_a1, gz_cs, gz_cv, gz_mk, gz_te, gz_j1, gz_j2, gz_jn, gz_jk, gz_jo, gz_ja, gz_sat, gz_seti, gz_seta, gz_set2, gz_inc, gz_put, gz_ast, gz_pop, gz_vs, gz_vv, gz_sup, gz_rv, gz_ri, gz_rl, gz_ra, gz_if, gz_seq, gz_sw, gz_st, gz_st2, rok_I, rok_J, rok_V, rok_Z0, rok_Z1, rok_Zi, rok_R, rok_N, bi_rok, bi_0, bi_1, fit_I, fit_J, fit_Z0, fit_Z1, fit_Zi, fit_R, fit_N, fit_aR, aty_I, aty_Z0, aty_Z1, aty_Zi, aty_J, gz_ix, List.getElem?_cons_zero, List.getElem?_cons_succ, List.getElem?_nil, List.reverse_cons, List.reverse_nil, List.nil_append, List.cons_append, List.take_succ_cons, List.take_zero, List.take_nil, List.length_cons, List.length_nil, decide_true, decide_false, decide_not, Bool.not_true, Bool.not_false, gz_nle, if_true, if_false, and_true, true_and, and_self, and_false, false_and, or_true, true_or, or_false, false_or, Bool.false_eq_true, not_true, not_false_iff, Decidable.not_not, Nat.reduceLeDiff, Nat.reduceAdd, Nat.reduceEqDiff, Nat.reduceSub, Nat.reduceLT, Nat.zero_add, reduceCtorEq, reduceIte, eq_self, i32_10, i32_01, Nat.zero_le, Nat.one_ne_zero, o2, m, md_k, T2, e1, z']
  have z' : ¬ 100000 < nI (T + n) := fun u => z (e2.mp u)
  obtain ⟨hc', hr', e, e', a1, a2, a3, a4, a5⟩ := rn_loop (g := g) n n1 n 0 (by omega) T hc hr H (by omega)
  rw [nI_0] at a1 a2
  have c1 := IV_cs a3
  have m1 := IV_md a3
  have t1 := gz_I_of (IV_T a3).1
  have t2 := (IV_T a3).2.1
  refine ⟨.int (nI (T + n)), hc', hr', g, T + n, ?_, ?_, a4, a5, a3⟩
  · simp only [se_X7_run, sm_X7_run, gz_sem, gz_ae, Value.category, gz_i, gz_l, gz_nu, gz_li, gz_ll, gz_la, gz_ib, gz_iz, gz_lb, gz_lz, gz_ls, gz_lc, gz_i2l, gz_l2i, gz_get, gz_ald, gz_len, gz_dup, gz_d2, gz_nar, gz_a0, gz_a1, gz_cs, gz_cv, gz_mk, gz_te, gz_j1, gz_j2, gz_jn, gz_jk, gz_jo, gz_ja, gz_sat, gz_seti, gz_seta, gz_set2, gz_inc, gz_put, gz_ast, gz_pop, gz_vs, gz_vv, gz_sup, gz_rv, gz_ri, gz_rl, gz_ra, gz_if, gz_seq, gz_sw, gz_st, gz_st2, rok_I, rok_J, rok_V, rok_Z0, rok_Z1, rok_Zi, rok_R, rok_N, bi_rok, bi_0, bi_1, fit_I, fit_J, fit_Z0, fit_Z1, fit_Zi, fit_R, fit_N, fit_aR, aty_I, aty_Z0, aty_Z1, aty_Zi, aty_J, gz_ix, List.getElem?_cons_zero, List.getElem?_cons_succ, List.getElem?_nil, List.reverse_cons, List.reverse_nil, List.nil_append, List.cons_append, List.take_succ_cons, List.take_zero, List.take_nil, List.length_cons, List.length_nil, decide_true, decide_false, decide_not, Bool.not_true, Bool.not_false, gz_nle, if_true, if_false, and_true, true_and, and_self, and_false, false_and, or_true, true_or, or_false, false_or, Bool.false_eq_true, not_true, not_false_iff, Decidable.not_not, Nat.reduceLeDiff, Nat.reduceAdd, Nat.reduceEqDiff, Nat.reduceSub, Nat.reduceLT, Nat.zero_add, reduceCtorEq, reduceIte, eq_self, i32_10, i32_01, Nat.zero_le, Nat.one_ne_zero, o1, c, T1', e1, z', a1, c1, t1]
  · simp only [se_X8_run, sm_X8_run, gz_sem, gz_ae, Value.category, gz_i, gz_l, gz_nu, gz_li, gz_ll, gz_la, gz_ib, gz_iz, gz_lb, gz_lz, gz_ls, gz_lc, gz_i2l, gz_l2i, gz_get, gz_ald, gz_len, gz_dup, gz_d2, gz_nar, gz_a0, gz_a1, gz_cs, gz_cv, gz_mk, gz_te, gz_j1, gz_j2, gz_jn, gz_jk, gz_jo, gz_ja, gz_sat, gz_seti, gz_seta, gz_set2, gz_inc, gz_put, gz_ast, gz_pop, gz_vs, gz_vv, gz_sup, gz_rv, gz_ri, gz_rl, gz_ra, gz_if, gz_seq, gz_sw, gz_st, gz_st2, rok_I, rok_J, rok_V, rok_Z0, rok_Z1, rok_Zi, rok_R, rok_N, bi_rok, bi_0, bi_1, fit_I, fit_J, fit_Z0, fit_Z1, fit_Zi, fit_R, fit_N, fit_aR, aty_I, aty_Z0, aty_Z1, aty_Zi, aty_J, gz_ix, List.getElem?_cons_zero, List.getElem?_cons_succ, List.getElem?_nil, List.reverse_cons, List.reverse_nil, List.nil_append, List.cons_append, List.take_succ_cons, List.take_zero, List.take_nil, List.length_cons, List.length_nil, decide_true, decide_false, decide_not, Bool.not_true, Bool.not_false, gz_nle, if_true, if_false, and_true, true_and, and_self, and_false, false_and, or_true, true_or, or_false, false_or, Bool.false_eq_true, not_true, not_false_iff, Decidable.not_not, Nat.reduceLeDiff, Nat.reduceAdd, Nat.reduceEqDiff, Nat.reduceSub, Nat.reduceLT, Nat.zero_add, reduceCtorEq, reduceIte, eq_self, i32_10, i32_01, Nat.zero_le, Nat.one_ne_zero, o2, m, md_k, T2, e1, z', a2, m1, t2]
