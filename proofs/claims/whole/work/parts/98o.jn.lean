set_option maxHeartbeats 4000000 in
theorem st_X2_stageOf (h : gz_H) (q n pl st : Nat) (E : Nat → Nat) (k : pc h q n) (hn : n ≤ 4) (hE : ∀ s, s < n → E s < E (s + 1) ∧ gz_I h (q + 4) s = nI (E (s + 1))) (e90 : ∀ s, s ≤ n → E s ≤ 90) (hs : st < n) (h1 : E st ≤ pl) (h2 : pl < E (st + 1)) : se_X2_stageOf [.ref q, .int (nI pl)] h = some (some (.int (nI st)), h) := by
  have p90 : pl < 90 := by have := e90 (st + 1) (by omega); omega
  have mono : ∀ d s, s + d ≤ n → E s ≤ E (s + d) := by
    intro d
    induction d with
    | zero => intro s _; exact Nat.le_refl _
    | succ d ih => intro s hs; exact Nat.le_trans (ih s (by omega)) (Nat.le_of_lt (hE (s + d) (by omega)).1)
  have body : ∀ s, s < n → (¬ pl < E (s + 1) → lb_X2_stageOf_2 ([Value.ref q, .int (nI pl), .int (nI s)].take 3) h = some (.inl (2, [.ref q, .int (nI pl), .int (nI (s + 1))], h))) ∧ (pl < E (s + 1) → lb_X2_stageOf_2 ([Value.ref q, .int (nI pl), .int (nI s)].take 3) h = some (.inr (some (.int (nI s)), h))) := by
    intro s hs
    have k1 : nI s < nI n := nI_lt hs (by omega)
    have d2 : ¬ nI s < 0 := nI_pos (by omega)
    have d3 : (nI s).toNatClampNeg = s := nI_clamp (by omega)
    have d4 : s < 4 := by omega
    have e1 := (hE s hs).2
    have e9 := e90 (s + 1) (by omega)
    constructor
    · intro g
      have g' : ¬ nI pl < nI (E (s + 1)) := nI_nlt (by omega) (by omega)
      simp only [lb_X2_stageOf_2, gz_sem, gz_ae, Value.category, gz_i, gz_l, gz_nu, gz_li, gz_ll, gz_la, gz_ib, gz_iz, gz_lb, gz_lz, gz_ls, gz_lc, gz_i2l, gz_l2i, gz_get, gz_ald, gz_len, gz_dup, gz_d2, gz_nar, gz_a0, gz_a1, gz_cs, gz_cv, gz_mk, gz_te, gz_j1, gz_j2, gz_jn, gz_jk, gz_jo, gz_ja, gz_sat, gz_seti, gz_seta, gz_set2, gz_inc, gz_put, gz_ast, gz_pop, gz_vs, gz_vv, gz_sup, gz_rv, gz_ri, gz_rl, gz_ra, gz_if, gz_seq, gz_sw, gz_st, gz_st2, rok_I, rok_J, rok_V, rok_Z0, rok_Z1, rok_Zi, rok_R, rok_N, bi_rok, bi_0, bi_1, fit_I, fit_J, fit_Z0, fit_Z1, fit_Zi, fit_R, fit_N, fit_aR, aty_I, aty_Z0, aty_Z1, aty_Zi, aty_J, gz_ix, List.getElem?_cons_zero, List.getElem?_cons_succ, List.getElem?_nil, List.reverse_cons, List.reverse_nil, List.nil_append, List.cons_append, List.take_succ_cons, List.take_zero, List.take_nil, List.length_cons, List.length_nil, decide_true, decide_false, decide_not, Bool.not_true, Bool.not_false, gz_nle, if_true, if_false, and_true, true_and, and_self, and_false, false_and, or_true, true_or, or_false, false_or, Bool.false_eq_true, not_true, not_false_iff, Decidable.not_not, Nat.reduceLeDiff, Nat.reduceAdd, Nat.reduceEqDiff, Nat.reduceSub, Nat.reduceLT, Nat.zero_add, reduceCtorEq, reduceIte, eq_self, i32_10, i32_01, Nat.zero_le, Nat.one_ne_zero, k, k1, d2, d3, d4, e1, g', nI_1]
    · intro g
      have g' : nI pl < nI (E (s + 1)) := nI_lt g (by omega)
      simp only [lb_X2_stageOf_2, gz_sem, gz_ae, Value.category, gz_i, gz_l, gz_nu, gz_li, gz_ll, gz_la, gz_ib, gz_iz, gz_lb, gz_lz, gz_ls, gz_lc, gz_i2l, gz_l2i, gz_get, gz_ald, gz_len, gz_dup, gz_d2, gz_nar, gz_a0, gz_a1, gz_cs, gz_cv, gz_mk, gz_te, gz_j1, gz_j2, gz_jn, gz_jk, gz_jo, gz_ja, gz_sat, gz_seti, gz_seta, gz_set2, gz_inc, gz_put, gz_ast, gz_pop, gz_vs, gz_vv, gz_sup, gz_rv, gz_ri, gz_rl, gz_ra, gz_if, gz_seq, gz_sw, gz_st, gz_st2, rok_I, rok_J, rok_V, rok_Z0, rok_Z1, rok_Zi, rok_R, rok_N, bi_rok, bi_0, bi_1, fit_I, fit_J, fit_Z0, fit_Z1, fit_Zi, fit_R, fit_N, fit_aR, aty_I, aty_Z0, aty_Z1, aty_Zi, aty_J, gz_ix, List.getElem?_cons_zero, List.getElem?_cons_succ, List.getElem?_nil, List.reverse_cons, List.reverse_nil, List.nil_append, List.cons_append, List.take_succ_cons, List.take_zero, List.take_nil, List.length_cons, List.length_nil, decide_true, decide_false, decide_not, Bool.not_true, Bool.not_false, gz_nle, if_true, if_false, and_true, true_and, and_self, and_false, false_and, or_true, true_or, or_false, false_or, Bool.false_eq_true, not_true, not_false_iff, Decidable.not_not, Nat.reduceLeDiff, Nat.reduceAdd, Nat.reduceEqDiff, Nat.reduceSub, Nat.reduceLT, Nat.zero_add, reduceCtorEq, reduceIte, eq_self, i32_10, i32_01, Nat.zero_le, Nat.one_ne_zero, k, k1, d2, d3, d4, e1, g']
  have l := gz_seek0 (L := 2) (k := 3) (a := lb_X2_stageOf_2) (h := h) n (fun s => pl < E (s + 1)) (fun s => [.ref q, .int (nI pl), .int (nI s)]) (fun s => (some (.int (nI s)), h)) (fun s hs g => (body s hs).1 g) (fun s hs g => (body s hs).2 g) st h2 hs (fun s hs' z => by
    have := mono (st - (s + 1)) (s + 1) (by omega)
    rw [show s + 1 + (st - (s + 1)) = st by omega] at this
    omega)
  rw [nI_0] at l
  simp only [se_X2_stageOf, sm_X2_stageOf, gz_sem, gz_ae, Value.category, gz_i, gz_l, gz_nu, gz_li, gz_ll, gz_la, gz_ib, gz_iz, gz_lb, gz_lz, gz_ls, gz_lc, gz_i2l, gz_l2i, gz_get, gz_ald, gz_len, gz_dup, gz_d2, gz_nar, gz_a0, gz_a1, gz_cs, gz_cv, gz_mk, gz_te, gz_j1, gz_j2, gz_jn, gz_jk, gz_jo, gz_ja, gz_sat, gz_seti, gz_seta, gz_set2, gz_inc, gz_put, gz_ast, gz_pop, gz_vs, gz_vv, gz_sup, gz_rv, gz_ri, gz_rl, gz_ra, gz_if, gz_seq, gz_sw, gz_st, gz_st2, rok_I, rok_J, rok_V, rok_Z0, rok_Z1, rok_Zi, rok_R, rok_N, bi_rok, bi_0, bi_1, fit_I, fit_J, fit_Z0, fit_Z1, fit_Zi, fit_R, fit_N, fit_aR, aty_I, aty_Z0, aty_Z1, aty_Zi, aty_J, gz_ix, List.getElem?_cons_zero, List.getElem?_cons_succ, List.getElem?_nil, List.reverse_cons, List.reverse_nil, List.nil_append, List.cons_append, List.take_succ_cons, List.take_zero, List.take_nil, List.length_cons, List.length_nil, decide_true, decide_false, decide_not, Bool.not_true, Bool.not_false, gz_nle, if_true, if_false, and_true, true_and, and_self, and_false, false_and, or_true, true_or, or_false, false_or, Bool.false_eq_true, not_true, not_false_iff, Decidable.not_not, Nat.reduceLeDiff, Nat.reduceAdd, Nat.reduceEqDiff, Nat.reduceSub, Nat.reduceLT, Nat.zero_add, reduceCtorEq, reduceIte, eq_self, i32_10, i32_01, Nat.zero_le, Nat.one_ne_zero, l]
theorem IC_jl {g : gz_G} {T : Nat} {P : Nat → Nat} {hc hc' hr hr' : gz_H} {j : Nat} (H : IC g T P hc hr) (hj : j < g 7 0) (c0 : hc'.1 = hc.1) (cA : ∀ x, x ≠ g 0 j → x ≠ g 0 j + 5 → sm hc hc' x) (K1 : J1 g hc' j) (v67 : ∀ f, f = 6 ∨ f = 7 → gz_v hc' (g 0 j) f = gz_v hc (g 0 j) f) (K5 : J5 hc' hr' (g 0 j) j) (M : md hr') (rA : ∀ b i, ¬ (b = 31 ∧ i = j) → ¬ (b = 52 ∧ i / 200 = j) → gz_v hr' b i = gz_v hr b i) : IC g T P hc' hr' := by
  obtain ⟨F, HW, HJ, HB, HZ⟩ := H
  obtain ⟨f1, f2, f3, f4, f5, f6, f7, f8, f9, f10, f11, f12, f13, f14, f15, f16⟩ := F
  have V := HJ j hj
  have co := V.1.2.2.2.1
  have co0 := co 0 (by omega)
  rw [Nat.add_zero] at co0
  have co5 := co 5 (by omega)
  have ec : ∀ x, g 5 x ≠ 1 + j → sm hc hc' x := fun x hx => cA x (fun z => hx (by rw [z]; exact co0)) (fun z => hx (by rw [z]; exact co5))
  have e15 : ∀ x, x < 15 → sm hc hc' x := fun x hx => ec x (by rw [f15 x hx]; omega)
  have R : ∀ i, i < 8 → i ≠ j → ro hr hr' i := fun i h1 h2 b u q => by
    refine rA b u (fun z => ?_) (fun z => ?_)
    · rw [z.1, z.2] at q
      simp [rj] at q
      omega
    · rw [z.1] at q
      simp [rj] at q
      omega
  have RA : ∀ d, d % 8 ≠ 3 → ra hr hr' d := fun d hd b u q => by
    refine rA b u (fun z => ?_) (fun z => ?_)
    · rw [z.1] at q
      simp [rq] at q
      omega
    · rw [z.1] at q
      simp [rq] at q
      omega
  have RS : ∀ s, s < 64 → so hr hr' s := fun s hs b u q => by
    have := rt_c (b := b) (i := u) (by omega)
    exact rA b u (by omega) (by omega)
  refine ⟨⟨M, ?_, wc_sm (by omega) (fun x _ hx => e15 x hx) f3, ac_sm (fun x _ hx => e15 x hx) f4, yc_sm (fun x _ hx => e15 x hx) f5, f6, by rw [vI (rA _ _ (by omega) (by omega))]; exact f7, by rw [(e15 0 (by omega)).1]; exact f8, by rw [vI (rA _ _ (by omega) (by omega))]; exact f9, f10, fun i hi => by rw [vI (rA _ _ (by omega) (by omega))]; exact f11 i hi, f12, f13, by omega, f15, f16⟩, ?_, fun i hi => ?_, BV_fr HZ (by omega) (fun _ => Iff.rfl) (fun _ _ => rfl) (fun _ _ => rfl) (fun x hx h1 h2 => ⟨rfl, ec x (by omega)⟩) RS HB, ZV_fr rfl (fun _ => Iff.rfl) (fun i h1 h2 => R i h1 (by omega)) RS HZ⟩
  · exact cs_fr (by omega) (fun x hx => (e15 x hx).2) (fun f _ => by rw [(e15 0 (by omega)).1]) (fun f q1 q2 => by rw [sm_I (e15 0 (by omega)), (e15 0 (by omega)).1]; exact f2.2.2.2.2.2.2.2.2.2.2.2.2.2.2.2.2.2.2.2.2.2.1 f q1 q2) (fun i _ => by rw [(e15 1 (by omega)).1]) f2
  · unfold WV at *
    rw [(e15 0 (by omega)).1, vI (rA 15 18 (by omega) (by omega)), vI (rA 15 19 (by omega) (by omega)), vI (rA 15 20 (by omega) (by omega)), vI (rA 15 21 (by omega) (by omega))]
    exact HW
  · by_cases q : i = j
    · subst q
      obtain ⟨V1, V2, V3, V4, V5⟩ := V
      have sr : ∀ u, 1 ≤ u → u ≤ 4 → sm hc hc' (g 0 i + u) := fun u h1 h2 => cA _ (by omega) (by omega)
      exact ⟨K1, J2_fr (sr 2 (by omega) (by omega)) (sr 3 (by omega) (by omega)) (sr 4 (by omega) (by omega)) (RA _ (by omega)) V2, J3_fr (by omega) (by omega) rfl rfl rfl (fun x hx hg => ⟨hg, ec x (by omega)⟩) (v67 6 (Or.inl rfl)) (RA _ (by omega)) (RA _ (by omega)) V3, J4_fr (by omega) (by omega) rfl rfl rfl (fun x hx hg => ⟨hg, ec x (by omega)⟩) (v67 7 (Or.inr rfl)) (RA _ (by omega)) (RA _ (by omega)) (RA _ (by omega)) V4, K5⟩
    · exact JV_fr (by omega) (by omega) ⟨rfl, rfl, fun _ _ => rfl, rfl, rfl⟩ (fun x hx hg => ⟨rfl, ec x (by omega)⟩) (by rw [(e15 1 (by omega)).1]) (R i (by omega) q) (HJ i hi)
/-- the streams of a junction, one behind the other -/
theorem jn_loop {g : gz_G} {T j : Nat} (hT : T < 100000) (hj : j < g 7 0) (L : Int32) (p : Int32) : ∀ dd i, i + dd = g 6 j → ∀ (P : Nat → Nat) (hc hr : gz_H), IC g T P hc hr → gz_v hc (g 0 j) 10 = .int L → (∀ u, P u ≤ 1) → (∀ u, i ≤ u → u < g 6 j → P (8 * j + u) = 0) → ∃ hc' hr' P' e e', gz_loop 25 3 lb_X1_pass_25 [.ref (g 0 j), .int (nI T), .int (nI i)] hc = some (.inl (65, e, hc')) ∧ gz_loop 123 5 lb_X8_runJunction_123 [.ref 15, .int (nI j), .int p, .int L, .int (nI i)] hr = some (.inl (166, e', hr')) ∧ IC g T P' hc' hr' ∧ (∀ u, P' u ≤ 1) ∧ (∀ u, i ≤ u → u < g 6 j → P' (8 * j + u) = 1) ∧ (∀ u, ¬ (8 * j + i ≤ u ∧ u < 8 * j + g 6 j) → P' u = P u) ∧ hc'.1 = hc.1 ∧ (∀ y, (g 5 y < 100 ∨ 300 ≤ g 5 y) → sm hc hc' y) ∧ fr7 hr hr' ∧ (∀ b u, (b < 41 ∨ 51 < b) → gz_v hr' b u = gz_v hr b u) ∧ (∀ u, ¬ (8 * j + i ≤ u ∧ u < 8 * j + g 6 j) → gz_v hr' 51 u = gz_v hr 51 u) ∧ (∀ u, i ≤ u → u < g 6 j → gz_I hr' 51 (8 * j + u) = if bt L u = true then 1 else 0) := by
  intro dd
  induction dd with
  | zero =>
    intro i hi P hc hr H lit hP hz
    have hi : i = g 6 j := by omega
    have jk := (H.2.2.1 j hj).1.2.1
    have m := H.1.1
    have h8 := H.1.2.2.2.2.2.1
    have S8 := H.1.2.2.2.2.2.2.2.2.2.2.2.1 j
    have e16 := H.1.2.2.2.2.2.2.2.2.2.2.1 j (by omega)
    have k1 : ¬ nI i < nI (g 6 j) := nI_nlt (by omega) (by omega)
    have d2 : ¬ nI j < 0 := nI_pos (by omega)
    have d3 : (nI j).toNatClampNeg = j := nI_clamp (by omega)
    have d4 : j < 8 := by omega
    refine ⟨hc, hr, P, [.ref (g 0 j), .int (nI T), .int (nI i)], [.ref 15, .int (nI j), .int p, .int L, .int (nI i)], gz_loop_exit ?_ (by decide), gz_loop_exit ?_ (by decide), H, hP, fun u h1 h2 => by omega, fun u _ => rfl, rfl, fun _ _ => sm_rf _ _, fr7_rf _, fun _ _ _ => rfl, fun _ _ => rfl, fun u h1 h2 => by omega⟩
    · simp only [lb_X1_pass_25, gz_sem, gz_ae, Value.category, gz_i, gz_l, gz_nu, gz_li, gz_ll, gz_la, gz_ib, gz_iz, gz_lb, gz_lz, gz_ls, gz_lc, gz_i2l, gz_l2i, gz_get, gz_ald, gz_len, gz_dup, gz_d2, gz_nar, gz_a0, gz_a1, gz_cs, gz_cv, gz_mk, gz_te, gz_j1, gz_j2, gz_jn, gz_jk, gz_jo, gz_ja, gz_sat, gz_seti, gz_seta, gz_set2, gz_inc, gz_put, gz_ast, gz_pop, gz_vs, gz_vv, gz_sup, gz_rv, gz_ri, gz_rl, gz_ra, gz_if, gz_seq, gz_sw, gz_st, gz_st2, rok_I, rok_J, rok_V, rok_Z0, rok_Z1, rok_Zi, rok_R, rok_N, bi_rok, bi_0, bi_1, fit_I, fit_J, fit_Z0, fit_Z1, fit_Zi, fit_R, fit_N, fit_aR, aty_I, aty_Z0, aty_Z1, aty_Zi, aty_J, gz_ix, List.getElem?_cons_zero, List.getElem?_cons_succ, List.getElem?_nil, List.reverse_cons, List.reverse_nil, List.nil_append, List.cons_append, List.take_succ_cons, List.take_zero, List.take_nil, List.length_cons, List.length_nil, decide_true, decide_false, decide_not, Bool.not_true, Bool.not_false, gz_nle, if_true, if_false, and_true, true_and, and_self, and_false, false_and, or_true, true_or, or_false, false_or, Bool.false_eq_true, not_true, not_false_iff, Decidable.not_not, Nat.reduceLeDiff, Nat.reduceAdd, Nat.reduceEqDiff, Nat.reduceSub, Nat.reduceLT, Nat.zero_add, reduceCtorEq, reduceIte, eq_self, i32_10, i32_01, Nat.zero_le, Nat.one_ne_zero, jk, k1]
    · simp only [lb_X8_runJunction_123, gz_sem, gz_ae, Value.category, gz_i, gz_l, gz_nu, gz_li, gz_ll, gz_la, gz_ib, gz_iz, gz_lb, gz_lz, gz_ls, gz_lc, gz_i2l, gz_l2i, gz_get, gz_ald, gz_len, gz_dup, gz_d2, gz_nar, gz_a0, gz_a1, gz_cs, gz_cv, gz_mk, gz_te, gz_j1, gz_j2, gz_jn, gz_jk, gz_jo, gz_ja, gz_sat, gz_seti, gz_seta, gz_set2, gz_inc, gz_put, gz_ast, gz_pop, gz_vs, gz_vv, gz_sup, gz_rv, gz_ri, gz_rl, gz_ra, gz_if, gz_seq, gz_sw, gz_st, gz_st2, rok_I, rok_J, rok_V, rok_Z0, rok_Z1, rok_Zi, rok_R, rok_N, bi_rok, bi_0, bi_1, fit_I, fit_J, fit_Z0, fit_Z1, fit_Zi, fit_R, fit_N, fit_aR, aty_I, aty_Z0, aty_Z1, aty_Zi, aty_J, gz_ix, List.getElem?_cons_zero, List.getElem?_cons_succ, List.getElem?_nil, List.reverse_cons, List.reverse_nil, List.nil_append, List.cons_append, List.take_succ_cons, List.take_zero, List.take_nil, List.length_cons, List.length_nil, decide_true, decide_false, decide_not, Bool.not_true, Bool.not_false, gz_nle, if_true, if_false, and_true, true_and, and_self, and_false, false_and, or_true, true_or, or_false, false_or, Bool.false_eq_true, not_true, not_false_iff, Decidable.not_not, Nat.reduceLeDiff, Nat.reduceAdd, Nat.reduceEqDiff, Nat.reduceSub, Nat.reduceLT, Nat.zero_add, reduceCtorEq, reduceIte, eq_self, i32_10, i32_01, Nat.zero_le, Nat.one_ne_zero, m, md_k, d2, d3, d4, e16, k1]
  | succ dd ih =>
    intro i hi P hc hr H lit hP hz
    have jk := (H.2.2.1 j hj).1.2.1
    have m := H.1.1
    have h8 := H.1.2.2.2.2.2.1
    have S8 := H.1.2.2.2.2.2.2.2.2.2.2.2.1 j
    have e16 := H.1.2.2.2.2.2.2.2.2.2.2.1 j (by omega)
    have k1 : nI i < nI (g 6 j) := nI_lt (by omega) (by omega)
    have d2 : ¬ nI j < 0 := nI_pos (by omega)
    have d3 : (nI j).toNatClampNeg = j := nI_clamp (by omega)
    have d4 : j < 8 := by omega
    have i2 : ¬ nI i < 0 := nI_pos (by omega)
    have i3 : (nI i).toNatClampNeg = i := nI_clamp (by omega)
    have i4 : i < 8 := by omega
    have xs : EX g (8 * j + i) := ⟨by omega, by rw [show (8 * j + i) % 8 = i by omega, show (8 * j + i) / 8 = j by omega]; omega⟩
    obtain ⟨gb, hgb⟩ : ∃ gb : Int32, gb = if bt L i = true then 1 else 0 := ⟨_, rfl⟩
    have hg : gb = 0 ∨ gb = 1 := by
      by_cases z : bt L i = true
      · rw [if_pos z] at hgb; exact Or.inr hgb
      · rw [if_neg z] at hgb; exact Or.inl hgb
    obtain ⟨h1, r1, a1, a2, a3, a4, a5, a6, a7, a8, a9⟩ := st_step H hT hP xs (hz i (Nat.le_refl _) (by omega)) gb hg
    have sr := (H.2.2.1 j hj).1.2.2.2.2 i (by omega)
    have sk := (H.2.2.2.1.1 _ xs).2.1.1
    have ca := (H.2.2.1 j hj).1.2.2.2.1 0 (by omega)
    rw [Nat.add_zero] at ca
    have lit1 : gz_v h1 (g 0 j) 10 = .int L := by rw [(a5 _ (by omega)).1]; exact lit
    obtain ⟨h2, r2, P2, e, e', b1, b2, b3, b4, b5, b6, b7, b8, b9, b10, b11, b12⟩ := ih (i + 1) (by omega) (fun u => if u = 8 * j + i then 1 else P u) h1 r1 a3 lit1 (fun u => by
      show (if u = 8 * j + i then 1 else P u) ≤ 1
      split
      · exact Nat.le_refl _
      · exact hP u) (fun u hu1 hu2 => by
      show (if 8 * j + u = 8 * j + i then 1 else P (8 * j + u)) = 0
      rw [if_neg (by omega)]; exact hz u (by omega) hu2)
    have bt1 := bt_t (i := i) (by omega) L
    have w1 : 8 * nI j + nI i = nI (8 * j + i) := by
      rw [show (8 : Int32) = nI 8 from rfl, pk_mul, nI_add]
    refine ⟨h2, r2, P2, e, e', gz_loop_next (env1 := [.ref (g 0 j), .int (nI T), .int (nI (i + 1))]) ?_ b1, gz_loop_next (env1 := [.ref 15, .int (nI j), .int p, .int L, .int (nI (i + 1))]) ?_ b2, b3, b4, fun u h1 h2 => ?_, fun u hu => ?_, b7.trans a4, fun y hy => ⟨(b8 y hy).1.trans (a5 y hy).1, (b8 y hy).2.trans (a5 y hy).2⟩, ⟨b9.1.trans a6.1, fun y hy => ⟨(b9.2 y hy).1.trans (a6.2 y hy).1, (b9.2 y hy).2.trans (a6.2 y hy).2⟩⟩, fun b u hb => (b10 b u hb).trans (a7 b u hb), fun u hu => ?_, fun u h1 h2 => ?_⟩
    · by_cases z : bt L i = true
      · rw [if_pos z] at hgb
        subst hgb
        simp only [lb_X1_pass_25, gz_sem, gz_ae, Value.category, gz_i, gz_l, gz_nu, gz_li, gz_ll, gz_la, gz_ib, gz_iz, gz_lb, gz_lz, gz_ls, gz_lc, gz_i2l, gz_l2i, gz_get, gz_ald, gz_len, gz_dup, gz_d2, gz_nar, gz_a0, gz_a1, gz_cs, gz_cv, gz_mk, gz_te, gz_j1, gz_j2, gz_jn, gz_jk, gz_jo, gz_ja, gz_sat, gz_seti, gz_seta, gz_set2, gz_inc, gz_put, gz_ast, gz_pop, gz_vs, gz_vv, gz_sup, gz_rv, gz_ri, gz_rl, gz_ra, gz_if, gz_seq, gz_sw, gz_st, gz_st2, rok_I, rok_J, rok_V, rok_Z0, rok_Z1, rok_Zi, rok_R, rok_N, bi_rok, bi_0, bi_1, fit_I, fit_J, fit_Z0, fit_Z1, fit_Zi, fit_R, fit_N, fit_aR, aty_I, aty_Z0, aty_Z1, aty_Zi, aty_J, gz_ix, List.getElem?_cons_zero, List.getElem?_cons_succ, List.getElem?_nil, List.reverse_cons, List.reverse_nil, List.nil_append, List.cons_append, List.take_succ_cons, List.take_zero, List.take_nil, List.length_cons, List.length_nil, decide_true, decide_false, decide_not, Bool.not_true, Bool.not_false, gz_nle, if_true, if_false, and_true, true_and, and_self, and_false, false_and, or_true, true_or, or_false, false_or, Bool.false_eq_true, not_true, not_false_iff, Decidable.not_not, Nat.reduceLeDiff, Nat.reduceAdd, Nat.reduceEqDiff, Nat.reduceSub, Nat.reduceLT, Nat.zero_add, reduceCtorEq, reduceIte, eq_self, i32_10, i32_01, Nat.zero_le, Nat.one_ne_zero, jk, k1, i2, i3, i4, sr, sk, lit, bt1, z, a1, nI_1]
      · rw [if_neg z] at hgb
        subst hgb
        simp only [lb_X1_pass_25, gz_sem, gz_ae, Value.category, gz_i, gz_l, gz_nu, gz_li, gz_ll, gz_la, gz_ib, gz_iz, gz_lb, gz_lz, gz_ls, gz_lc, gz_i2l, gz_l2i, gz_get, gz_ald, gz_len, gz_dup, gz_d2, gz_nar, gz_a0, gz_a1, gz_cs, gz_cv, gz_mk, gz_te, gz_j1, gz_j2, gz_jn, gz_jk, gz_jo, gz_ja, gz_sat, gz_seti, gz_seta, gz_set2, gz_inc, gz_put, gz_ast, gz_pop, gz_vs, gz_vv, gz_sup, gz_rv, gz_ri, gz_rl, gz_ra, gz_if, gz_seq, gz_sw, gz_st, gz_st2, rok_I, rok_J, rok_V, rok_Z0, rok_Z1, rok_Zi, rok_R, rok_N, bi_rok, bi_0, bi_1, fit_I, fit_J, fit_Z0, fit_Z1, fit_Zi, fit_R, fit_N, fit_aR, aty_I, aty_Z0, aty_Z1, aty_Zi, aty_J, gz_ix, List.getElem?_cons_zero, List.getElem?_cons_succ, List.getElem?_nil, List.reverse_cons, List.reverse_nil, List.nil_append, List.cons_append, List.take_succ_cons, List.take_zero, List.take_nil, List.length_cons, List.length_nil, decide_true, decide_false, decide_not, Bool.not_true, Bool.not_false, gz_nle, if_true, if_false, and_true, true_and, and_self, and_false, false_and, or_true, true_or, or_false, false_or, Bool.false_eq_true, not_true, not_false_iff, Decidable.not_not, Nat.reduceLeDiff, Nat.reduceAdd, Nat.reduceEqDiff, Nat.reduceSub, Nat.reduceLT, Nat.zero_add, reduceCtorEq, reduceIte, eq_self, i32_10, i32_01, Nat.zero_le, Nat.one_ne_zero, jk, k1, i2, i3, i4, sr, sk, lit, bt1, z, a1, nI_1]
    · by_cases z : bt L i = true
      · rw [if_pos z] at hgb
        subst hgb
        simp only [lb_X8_runJunction_123, gz_sem, gz_ae, Value.category, gz_i, gz_l, gz_nu, gz_li, gz_ll, gz_la, gz_ib, gz_iz, gz_lb, gz_lz, gz_ls, gz_lc, gz_i2l, gz_l2i, gz_get, gz_ald, gz_len, gz_dup, gz_d2, gz_nar, gz_a0, gz_a1, gz_cs, gz_cv, gz_mk, gz_te, gz_j1, gz_j2, gz_jn, gz_jk, gz_jo, gz_ja, gz_sat, gz_seti, gz_seta, gz_set2, gz_inc, gz_put, gz_ast, gz_pop, gz_vs, gz_vv, gz_sup, gz_rv, gz_ri, gz_rl, gz_ra, gz_if, gz_seq, gz_sw, gz_st, gz_st2, rok_I, rok_J, rok_V, rok_Z0, rok_Z1, rok_Zi, rok_R, rok_N, bi_rok, bi_0, bi_1, fit_I, fit_J, fit_Z0, fit_Z1, fit_Zi, fit_R, fit_N, fit_aR, aty_I, aty_Z0, aty_Z1, aty_Zi, aty_J, gz_ix, List.getElem?_cons_zero, List.getElem?_cons_succ, List.getElem?_nil, List.reverse_cons, List.reverse_nil, List.nil_append, List.cons_append, List.take_succ_cons, List.take_zero, List.take_nil, List.length_cons, List.length_nil, decide_true, decide_false, decide_not, Bool.not_true, Bool.not_false, gz_nle, if_true, if_false, and_true, true_and, and_self, and_false, false_and, or_true, true_or, or_false, false_or, Bool.false_eq_true, not_true, not_false_iff, Decidable.not_not, Nat.reduceLeDiff, Nat.reduceAdd, Nat.reduceEqDiff, Nat.reduceSub, Nat.reduceLT, Nat.zero_add, reduceCtorEq, reduceIte, eq_self, i32_10, i32_01, Nat.zero_le, Nat.one_ne_zero, m, md_k, d2, d3, d4, e16, k1, w1, bt1, z, a2, nI_1]
      · rw [if_neg z] at hgb
        subst hgb
        simp only [lb_X8_runJunction_123, gz_sem, gz_ae, Value.category, gz_i, gz_l, gz_nu, gz_li, gz_ll, gz_la, gz_ib, gz_iz, gz_lb, gz_lz, gz_ls, gz_lc, gz_i2l, gz_l2i, gz_get, gz_ald, gz_len, gz_dup, gz_d2, gz_nar, gz_a0, gz_a1, gz_cs, gz_cv, gz_mk, gz_te, gz_j1, gz_j2, gz_jn, gz_jk, gz_jo, gz_ja, gz_sat, gz_seti, gz_seta, gz_set2, gz_inc, gz_put, gz_ast, gz_pop, gz_vs, gz_vv, gz_sup, gz_rv, gz_ri, gz_rl, gz_ra, gz_if, gz_seq, gz_sw, gz_st, gz_st2, rok_I, rok_J, rok_V, rok_Z0, rok_Z1, rok_Zi, rok_R, rok_N, bi_rok, bi_0, bi_1, fit_I, fit_J, fit_Z0, fit_Z1, fit_Zi, fit_R, fit_N, fit_aR, aty_I, aty_Z0, aty_Z1, aty_Zi, aty_J, gz_ix, List.getElem?_cons_zero, List.getElem?_cons_succ, List.getElem?_nil, List.reverse_cons, List.reverse_nil, List.nil_append, List.cons_append, List.take_succ_cons, List.take_zero, List.take_nil, List.length_cons, List.length_nil, decide_true, decide_false, decide_not, Bool.not_true, Bool.not_false, gz_nle, if_true, if_false, and_true, true_and, and_self, and_false, false_and, or_true, true_or, or_false, false_or, Bool.false_eq_true, not_true, not_false_iff, Decidable.not_not, Nat.reduceLeDiff, Nat.reduceAdd, Nat.reduceEqDiff, Nat.reduceSub, Nat.reduceLT, Nat.zero_add, reduceCtorEq, reduceIte, eq_self, i32_10, i32_01, Nat.zero_le, Nat.one_ne_zero, m, md_k, d2, d3, d4, e16, k1, w1, bt1, z, a2, nI_1]
    · by_cases q : u = i
      · rw [q, b6 _ (by omega)]
        show (if 8 * j + i = 8 * j + i then 1 else P _) = 1
        rw [if_pos rfl]
      · exact b5 u (by omega) h2
    · rw [b6 u (by omega)]
      show (if u = 8 * j + i then 1 else P u) = P u
      rw [if_neg (by omega)]
    · rw [b11 u (by omega)]; exact a8 u (by omega)
    · by_cases q : u = i
      · rw [q, vI (b11 _ (by omega)), a9, hgb]
      · exact b12 u (by omega) h2
