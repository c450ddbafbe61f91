def ft7 (hc : gz_H) (a T : Nat) (L : Int32) : gz_H := gz_set (gz_set hc a 10 (.int L)) (a + 5) (T % 200) (.int L)
/-- behind the lamps -/
theorem jn_tail {g : gz_G} {T j : Nat} {P : Nat → Nat} {hc hr hcF hrF : gz_H} (H : IC g T P hc hr) (hT : T < 100000) (hj : j < g 7 0) (hP : ∀ u, P u ≤ 1) (hz : ∀ u, u < g 6 j → P (8 * j + u) = 0) (hF : (hcF = hc ∧ hrF = hr) ∨ (hcF = gz_set hc (g 0 j) 8 (.int 1) ∧ hrF = gz_set hr 31 j (.int 1))) (L p : Int32) : md hrF ∧ jc hcF (g 0 j) (g 6 j) ∧ ∃ hc' hr' P' e e', gz_loop 25 3 lb_X1_pass_25 [.ref (g 0 j), .int (nI T), .int 0] (ft7 hcF (g 0 j) T L) = some (.inl (65, e, hc')) ∧ gz_loop 123 5 lb_X8_runJunction_123 [.ref 15, .int (nI j), .int p, .int L, .int 0] (gz_set hrF 52 (200 * j + T % 200) (.int L)) = some (.inl (166, e', hr')) ∧ IC g T P' hc' hr' ∧ (∀ u, P' u ≤ 1) ∧ (∀ u, u < g 6 j → P' (8 * j + u) = 1) ∧ (∀ u, ¬ (8 * j ≤ u ∧ u < 8 * j + g 6 j) → P' u = P u) ∧ hc'.1 = hc.1 ∧ (∀ y, (g 5 y < 100 ∨ 300 ≤ g 5 y) → g 5 y ≠ 1 + j → sm hc hc' y) ∧ fr7 hr hr' ∧ (∀ u, ¬ (8 * j ≤ u ∧ u < 8 * j + g 6 j) → gz_v hr' 51 u = gz_v hr 51 u) ∧ (∀ u, u < g 6 j → gz_I hr' 51 (8 * j + u) = if bt (gz_I hc' (g 0 j) 10) u = true then 1 else 0) ∧ gz_v hr' 15 = gz_v hr 15 := by
  have V := H.2.2.1 j hj
  have h8 := H.1.2.2.2.2.2.1
  have m := H.1.1
  obtain ⟨V1, V2, V3, V4, V5⟩ := V
  have a55 := V1.1
  have co := V1.2.2.2.1
  have co0 := co 0 (by omega)
  rw [Nat.add_zero] at co0
  have co5 := co 5 (by omega)
  have J1F : J1 g hcF j := by
    rcases hF with ⟨z, -⟩ | ⟨z, -⟩
    · rw [z]; exact V1
    · rw [z]; exact J1_fld V1 (by omega)
  have mF : md hrF := by
    rcases hF with ⟨-, z⟩ | ⟨-, z⟩
    · rw [z]; exact m
    · rw [z]; exact md_setI m _ _ _ (by omega)
  have smF : ∀ x, x ≠ g 0 j → sm hc hcF x := fun x hx => by
    rcases hF with ⟨z, -⟩ | ⟨z, -⟩
    · rw [z]; exact sm_rf _ _
    · rw [z]; exact sm_set (sm_rf _ _) hx
  have nF : hcF.1 = hc.1 := by rcases hF with ⟨z, -⟩ | ⟨z, -⟩ <;> rw [z] <;> rfl
  have vF : ∀ f, f ≠ 8 → gz_v hcF (g 0 j) f = gz_v hc (g 0 j) f := fun f hf => by
    rcases hF with ⟨z, -⟩ | ⟨z, -⟩
    · rw [z]
    · rw [z, gz_v_set, if_neg (fun u => hf u.2)]
  have v8 : gz_v hcF (g 0 j) 8 = .int (gz_I hrF 31 j) ∧ (gz_I hrF 31 j = 0 ∨ gz_I hrF 31 j = 1) := by
    rcases hF with ⟨z, z2⟩ | ⟨z, z2⟩
    · rw [z, z2]; exact ⟨V5.1, V5.2.1⟩
    · rw [z, z2, gz_v_set, if_pos ⟨rfl, rfl⟩, I_set, if_pos ⟨rfl, rfl⟩]; exact ⟨rfl, Or.inr rfl⟩
  have rF : ∀ b i, ¬ (b = 31 ∧ i = j) → gz_v hrF b i = gz_v hr b i := fun b i h => by
    rcases hF with ⟨-, z⟩ | ⟨-, z⟩
    · rw [z]
    · rw [z, gz_v_set, if_neg h]
  have f7F : fr7 hr hrF := by
    rcases hF with ⟨-, z⟩ | ⟨-, z⟩
    · rw [z]; exact fr7_rf _
    · rw [z]; exact fr7_set (fr7_rf _) (by omega)
  have sm1 : ∀ x, x ≠ g 0 j → x ≠ g 0 j + 5 → sm hc (ft7 hcF (g 0 j) T L) x := fun x h1 h2 => sm_set (sm_set (smF x h1) h1) h2
  have v1 : ∀ f, f ≠ 8 → f ≠ 10 → gz_v (ft7 hcF (g 0 j) T L) (g 0 j) f = gz_v hc (g 0 j) f := fun f h1 h2 => by
    unfold ft7; rw [gz_v_set, if_neg (by omega), gz_v_set, if_neg (fun z => h2 z.2)]; exact vF f h1
  have v10 : gz_v (ft7 hcF (g 0 j) T L) (g 0 j) 10 = .int L := by
    unfold ft7; rw [gz_v_set, if_neg (by omega), gz_v_set, if_pos ⟨rfl, rfl⟩]
  have v88 : gz_v (ft7 hcF (g 0 j) T L) (g 0 j) 8 = .int (gz_I hrF 31 j) := by
    unfold ft7; rw [gz_v_set, if_neg (by omega), gz_v_set, if_neg (by omega)]; exact v8.1
  have r1 : ∀ b i, ¬ (b = 52 ∧ i = 200 * j + T % 200) → gz_v (gz_set hrF 52 (200 * j + T % 200) (.int L)) b i = gz_v hrF b i := fun b i h => by rw [gz_v_set, if_neg h]
  have tm := Nat.mod_lt T (show 0 < 200 by omega)
  have I1 : IC g T P (ft7 hcF (g 0 j) T L) (gz_set hrF 52 (200 * j + T % 200) (.int L)) := by
    refine IC_jl H hj nF sm1 (J1_row (J1_fld J1F (by omega)) (by omega) (by omega)) (fun f hf => v1 f (by omega) (by omega)) ?_ (md_setI mF _ _ _ (by omega)) (fun b i h1 h2 => ?_)
    · refine ⟨?_, ?_, ?_, ?_, fun u hu => ?_⟩
      · rw [v88, vI (r1 _ _ (by omega))]
      · rw [vI (r1 _ _ (by omega))]; exact v8.2
      · rw [v1 9 (by omega) (by omega), vI (r1 _ _ (by omega)), vI (rF _ _ (by omega))]; exact V5.2.2.1
      · rw [gz_I_of v10]; exact v10
      · have er : gz_I (gz_set hrF 52 (200 * j + T % 200) (.int L)) 52 (200 * j + u) = if u = T % 200 then L else gz_I hrF 52 (200 * j + u) := by
          rw [I_set]
          by_cases z : u = T % 200
          · rw [if_pos ⟨rfl, by omega⟩, if_pos z]
          · rw [if_neg (by omega), if_neg z]
        have ecl : gz_I (ft7 hcF (g 0 j) T L) (g 0 j + 5) u = if u = T % 200 then L else gz_I hcF (g 0 j + 5) u := by
          unfold ft7
          rw [I_set]
          by_cases z : u = T % 200
          · rw [if_pos ⟨rfl, z⟩, if_pos z]
          · rw [if_neg (fun w => z w.2), if_neg z, I_seto _ _ _ _ _ _ (by omega)]
        rw [er, ecl]
        by_cases z : u = T % 200
        · rw [if_pos z, if_pos z]
        · rw [if_neg z, if_neg z, sm_I (smF _ (by omega)), vI (rF _ _ (by omega))]
          exact V5.2.2.2.2 u hu
    · rw [r1 b i (fun z => h2 ⟨z.1, by omega⟩)]; exact rF b i h1
  obtain ⟨hc', hr', P', e, e', b1, b2, b3, b4, b5, b6, b7, b8, b9, b10, b11, b12⟩ := jn_loop hT hj L p (g 6 j) 0 (by omega) P _ _ I1 v10 hP (fun u _ h => hz u h)
  rw [nI_0] at b1 b2
  rw [Nat.add_zero] at b6 b11
  have l10 : gz_I hc' (g 0 j) 10 = L := by rw [sm_I (b8 _ (by omega))]; exact gz_I_of v10
  refine ⟨mF, J1F.2.1, hc', hr', P', e, e', b1, b2, b3, b4, fun u h => b5 u (by omega) h, b6, b7.trans nF, fun y hy h1 => ?_, ⟨b9.1.trans f7F.1, fun y hy => ⟨?_, ?_⟩⟩, fun u hu => ?_, fun u hu => by rw [l10]; exact b12 u (by omega) hu, ?_⟩
  · have s1 := sm1 y (fun z => h1 (by rw [z]; exact co0)) (fun z => h1 (by rw [z]; exact co5))
    exact ⟨(b8 y hy).1.trans s1.1, (b8 y hy).2.trans s1.2⟩
  · rw [(b9.2 y hy).1]
    have : gz_v (gz_set hrF 52 (200 * j + T % 200) (.int L)) y = gz_v hrF y := funext (fun i => r1 y i (by omega))
    rw [this]; exact (f7F.2 y hy).1
  · exact (b9.2 y hy).2.trans (f7F.2 y hy).2
  · rw [b11 u hu, r1 _ _ (by omega)]; exact rF _ _ (by omega)
  · funext i
    rw [b10 15 i (by omega), r1 _ _ (by omega)]; exact rF _ _ (by omega)
set_option maxHeartbeats 16000000 in
theorem jn_step {g : gz_G} {T j : Nat} {P : Nat → Nat} {hc hr : gz_H} (H : IC g T P hc hr) (hT : T < 100000) (hj : j < g 7 0) (hP : ∀ u, P u ≤ 1) (hz : ∀ u, u < g 6 j → P (8 * j + u) = 0) : ∃ hc' hr' P', se_X1_pass [.ref (g 0 j), .int (nI T)] hc = some (none, hc') ∧ se_X8_runJunction [.ref 15, .int (nI j)] hr = some (none, hr') ∧ IC g T P' hc' hr' ∧ (∀ u, P' u ≤ 1) ∧ (∀ u, u < g 6 j → P' (8 * j + u) = 1) ∧ (∀ u, ¬ (8 * j ≤ u ∧ u < 8 * j + g 6 j) → P' u = P u) ∧ hc'.1 = hc.1 ∧ (∀ y, (g 5 y < 100 ∨ 300 ≤ g 5 y) → g 5 y ≠ 1 + j → sm hc hc' y) ∧ fr7 hr hr' ∧ (∀ u, ¬ (8 * j ≤ u ∧ u < 8 * j + g 6 j) → gz_v hr' 51 u = gz_v hr 51 u) ∧ (∀ u, u < g 6 j → gz_I hr' 51 (8 * j + u) = if bt (gz_I hc' (g 0 j) 10) u = true then 1 else 0) ∧ gz_v hr' 15 = gz_v hr 15 := by
  have V := H.2.2.1 j hj
  have h8 := H.1.2.2.2.2.2.1
  have m := H.1.1
  have h15 : gz_I hr 15 1 = nI T := H.1.2.2.2.2.2.2.2.2.1
  have jk := V.1.2.1
  have d2 : ¬ nI j < 0 := nI_pos (by omega)
  have d3 : (nI j).toNatClampNeg = j := nI_clamp (by omega)
  have d4 : j < 8 := by omega
  have f1 : 8 + nI j = nI (8 + j) := nI_add 8 j
  have f2 : ¬ nI (8 + j) < 0 := nI_pos (by omega)
  have f3 : (nI (8 + j)).toNatClampNeg = 8 + j := nI_clamp (by omega)
  have f4 : 8 + j < 16 := by omega
  have tm := Nat.mod_lt T (show 0 < 200 by omega)
  have g0 : ((200 : Int32) = 0) = False := by decide
  have t1 : nI T - nI T / 200 * 200 = nI (T % 200) := pk_rem (d := 200) (by omega) (by omega) (by omega)
  have t2 : ¬ nI (T % 200) < 0 := nI_pos (by omega)
  have t3 : (nI (T % 200)).toNatClampNeg = T % 200 := nI_clamp (by omega)
  have w1 : 200 * nI j + nI (T % 200) = nI (200 * j + T % 200) := by
    rw [show (200 : Int32) = nI 200 from rfl, pk_mul, nI_add]
  have w2 : ¬ nI (200 * j + T % 200) < 0 := nI_pos (by omega)
  have w3 : (nI (200 * j + T % 200)).toNatClampNeg = 200 * j + T % 200 := nI_clamp (by omega)
  have w4 : 200 * j + T % 200 < 1600 := by omega
  -- the class's pass
  have cls : ∀ hcF L e hc', jc hcF (g 0 j) (g 6 j) → se_X1_lampsAt [.ref (g 0 j), .int (nI T)] hc = some (some (.int L), hcF) → gz_loop 25 3 lb_X1_pass_25 [.ref (g 0 j), .int (nI T), .int 0] (ft7 hcF (g 0 j) T L) = some (.inl (65, e, hc')) → se_X1_pass [.ref (g 0 j), .int (nI T)] hc = some (none, hc') := by
    intro hcF L e hc' jF la lo
    have jF1 := jc_f jF 10 (.int L) (by omega)
    have v10 : gz_v (gz_set hcF (g 0 j) 10 (.int L)) (g 0 j) 10 = .int L := by rw [gz_v_set, if_pos ⟨rfl, rfl⟩]
    unfold ft7 at lo
    simp only [se_X1_pass, sm_X1_pass, gz_sem, gz_ae, Value.category, gz_i, gz_l, gz_nu, gz_li, gz_ll, gz_la, gz_ib, gz_iz, gz_lb, gz_lz, gz_ls, gz_lc, gz_i2l, gz_l2i, gz_get, gz_ald, gz_len, gz_dup, gz_d2, gz_nar, gz_a0, gz_a1, gz_cs, gz_cv, gz_mk, gz_te, gz_j1, gz_j2, gz_jn, gz_jk, gz_jo, gz_ja, gz_sat, gz_seti, gz_seta, gz_set2, gz_inc, gz_put, gz_ast, gz_pop, gz_vs, gz_vv, gz_sup, gz_rv, gz_ri, gz_rl, gz_ra, gz_if, gz_seq, gz_sw, gz_st, gz_st2, rok_I, rok_J, rok_V, rok_Z0, rok_Z1, rok_Zi, rok_R, rok_N, bi_rok, bi_0, bi_1, fit_I, fit_J, fit_Z0, fit_Z1, fit_Zi, fit_R, fit_N, fit_aR, aty_I, aty_Z0, aty_Z1, aty_Zi, aty_J, gz_ix, List.getElem?_cons_zero, List.getElem?_cons_succ, List.getElem?_nil, List.reverse_cons, List.reverse_nil, List.nil_append, List.cons_append, List.take_succ_cons, List.take_zero, List.take_nil, List.length_cons, List.length_nil, decide_true, decide_false, decide_not, Bool.not_true, Bool.not_false, gz_nle, if_true, if_false, and_true, true_and, and_self, and_false, false_and, or_true, true_or, or_false, false_or, Bool.false_eq_true, not_true, not_false_iff, Decidable.not_not, Nat.reduceLeDiff, Nat.reduceAdd, Nat.reduceEqDiff, Nat.reduceSub, Nat.reduceLT, Nat.zero_add, reduceCtorEq, reduceIte, eq_self, i32_10, i32_01, Nat.zero_le, Nat.one_ne_zero, jk, jF, jF1, la, g0, t1, t2, t3, tm, v10, lo]
  obtain ⟨V1, V2, V3, V4, V5⟩ := V
  rcases V4 with ⟨q1, q2⟩ | ⟨q1, q2, po, n, c, pv, tk⟩
  · obtain ⟨mF, jF, hc', hr', P', e, e', b1, b2, b3⟩ := jn_tail H hT hj hP hz (Or.inl ⟨rfl, rfl⟩) 0 (nI (8 + j))
    refine ⟨hc', hr', P', cls hc 0 e hc' jF ?_ b1, ?_, b3⟩
    · simp only [se_X1_lampsAt, sm_X1_lampsAt, gz_sem, gz_ae, Value.category, gz_i, gz_l, gz_nu, gz_li, gz_ll, gz_la, gz_ib, gz_iz, gz_lb, gz_lz, gz_ls, gz_lc, gz_i2l, gz_l2i, gz_get, gz_ald, gz_len, gz_dup, gz_d2, gz_nar, gz_a0, gz_a1, gz_cs, gz_cv, gz_mk, gz_te, gz_j1, gz_j2, gz_jn, gz_jk, gz_jo, gz_ja, gz_sat, gz_seti, gz_seta, gz_set2, gz_inc, gz_put, gz_ast, gz_pop, gz_vs, gz_vv, gz_sup, gz_rv, gz_ri, gz_rl, gz_ra, gz_if, gz_seq, gz_sw, gz_st, gz_st2, rok_I, rok_J, rok_V, rok_Z0, rok_Z1, rok_Zi, rok_R, rok_N, bi_rok, bi_0, bi_1, fit_I, fit_J, fit_Z0, fit_Z1, fit_Zi, fit_R, fit_N, fit_aR, aty_I, aty_Z0, aty_Z1, aty_Zi, aty_J, gz_ix, List.getElem?_cons_zero, List.getElem?_cons_succ, List.getElem?_nil, List.reverse_cons, List.reverse_nil, List.nil_append, List.cons_append, List.take_succ_cons, List.take_zero, List.take_nil, List.length_cons, List.length_nil, decide_true, decide_false, decide_not, Bool.not_true, Bool.not_false, gz_nle, if_true, if_false, and_true, true_and, and_self, and_false, false_and, or_true, true_or, or_false, false_or, Bool.false_eq_true, not_true, not_false_iff, Decidable.not_not, Nat.reduceLeDiff, Nat.reduceAdd, Nat.reduceEqDiff, Nat.reduceSub, Nat.reduceLT, Nat.zero_add, reduceCtorEq, reduceIte, eq_self, i32_10, i32_01, Nat.zero_le, Nat.one_ne_zero, jk, q2]
    · simp only [se_X8_runJunction, sm_X8_runJunction, gz_sem, gz_ae, Value.category, gz_i, gz_l, gz_nu, gz_li, gz_ll, gz_la, gz_ib, gz_iz, gz_lb, gz_lz, gz_ls, gz_lc, gz_i2l, gz_l2i, gz_get, gz_ald, gz_len, gz_dup, gz_d2, gz_nar, gz_a0, gz_a1, gz_cs, gz_cv, gz_mk, gz_te, gz_j1, gz_j2, gz_jn, gz_jk, gz_jo, gz_ja, gz_sat, gz_seti, gz_seta, gz_set2, gz_inc, gz_put, gz_ast, gz_pop, gz_vs, gz_vv, gz_sup, gz_rv, gz_ri, gz_rl, gz_ra, gz_if, gz_seq, gz_sw, gz_st, gz_st2, rok_I, rok_J, rok_V, rok_Z0, rok_Z1, rok_Zi, rok_R, rok_N, bi_rok, bi_0, bi_1, fit_I, fit_J, fit_Z0, fit_Z1, fit_Zi, fit_R, fit_N, fit_aR, aty_I, aty_Z0, aty_Z1, aty_Zi, aty_J, gz_ix, List.getElem?_cons_zero, List.getElem?_cons_succ, List.getElem?_nil, List.reverse_cons, List.reverse_nil, List.nil_append, List.cons_append, List.take_succ_cons, List.take_zero, List.take_nil, List.length_cons, List.length_nil, decide_true, decide_false, decide_not, Bool.not_true, Bool.not_false, gz_nle, if_true, if_false, and_true, true_and, and_self, and_false, false_and, or_true, true_or, or_false, false_or, Bool.false_eq_true, not_true, not_false_iff, Decidable.not_not, Nat.reduceLeDiff, Nat.reduceAdd, Nat.reduceEqDiff, Nat.reduceSub, Nat.reduceLT, Nat.zero_add, reduceCtorEq, reduceIte, eq_self, i32_10, i32_01, Nat.zero_le, Nat.one_ne_zero, m, md_k, d2, d3, d4, f1, f2, f3, f4, q1, h15, g0, t1, w1, w2, w3, w4, b2]
  · obtain ⟨v1, v2, v3, k, v5, v6, v7, v8⟩ := pv
    obtain ⟨tk1, ⟨of, o1, o2, o3⟩, ⟨w, x1, x2, x3⟩, lam, E, E0, En, hE⟩ := tk
    obtain ⟨pl, hpl⟩ : ∃ pl, pl = gz_fm (nI T - nI of) c := ⟨_, rfl⟩
    have plc : pl < c := by rw [hpl]; exact fm_lt _ (by omega)
    have mono : ∀ d s, s + d ≤ n → E s ≤ E (s + d) := by
      intro d
      induction d with
      | zero => intro s _; exact Nat.le_refl _
      | succ d ih => intro s hs; exact Nat.le_trans (ih s (by omega)) (Nat.le_of_lt (hE (s + d) (by omega)).1)
    have exs : ∃ st, st < n ∧ pl < E (st + 1) := ⟨n - 1, by omega, by rw [show n - 1 + 1 = n by omega, En]; exact plc⟩
    obtain ⟨st, s1, s2, s3⟩ := gz_least (fun st => pl < E (st + 1)) n exs
    have s4 : E st ≤ pl := by
      rcases Nat.eq_zero_or_pos st with z | z
      · rw [z, E0]; exact Nat.zero_le _
      · have := s3 (st - 1) (by omega)
        rw [show st - 1 + 1 = st by omega] at this
        omega
    have e90 : ∀ s, s ≤ n → E s ≤ 90 := fun s hs => by
      have := mono (n - s) s (by omega)
      rw [show s + (n - s) = n by omega, En] at this
      omega
    have so := st_X2_stageOf hc (g 3 (8 + j)) n pl st E k v1 (fun s hs => ⟨(hE s hs).1, (hE s hs).2.1⟩) e90 s1 s4 s2
    have sa := (hE st s1).2.2 pl s4 s2
    have pa := st_X2_placeAt hc (g 3 (8 + j)) n c k (nI T) v5 (by omega) v3
    rw [o2, ← hpl] at pa
    have fm := st_fm (nI T - nI of) c (by omega) (by omega) hr
    rw [← hpl] at fm
    have p2 : ¬ nI pl < 0 := nI_pos (by omega)
    have p3 : (nI pl).toNatClampNeg = pl := nI_clamp (by omega)
    have p4 : pl < 90 := by omega
    have lp := lam pl plc
    have y1 : 90 * nI (8 + j) + nI pl = nI (90 * (8 + j) + pl) := by
      rw [show (90 : Int32) = nI 90 from rfl, pk_mul, nI_add]
    have y2 : ¬ nI (90 * (8 + j) + pl) < 0 := nI_pos (by omega)
    have y3 : (nI (90 * (8 + j) + pl)).toNatClampNeg = 90 * (8 + j) + pl := nI_clamp (by omega)
    have y4 : 90 * (8 + j) + pl < 1440 := by omega
    obtain ⟨j5a, j5b, j5c, j5d, j5e⟩ := V5
    have aq : g 3 (8 + j) ≠ g 0 j := fun z => by
      have c1 := po.2 0 (by omega)
      have c2 := V1.2.2.2.1 0 (by omega)
      rw [Nat.add_zero] at c1 c2
      rw [z, c2] at c1
      omega
    by_cases fl : w ≤ st
    · have fl1 : nI w < nI n := nI_lt (by omega) (by omega)
      have fl2 : ¬ nI st < nI w := nI_nlt fl (by omega)
      obtain ⟨mF, jF, hc', hr', P', e, e', b1, b2, b3⟩ := jn_tail H hT hj hP hz (Or.inr ⟨rfl, rfl⟩) 0 (nI (8 + j))
      have n10 : ¬ (1 : Int32) = 0 := by decide
      have v8' : gz_v (gz_set hc (g 0 j) 8 (.int 1)) (g 0 j) 8 = .int 1 := by rw [gz_v_set, if_pos ⟨rfl, rfl⟩]
      refine ⟨hc', hr', P', cls (gz_set hc (g 0 j) 8 (.int 1)) 0 e hc' jF ?_ b1, ?_, b3⟩
      · simp only [se_X1_lampsAt, sm_X1_lampsAt, gz_sem, gz_ae, Value.category, gz_i, gz_l, gz_nu, gz_li, gz_ll, gz_la, gz_ib, gz_iz, gz_lb, gz_lz, gz_ls, gz_lc, gz_i2l, gz_l2i, gz_get, gz_ald, gz_len, gz_dup, gz_d2, gz_nar, gz_a0, gz_a1, gz_cs, gz_cv, gz_mk, gz_te, gz_j1, gz_j2, gz_jn, gz_jk, gz_jo, gz_ja, gz_sat, gz_seti, gz_seta, gz_set2, gz_inc, gz_put, gz_ast, gz_pop, gz_vs, gz_vv, gz_sup, gz_rv, gz_ri, gz_rl, gz_ra, gz_if, gz_seq, gz_sw, gz_st, gz_st2, rok_I, rok_J, rok_V, rok_Z0, rok_Z1, rok_Zi, rok_R, rok_N, bi_rok, bi_0, bi_1, fit_I, fit_J, fit_Z0, fit_Z1, fit_Zi, fit_R, fit_N, fit_aR, aty_I, aty_Z0, aty_Z1, aty_Zi, aty_J, gz_ix, List.getElem?_cons_zero, List.getElem?_cons_succ, List.getElem?_nil, List.reverse_cons, List.reverse_nil, List.nil_append, List.cons_append, List.take_succ_cons, List.take_zero, List.take_nil, List.length_cons, List.length_nil, decide_true, decide_false, decide_not, Bool.not_true, Bool.not_false, gz_nle, if_true, if_false, and_true, true_and, and_self, and_false, false_and, or_true, true_or, or_false, false_or, Bool.false_eq_true, not_true, not_false_iff, Decidable.not_not, Nat.reduceLeDiff, Nat.reduceAdd, Nat.reduceEqDiff, Nat.reduceSub, Nat.reduceLT, Nat.zero_add, reduceCtorEq, reduceIte, eq_self, i32_10, i32_01, Nat.zero_le, Nat.one_ne_zero, jk, jF, q2, k, pa, x2, fl1, so, fl2, v8']
      · have i31 : gz_I (gz_set hr 31 j (.int 1)) 31 j = 1 := by rw [I_set, if_pos ⟨rfl, rfl⟩]
        have i15 : gz_I (gz_set hr 31 j (.int 1)) 15 1 = nI T := by rw [I_seto _ _ _ _ _ _ (by omega)]; exact h15
        simp only [se_X8_runJunction, sm_X8_runJunction, gz_sem, gz_ae, Value.category, gz_i, gz_l, gz_nu, gz_li, gz_ll, gz_la, gz_ib, gz_iz, gz_lb, gz_lz, gz_ls, gz_lc, gz_i2l, gz_l2i, gz_get, gz_ald, gz_len, gz_dup, gz_d2, gz_nar, gz_a0, gz_a1, gz_cs, gz_cv, gz_mk, gz_te, gz_j1, gz_j2, gz_jn, gz_jk, gz_jo, gz_ja, gz_sat, gz_seti, gz_seta, gz_set2, gz_inc, gz_put, gz_ast, gz_pop, gz_vs, gz_vv, gz_sup, gz_rv, gz_ri, gz_rl, gz_ra, gz_if, gz_seq, gz_sw, gz_st, gz_st2, rok_I, rok_J, rok_V, rok_Z0, rok_Z1, rok_Zi, rok_R, rok_N, bi_rok, bi_0, bi_1, fit_I, fit_J, fit_Z0, fit_Z1, fit_Zi, fit_R, fit_N, fit_aR, aty_I, aty_Z0, aty_Z1, aty_Zi, aty_J, gz_ix, List.getElem?_cons_zero, List.getElem?_cons_succ, List.getElem?_nil, List.reverse_cons, List.reverse_nil, List.nil_append, List.cons_append, List.take_succ_cons, List.take_zero, List.take_nil, List.length_cons, List.length_nil, decide_true, decide_false, decide_not, Bool.not_true, Bool.not_false, gz_nle, if_true, if_false, and_true, true_and, and_self, and_false, false_and, or_true, true_or, or_false, false_or, Bool.false_eq_true, not_true, not_false_iff, Decidable.not_not, Nat.reduceLeDiff, Nat.reduceAdd, Nat.reduceEqDiff, Nat.reduceSub, Nat.reduceLT, Nat.zero_add, reduceCtorEq, reduceIte, eq_self, i32_10, i32_01, Nat.zero_le, Nat.one_ne_zero, m, mF, md_k, d2, d3, d4, f1, f2, f3, f4, q1, h15, o3, v6, fm, y1, y2, y3, y4, sa, x3, fl2, i31, i15, g0, t1, w1, w2, w3, w4, b2]
    · have fl2 : nI st < nI w := nI_lt (by omega) (by omega)
      have f30 : ∀ L, (∃ hcL, se_X1_lampsAt [.ref (g 0 j), .int (nI T)] hc = some (some (.int L), hcL) ∧ hcL = hc) → (∀ e' hr', gz_loop 123 5 lb_X8_runJunction_123 [.ref 15, .int (nI j), .int (nI (8 + j)), .int L, .int 0] (gz_set hr 52 (200 * j + T % 200) (.int L)) = some (.inl (166, e', hr')) → se_X8_runJunction [.ref 15, .int (nI j)] hr = some (none, hr')) → ∃ hc' hr' P', se_X1_pass [.ref (g 0 j), .int (nI T)] hc = some (none, hc') ∧ se_X8_runJunction [.ref 15, .int (nI j)] hr = some (none, hr') ∧ IC g T P' hc' hr' ∧ (∀ u, P' u ≤ 1) ∧ (∀ u, u < g 6 j → P' (8 * j + u) = 1) ∧ (∀ u, ¬ (8 * j ≤ u ∧ u < 8 * j + g 6 j) → P' u = P u) ∧ hc'.1 = hc.1 ∧ (∀ y, (g 5 y < 100 ∨ 300 ≤ g 5 y) → g 5 y ≠ 1 + j → sm hc hc' y) ∧ fr7 hr hr' ∧ (∀ u, ¬ (8 * j ≤ u ∧ u < 8 * j + g 6 j) → gz_v hr' 51 u = gz_v hr 51 u) ∧ (∀ u, u < g 6 j → gz_I hr' 51 (8 * j + u) = if bt (gz_I hc' (g 0 j) 10) u = true then 1 else 0) ∧ gz_v hr' 15 = gz_v hr 15 := by
        intro L la re
        obtain ⟨hcL, la, rfl⟩ := la
        obtain ⟨mF, jF, hc', hr', P', e, e', b1, b2, b3⟩ := jn_tail H hT hj hP hz (Or.inl ⟨rfl, rfl⟩) L (nI (8 + j))
        exact ⟨hc', hr', P', cls _ L e hc' jF la b1, re e' hr' b2, b3⟩
      have nw : nI w < nI n ∨ ¬ nI w < nI n := Decidable.em _
      rcases j5b with f31 | f31
      · rw [f31] at j5a
        by_cases cl : nI T < gz_I hr 30 j
        · refine f30 0 ⟨hc, ?_, rfl⟩ (fun e' hr' lo => ?_)
          · rcases nw with nw | nw <;> simp only [se_X1_lampsAt, sm_X1_lampsAt, gz_sem, gz_ae, Value.category, gz_i, gz_l, gz_nu, gz_li, gz_ll, gz_la, gz_ib, gz_iz, gz_lb, gz_lz, gz_ls, gz_lc, gz_i2l, gz_l2i, gz_get, gz_ald, gz_len, gz_dup, gz_d2, gz_nar, gz_a0, gz_a1, gz_cs, gz_cv, gz_mk, gz_te, gz_j1, gz_j2, gz_jn, gz_jk, gz_jo, gz_ja, gz_sat, gz_seti, gz_seta, gz_set2, gz_inc, gz_put, gz_ast, gz_pop, gz_vs, gz_vv, gz_sup, gz_rv, gz_ri, gz_rl, gz_ra, gz_if, gz_seq, gz_sw, gz_st, gz_st2, rok_I, rok_J, rok_V, rok_Z0, rok_Z1, rok_Zi, rok_R, rok_N, bi_rok, bi_0, bi_1, fit_I, fit_J, fit_Z0, fit_Z1, fit_Zi, fit_R, fit_N, fit_aR, aty_I, aty_Z0, aty_Z1, aty_Zi, aty_J, gz_ix, List.getElem?_cons_zero, List.getElem?_cons_succ, List.getElem?_nil, List.reverse_cons, List.reverse_nil, List.nil_append, List.cons_append, List.take_succ_cons, List.take_zero, List.take_nil, List.length_cons, List.length_nil, decide_true, decide_false, decide_not, Bool.not_true, Bool.not_false, gz_nle, if_true, if_false, and_true, true_and, and_self, and_false, false_and, or_true, true_or, or_false, false_or, Bool.false_eq_true, not_true, not_false_iff, Decidable.not_not, Nat.reduceLeDiff, Nat.reduceAdd, Nat.reduceEqDiff, Nat.reduceSub, Nat.reduceLT, Nat.zero_add, reduceCtorEq, reduceIte, eq_self, i32_10, i32_01, Nat.zero_le, Nat.one_ne_zero, jk, q2, k, pa, x2, nw, so, fl2, j5a, j5c, cl]
          · simp only [se_X8_runJunction, sm_X8_runJunction, gz_sem, gz_ae, Value.category, gz_i, gz_l, gz_nu, gz_li, gz_ll, gz_la, gz_ib, gz_iz, gz_lb, gz_lz, gz_ls, gz_lc, gz_i2l, gz_l2i, gz_get, gz_ald, gz_len, gz_dup, gz_d2, gz_nar, gz_a0, gz_a1, gz_cs, gz_cv, gz_mk, gz_te, gz_j1, gz_j2, gz_jn, gz_jk, gz_jo, gz_ja, gz_sat, gz_seti, gz_seta, gz_set2, gz_inc, gz_put, gz_ast, gz_pop, gz_vs, gz_vv, gz_sup, gz_rv, gz_ri, gz_rl, gz_ra, gz_if, gz_seq, gz_sw, gz_st, gz_st2, rok_I, rok_J, rok_V, rok_Z0, rok_Z1, rok_Zi, rok_R, rok_N, bi_rok, bi_0, bi_1, fit_I, fit_J, fit_Z0, fit_Z1, fit_Zi, fit_R, fit_N, fit_aR, aty_I, aty_Z0, aty_Z1, aty_Zi, aty_J, gz_ix, List.getElem?_cons_zero, List.getElem?_cons_succ, List.getElem?_nil, List.reverse_cons, List.reverse_nil, List.nil_append, List.cons_append, List.take_succ_cons, List.take_zero, List.take_nil, List.length_cons, List.length_nil, decide_true, decide_false, decide_not, Bool.not_true, Bool.not_false, gz_nle, if_true, if_false, and_true, true_and, and_self, and_false, false_and, or_true, true_or, or_false, false_or, Bool.false_eq_true, not_true, not_false_iff, Decidable.not_not, Nat.reduceLeDiff, Nat.reduceAdd, Nat.reduceEqDiff, Nat.reduceSub, Nat.reduceLT, Nat.zero_add, reduceCtorEq, reduceIte, eq_self, i32_10, i32_01, Nat.zero_le, Nat.one_ne_zero, m, md_k, d2, d3, d4, f1, f2, f3, f4, q1, h15, o3, v6, fm, y1, y2, y3, y4, sa, x3, fl2, f31, cl, g0, t1, w1, w2, w3, w4, lo]
        · refine f30 (gz_I hr 32 (90 * (8 + j) + pl)) ⟨hc, ?_, rfl⟩ (fun e' hr' lo => ?_)
          · rcases nw with nw | nw <;> simp only [se_X1_lampsAt, sm_X1_lampsAt, gz_sem, gz_ae, Value.category, gz_i, gz_l, gz_nu, gz_li, gz_ll, gz_la, gz_ib, gz_iz, gz_lb, gz_lz, gz_ls, gz_lc, gz_i2l, gz_l2i, gz_get, gz_ald, gz_len, gz_dup, gz_d2, gz_nar, gz_a0, gz_a1, gz_cs, gz_cv, gz_mk, gz_te, gz_j1, gz_j2, gz_jn, gz_jk, gz_jo, gz_ja, gz_sat, gz_seti, gz_seta, gz_set2, gz_inc, gz_put, gz_ast, gz_pop, gz_vs, gz_vv, gz_sup, gz_rv, gz_ri, gz_rl, gz_ra, gz_if, gz_seq, gz_sw, gz_st, gz_st2, rok_I, rok_J, rok_V, rok_Z0, rok_Z1, rok_Zi, rok_R, rok_N, bi_rok, bi_0, bi_1, fit_I, fit_J, fit_Z0, fit_Z1, fit_Zi, fit_R, fit_N, fit_aR, aty_I, aty_Z0, aty_Z1, aty_Zi, aty_J, gz_ix, List.getElem?_cons_zero, List.getElem?_cons_succ, List.getElem?_nil, List.reverse_cons, List.reverse_nil, List.nil_append, List.cons_append, List.take_succ_cons, List.take_zero, List.take_nil, List.length_cons, List.length_nil, decide_true, decide_false, decide_not, Bool.not_true, Bool.not_false, gz_nle, if_true, if_false, and_true, true_and, and_self, and_false, false_and, or_true, true_or, or_false, false_or, Bool.false_eq_true, not_true, not_false_iff, Decidable.not_not, Nat.reduceLeDiff, Nat.reduceAdd, Nat.reduceEqDiff, Nat.reduceSub, Nat.reduceLT, Nat.zero_add, reduceCtorEq, reduceIte, eq_self, i32_10, i32_01, Nat.zero_le, Nat.one_ne_zero, jk, q2, k, pa, x2, nw, so, fl2, j5a, j5c, cl, p2, p3, p4, lp]
          · simp only [se_X8_runJunction, sm_X8_runJunction, gz_sem, gz_ae, Value.category, gz_i, gz_l, gz_nu, gz_li, gz_ll, gz_la, gz_ib, gz_iz, gz_lb, gz_lz, gz_ls, gz_lc, gz_i2l, gz_l2i, gz_get, gz_ald, gz_len, gz_dup, gz_d2, gz_nar, gz_a0, gz_a1, gz_cs, gz_cv, gz_mk, gz_te, gz_j1, gz_j2, gz_jn, gz_jk, gz_jo, gz_ja, gz_sat, gz_seti, gz_seta, gz_set2, gz_inc, gz_put, gz_ast, gz_pop, gz_vs, gz_vv, gz_sup, gz_rv, gz_ri, gz_rl, gz_ra, gz_if, gz_seq, gz_sw, gz_st, gz_st2, rok_I, rok_J, rok_V, rok_Z0, rok_Z1, rok_Zi, rok_R, rok_N, bi_rok, bi_0, bi_1, fit_I, fit_J, fit_Z0, fit_Z1, fit_Zi, fit_R, fit_N, fit_aR, aty_I, aty_Z0, aty_Z1, aty_Zi, aty_J, gz_ix, List.getElem?_cons_zero, List.getElem?_cons_succ, List.getElem?_nil, List.reverse_cons, List.reverse_nil, List.nil_append, List.cons_append, List.take_succ_cons, List.take_zero, List.take_nil, List.length_cons, List.length_nil, decide_true, decide_false, decide_not, Bool.not_true, Bool.not_false, gz_nle, if_true, if_false, and_true, true_and, and_self, and_false, false_and, or_true, true_or, or_false, false_or, Bool.false_eq_true, not_true, not_false_iff, Decidable.not_not, Nat.reduceLeDiff, Nat.reduceAdd, Nat.reduceEqDiff, Nat.reduceSub, Nat.reduceLT, Nat.zero_add, reduceCtorEq, reduceIte, eq_self, i32_10, i32_01, Nat.zero_le, Nat.one_ne_zero, m, md_k, d2, d3, d4, f1, f2, f3, f4, q1, h15, o3, v6, fm, y1, y2, y3, y4, sa, x3, fl2, f31, cl, g0, t1, w1, w2, w3, w4, lo]
      · rw [f31] at j5a
        refine f30 0 ⟨hc, ?_, rfl⟩ (fun e' hr' lo => ?_)
        · rcases nw with nw | nw <;> simp only [se_X1_lampsAt, sm_X1_lampsAt, gz_sem, gz_ae, Value.category, gz_i, gz_l, gz_nu, gz_li, gz_ll, gz_la, gz_ib, gz_iz, gz_lb, gz_lz, gz_ls, gz_lc, gz_i2l, gz_l2i, gz_get, gz_ald, gz_len, gz_dup, gz_d2, gz_nar, gz_a0, gz_a1, gz_cs, gz_cv, gz_mk, gz_te, gz_j1, gz_j2, gz_jn, gz_jk, gz_jo, gz_ja, gz_sat, gz_seti, gz_seta, gz_set2, gz_inc, gz_put, gz_ast, gz_pop, gz_vs, gz_vv, gz_sup, gz_rv, gz_ri, gz_rl, gz_ra, gz_if, gz_seq, gz_sw, gz_st, gz_st2, rok_I, rok_J, rok_V, rok_Z0, rok_Z1, rok_Zi, rok_R, rok_N, bi_rok, bi_0, bi_1, fit_I, fit_J, fit_Z0, fit_Z1, fit_Zi, fit_R, fit_N, fit_aR, aty_I, aty_Z0, aty_Z1, aty_Zi, aty_J, gz_ix, List.getElem?_cons_zero, List.getElem?_cons_succ, List.getElem?_nil, List.reverse_cons, List.reverse_nil, List.nil_append, List.cons_append, List.take_succ_cons, List.take_zero, List.take_nil, List.length_cons, List.length_nil, decide_true, decide_false, decide_not, Bool.not_true, Bool.not_false, gz_nle, if_true, if_false, and_true, true_and, and_self, and_false, false_and, or_true, true_or, or_false, false_or, Bool.false_eq_true, not_true, not_false_iff, Decidable.not_not, Nat.reduceLeDiff, Nat.reduceAdd, Nat.reduceEqDiff, Nat.reduceSub, Nat.reduceLT, Nat.zero_add, reduceCtorEq, reduceIte, eq_self, i32_10, i32_01, Nat.zero_le, Nat.one_ne_zero, jk, q2, k, pa, x2, nw, so, fl2, j5a, j5c]
        · simp only [se_X8_runJunction, sm_X8_runJunction, gz_sem, gz_ae, Value.category, gz_i, gz_l, gz_nu, gz_li, gz_ll, gz_la, gz_ib, gz_iz, gz_lb, gz_lz, gz_ls, gz_lc, gz_i2l, gz_l2i, gz_get, gz_ald, gz_len, gz_dup, gz_d2, gz_nar, gz_a0, gz_a1, gz_cs, gz_cv, gz_mk, gz_te, gz_j1, gz_j2, gz_jn, gz_jk, gz_jo, gz_ja, gz_sat, gz_seti, gz_seta, gz_set2, gz_inc, gz_put, gz_ast, gz_pop, gz_vs, gz_vv, gz_sup, gz_rv, gz_ri, gz_rl, gz_ra, gz_if, gz_seq, gz_sw, gz_st, gz_st2, rok_I, rok_J, rok_V, rok_Z0, rok_Z1, rok_Zi, rok_R, rok_N, bi_rok, bi_0, bi_1, fit_I, fit_J, fit_Z0, fit_Z1, fit_Zi, fit_R, fit_N, fit_aR, aty_I, aty_Z0, aty_Z1, aty_Zi, aty_J, gz_ix, List.getElem?_cons_zero, List.getElem?_cons_succ, List.getElem?_nil, List.reverse_cons, List.reverse_nil, List.nil_append, List.cons_append, List.take_succ_cons, List.take_zero, List.take_nil, List.length_cons, List.length_nil, decide_true, decide_false, decide_not, Bool.not_true, Bool.not_false, gz_nle, if_true, if_false, and_true, true_and, and_self, and_false, false_and, or_true, true_or, or_false, false_or, Bool.false_eq_true, not_true, not_false_iff, Decidable.not_not, Nat.reduceLeDiff, Nat.reduceAdd, Nat.reduceEqDiff, Nat.reduceSub, Nat.reduceLT, Nat.zero_add, reduceCtorEq, reduceIte, eq_self, i32_10, i32_01, Nat.zero_le, Nat.one_ne_zero, m, md_k, d2, d3, d4, f1, f2, f3, f4, q1, h15, o3, v6, fm, y1, y2, y3, y4, sa, x3, fl2, f31, g0, t1, w1, w2, w3, w4, lo]
