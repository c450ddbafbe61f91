def ad7 (h : gz_H) (a q n : Nat) (o : Int32) : gz_H := gz_set (gz_set (gz_set (gz_set (gz_set h a 7 (.ref q)) a 6 .null) q 1 (.int o)) q 3 (.int (nI n))) a 8 (.int 0)
set_option maxHeartbeats 4000000 in
theorem st_X1_adopt (h : gz_H) (a S q n t : Nat) (o : Int32) (c : jc h a S) (k : pc h q n) (v6 : gz_v h a 6 = .ref q) (aq : a ≠ q) (ht : t ≤ 100000) : se_X1_adopt [.ref a, .int o, .int (nI t)] h = some (none, if t = 0 then ad7 h a q n o else gz_set (ad7 h a q n o) a 9 (.int (nI (t + 20)))) := by
  have j1 := jc_f c 7 (.ref q) (by omega)
  have s1 : ∀ x, x ≠ a → sm h (gz_set h a 7 (.ref q)) x := fun x hx => sm_set (sm_rf _ _) hx
  have j2 := jc_f j1 6 .null (by omega)
  have v7 : gz_v (gz_set (gz_set h a 7 (.ref q)) a 6 .null) a 7 = .ref q := by rw [gz_v_set, if_neg (by omega), gz_v_set, if_pos ⟨rfl, rfl⟩]
  have o2 : ∀ f, gz_v (gz_set (gz_set h a 7 (.ref q)) a 6 .null) q f = gz_v h q f := fun f => by rw [gz_v_set, if_neg (fun z => aq z.1.symm), gz_v_set, if_neg (fun z => aq z.1.symm)]
  have j3 := jc_setI j2 q 1 o (Ne.symm aq)
  have v7' : gz_v (gz_set (gz_set (gz_set h a 7 (.ref q)) a 6 .null) q 1 (.int o)) a 7 = .ref q := by rw [gz_v_set, if_neg (fun z => aq z.1)]; exact v7
  have o3 : ∀ f, f ≠ 1 → gz_v (gz_set (gz_set (gz_set h a 7 (.ref q)) a 6 .null) q 1 (.int o)) q f = gz_v h q f := fun f hf => by rw [gz_v_set, if_neg (fun z => hf z.2), o2]
  have o32 := o3 2 (by omega)
  have j4 := jc_setI j3 q 3 (nI n) (Ne.symm aq)
  have j5 := jc_f j4 8 (.int 0) (by omega)
  have cl := st_X1_clear (ad7 h a q n o) a S t j5 ht
  have v60 : gz_v (gz_set h a 7 (.ref q)) a 6 = .ref q := by rw [gz_v_set, if_neg (by omega)]; exact v6
  unfold ad7 at *
  simp only [se_X1_adopt, sm_X1_adopt, gz_sem, gz_ae, Value.category, gz_i, gz_l, gz_nu, gz_li, gz_ll, gz_la, gz_ib, gz_iz, gz_lb, gz_lz, gz_ls, gz_lc, gz_i2l, gz_l2i, gz_get, gz_ald, gz_len, gz_dup, gz_d2, gz_nar, gz_a0, gz_a1, gz_cs, gz_cv, gz_mk, gz_te, gz_j1, gz_j2, gz_jn, gz_jk, gz_jo, gz_ja, gz_sat, gz_seti, gz_seta, gz_set2, gz_inc, gz_put, gz_ast, gz_pop, gz_vs, gz_vv, gz_sup, gz_rv, gz_ri, gz_rl, gz_ra, gz_if, gz_seq, gz_sw, gz_st, gz_st2, rok_I, rok_J, rok_V, rok_Z0, rok_Z1, rok_Zi, rok_R, rok_N, bi_rok, bi_0, bi_1, fit_I, fit_J, fit_Z0, fit_Z1, fit_Zi, fit_R, fit_N, fit_aR, aty_I, aty_Z0, aty_Z1, aty_Zi, aty_J, gz_ix, List.getElem?_cons_zero, List.getElem?_cons_succ, List.getElem?_nil, List.reverse_cons, List.reverse_nil, List.nil_append, List.cons_append, List.take_succ_cons, List.take_zero, List.take_nil, List.length_cons, List.length_nil, decide_true, decide_false, decide_not, Bool.not_true, Bool.not_false, gz_nle, if_true, if_false, and_true, true_and, and_self, and_false, false_and, or_true, true_or, or_false, false_or, Bool.false_eq_true, not_true, not_false_iff, Decidable.not_not, Nat.reduceLeDiff, Nat.reduceAdd, Nat.reduceEqDiff, Nat.reduceSub, Nat.reduceLT, Nat.zero_add, reduceCtorEq, reduceIte, eq_self, i32_10, i32_01, Nat.zero_le, Nat.one_ne_zero, c, j1, j2, j3, j4, j5, k, v6, v60, v7, v7', o2, o32, gz_n_set, gz_k_set, cl]
def rd8 (hr : gz_H) (j n c : Nat) (o : Int32) (L S : Nat → Int32) : gz_H := gz_set (gz_set (gz_set (gz_set (gz_lo (cp8 (gz_set (gz_set (gz_set hr 23 (8 + j) (.int 1)) 24 (8 + j) (.int (nI c))) 25 (8 + j) (.int (nI n))) j 4) (8 + j) c L S) 23 j (.int 0)) 28 (8 + j) (.int o)) 29 j (.int (nI n))) 31 j (.int 0)
section
variable {hr : gz_H} {j n c : Nat} {o : Int32} {L S : Nat → Int32}
theorem rd8_v {b i : Nat} (h : b ≤ 22 ∨ b = 30 ∨ 34 ≤ b) : gz_v (rd8 hr j n c o L S) b i = gz_v hr b i := by
  unfold rd8 gz_lo
  rw [gz_v_set, if_neg (by omega), gz_v_set, if_neg (by omega), gz_v_set, if_neg (by omega), gz_v_set, if_neg (by omega), wr_o _ (by omega), wr_o _ (by omega), cp8_o (by omega) (by omega), gz_v_set, if_neg (by omega), gz_v_set, if_neg (by omega), gz_v_set, if_neg (by omega)]
theorem rd8_md (m : md hr) : md (rd8 hr j n c o L S) := by
  unfold rd8
  exact md_setI (md_setI (md_setI (md_setI (lo_md (cp8_md (md_setI (md_setI (md_setI m _ _ _ (by omega)) _ _ _ (by omega)) _ _ _ (by omega)) _ _) _ _ _ _) _ _ _ (by omega)) _ _ _ (by omega)) _ _ _ (by omega)) _ _ _ (by omega)
theorem rd8_23 : gz_I (rd8 hr j n c o L S) 23 j = 0 ∧ gz_I (rd8 hr j n c o L S) 23 (8 + j) = 1 := by
  unfold rd8 gz_lo
  constructor
  · rw [I_seto _ _ _ _ _ _ (by omega), I_seto _ _ _ _ _ _ (by omega), I_seto _ _ _ _ _ _ (by omega), I_set, if_pos ⟨rfl, rfl⟩]
  · rw [I_seto _ _ _ _ _ _ (by omega), I_seto _ _ _ _ _ _ (by omega), I_seto _ _ _ _ _ _ (by omega), I_seto _ _ _ _ _ _ (by omega), wr_Io (by omega), wr_Io (by omega), vI (cp8_o (by omega) (by omega)), I_seto _ _ _ _ _ _ (by omega), I_seto _ _ _ _ _ _ (by omega), I_set, if_pos ⟨rfl, rfl⟩]
theorem rd8_24 : gz_I (rd8 hr j n c o L S) 24 (8 + j) = nI c ∧ gz_I (rd8 hr j n c o L S) 25 (8 + j) = nI n := by
  unfold rd8 gz_lo
  constructor
  · rw [I_seto _ _ _ _ _ _ (by omega), I_seto _ _ _ _ _ _ (by omega), I_seto _ _ _ _ _ _ (by omega), I_seto _ _ _ _ _ _ (by omega), wr_Io (by omega), wr_Io (by omega), vI (cp8_o (by omega) (by omega)), I_seto _ _ _ _ _ _ (by omega), I_set, if_pos ⟨rfl, rfl⟩]
  · rw [I_seto _ _ _ _ _ _ (by omega), I_seto _ _ _ _ _ _ (by omega), I_seto _ _ _ _ _ _ (by omega), I_seto _ _ _ _ _ _ (by omega), wr_Io (by omega), wr_Io (by omega), vI (cp8_o (by omega) (by omega)), I_set, if_pos ⟨rfl, rfl⟩]
theorem rd8_26 {s : Nat} (hs : s < 4) : gz_I (rd8 hr j n c o L S) 26 (4 * (8 + j) + s) = gz_I hr 26 (4 * j + s) ∧ gz_I (rd8 hr j n c o L S) 27 (4 * (8 + j) + s) = gz_I hr 27 (4 * j + s) := by
  unfold rd8 gz_lo
  constructor
  · rw [I_seto _ _ _ _ _ _ (by omega), I_seto _ _ _ _ _ _ (by omega), I_seto _ _ _ _ _ _ (by omega), I_seto _ _ _ _ _ _ (by omega), wr_Io (by omega), wr_Io (by omega), cp8_26, if_pos (by omega), show 4 * (8 + j) + s - 32 = 4 * j + s by omega, I_seto _ _ _ _ _ _ (by omega), I_seto _ _ _ _ _ _ (by omega), I_seto _ _ _ _ _ _ (by omega)]
  · rw [I_seto _ _ _ _ _ _ (by omega), I_seto _ _ _ _ _ _ (by omega), I_seto _ _ _ _ _ _ (by omega), I_seto _ _ _ _ _ _ (by omega), wr_Io (by omega), wr_Io (by omega), cp8_27, if_pos (by omega), show 4 * (8 + j) + s - 32 = 4 * j + s by omega, I_seto _ _ _ _ _ _ (by omega), I_seto _ _ _ _ _ _ (by omega), I_seto _ _ _ _ _ _ (by omega)]
theorem rd8_28 : gz_I (rd8 hr j n c o L S) 28 (8 + j) = o ∧ gz_I (rd8 hr j n c o L S) 29 j = nI n ∧ gz_I (rd8 hr j n c o L S) 31 j = 0 := by
  unfold rd8
  refine ⟨?_, ?_, ?_⟩
  · rw [I_seto _ _ _ _ _ _ (by omega), I_seto _ _ _ _ _ _ (by omega), I_set, if_pos ⟨rfl, rfl⟩]
  · rw [I_seto _ _ _ _ _ _ (by omega), I_set, if_pos ⟨rfl, rfl⟩]
  · rw [I_set, if_pos ⟨rfl, rfl⟩]
theorem rd8_32 {t : Nat} (ht : t < c) : gz_I (rd8 hr j n c o L S) 32 (90 * (8 + j) + t) = L t ∧ gz_I (rd8 hr j n c o L S) 33 (90 * (8 + j) + t) = S t := by
  unfold rd8 gz_lo
  constructor
  · rw [I_seto _ _ _ _ _ _ (by omega), I_seto _ _ _ _ _ _ (by omega), I_seto _ _ _ _ _ _ (by omega), I_seto _ _ _ _ _ _ (by omega), wr_Io (by omega), wr_I, if_pos ⟨rfl, by omega, by omega⟩, show 90 * (8 + j) + t - 90 * (8 + j) = t by omega]
  · rw [I_seto _ _ _ _ _ _ (by omega), I_seto _ _ _ _ _ _ (by omega), I_seto _ _ _ _ _ _ (by omega), I_seto _ _ _ _ _ _ (by omega), wr_I, if_pos ⟨rfl, by omega, by omega⟩, show 90 * (8 + j) + t - 90 * (8 + j) = t by omega]
theorem rd8_ro (hj : j < 8) (h9 : c ≤ 90) {i : Nat} (hi : i < 8) (ij : i ≠ j) : ro hr (rd8 hr j n c o L S) i := by
  unfold rd8 gz_lo cp8
  refine ro_set (ro_set (ro_set (ro_set (ro_wr (ro_wr (ro_wr (ro_wr (ro_set (ro_set (ro_set (ro_rf _ _) ?_) ?_) ?_) (fun u h1 h2 => ?_)) (fun u h1 h2 => ?_)) (fun u h1 h2 => ?_)) (fun u h1 h2 => ?_)) ?_) ?_) ?_) ?_
  all_goals (simp [rj]; omega)
theorem rd8_so {s : Nat} (hs : s < 64) : so hr (rd8 hr j n c o L S) s := by
  unfold rd8 gz_lo cp8
  refine so_set (so_set (so_set (so_set (so_wr (so_wr (so_wr (so_wr (so_set (so_set (so_set (so_rf _ _) ?_) ?_) ?_) (fun u h1 h2 => ?_)) (fun u h1 h2 => ?_)) (fun u h1 h2 => ?_)) (fun u h1 h2 => ?_)) ?_) ?_) ?_) ?_
  all_goals (simp [rt]; omega)
theorem rd8_7 : fr7 hr (rd8 hr j n c o L S) := by
  unfold rd8 gz_lo cp8
  exact fr7_set (fr7_set (fr7_set (fr7_set (fr7_wr (fr7_wr (fr7_wr (fr7_wr (fr7_set (fr7_set (fr7_set (fr7_rf _) (by omega)) (by omega)) (by omega)) (by omega)) (by omega)) (by omega)) (by omega)) (by omega)) (by omega)) (by omega)) (by omega)
end
/-- the begun plan is now the taken one -/
def gad (g : gz_G) (j : Nat) : gz_G := fun a b => if a = 3 ∧ b = 8 + j then g 3 j else if a = 5 ∧ g 5 b = 300 + j then 300 + (8 + j) else if a = 5 ∧ g 5 b = 300 + (8 + j) then 999 else g a b
set_option maxHeartbeats 8000000 in
theorem IV_ad {g : gz_G} {T : Nat} {P : Nat → Nat} {h hr : gz_H} {j n c o : Nat} {G B : Nat → Nat} {L S : Nat → Int32} (H : IV g T P h hr) (hj : j < g 7 0) (q2 : gz_v h (g 0 j) 6 = .ref (g 3 j)) (po : PO g j) (pv : PV h hr (g 6 j) (g 3 j) j n c) (n2 : 2 ≤ n) (oc : o < c) (lam : ∀ t, t < c → gz_I h (g 3 j + 5) t = L t) (en : ∀ s, s < n → gz_I h (g 3 j + 4) s = nI (gz_ps G B (s + 1))) (hps : gz_ps G B n = c) (g1 : ∀ s, s < n → 1 ≤ G s) (hT : gz_SS n G B S) : IV (gad g j) T P (ad7 h (g 0 j) (g 3 j) n (nI o)) (rd8 hr j n c (nI o) L S) := by
  have h8 := IV_8 H
  have m := IV_md H
  obtain ⟨V1, V2, V3, V4, V5⟩ := H.2.2.1 j hj
  have a55 := V1.1
  have co := V1.2.2.2.1
  have co0 := co 0 (by omega)
  rw [Nat.add_zero] at co0
  have pc0 := po.2 0 (by omega)
  rw [Nat.add_zero] at pc0
  have pq := po.2
  have q55 := po.1
  have aq : g 0 j ≠ g 3 j := fun z => by rw [z, pc0] at co0; omega
  have al := JV_lt (H.2.2.1 j hj)
  obtain ⟨v1, v2, v3, k, v5, v6, v7, v8⟩ := pv
  have ql : ∀ u, u ≤ 5 → g 3 j + u < h.1 := fun u hu => by have := k.2.2.2.2.2.1; omega
  -- the ghost
  have go : ∀ a b, a ≠ 3 → a ≠ 5 → gad g j a b = g a b := fun a b h1 h2 => by unfold gad; rw [if_neg (by omega), if_neg (by omega), if_neg (by omega)]
  have g3 : ∀ p, p ≠ 8 + j → gad g j 3 p = g 3 p := fun p hp => by unfold gad; rw [if_neg (by omega), if_neg (by omega), if_neg (by omega)]
  have g3q : gad g j 3 (8 + j) = g 3 j := by unfold gad; rw [if_pos ⟨rfl, rfl⟩]
  have g5 : ∀ x, g 5 x ≠ 300 + j → g 5 x ≠ 300 + (8 + j) → gad g j 5 x = g 5 x := fun x h1 h2 => by unfold gad; rw [if_neg (by omega), if_neg (fun z => h1 z.2), if_neg (fun z => h2 z.2)]
  have g5q : ∀ x, g 5 x = 300 + j → gad g j 5 x = 300 + (8 + j) := fun x h1 => by unfold gad; rw [if_neg (by omega), if_pos ⟨rfl, h1⟩]
  have Gk : gk g (gad g j) j h.1 := ⟨go 7 0 (by omega) (by omega), fun i => go 6 i (by omega) (by omega), fun i => go 1 i (by omega) (by omega), fun i => go 2 i (by omega) (by omega), fun i => go 0 i (by omega) (by omega), fun i h1 h2 => ⟨g3 i (by omega), g3 (8 + i) (by omega)⟩, fun x _ _ h2 h3 => g5 x h2 h3⟩
  -- the class
  have sA : ∀ x, x ≠ g 0 j → x ≠ g 3 j → sm h (ad7 h (g 0 j) (g 3 j) n (nI o)) x := fun x h1 h2 => sm_set (sm_set (sm_set (sm_set (sm_set (sm_rf _ _) h1) h1) h2) h2) h1
  have vA : ∀ f, f ≠ 6 → f ≠ 7 → f ≠ 8 → gz_v (ad7 h (g 0 j) (g 3 j) n (nI o)) (g 0 j) f = gz_v h (g 0 j) f := fun f h6 h7 h8 => by
    unfold ad7
    rw [gz_v_set, if_neg (by omega), gz_v_set, if_neg (by omega), gz_v_set, if_neg (by omega), gz_v_set, if_neg (by omega), gz_v_set, if_neg (by omega)]
  have vA6 : gz_v (ad7 h (g 0 j) (g 3 j) n (nI o)) (g 0 j) 6 = .null := by
    unfold ad7
    rw [gz_v_set, if_neg (by omega), gz_v_set, if_neg (by omega), gz_v_set, if_neg (by omega), gz_v_set, if_pos ⟨rfl, rfl⟩]
  have vA7 : gz_v (ad7 h (g 0 j) (g 3 j) n (nI o)) (g 0 j) 7 = .ref (g 3 j) := by
    unfold ad7
    rw [gz_v_set, if_neg (by omega), gz_v_set, if_neg (by omega), gz_v_set, if_neg (by omega), gz_v_set, if_neg (by omega), gz_v_set, if_pos ⟨rfl, rfl⟩]
  have vA8 : gz_v (ad7 h (g 0 j) (g 3 j) n (nI o)) (g 0 j) 8 = .int 0 := by
    unfold ad7
    rw [gz_v_set, if_pos ⟨rfl, rfl⟩]
  have vQ : ∀ f, f ≠ 1 → f ≠ 3 → gz_v (ad7 h (g 0 j) (g 3 j) n (nI o)) (g 3 j) f = gz_v h (g 3 j) f := fun f h1 h3 => by
    unfold ad7
    rw [gz_v_set, if_neg (by omega), gz_v_set, if_neg (by omega), gz_v_set, if_neg (by omega), gz_v_set, if_neg (by omega), gz_v_set, if_neg (by omega)]
  have iQ1 : gz_I (ad7 h (g 0 j) (g 3 j) n (nI o)) (g 3 j) 1 = nI o := by
    unfold ad7
    rw [I_seto _ _ _ _ _ _ (by omega), I_seto _ _ _ _ _ _ (by omega), I_set, if_pos ⟨rfl, rfl⟩]
  have iQ3 : gz_I (ad7 h (g 0 j) (g 3 j) n (nI o)) (g 3 j) 3 = nI n := by
    unfold ad7
    rw [I_seto _ _ _ _ _ _ (by omega), I_set, if_pos ⟨rfl, rfl⟩]
  have J1' : J1 g (ad7 h (g 0 j) (g 3 j) n (nI o)) j := by
    unfold ad7
    have k1 : J1 g (gz_set (gz_set h (g 0 j) 7 (.ref (g 3 j))) (g 0 j) 6 .null) j := J1_fld (J1_fld V1 (by omega)) (by omega)
    have k2 : J1 g (gz_set (gz_set (gz_set (gz_set h (g 0 j) 7 (.ref (g 3 j))) (g 0 j) 6 .null) (g 3 j) 1 (.int (nI o))) (g 3 j) 3 (.int (nI n))) j := by
      obtain ⟨w1, w2, w3, w4, w5⟩ := k1
      refine ⟨w1, jc_setI (jc_setI w2 _ _ _ (Ne.symm aq)) _ _ _ (Ne.symm aq), ?_, w4, fun i hi => ?_⟩
      · rw [gz_v_set, if_neg (by omega), gz_v_set, if_neg (by omega)]; exact w3
      · have ne : g 0 j + 1 ≠ g 3 j := fun z => by have := co 1 (by omega); rw [z, pc0] at this; omega
        rw [gz_v_set, if_neg (fun z => ne z.1), gz_v_set, if_neg (fun z => ne z.1)]; exact w5 i hi
    exact J1_fld k2 (by omega)
  have pk : pc (ad7 h (g 0 j) (g 3 j) n (nI o)) (g 3 j) n := by
    have b1 : ∀ x, x ≠ g 0 j → sm h (gz_set (gz_set h (g 0 j) 7 (.ref (g 3 j))) (g 0 j) 6 .null) x := fun x hx => sm_set (sm_set (sm_rf _ _) hx) hx
    have ne : ∀ u, u ≤ 5 → g 3 j + u ≠ g 0 j := fun u hu z => by have := pq u hu; rw [z, co0] at this; omega
    have k1 : pc (gz_set (gz_set h (g 0 j) 7 (.ref (g 3 j))) (g 0 j) 6 .null) (g 3 j) n := pc_sm (h := h) (Nat.le_refl _) (fun u hu => b1 _ (ne u hu)) k
    have k2 := pc_f (pc_f k1 1 (nI o) (by omega)) 3 (nI n) (by omega)
    exact pc_setI k2 _ _ _ aq
  have sr : ∀ u, 1 ≤ u → u ≤ 5 → sm h (ad7 h (g 0 j) (g 3 j) n (nI o)) (g 0 j + u) := fun u h1 h2 => sA _ (by omega) (fun z => by have := co u h2; rw [z, pc0] at this; omega)
  have sq : ∀ u, 1 ≤ u → u ≤ 5 → sm h (ad7 h (g 0 j) (g 3 j) n (nI o)) (g 3 j + u) := fun u h1 h2 => sA _ (fun z => by have := pq u h2; rw [z, co0] at this; omega) (by omega)
  have rap : ∀ i k', md_ap (rd8 hr j n c (nI o) L S) j i k' = md_ap hr j i k' := fun i k' => ap_o (fun x i hx => rd8_v (by omega)) _ _ _
  have ra1 : ra hr (rd8 hr j n c (nI o) L S) (8 * j + 1) := fun b i hb => by
    refine rd8_v ?_
    unfold rq at hb
    by_cases z : b = 21 ∨ b = 22
    · omega
    · exfalso
      rw [if_neg z] at hb
      by_cases z2 : b = 23 ∨ b = 24 ∨ b = 25 ∨ b = 28
      · rw [if_pos z2] at hb; omega
      rw [if_neg z2] at hb
      by_cases z3 : b = 26 ∨ b = 27
      · rw [if_pos z3] at hb; omega
      rw [if_neg z3] at hb
      by_cases z4 : b = 32 ∨ b = 33
      · rw [if_pos z4] at hb; omega
      rw [if_neg z4] at hb
      by_cases z5 : b = 52
      · rw [if_pos z5] at hb; omega
      rw [if_neg z5] at hb
      by_cases z6 : b = 30 ∨ b = 31
      · rw [if_pos z6] at hb; omega
      rw [if_neg z6] at hb
      by_cases z7 : b = 29
      · rw [if_pos z7] at hb; omega
      rw [if_neg z7] at hb
      omega
  refine IV_k H hj (Nat.le_refl _) Gk (fun x hx h1 h2 h3 => sA x (fun z => h1 (by rw [z]; exact co0)) (fun z => h2 (by rw [z]; exact pc0))) (rd8_md m) (fun i => rd8_v (by omega)) (fun i => rd8_v (by omega)) (fun i h1 h2 => rd8_ro (by omega) v3 h1 h2) (fun s hs => rd8_so hs) ⟨?_, ?_, Or.inl ⟨rd8_23.1, by rw [go 0 j (by omega) (by omega)]; exact vA6⟩, Or.inr ⟨rd8_23.2, ?_, ⟨?_, fun u hu => ?_⟩, n, c, ?_, ?_⟩, ?_⟩ (vA 10 (by omega) (by omega) (by omega))
  · obtain ⟨w1, w2, w3, w4, w5⟩ := J1'
    unfold J1
    rw [go 0 j (by omega) (by omega), go 6 j (by omega) (by omega)]
    exact ⟨w1, w2, w3, fun u hu => by rw [g5 _ (by rw [w4 u hu]; omega) (by rw [w4 u hu]; omega)]; exact w4 u hu, fun i hi => by rw [go 1 _ (by omega) (by omega)]; exact w5 i hi⟩
  · rw [go 0 j (by omega) (by omega)]
    exact J2_fr (sr 2 (by omega) (by omega)) (sr 3 (by omega) (by omega)) (sr 4 (by omega) (by omega)) ra1 V2
  · rw [go 0 j (by omega) (by omega), g3q]; exact vA7
  · rw [g3q]; exact q55
  · rw [g3q]; exact g5q _ (pq u hu)
  · rw [g3q, go 6 j (by omega) (by omega)]
    refine ⟨v1, v2, v3, pk, ?_, rd8_24.1, rd8_24.2, fun s hs => ?_⟩
    · rw [vI (vQ 0 (by omega) (by omega))]; exact v5
    · obtain ⟨x1, x2, x3, x4, x5, x6⟩ := v8 s hs
      have hm := Nat.mod_lt (s + 1) (show 0 < n by omega)
      have eb : bw (rd8 hr j n c (nI o) L S) (8 + j) n s = bw hr j n s := by
        unfold bw
        rw [(rd8_26 (hr := hr) (j := j) (n := n) (c := c) (o := nI o) (L := L) (S := S) (s := s) (by omega)).1, (rd8_26 (hr := hr) (j := j) (n := n) (c := c) (o := nI o) (L := L) (S := S) (s := (s + 1) % n) (by omega)).1, show (8 + j) % 8 = j by omega, Nat.mod_eq_of_lt (show j < 8 by omega)]
        exact bw_ap (fun i k' _ _ => rap i k') _ _
      rw [sm_I (sq 1 (by omega) (by omega)), sm_I (sq 2 (by omega) (by omega)), sm_I (sq 3 (by omega) (by omega)), (rd8_26 (by omega)).1, (rd8_26 (by omega)).2, eb]
      exact ⟨x1, x2, x3, x4, x5, x6⟩
  · rw [g3q]
    refine ⟨n2, ⟨o, oc, iQ1, rd8_28.1⟩, ⟨n, Nat.le_refl _, iQ3, rd8_28.2.1⟩, fun t ht => ?_, gz_ps G B, rfl, hps, fun s hs => ⟨?_, ?_, fun t h1 h2 => ?_⟩⟩
    · rw [sm_I (sq 5 (by omega) (by omega)), (rd8_32 ht).1]; exact lam t ht
    · have := g1 s hs
      show gz_ps G B s < gz_ps G B s + G s + B s
      omega
    · rw [sm_I (sq 4 (by omega) (by omega))]; exact en s hs
    · have : gz_ps G B (s + 1) ≤ gz_ps G B n := ps_le (by omega)
      rw [(rd8_32 (by omega)).2]
      exact hT s hs t h1 h2
  · rw [go 0 j (by omega) (by omega)]
    obtain ⟨w1, w2, w3, w4, w5⟩ := V5
    refine ⟨?_, Or.inl rd8_28.2.2, ?_, ?_, fun u hu => ?_⟩
    · rw [rd8_28.2.2]; exact vA8
    · rw [vA 9 (by omega) (by omega) (by omega), vI (rd8_v (by omega))]; exact w3
    · rw [vI (vA 10 (by omega) (by omega) (by omega)), vA 10 (by omega) (by omega) (by omega)]; exact w4
    · rw [sm_I (sr 5 (by omega) (by omega)), vI (rd8_v (by omega))]; exact w5 u hu
