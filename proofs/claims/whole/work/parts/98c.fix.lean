theorem rj_c {b i : Nat} (h : rj b i ≠ 99) : b = 16 ∨ (21 ≤ b ∧ b ≤ 33) ∨ b = 52 := by
  unfold rj at h
  by_cases q : b = 16 ∨ (21 ≤ b ∧ b ≤ 33) ∨ b = 52
  · exact q
  · rw [if_neg (by omega), if_neg (by omega), if_neg (by omega), if_neg (by omega), if_neg (by omega), if_neg (by omega)] at h
    exact absurd rfl h
theorem rt_c {b i : Nat} (h : rt b i ≠ 99) : (17 ≤ b ∧ b ≤ 20) ∨ (37 ≤ b ∧ b ≤ 51) := by
  unfold rt at h
  by_cases q : (17 ≤ b ∧ b ≤ 20) ∨ (37 ≤ b ∧ b ≤ 51)
  · exact q
  · rw [if_neg (by omega), if_neg (by omega)] at h
    exact absurd rfl h
/-- only the desk's own cells change: its whys, watch, apportioner, way; the reference's own rows -/
theorem IV_fix {g : gz_G} {T : Nat} {P : Nat → Nat} {hc hc' hr hr' : gz_H} (H : IV g T P hc hr) (n : hc'.1 = hc.1) (e : ∀ x, 15 ≤ x → sm hc hc' x) (k0 : ∀ x, x < 15 → gz_k hc' x = gz_k hc x) (v0 : ∀ f, f ≤ 5 → gz_v hc' 0 f = gz_v hc 0 f) (vi : ∀ f, 6 ≤ f → f ≤ 8 → gz_v hc' 0 f = .int (gz_I hc' 0 f)) (v1 : ∀ i, gz_v hc' 1 i = gz_v hc 1 i) (w : wc hc' 2) (a : ac hc') (y : yc hc') (M : md hr') (r15 : ∀ f, f ≤ 1 → gz_v hr' 15 f = gz_v hr 15 f) (r : ∀ x i, (16 ≤ x ∧ x ≤ 33) ∨ (37 ≤ x ∧ x ≤ 52) → gz_v hr' x i = gz_v hr x i) (W : WV hc' hr') : IV g T P hc' hr' := by
  obtain ⟨F, HW, HJ, HG, HB, HZ⟩ := H
  obtain ⟨f1, f2, f3, f4, f5, f6, f7, f8, f9, f10, f11, f12, f13, f14, f15, f16⟩ := F
  have ec : ∀ x, g 5 x ≠ 50 → sm hc hc' x := fun x hx => e x (by
    by_cases q : 15 ≤ x
    · exact q
    · exact absurd (f15 x (by omega)) hx)
  have R : ∀ j, j < 99 → ro hr hr' j := fun j hj b i q => by
    have := rj_c (b := b) (i := i) (by omega)
    exact r b i (by omega)
  have RS : ∀ j, j < 99 → so hr hr' j := fun j hj b i q => by
    have := rt_c (b := b) (i := i) (by omega)
    exact r b i (by omega)
  refine ⟨⟨M, ?_, w, a, y, f6, by rw [vI (r15 0 (by omega))]; exact f7, (v0 5 (by omega)).trans f8, by rw [vI (r15 1 (by omega))]; exact f9, f10, fun i hi => by rw [vI (r 16 i (by omega))]; exact f11 i hi, f12, f13, by omega, f15, f16⟩, W, fun i hi => ?_, fun i hi => ?_, BV_fr HZ (by omega) (fun _ => Iff.rfl) (fun _ _ => rfl) (fun _ _ => rfl) (fun x hx h1 h2 => ⟨rfl, ec x (by omega)⟩) (fun s hs => RS s (by omega)) HB, ZV_fr rfl (fun _ => Iff.rfl) (fun i h1 h2 => R i (by omega)) (fun s hs => RS s (by omega)) HZ⟩
  · exact cs_fr (by omega) k0 (fun f hf => v0 f (by omega)) (fun f h1 h2 => by
      by_cases q : f = 5
      · subst q
        rw [vI (v0 5 (by omega)), v0 5 (by omega)]
        exact f2.2.2.2.2.2.2.2.2.2.2.2.2.2.2.2.2.2.2.2.2.2.1 5 (by omega) (by omega)
      · exact vi f (by omega) h2) (fun i _ => v1 i) f2
  · exact JV_fr (by omega) (by omega) ⟨rfl, rfl, fun _ _ => rfl, rfl, rfl⟩ (fun x hx hg => ⟨rfl, ec x (by omega)⟩) (v1 i) (R i (by omega)) (HJ i hi)
  · refine WG_fr rfl rfl ?_ (fun k hk => r _ _ (by omega)) (HG i hi)
    have h3 := (HJ i hi).1.2.2.2.1 0 (by omega)
    rw [Nat.add_zero] at h3
    rw [(ec (g 0 i) (by omega)).1]
theorem IV_vi {g : gz_G} {T : Nat} {P : Nat → Nat} {hc hr : gz_H} (H : IV g T P hc hr) (f : Nat) (h1 : 5 ≤ f) (h2 : f ≤ 8) : gz_v hc 0 f = .int (gz_I hc 0 f) := H.1.2.1.2.2.2.2.2.2.2.2.2.2.2.2.2.2.2.2.2.2.2.2.2.1 f h1 h2
/-- the watch's cells -/
theorem IV_w {g : gz_G} {T : Nat} {P : Nat → Nat} {hc hc' hr : gz_H} (H : IV g T P hc hr) (n : hc'.1 = hc.1) (k0 : ∀ x, gz_k hc' x = gz_k hc x) (e : ∀ x, x ≠ 2 → x ≠ 3 → sm hc hc' x) (w : wc hc' 2) : IV g T P hc' hr := by
  have e0 := e 0 (by omega) (by omega)
  refine IV_fix H n (fun x hx => e x (by omega) (by omega)) (fun x _ => k0 x) (fun f _ => by rw [e0.1]) (fun f h1 h2 => by rw [sm_I e0, e0.1]; exact IV_vi H f (by omega) h2) (fun i => by rw [(e 1 (by omega) (by omega)).1]) w ?_ ?_ (IV_md H) (fun _ _ => rfl) (fun _ _ _ => rfl) ?_
  · have a4 := e 4 (by omega) (by omega)
    obtain ⟨w1, w2, w3, w4, w5, w6, w7⟩ := H.1.2.2.2.1
    simp only [ac, a4.1, sm_J a4]
    exact ⟨w1, w2, w3, w4, w5, w6, fun x i h1 h2 => by rw [sm_I (e x (by omega) (by omega)), (e x (by omega) (by omega)).1]; exact w7 x i h1 h2⟩
  · have a9 := e 9 (by omega) (by omega)
    obtain ⟨w1, w2, w3, w4, w5, w6, w7, w8⟩ := H.1.2.2.2.2.1
    simp only [yc, a9.1, sm_I a9]
    exact ⟨w1, w2, w3, w4, w5, w6, fun x i h1 h2 => by rw [sm_I (e x (by omega) (by omega)), (e x (by omega) (by omega)).1]; exact w7 x i h1 h2, fun x i h1 h2 => by rw [sm_J (e x (by omega) (by omega)), (e x (by omega) (by omega)).1]; exact w8 x i h1 h2⟩
  · have W := H.2.1
    unfold WV at *
    rw [e0.1]
    exact W
/-- what why tells -/
theorem IV_why {g : gz_G} {T : Nat} {P : Nat → Nat} {hc hr : gz_H} (H : IV g T P hc hr) (f t i k : Int32) (hf : ¬ f = 0) : IV g T P (gz_set (gz_set (gz_set hc 0 6 (.int t)) 0 7 (.int i)) 0 8 (.int k)) (md_tell hr f t i k) := by
  have e : ∀ x, x ≠ 0 → sm hc (gz_set (gz_set (gz_set hc 0 6 (.int t)) 0 7 (.int i)) 0 8 (.int k)) x := fun x hx => sm_set (sm_set (sm_set (sm_rf _ _) hx) hx) hx
  have m := IV_md H
  have o : ∀ b i', b ≠ 15 ∨ i' < 18 → gz_v (md_tell hr f t i k) b i' = gz_v hr b i' := fun b i' h => by
    unfold md_tell
    rw [gz_v_set, if_neg (by omega), gz_v_set, if_neg (by omega), gz_v_set, if_neg (by omega), gz_v_set, if_neg (by omega)]
  have v6 : gz_v (gz_set (gz_set (gz_set hc 0 6 (.int t)) 0 7 (.int i)) 0 8 (.int k)) 0 6 = .int t := by rw [gz_v_set, if_neg (by omega), gz_v_set, if_neg (by omega), gz_v_set, if_pos ⟨rfl, rfl⟩]
  have v7 : gz_v (gz_set (gz_set (gz_set hc 0 6 (.int t)) 0 7 (.int i)) 0 8 (.int k)) 0 7 = .int i := by rw [gz_v_set, if_neg (by omega), gz_v_set, if_pos ⟨rfl, rfl⟩]
  have v8 : gz_v (gz_set (gz_set (gz_set hc 0 6 (.int t)) 0 7 (.int i)) 0 8 (.int k)) 0 8 = .int k := by rw [gz_v_set, if_pos ⟨rfl, rfl⟩]
  refine IV_fix H rfl (fun x hx => e x (by omega)) (fun x _ => rfl) (fun f hf => ?_) (fun f h1 h2 => ?_) (fun i => by rw [(e 1 (by omega)).1]) (wc_sm (h := hc) (Nat.le_refl _) (fun x _ _ => e x (by omega)) H.1.2.2.1) (ac_sm (fun x _ _ => e x (by omega)) H.1.2.2.2.1) (yc_sm (fun x _ _ => e x (by omega)) H.1.2.2.2.2.1) (md_set15 (md_set15 (md_set15 (md_set15 m _ _ (by omega)) _ _ (by omega)) _ _ (by omega)) _ _ (by omega)) (fun f hf => o _ _ (by omega)) (fun x i hx => o _ _ (by omega)) (Or.inr ⟨?_, ?_, ?_, ?_⟩)
  · rw [gz_v_set, if_neg (by omega), gz_v_set, if_neg (by omega), gz_v_set, if_neg (by omega)]
  · have : f = 6 ∨ f = 7 ∨ f = 8 := by omega
    rcases this with rfl | rfl | rfl
    · rw [gz_I_of v6]; exact v6
    · rw [gz_I_of v7]; exact v7
    · rw [gz_I_of v8]; exact v8
  · unfold md_tell
    rw [I_seto _ _ _ _ _ _ (by omega), I_seto _ _ _ _ _ _ (by omega), I_seto _ _ _ _ _ _ (by omega), I_set, if_pos ⟨rfl, rfl⟩]
    exact hf
  · unfold md_tell
    rw [v6, I_seto _ _ _ _ _ _ (by omega), I_seto _ _ _ _ _ _ (by omega), I_set, if_pos ⟨rfl, rfl⟩]
  · unfold md_tell
    rw [v7, I_seto _ _ _ _ _ _ (by omega), I_set, if_pos ⟨rfl, rfl⟩]
  · unfold md_tell
    rw [v8, I_set, if_pos ⟨rfl, rfl⟩]
/-- two rows written side by side -/
theorem w2_s {h : gz_H} {A B lo hi : Nat} {f g : Nat → Int32} (ab : A ≠ B) (hl : lo ≤ hi) : gz_set (gz_set (gz_wr (gz_wr h A lo hi f) B lo hi g) A hi (.int (f hi))) B hi (.int (g hi)) = gz_wr (gz_wr h A lo (hi + 1) f) B lo (hi + 1) g := by
  rw [set_wr ab, wr_s hl, wr_s hl]
def cp8 (h : gz_H) (j s : Nat) : gz_H := gz_wr (gz_wr h 26 (4 * (8 + j)) (4 * (8 + j) + s) (fun i => gz_I h 26 (i - 32))) 27 (4 * (8 + j)) (4 * (8 + j) + s) (fun i => gz_I h 27 (i - 32))
theorem cp8_md {h : gz_H} (m : md h) (j s : Nat) : md (cp8 h j s) := md_wr (md_wr m _ _ _ _ (by omega)) _ _ _ _ (by omega)
theorem cp8_o {h : gz_H} {j s b i : Nat} (hb : b ≠ 26) (hb7 : b ≠ 27) : gz_v (cp8 h j s) b i = gz_v h b i := by
  unfold cp8; rw [wr_o _ hb7, wr_o _ hb]
theorem cp8_26 {h : gz_H} {j s i : Nat} : gz_I (cp8 h j s) 26 i = if 4 * (8 + j) ≤ i ∧ i < 4 * (8 + j) + s then gz_I h 26 (i - 32) else gz_I h 26 i := by
  unfold cp8; rw [wr_Io (by decide), wr_I]
  by_cases q : 4 * (8 + j) ≤ i ∧ i < 4 * (8 + j) + s
  · rw [if_pos ⟨rfl, q⟩, if_pos q]
  · rw [if_neg (fun z => q z.2), if_neg q]
theorem cp8_27 {h : gz_H} {j s i : Nat} : gz_I (cp8 h j s) 27 i = if 4 * (8 + j) ≤ i ∧ i < 4 * (8 + j) + s then gz_I h 27 (i - 32) else gz_I h 27 i := by
  unfold cp8; rw [wr_I]
  by_cases q : 4 * (8 + j) ≤ i ∧ i < 4 * (8 + j) + s
  · rw [if_pos ⟨rfl, q⟩, if_pos q]
  · rw [if_neg (fun z => q z.2), if_neg q, wr_Io (by decide)]
set_option maxHeartbeats 4000000 in
theorem lp_X8_take_191 (h : gz_H) (m : md h) (j : Nat) (hj : j < 8) (o p : Int32) (sum : Int32) (hp : p = nI j) : gz_loop 191 7 lb_X8_take_191 [.ref 15, .int (nI j), .int o, .int p, .int sum, .int (nI (8 + j)), .int 0] h = some (.inl (249, [.ref 15, .int (nI j), .int o, .int p, .int sum, .int (nI (8 + j)), .int (nI 4)], cp8 h j 4)) := by
  subst hp
  have l := gz_for0 (L := 191) (k := 7) (X := 249) (a := lb_X8_take_191) 4 (fun s => [.ref 15, .int (nI j), .int o, .int (nI j), .int sum, .int (nI (8 + j)), .int (nI s)]) (fun s => cp8 h j s) (env' := [.ref 15, .int (nI j), .int o, .int (nI j), .int sum, .int (nI (8 + j)), .int (nI 4)]) (h' := cp8 h j 4) (by decide) (fun s hs => by
    have k1 : nI s < 4 := nI_lt (b := 4) hs (by decide)
    have w1 : ∀ p, 4 * nI p + nI s = nI (4 * p + s) := fun p => by
      rw [show (4 : Int32) = nI 4 from rfl, pk_mul, nI_add]
    have a2 : ¬ nI (4 * j + s) < 0 := nI_pos (by omega)
    have a3 : (nI (4 * j + s)).toNatClampNeg = 4 * j + s := nI_clamp (by omega)
    have a4 : 4 * j + s < 64 := by omega
    have b2 : ¬ nI (4 * (8 + j) + s) < 0 := nI_pos (by omega)
    have b3 : (nI (4 * (8 + j) + s)).toNatClampNeg = 4 * (8 + j) + s := nI_clamp (by omega)
    have b4 : 4 * (8 + j) + s < 64 := by omega
    have m1 := cp8_md m j s
    have e26 : gz_I (cp8 h j s) 26 (4 * j + s) = gz_I h 26 (4 * (8 + j) + s - 32) := by
      rw [cp8_26, if_neg (by omega), show 4 * (8 + j) + s - 32 = 4 * j + s by omega]
    have m2 := md_setI m1 26 (4 * (8 + j) + s) (gz_I h 26 (4 * (8 + j) + s - 32)) (by omega)
    have e27 : gz_I (gz_set (cp8 h j s) 26 (4 * (8 + j) + s) (.int (gz_I h 26 (4 * (8 + j) + s - 32)))) 27 (4 * j + s) = gz_I h 27 (4 * (8 + j) + s - 32) := by
      rw [I_seto _ _ _ _ _ _ (by omega), cp8_27, if_neg (by omega), show 4 * (8 + j) + s - 32 = 4 * j + s by omega]
    have fin : gz_set (gz_set (cp8 h j s) 26 (4 * (8 + j) + s) (.int (gz_I h 26 (4 * (8 + j) + s - 32)))) 27 (4 * (8 + j) + s) (.int (gz_I h 27 (4 * (8 + j) + s - 32))) = cp8 h j (s + 1) := by
      unfold cp8
      exact w2_s (f := fun i => gz_I h 26 (i - 32)) (g := fun i => gz_I h 27 (i - 32)) (by decide) (by omega)
    simp only [lb_X8_take_191, gz_sem, gz_ae, Value.category, gz_i, gz_l, gz_nu, gz_li, gz_ll, gz_la, gz_ib, gz_iz, gz_lb, gz_lz, gz_ls, gz_lc, gz_i2l, gz_l2i, gz_get, gz_ald, gz_len, gz_dup, gz_d2, gz_nar, gz_a0, gz_a1, gz_cs, gz_cv, gz_mk, gz_te, gz_j1, gz_j2, gz_jn, gz_jk, gz_jo, gz_ja, gz_sat, gz_seti, gz_seta, gz_set2, gz_inc, gz_put, gz_ast, gz_pop, gz_vs, gz_vv, gz_sup, gz_rv, gz_ri, gz_rl, gz_ra, gz_if, gz_seq, gz_sw, gz_st, gz_st2, rok_I, rok_J, rok_V, rok_Z0, rok_Z1, rok_Zi, rok_R, rok_N, bi_rok, bi_0, bi_1, fit_I, fit_J, fit_Z0, fit_Z1, fit_Zi, fit_R, fit_N, fit_aR, aty_I, aty_Z0, aty_Z1, aty_Zi, aty_J, gz_ix, List.getElem?_cons_zero, List.getElem?_cons_succ, List.getElem?_nil, List.reverse_cons, List.reverse_nil, List.nil_append, List.cons_append, List.take_succ_cons, List.take_zero, List.take_nil, List.length_cons, List.length_nil, decide_true, decide_false, decide_not, Bool.not_true, Bool.not_false, gz_nle, if_true, if_false, and_true, true_and, and_self, and_false, false_and, or_true, true_or, or_false, false_or, Bool.false_eq_true, not_true, not_false_iff, Decidable.not_not, Nat.reduceLeDiff, Nat.reduceAdd, Nat.reduceEqDiff, Nat.reduceSub, Nat.reduceLT, Nat.zero_add, reduceCtorEq, reduceIte, eq_self, i32_10, i32_01, Nat.zero_le, Nat.one_ne_zero, m1, m2, md_k, k1, w1, a2, a3, a4, b2, b3, b4, e26, e27, fin, nI_1]) (by
    have k1 : ¬ nI 4 < (4 : Int32) := by decide
    simp only [lb_X8_take_191, gz_sem, gz_ae, Value.category, gz_i, gz_l, gz_nu, gz_li, gz_ll, gz_la, gz_ib, gz_iz, gz_lb, gz_lz, gz_ls, gz_lc, gz_i2l, gz_l2i, gz_get, gz_ald, gz_len, gz_dup, gz_d2, gz_nar, gz_a0, gz_a1, gz_cs, gz_cv, gz_mk, gz_te, gz_j1, gz_j2, gz_jn, gz_jk, gz_jo, gz_ja, gz_sat, gz_seti, gz_seta, gz_set2, gz_inc, gz_put, gz_ast, gz_pop, gz_vs, gz_vv, gz_sup, gz_rv, gz_ri, gz_rl, gz_ra, gz_if, gz_seq, gz_sw, gz_st, gz_st2, rok_I, rok_J, rok_V, rok_Z0, rok_Z1, rok_Zi, rok_R, rok_N, bi_rok, bi_0, bi_1, fit_I, fit_J, fit_Z0, fit_Z1, fit_Zi, fit_R, fit_N, fit_aR, aty_I, aty_Z0, aty_Z1, aty_Zi, aty_J, gz_ix, List.getElem?_cons_zero, List.getElem?_cons_succ, List.getElem?_nil, List.reverse_cons, List.reverse_nil, List.nil_append, List.cons_append, List.take_succ_cons, List.take_zero, List.take_nil, List.length_cons, List.length_nil, decide_true, decide_false, decide_not, Bool.not_true, Bool.not_false, gz_nle, if_true, if_false, and_true, true_and, and_self, and_false, false_and, or_true, true_or, or_false, false_or, Bool.false_eq_true, not_true, not_false_iff, Decidable.not_not, Nat.reduceLeDiff, Nat.reduceAdd, Nat.reduceEqDiff, Nat.reduceSub, Nat.reduceLT, Nat.zero_add, reduceCtorEq, reduceIte, eq_self, i32_10, i32_01, Nat.zero_le, Nat.one_ne_zero, k1])
  have z : cp8 h j 0 = h := by unfold cp8; rw [Nat.add_zero, wr_0, wr_0]
  rw [z, nI_0] at l
  exact l
