theorem wT_le {p q bk k : Nat} (hp : p ≤ 120) (hq : q ≤ 120) : (if bk = 0 then wT0 p q k else wT1 p q k) ≤ 240 := by
  unfold wT0 wT1
  split
  · split
    · omega
    · split <;> omega
  · split
    · omega
    · split <;> omega
theorem wF_iff {h0 hr : gz_H} {K cy : Nat} {Q Sg Tm J of tm : Nat → Nat} {v dir o0 o1 o2 : Nat} (hK : K = 2 ∨ K = 3) (c0 : 0 < cy) (c9 : cy ≤ 90) (lam : ∀ k, k < K → ∀ t, t < cy → gz_I h0 (Q k + 5) t = gz_I hr 32 (90 * (8 + J k) + t)) (f0 : of 0 = o0) (f1 : of 1 = o1) (f2 : of 2 = o2) (fo : ∀ k, k < K → of k < cy) (sg : ∀ k, k < K → Sg (dir * 3 + k) = dg v k) (tm' : ∀ k, k < K → Tm (dir * 3 + k) = tm k ∧ tm k ≤ 240) (t : Nat) (ht : t < cy) : wF h0 K cy Q Sg Tm dir o0 o1 o2 t = true ↔ ∀ k, k < K → wG hr J of tm v cy t k := by
  have one : ∀ k, k < K → (lf h0 (Q k) (Sg (dir * 3 + k)) (Tm (dir * 3 + k)) cy (of k) t = true ↔ wG hr J of tm v cy t k) := fun k hk => by
    unfold lf wG
    rw [fm_sub c0 (by have := (tm' k hk).2; omega) (by have := fo k hk; omega) (by omega), sg k hk, (tm' k hk).1, lam k hk _ (Nat.mod_lt _ c0)]
  unfold wF
  rw [Bool.and_eq_true, Bool.and_eq_true, Bool.or_eq_true, decide_eq_true_eq]
  have a0 := one 0 (by omega)
  have a1 := one 1 (by omega)
  rw [f0, Nat.add_zero] at a0
  rw [f1] at a1
  rw [a0, a1]
  rcases hK with hK | hK
  · constructor
    · intro z k hk
      have : k = 0 ∨ k = 1 := by omega
      rcases this with rfl | rfl
      · exact z.1.1
      · exact z.1.2
    · intro z
      exact ⟨⟨z 0 (by omega), z 1 (by omega)⟩, Or.inl hK⟩
  · have a2 := one 2 (by omega)
    rw [f2] at a2
    rw [a2]
    constructor
    · intro z k hk
      have : k = 0 ∨ k = 1 ∨ k = 2 := by omega
      rcases this with rfl | rfl | rfl
      · exact z.1.1
      · exact z.1.2
      · rcases z.2 with u | u
        · omega
        · exact u
    · intro z
      exact ⟨⟨z 0 (by omega), z 1 (by omega)⟩, Or.inr (z 2 (by omega))⟩
theorem ps8 {h hr h0 : gz_H} (w : RW hr h) (K v pn qn cy bk : Nat) (J Q Sg Tm : Nat → Nat) (o0 ob oc : Nat) (hK : K = 2 ∨ K = 3) (hq : K = 2 → qn = 0) (hbk : bk = 0 ∨ bk = 1) (e47 : gz_I h 15 47 = nI K) (e53 : ∀ k, k < K → gz_I h 53 k = nI (J k)) (e0 : gz_I h 54 0 = nI o0) (e1 : gz_I h 54 1 = nI ob) (e2 : gz_I h 54 2 = nI oc) (hJ : ∀ k, k < K → J k < 8) (hcy : ∀ k, k < K → gz_I hr 24 (8 + J k) = nI cy) (c0 : 0 < cy) (c9 : cy ≤ 90) (hv : v < 1000) (pb : pn ≤ 120) (qb : qn ≤ 120) (hd : ∀ k, k < K → dg v k < 8) (lam : ∀ k, k < K → ∀ t, t < cy → gz_I h0 (Q k + 5) t = gz_I hr 32 (90 * (8 + J k) + t)) (ho0 : o0 < cy) (hob : ob < cy) (hoc : oc < cy) (sg : ∀ k, k < K → Sg (bk * 3 + k) = dg v k) (tm : ∀ k, k < K → Tm (bk * 3 + k) = if bk = 0 then wT0 pn qn k else wT1 pn qn k) : se_X8_passing [.ref 15, .int (nI v), .int (nI pn), .int (nI qn), .int (nI bk)] h = some (some (.int (nI (cN (wF h0 K cy Q Sg Tm bk o0 ob oc) cy))), h) := by
  have ps := st_X8_passing h hr w K v pn qn cy bk J (fun k => if k = 0 then o0 else if k = 1 then ob else oc) hK hq hbk e47 e53 (fun k hk => by
    have : k = 0 ∨ k = 1 ∨ k = 2 := by omega
    rcases this with rfl | rfl | rfl
    · exact e0
    · exact e1
    · exact e2) hJ hcy c0 c9 hv pb qb hd
  have cc : gz_cnt (fun b => ∀ k, k < K → wG hr J (fun k => if k = 0 then o0 else if k = 1 then ob else oc) (fun k => if bk = 0 then wT0 pn qn k else wT1 pn qn k) v cy (b - 1) k) cy = nI (cN (wF h0 K cy Q Sg Tm bk o0 ob oc) cy) := cnt_cN (fun t => ∀ k, k < K → wG hr J (fun k => if k = 0 then o0 else if k = 1 then ob else oc) (fun k => if bk = 0 then wT0 pn qn k else wT1 pn qn k) v cy t k) (wF h0 K cy Q Sg Tm bk o0 ob oc) cy (fun t ht => wF_iff (h0 := h0) (hr := hr) (Q := Q) (Sg := Sg) (Tm := Tm) (J := J) (of := fun k => if k = 0 then o0 else if k = 1 then ob else oc) (tm := fun k => if bk = 0 then wT0 pn qn k else wT1 pn qn k) (v := v) (dir := bk) (o0 := o0) (o1 := ob) (o2 := oc) hK c0 c9 lam rfl rfl rfl (fun k hk => by
    show (if k = 0 then o0 else if k = 1 then ob else oc) < cy
    split
    · exact ho0
    · split
      · exact hob
      · exact hoc) sg (fun k hk => ⟨tm k hk, wT_le pb qb⟩) t ht)
  rw [cc] at ps
  exact ps
/-- the best in the reference's locals -/
def RR (K : Nat) (S : Option (Nat × Nat × Nat × Nat)) (v0 v1 v2 v3 : Int32) : Prop := match S with
  | none => v0 = -1 ∧ v1 = 0 ∧ v2 = 0 ∧ v3 = -1
  | some (l, u, b, c) => l ≤ 90 ∧ u ≤ 180 ∧ v0 = nI l ∧ v1 = nI u ∧ v2 = nI b ∧ v3 = (if K = 3 then nI c else -1)
/-- the way in the reference -/
def RQ (hr h : gz_H) (K o0 : Nat) (J : Nat → Nat) : Prop := RW hr h ∧ gz_I h 15 47 = nI K ∧ (∀ k, k < K → gz_I h 53 k = nI (J k)) ∧ gz_I h 54 0 = nI o0
set_option maxHeartbeats 8000000 in
theorem rw_in {hr h : gz_H} {K o0 cy : Nat} {J : Nat → Nat} {A B : Nat → Nat → Nat} (rq : RQ hr h K o0 J) (hK : K = 2 ∨ K = 3) (c0 : 0 < cy) (c9 : cy ≤ 90) (a b c z : Int32) (xn yn pn qn : Nat) (P : ∀ h2 ob oc, RQ hr h2 K o0 J → gz_I h2 54 1 = nI ob → gz_I h2 54 2 = nI oc → ob < cy → oc < cy → se_X8_passing [.ref 15, .int (nI xn), .int (nI pn), .int (nI qn), .int 0] h2 = some (some (.int (nI (A ob oc))), h2) ∧ se_X8_passing [.ref 15, .int (nI yn), .int (nI pn), .int (nI qn), .int 1] h2 = some (some (.int (nI (B ob oc))), h2)) (AB : ∀ s t, A s t ≤ 90 ∧ B s t ≤ 90) (ob oc : Nat) (hob : ob < cy) (hoc : oc < wm K cy) (S : Option (Nat × Nat × Nat × Nat)) (v0 v1 v2 v3 : Int32) (R : RR K S v0 v1 v2 v3) : ∃ e' h' u0 u1 u2 u3, lb_X8_wave_66 [.ref 15, .int a, .int b, .int c, .int (nI xn), .int (nI yn), .int (nI pn), .int (nI qn), .int z, .int (nI cy), .int v0, .int v1, .int v2, .int v3, .int (nI ob), .int (nI oc)] h = some (.inl (66, e', h')) ∧ e'.take 16 = [.ref 15, .int a, .int b, .int c, .int (nI xn), .int (nI yn), .int (nI pn), .int (nI qn), .int z, .int (nI cy), .int u0, .int u1, .int u2, .int u3, .int (nI ob), .int (nI (oc + 1))] ∧ RQ hr h' K o0 J ∧ RR K (wsv (A ob oc) (B ob oc) S ob oc) u0 u1 u2 u3 := by
  have hm : wm K cy ≤ cy := by
    unfold wm
    split <;> omega
  have rq2 : RQ hr (gz_set (gz_set h 54 1 (.int (nI ob))) 54 2 (.int (nI oc))) K o0 J := ⟨RW_54 (RW_54 rq.1 _ _) _ _, by rw [I_seto _ _ _ _ _ _ (by omega), I_seto _ _ _ _ _ _ (by omega)]; exact rq.2.1, fun k hk => by rw [I_seto _ _ _ _ _ _ (by omega), I_seto _ _ _ _ _ _ (by omega)]; exact rq.2.2.1 k hk, by rw [I_seto _ _ _ _ _ _ (by omega), I_seto _ _ _ _ _ _ (by omega)]; exact rq.2.2.2⟩
  obtain ⟨p0, p1⟩ := P _ ob oc rq2 (by rw [I_seto _ _ _ _ _ _ (by omega), I_set, if_pos ⟨rfl, rfl⟩]) (by rw [I_set, if_pos ⟨rfl, rfl⟩]) hob (by omega)
  obtain ⟨b0, b1⟩ := AB ob oc
  generalize A ob oc = x at *
  generalize B ob oc = y at *
  have m1 := rq.1.1
  have m2 := (RW_54 rq.1 1 (nI ob)).1
  have m3 := rq2.1.1
  have e47 := rq.2.1
  have f47 := rq2.2.1
  have k1 : (if K = 3 then nI oc < nI cy else nI oc < 1) := by
    unfold wm at hoc
    split
    · rw [if_pos (by assumption)] at hoc; exact nI_lt hoc (by omega)
    · rw [if_neg (by assumption)] at hoc; exact nI_lt (b := 1) hoc (by omega)
  have l1 : ¬ (1 : Int32) < 0 := by decide
  have l2 : ¬ (2 : Int32) < 0 := by decide
  have d1 : (1 : Int32).toNatClampNeg = 1 := rfl
  have d2 : (2 : Int32).toNatClampNeg = 2 := rfl
  have q13 : 1 < 3 := by decide
  have q23 : 2 < 3 := by decide
  have mi := st_min (nI x) (nI y) (gz_set (gz_set h 54 1 (.int (nI ob))) 54 2 (.int (nI oc)))
  rw [mn_nI (by omega) (by omega)] at mi
  have sa : nI x + nI y = nI (x + y) := nI_add _ _
  have i1 : nI oc + 1 = nI (oc + 1) := nI_add oc 1
  have bm1 : min x y ≤ 90 := by omega
  have up : ∀ (S' : Option (Nat × Nat × Nat × Nat)), S' = some (min x y, x + y, ob, oc) → RR K S' (nI (min x y)) (nI (x + y)) (nI ob) (if K = 3 then nI oc else -1) := fun S' e => by
    rw [e]
    exact ⟨bm1, by omega, rfl, rfl, rfl, rfl⟩
  have hh : ∀ kd : Bool, decide (nI K = (3 : Int32)) = kd → (kd = true → nI oc < nI cy) → (kd = false → nI oc < 1) → (kd = true ↔ K = 3) → ∃ e' h' u0 u1 u2 u3, lb_X8_wave_66 [.ref 15, .int a, .int b, .int c, .int (nI xn), .int (nI yn), .int (nI pn), .int (nI qn), .int z, .int (nI cy), .int v0, .int v1, .int v2, .int v3, .int (nI ob), .int (nI oc)] h = some (.inl (66, e', h')) ∧ e'.take 16 = [.ref 15, .int a, .int b, .int c, .int (nI xn), .int (nI yn), .int (nI pn), .int (nI qn), .int z, .int (nI cy), .int u0, .int u1, .int u2, .int u3, .int (nI ob), .int (nI (oc + 1))] ∧ RQ hr h' K o0 J ∧ RR K (wsv x y S ob oc) u0 u1 u2 u3 := by
    intro kd hkd ka kb kc
    have e3 : (if K = 3 then nI oc else (-1 : Int32)) = if kd = true then nI oc else -1 := by
      by_cases q : K = 3
      · rw [if_pos q, if_pos (kc.mpr q)]
      · rw [if_neg q, if_neg (fun u => q (kc.mp u))]
    have yes : (¬ nI (min x y) < v0) → (decide (nI (min x y) = v0) = false ∨ (decide (nI (min x y) = v0) = true ∧ v1 < nI (x + y))) → wsv x y S ob oc = some (min x y, x + y, ob, oc) → ∃ e' h' u0 u1 u2 u3, lb_X8_wave_66 [.ref 15, .int a, .int b, .int c, .int (nI xn), .int (nI yn), .int (nI pn), .int (nI qn), .int z, .int (nI cy), .int v0, .int v1, .int v2, .int v3, .int (nI ob), .int (nI oc)] h = some (.inl (66, e', h')) ∧ e'.take 16 = [.ref 15, .int a, .int b, .int c, .int (nI xn), .int (nI yn), .int (nI pn), .int (nI qn), .int z, .int (nI cy), .int u0, .int u1, .int u2, .int u3, .int (nI ob), .int (nI (oc + 1))] ∧ RQ hr h' K o0 J ∧ RR K (wsv x y S ob oc) u0 u1 u2 u3 := by
      intro t1 t2 t3
      refine ⟨[.ref 15, .int a, .int b, .int c, .int (nI xn), .int (nI yn), .int (nI pn), .int (nI qn), .int z, .int (nI cy), .int (nI (min x y)), .int (nI (x + y)), .int (nI ob), .int (if K = 3 then nI oc else -1), .int (nI ob), .int (nI (oc + 1))], _, nI (min x y), nI (x + y), nI ob, if K = 3 then nI oc else -1, ?_, rfl, rq2, up _ t3⟩
      rw [e3]
      cases kd with
      | true =>
        have k2 := ka rfl
        rcases t2 with t2 | ⟨t2, t4⟩
        · simp only [lb_X8_wave_66, gz_sem, gz_ae, Value.category, gz_i, gz_l, gz_nu, gz_li, gz_ll, gz_la, gz_ib, gz_iz, gz_lb, gz_lz, gz_ls, gz_lc, gz_i2l, gz_l2i, gz_get, gz_ald, gz_len, gz_dup, gz_d2, gz_nar, gz_a0, gz_a1, gz_cs, gz_cv, gz_mk, gz_te, gz_j1, gz_j2, gz_jn, gz_jk, gz_jo, gz_ja, gz_sat, gz_seti, gz_seta, gz_set2, gz_inc, gz_put, gz_ast, gz_pop, gz_vs, gz_vv, gz_sup, gz_rv, gz_ri, gz_rl, gz_ra, gz_if, gz_seq, gz_sw, gz_st, gz_st2, rok_I, rok_J, rok_V, rok_Z0, rok_Z1, rok_Zi, rok_R, rok_N, bi_rok, bi_0, bi_1, fit_I, fit_J, fit_Z0, fit_Z1, fit_Zi, fit_R, fit_N, fit_aR, aty_I, aty_Z0, aty_Z1, aty_Zi, aty_J, gz_ix, List.getElem?_cons_zero, List.getElem?_cons_succ, List.getElem?_nil, List.reverse_cons, List.reverse_nil, List.nil_append, List.cons_append, List.take_succ_cons, List.take_zero, List.take_nil, List.length_cons, List.length_nil, decide_true, decide_false, decide_not, Bool.not_true, Bool.not_false, gz_nle, if_true, if_false, and_true, true_and, and_self, and_false, false_and, or_true, true_or, or_false, false_or, Bool.false_eq_true, not_true, not_false_iff, Decidable.not_not, Nat.reduceLeDiff, Nat.reduceAdd, Nat.reduceEqDiff, Nat.reduceSub, Nat.reduceLT, Nat.zero_add, reduceCtorEq, reduceIte, eq_self, i32_10, i32_01, Nat.zero_le, Nat.one_ne_zero, m1, m2, m3, md_k, e47, f47, hkd, k2, l1, l2, d1, d2, q13, q23, p0, p1, mi, sa, t1, t2, i1]
        · simp only [lb_X8_wave_66, gz_sem, gz_ae, Value.category, gz_i, gz_l, gz_nu, gz_li, gz_ll, gz_la, gz_ib, gz_iz, gz_lb, gz_lz, gz_ls, gz_lc, gz_i2l, gz_l2i, gz_get, gz_ald, gz_len, gz_dup, gz_d2, gz_nar, gz_a0, gz_a1, gz_cs, gz_cv, gz_mk, gz_te, gz_j1, gz_j2, gz_jn, gz_jk, gz_jo, gz_ja, gz_sat, gz_seti, gz_seta, gz_set2, gz_inc, gz_put, gz_ast, gz_pop, gz_vs, gz_vv, gz_sup, gz_rv, gz_ri, gz_rl, gz_ra, gz_if, gz_seq, gz_sw, gz_st, gz_st2, rok_I, rok_J, rok_V, rok_Z0, rok_Z1, rok_Zi, rok_R, rok_N, bi_rok, bi_0, bi_1, fit_I, fit_J, fit_Z0, fit_Z1, fit_Zi, fit_R, fit_N, fit_aR, aty_I, aty_Z0, aty_Z1, aty_Zi, aty_J, gz_ix, List.getElem?_cons_zero, List.getElem?_cons_succ, List.getElem?_nil, List.reverse_cons, List.reverse_nil, List.nil_append, List.cons_append, List.take_succ_cons, List.take_zero, List.take_nil, List.length_cons, List.length_nil, decide_true, decide_false, decide_not, Bool.not_true, Bool.not_false, gz_nle, if_true, if_false, and_true, true_and, and_self, and_false, false_and, or_true, true_or, or_false, false_or, Bool.false_eq_true, not_true, not_false_iff, Decidable.not_not, Nat.reduceLeDiff, Nat.reduceAdd, Nat.reduceEqDiff, Nat.reduceSub, Nat.reduceLT, Nat.zero_add, reduceCtorEq, reduceIte, eq_self, i32_10, i32_01, Nat.zero_le, Nat.one_ne_zero, m1, m2, m3, md_k, e47, f47, hkd, k2, l1, l2, d1, d2, q13, q23, p0, p1, mi, sa, t1, t2, t4, i1]
      | false =>
        have k2 := kb rfl
        rcases t2 with t2 | ⟨t2, t4⟩
        · simp only [lb_X8_wave_66, gz_sem, gz_ae, Value.category, gz_i, gz_l, gz_nu, gz_li, gz_ll, gz_la, gz_ib, gz_iz, gz_lb, gz_lz, gz_ls, gz_lc, gz_i2l, gz_l2i, gz_get, gz_ald, gz_len, gz_dup, gz_d2, gz_nar, gz_a0, gz_a1, gz_cs, gz_cv, gz_mk, gz_te, gz_j1, gz_j2, gz_jn, gz_jk, gz_jo, gz_ja, gz_sat, gz_seti, gz_seta, gz_set2, gz_inc, gz_put, gz_ast, gz_pop, gz_vs, gz_vv, gz_sup, gz_rv, gz_ri, gz_rl, gz_ra, gz_if, gz_seq, gz_sw, gz_st, gz_st2, rok_I, rok_J, rok_V, rok_Z0, rok_Z1, rok_Zi, rok_R, rok_N, bi_rok, bi_0, bi_1, fit_I, fit_J, fit_Z0, fit_Z1, fit_Zi, fit_R, fit_N, fit_aR, aty_I, aty_Z0, aty_Z1, aty_Zi, aty_J, gz_ix, List.getElem?_cons_zero, List.getElem?_cons_succ, List.getElem?_nil, List.reverse_cons, List.reverse_nil, List.nil_append, List.cons_append, List.take_succ_cons, List.take_zero, List.take_nil, List.length_cons, List.length_nil, decide_true, decide_false, decide_not, Bool.not_true, Bool.not_false, gz_nle, if_true, if_false, and_true, true_and, and_self, and_false, false_and, or_true, true_or, or_false, false_or, Bool.false_eq_true, not_true, not_false_iff, Decidable.not_not, Nat.reduceLeDiff, Nat.reduceAdd, Nat.reduceEqDiff, Nat.reduceSub, Nat.reduceLT, Nat.zero_add, reduceCtorEq, reduceIte, eq_self, i32_10, i32_01, Nat.zero_le, Nat.one_ne_zero, m1, m2, m3, md_k, e47, f47, hkd, k2, l1, l2, d1, d2, q13, q23, p0, p1, mi, sa, t1, t2, i1]
        · simp only [lb_X8_wave_66, gz_sem, gz_ae, Value.category, gz_i, gz_l, gz_nu, gz_li, gz_ll, gz_la, gz_ib, gz_iz, gz_lb, gz_lz, gz_ls, gz_lc, gz_i2l, gz_l2i, gz_get, gz_ald, gz_len, gz_dup, gz_d2, gz_nar, gz_a0, gz_a1, gz_cs, gz_cv, gz_mk, gz_te, gz_j1, gz_j2, gz_jn, gz_jk, gz_jo, gz_ja, gz_sat, gz_seti, gz_seta, gz_set2, gz_inc, gz_put, gz_ast, gz_pop, gz_vs, gz_vv, gz_sup, gz_rv, gz_ri, gz_rl, gz_ra, gz_if, gz_seq, gz_sw, gz_st, gz_st2, rok_I, rok_J, rok_V, rok_Z0, rok_Z1, rok_Zi, rok_R, rok_N, bi_rok, bi_0, bi_1, fit_I, fit_J, fit_Z0, fit_Z1, fit_Zi, fit_R, fit_N, fit_aR, aty_I, aty_Z0, aty_Z1, aty_Zi, aty_J, gz_ix, List.getElem?_cons_zero, List.getElem?_cons_succ, List.getElem?_nil, List.reverse_cons, List.reverse_nil, List.nil_append, List.cons_append, List.take_succ_cons, List.take_zero, List.take_nil, List.length_cons, List.length_nil, decide_true, decide_false, decide_not, Bool.not_true, Bool.not_false, gz_nle, if_true, if_false, and_true, true_and, and_self, and_false, false_and, or_true, true_or, or_false, false_or, Bool.false_eq_true, not_true, not_false_iff, Decidable.not_not, Nat.reduceLeDiff, Nat.reduceAdd, Nat.reduceEqDiff, Nat.reduceSub, Nat.reduceLT, Nat.zero_add, reduceCtorEq, reduceIte, eq_self, i32_10, i32_01, Nat.zero_le, Nat.one_ne_zero, m1, m2, m3, md_k, e47, f47, hkd, k2, l1, l2, d1, d2, q13, q23, p0, p1, mi, sa, t1, t2, t4, i1]
    have no : (nI (min x y) < v0 ∨ (¬ nI (min x y) < v0 ∧ decide (nI (min x y) = v0) = true ∧ ¬ v1 < nI (x + y))) → wsv x y S ob oc = S → ∃ e' h' u0 u1 u2 u3, lb_X8_wave_66 [.ref 15, .int a, .int b, .int c, .int (nI xn), .int (nI yn), .int (nI pn), .int (nI qn), .int z, .int (nI cy), .int v0, .int v1, .int v2, .int v3, .int (nI ob), .int (nI oc)] h = some (.inl (66, e', h')) ∧ e'.take 16 = [.ref 15, .int a, .int b, .int c, .int (nI xn), .int (nI yn), .int (nI pn), .int (nI qn), .int z, .int (nI cy), .int u0, .int u1, .int u2, .int u3, .int (nI ob), .int (nI (oc + 1))] ∧ RQ hr h' K o0 J ∧ RR K (wsv x y S ob oc) u0 u1 u2 u3 := by
      intro t1 t3
      rw [t3]
      refine ⟨[.ref 15, .int a, .int b, .int c, .int (nI xn), .int (nI yn), .int (nI pn), .int (nI qn), .int z, .int (nI cy), .int v0, .int v1, .int v2, .int v3, .int (nI ob), .int (nI (oc + 1))], _, v0, v1, v2, v3, ?_, rfl, rq2, R⟩
      cases kd with
      | true =>
        have k2 := ka rfl
        rcases t1 with t1 | ⟨t1, t2, t4⟩
        · simp only [lb_X8_wave_66, gz_sem, gz_ae, Value.category, gz_i, gz_l, gz_nu, gz_li, gz_ll, gz_la, gz_ib, gz_iz, gz_lb, gz_lz, gz_ls, gz_lc, gz_i2l, gz_l2i, gz_get, gz_ald, gz_len, gz_dup, gz_d2, gz_nar, gz_a0, gz_a1, gz_cs, gz_cv, gz_mk, gz_te, gz_j1, gz_j2, gz_jn, gz_jk, gz_jo, gz_ja, gz_sat, gz_seti, gz_seta, gz_set2, gz_inc, gz_put, gz_ast, gz_pop, gz_vs, gz_vv, gz_sup, gz_rv, gz_ri, gz_rl, gz_ra, gz_if, gz_seq, gz_sw, gz_st, gz_st2, rok_I, rok_J, rok_V, rok_Z0, rok_Z1, rok_Zi, rok_R, rok_N, bi_rok, bi_0, bi_1, fit_I, fit_J, fit_Z0, fit_Z1, fit_Zi, fit_R, fit_N, fit_aR, aty_I, aty_Z0, aty_Z1, aty_Zi, aty_J, gz_ix, List.getElem?_cons_zero, List.getElem?_cons_succ, List.getElem?_nil, List.reverse_cons, List.reverse_nil, List.nil_append, List.cons_append, List.take_succ_cons, List.take_zero, List.take_nil, List.length_cons, List.length_nil, decide_true, decide_false, decide_not, Bool.not_true, Bool.not_false, gz_nle, if_true, if_false, and_true, true_and, and_self, and_false, false_and, or_true, true_or, or_false, false_or, Bool.false_eq_true, not_true, not_false_iff, Decidable.not_not, Nat.reduceLeDiff, Nat.reduceAdd, Nat.reduceEqDiff, Nat.reduceSub, Nat.reduceLT, Nat.zero_add, reduceCtorEq, reduceIte, eq_self, i32_10, i32_01, Nat.zero_le, Nat.one_ne_zero, m1, m2, m3, md_k, e47, f47, hkd, k2, l1, l2, d1, d2, q13, q23, p0, p1, mi, sa, t1, i1]
        · simp only [lb_X8_wave_66, gz_sem, gz_ae, Value.category, gz_i, gz_l, gz_nu, gz_li, gz_ll, gz_la, gz_ib, gz_iz, gz_lb, gz_lz, gz_ls, gz_lc, gz_i2l, gz_l2i, gz_get, gz_ald, gz_len, gz_dup, gz_d2, gz_nar, gz_a0, gz_a1, gz_cs, gz_cv, gz_mk, gz_te, gz_j1, gz_j2, gz_jn, gz_jk, gz_jo, gz_ja, gz_sat, gz_seti, gz_seta, gz_set2, gz_inc, gz_put, gz_ast, gz_pop, gz_vs, gz_vv, gz_sup, gz_rv, gz_ri, gz_rl, gz_ra, gz_if, gz_seq, gz_sw, gz_st, gz_st2, rok_I, rok_J, rok_V, rok_Z0, rok_Z1, rok_Zi, rok_R, rok_N, bi_rok, bi_0, bi_1, fit_I, fit_J, fit_Z0, fit_Z1, fit_Zi, fit_R, fit_N, fit_aR, aty_I, aty_Z0, aty_Z1, aty_Zi, aty_J, gz_ix, List.getElem?_cons_zero, List.getElem?_cons_succ, List.getElem?_nil, List.reverse_cons, List.reverse_nil, List.nil_append, List.cons_append, List.take_succ_cons, List.take_zero, List.take_nil, List.length_cons, List.length_nil, decide_true, decide_false, decide_not, Bool.not_true, Bool.not_false, gz_nle, if_true, if_false, and_true, true_and, and_self, and_false, false_and, or_true, true_or, or_false, false_or, Bool.false_eq_true, not_true, not_false_iff, Decidable.not_not, Nat.reduceLeDiff, Nat.reduceAdd, Nat.reduceEqDiff, Nat.reduceSub, Nat.reduceLT, Nat.zero_add, reduceCtorEq, reduceIte, eq_self, i32_10, i32_01, Nat.zero_le, Nat.one_ne_zero, m1, m2, m3, md_k, e47, f47, hkd, k2, l1, l2, d1, d2, q13, q23, p0, p1, mi, sa, t1, t2, t4, i1]
      | false =>
        have k2 := kb rfl
        rcases t1 with t1 | ⟨t1, t2, t4⟩
        · simp only [lb_X8_wave_66, gz_sem, gz_ae, Value.category, gz_i, gz_l, gz_nu, gz_li, gz_ll, gz_la, gz_ib, gz_iz, gz_lb, gz_lz, gz_ls, gz_lc, gz_i2l, gz_l2i, gz_get, gz_ald, gz_len, gz_dup, gz_d2, gz_nar, gz_a0, gz_a1, gz_cs, gz_cv, gz_mk, gz_te, gz_j1, gz_j2, gz_jn, gz_jk, gz_jo, gz_ja, gz_sat, gz_seti, gz_seta, gz_set2, gz_inc, gz_put, gz_ast, gz_pop, gz_vs, gz_vv, gz_sup, gz_rv, gz_ri, gz_rl, gz_ra, gz_if, gz_seq, gz_sw, gz_st, gz_st2, rok_I, rok_J, rok_V, rok_Z0, rok_Z1, rok_Zi, rok_R, rok_N, bi_rok, bi_0, bi_1, fit_I, fit_J, fit_Z0, fit_Z1, fit_Zi, fit_R, fit_N, fit_aR, aty_I, aty_Z0, aty_Z1, aty_Zi, aty_J, gz_ix, List.getElem?_cons_zero, List.getElem?_cons_succ, List.getElem?_nil, List.reverse_cons, List.reverse_nil, List.nil_append, List.cons_append, List.take_succ_cons, List.take_zero, List.take_nil, List.length_cons, List.length_nil, decide_true, decide_false, decide_not, Bool.not_true, Bool.not_false, gz_nle, if_true, if_false, and_true, true_and, and_self, and_false, false_and, or_true, true_or, or_false, false_or, Bool.false_eq_true, not_true, not_false_iff, Decidable.not_not, Nat.reduceLeDiff, Nat.reduceAdd, Nat.reduceEqDiff, Nat.reduceSub, Nat.reduceLT, Nat.zero_add, reduceCtorEq, reduceIte, eq_self, i32_10, i32_01, Nat.zero_le, Nat.one_ne_zero, m1, m2, m3, md_k, e47, f47, hkd, k2, l1, l2, d1, d2, q13, q23, p0, p1, mi, sa, t1, i1]
        · simp only [lb_X8_wave_66, gz_sem, gz_ae, Value.category, gz_i, gz_l, gz_nu, gz_li, gz_ll, gz_la, gz_ib, gz_iz, gz_lb, gz_lz, gz_ls, gz_lc, gz_i2l, gz_l2i, gz_get, gz_ald, gz_len, gz_dup, gz_d2, gz_nar, gz_a0, gz_a1, gz_cs, gz_cv, gz_mk, gz_te, gz_j1, gz_j2, gz_jn, gz_jk, gz_jo, gz_ja, gz_sat, gz_seti, gz_seta, gz_set2, gz_inc, gz_put, gz_ast, gz_pop, gz_vs, gz_vv, gz_sup, gz_rv, gz_ri, gz_rl, gz_ra, gz_if, gz_seq, gz_sw, gz_st, gz_st2, rok_I, rok_J, rok_V, rok_Z0, rok_Z1, rok_Zi, rok_R, rok_N, bi_rok, bi_0, bi_1, fit_I, fit_J, fit_Z0, fit_Z1, fit_Zi, fit_R, fit_N, fit_aR, aty_I, aty_Z0, aty_Z1, aty_Zi, aty_J, gz_ix, List.getElem?_cons_zero, List.getElem?_cons_succ, List.getElem?_nil, List.reverse_cons, List.reverse_nil, List.nil_append, List.cons_append, List.take_succ_cons, List.take_zero, List.take_nil, List.length_cons, List.length_nil, decide_true, decide_false, decide_not, Bool.not_true, Bool.not_false, gz_nle, if_true, if_false, and_true, true_and, and_self, and_false, false_and, or_true, true_or, or_false, false_or, Bool.false_eq_true, not_true, not_false_iff, Decidable.not_not, Nat.reduceLeDiff, Nat.reduceAdd, Nat.reduceEqDiff, Nat.reduceSub, Nat.reduceLT, Nat.zero_add, reduceCtorEq, reduceIte, eq_self, i32_10, i32_01, Nat.zero_le, Nat.one_ne_zero, m1, m2, m3, md_k, e47, f47, hkd, k2, l1, l2, d1, d2, q13, q23, p0, p1, mi, sa, t1, t2, t4, i1]
    cases S with
    | none =>
      obtain ⟨r0, r1, r2, r3⟩ := R
      have g := m1_lt (n := min x y) (by omega)
      refine yes (fun u => ?_) (Or.inl (decide_eq_false (fun u => ?_))) rfl
      · rw [r0] at u
        exact Int32.lt_irrefl (Int32.lt_trans g u)
      · rw [r0] at u
        rw [u] at g
        exact Int32.lt_irrefl g
    | some S =>
      obtain ⟨l, u, b', c'⟩ := S
      obtain ⟨r1, r2, r3, r4, r5, r6⟩ := R
      by_cases q1 : l < min x y
      · refine yes (by rw [r3]; exact nI_nlt (by omega) (by omega)) (Or.inl (decide_eq_false (fun z => ?_))) ?_
        · rw [r3] at z
          have := (nI_eq (by omega) (by omega)).mp z
          omega
        · show (if _ then _ else _) = _
          rw [if_pos (Or.inl q1)]
      · by_cases q2 : min x y = l
        · have k2 : decide (nI (min x y) = v0) = true := by rw [r3, q2]; exact decide_eq_true rfl
          have k3 : ¬ nI (min x y) < v0 := by rw [r3]; exact nI_nlt (by omega) (by omega)
          by_cases q3 : u < x + y
          · refine yes k3 (Or.inr ⟨k2, by rw [r4]; exact nI_lt q3 (by omega)⟩) ?_
            show (if _ then _ else _) = _
            rw [if_pos (Or.inr ⟨q2, q3⟩)]
          · refine no (Or.inr ⟨k3, k2, by rw [r4]; exact nI_nlt (by omega) (by omega)⟩) ?_
            show (if _ then _ else _) = _
            rw [if_neg (fun z => by omega)]
        · refine no (Or.inl (by rw [r3]; exact nI_lt (by omega) (by omega))) ?_
          show (if _ then _ else _) = _
          rw [if_neg (fun z => by omega)]
  rcases hK with q | q
  · rw [if_neg (by omega)] at k1
    exact hh false (by rw [q]; decide) (fun z => absurd z (by decide)) (fun _ => k1) ⟨fun z => absurd z (by decide), fun z => by omega⟩
  · rw [if_pos q] at k1
    exact hh true (by rw [q]; decide) (fun _ => k1) (fun z => absurd z (by decide)) ⟨fun _ => q, fun _ => rfl⟩
set_option maxHeartbeats 4000000 in
theorem rw_loop {hr h : gz_H} {K o0 cy : Nat} {J : Nat → Nat} {A B : Nat → Nat → Nat} (rq : RQ hr h K o0 J) (hK : K = 2 ∨ K = 3) (c0 : 0 < cy) (c9 : cy ≤ 90) (a b c z : Int32) (xn yn pn qn : Nat) (P : ∀ h2 ob oc, RQ hr h2 K o0 J → gz_I h2 54 1 = nI ob → gz_I h2 54 2 = nI oc → ob < cy → oc < cy → se_X8_passing [.ref 15, .int (nI xn), .int (nI pn), .int (nI qn), .int 0] h2 = some (some (.int (nI (A ob oc))), h2) ∧ se_X8_passing [.ref 15, .int (nI yn), .int (nI pn), .int (nI qn), .int 1] h2 = some (some (.int (nI (B ob oc))), h2)) (AB : ∀ s t, A s t ≤ 90 ∧ B s t ≤ 90) : ∃ e' h', gz_loop 56 15 lb_X8_wave_56 [.ref 15, .int a, .int b, .int c, .int (nI xn), .int (nI yn), .int (nI pn), .int (nI qn), .int z, .int (nI cy), .int (-1), .int 0, .int 0, .int (-1), .int 0] h = some (.inl (206, e', h')) ∧ (∃ v0 v1 v2 v3, e'.take 14 = [.ref 15, .int a, .int b, .int c, .int (nI xn), .int (nI yn), .int (nI pn), .int (nI qn), .int z, .int (nI cy), .int v0, .int v1, .int v2, .int v3] ∧ RR K (wall A B (wm K cy) cy) v0 v1 v2 v3) ∧ RQ hr h' K o0 J := by
  have z0 : (0 : Int32) = nI 0 := rfl
  have hm : wm K cy ≤ cy := by
    unfold wm
    split <;> omega
  have lst : ∀ h', RQ hr h' K o0 J → ∀ (v0 v1 v2 v3 : Int32) (ob : Nat), lb_X8_wave_66 [.ref 15, .int a, .int b, .int c, .int (nI xn), .int (nI yn), .int (nI pn), .int (nI qn), .int z, .int (nI cy), .int v0, .int v1, .int v2, .int v3, .int (nI ob), .int (nI (wm K cy))] h' = some (.inl (200, [.ref 15, .int a, .int b, .int c, .int (nI xn), .int (nI yn), .int (nI pn), .int (nI qn), .int z, .int (nI cy), .int v0, .int v1, .int v2, .int v3, .int (nI ob), .int (nI (wm K cy))], h')) := by
    intro h' q v0 v1 v2 v3 ob
    have m1 := q.1.1
    have e47 := q.2.1
    rcases hK with y | y
    · have kd : decide (nI K = (3 : Int32)) = false := by rw [y]; decide
      have k2 : ¬ nI (wm K cy) < 1 := by unfold wm; rw [if_neg (by omega)]; decide
      simp only [lb_X8_wave_66, gz_sem, gz_ae, Value.category, gz_i, gz_l, gz_nu, gz_li, gz_ll, gz_la, gz_ib, gz_iz, gz_lb, gz_lz, gz_ls, gz_lc, gz_i2l, gz_l2i, gz_get, gz_ald, gz_len, gz_dup, gz_d2, gz_nar, gz_a0, gz_a1, gz_cs, gz_cv, gz_mk, gz_te, gz_j1, gz_j2, gz_jn, gz_jk, gz_jo, gz_ja, gz_sat, gz_seti, gz_seta, gz_set2, gz_inc, gz_put, gz_ast, gz_pop, gz_vs, gz_vv, gz_sup, gz_rv, gz_ri, gz_rl, gz_ra, gz_if, gz_seq, gz_sw, gz_st, gz_st2, rok_I, rok_J, rok_V, rok_Z0, rok_Z1, rok_Zi, rok_R, rok_N, bi_rok, bi_0, bi_1, fit_I, fit_J, fit_Z0, fit_Z1, fit_Zi, fit_R, fit_N, fit_aR, aty_I, aty_Z0, aty_Z1, aty_Zi, aty_J, gz_ix, List.getElem?_cons_zero, List.getElem?_cons_succ, List.getElem?_nil, List.reverse_cons, List.reverse_nil, List.nil_append, List.cons_append, List.take_succ_cons, List.take_zero, List.take_nil, List.length_cons, List.length_nil, decide_true, decide_false, decide_not, Bool.not_true, Bool.not_false, gz_nle, if_true, if_false, and_true, true_and, and_self, and_false, false_and, or_true, true_or, or_false, false_or, Bool.false_eq_true, not_true, not_false_iff, Decidable.not_not, Nat.reduceLeDiff, Nat.reduceAdd, Nat.reduceEqDiff, Nat.reduceSub, Nat.reduceLT, Nat.zero_add, reduceCtorEq, reduceIte, eq_self, i32_10, i32_01, Nat.zero_le, Nat.one_ne_zero, m1, md_k, e47, kd, k2]
    · have kd : decide (nI K = (3 : Int32)) = true := by rw [y]; decide
      have k2 : ¬ nI (wm K cy) < nI cy := by unfold wm; rw [if_pos y]; exact nI_nlt (Nat.le_refl _) (by omega)
      simp only [lb_X8_wave_66, gz_sem, gz_ae, Value.category, gz_i, gz_l, gz_nu, gz_li, gz_ll, gz_la, gz_ib, gz_iz, gz_lb, gz_lz, gz_ls, gz_lc, gz_i2l, gz_l2i, gz_get, gz_ald, gz_len, gz_dup, gz_d2, gz_nar, gz_a0, gz_a1, gz_cs, gz_cv, gz_mk, gz_te, gz_j1, gz_j2, gz_jn, gz_jk, gz_jo, gz_ja, gz_sat, gz_seti, gz_seta, gz_set2, gz_inc, gz_put, gz_ast, gz_pop, gz_vs, gz_vv, gz_sup, gz_rv, gz_ri, gz_rl, gz_ra, gz_if, gz_seq, gz_sw, gz_st, gz_st2, rok_I, rok_J, rok_V, rok_Z0, rok_Z1, rok_Zi, rok_R, rok_N, bi_rok, bi_0, bi_1, fit_I, fit_J, fit_Z0, fit_Z1, fit_Zi, fit_R, fit_N, fit_aR, aty_I, aty_Z0, aty_Z1, aty_Zi, aty_J, gz_ix, List.getElem?_cons_zero, List.getElem?_cons_succ, List.getElem?_nil, List.reverse_cons, List.reverse_nil, List.nil_append, List.cons_append, List.take_succ_cons, List.take_zero, List.take_nil, List.length_cons, List.length_nil, decide_true, decide_false, decide_not, Bool.not_true, Bool.not_false, gz_nle, if_true, if_false, and_true, true_and, and_self, and_false, false_and, or_true, true_or, or_false, false_or, Bool.false_eq_true, not_true, not_false_iff, Decidable.not_not, Nat.reduceLeDiff, Nat.reduceAdd, Nat.reduceEqDiff, Nat.reduceSub, Nat.reduceLT, Nat.zero_add, reduceCtorEq, reduceIte, eq_self, i32_10, i32_01, Nat.zero_le, Nat.one_ne_zero, m1, md_k, e47, kd, k2]
  obtain ⟨e', h', q1, q2, q3⟩ := gz_forI (L := 56) (k := 15) (X := 206) (a := lb_X8_wave_56) cy (fun s e h => (∃ v0 v1 v2 v3, e = [.ref 15, .int a, .int b, .int c, .int (nI xn), .int (nI yn), .int (nI pn), .int (nI qn), .int z, .int (nI cy), .int v0, .int v1, .int v2, .int v3, .int (nI s)] ∧ RR K (wall A B (wm K cy) s) v0 v1 v2 v3) ∧ RQ hr h K o0 J) (fun e h => (∃ v0 v1 v2 v3, e.take 14 = [.ref 15, .int a, .int b, .int c, .int (nI xn), .int (nI yn), .int (nI pn), .int (nI qn), .int z, .int (nI cy), .int v0, .int v1, .int v2, .int v3] ∧ RR K (wall A B (wm K cy) cy) v0 v1 v2 v3) ∧ RQ hr h K o0 J) (by decide) (by
    intro s e h hs ⟨⟨v0, v1, v2, v3, ee, r⟩, q⟩
    subst ee
    have k1 : nI s < nI cy := nI_lt hs (by omega)
    have i1 : nI s + 1 = nI (s + 1) := nI_add s 1
    obtain ⟨e2, h2, s1, ⟨u0, u1, u2, u3, s2, s3⟩, s4⟩ := gz_forI (L := 66) (k := 16) (X := 200) (a := lb_X8_wave_66) (wm K cy) (fun t e h => (∃ v0 v1 v2 v3, e = [.ref 15, .int a, .int b, .int c, .int (nI xn), .int (nI yn), .int (nI pn), .int (nI qn), .int z, .int (nI cy), .int v0, .int v1, .int v2, .int v3, .int (nI s), .int (nI t)] ∧ RR K (wrow A B (wall A B (wm K cy) s) s t) v0 v1 v2 v3) ∧ RQ hr h K o0 J) (fun e h => (∃ v0 v1 v2 v3, e = [.ref 15, .int a, .int b, .int c, .int (nI xn), .int (nI yn), .int (nI pn), .int (nI qn), .int z, .int (nI cy), .int v0, .int v1, .int v2, .int v3, .int (nI s), .int (nI (wm K cy))] ∧ RR K (wrow A B (wall A B (wm K cy) s) s (wm K cy)) v0 v1 v2 v3) ∧ RQ hr h K o0 J) (by decide) (by
      intro t e h ht ⟨⟨v0, v1, v2, v3, ee, r⟩, q⟩
      subst ee
      obtain ⟨e', h', u0, u1, u2, u3, x1, x2, x3, x4⟩ := rw_in q hK c0 c9 a b c z xn yn pn qn P AB s t hs ht _ v0 v1 v2 v3 r
      exact ⟨e', h', x1, ⟨u0, u1, u2, u3, x2, x4⟩, x3⟩) (by
      intro e h ⟨⟨v0, v1, v2, v3, ee, r⟩, q⟩
      subst ee
      exact ⟨_, h, lst h q v0 v1 v2 v3 s, ⟨v0, v1, v2, v3, rfl, r⟩, q⟩) (wm K cy) 0 [.ref 15, .int a, .int b, .int c, .int (nI xn), .int (nI yn), .int (nI pn), .int (nI qn), .int z, .int (nI cy), .int v0, .int v1, .int v2, .int v3, .int (nI s), .int (nI 0)] h (by omega) ⟨⟨v0, v1, v2, v3, rfl, r⟩, q⟩
    rw [← z0] at s1
    subst s2
    refine ⟨[.ref 15, .int a, .int b, .int c, .int (nI xn), .int (nI yn), .int (nI pn), .int (nI qn), .int z, .int (nI cy), .int u0, .int u1, .int u2, .int u3, .int (nI (s + 1))], h2, ?_, ⟨u0, u1, u2, u3, rfl, s3⟩, s4⟩
    simp only [lb_X8_wave_56, gz_sem, gz_ae, Value.category, gz_i, gz_l, gz_nu, gz_li, gz_ll, gz_la, gz_ib, gz_iz, gz_lb, gz_lz, gz_ls, gz_lc, gz_i2l, gz_l2i, gz_get, gz_ald, gz_len, gz_dup, gz_d2, gz_nar, gz_a0, gz_a1, gz_cs, gz_cv, gz_mk, gz_te, gz_j1, gz_j2, gz_jn, gz_jk, gz_jo, gz_ja, gz_sat, gz_seti, gz_seta, gz_set2, gz_inc, gz_put, gz_ast, gz_pop, gz_vs, gz_vv, gz_sup, gz_rv, gz_ri, gz_rl, gz_ra, gz_if, gz_seq, gz_sw, gz_st, gz_st2, rok_I, rok_J, rok_V, rok_Z0, rok_Z1, rok_Zi, rok_R, rok_N, bi_rok, bi_0, bi_1, fit_I, fit_J, fit_Z0, fit_Z1, fit_Zi, fit_R, fit_N, fit_aR, aty_I, aty_Z0, aty_Z1, aty_Zi, aty_J, gz_ix, List.getElem?_cons_zero, List.getElem?_cons_succ, List.getElem?_nil, List.reverse_cons, List.reverse_nil, List.nil_append, List.cons_append, List.take_succ_cons, List.take_zero, List.take_nil, List.length_cons, List.length_nil, decide_true, decide_false, decide_not, Bool.not_true, Bool.not_false, gz_nle, if_true, if_false, and_true, true_and, and_self, and_false, false_and, or_true, true_or, or_false, false_or, Bool.false_eq_true, not_true, not_false_iff, Decidable.not_not, Nat.reduceLeDiff, Nat.reduceAdd, Nat.reduceEqDiff, Nat.reduceSub, Nat.reduceLT, Nat.zero_add, reduceCtorEq, reduceIte, eq_self, i32_10, i32_01, Nat.zero_le, Nat.one_ne_zero, k1, s1, i1]) (by
    intro e h ⟨⟨v0, v1, v2, v3, ee, r⟩, q⟩
    subst ee
    have k2 : ¬ nI cy < nI cy := nI_nlt (Nat.le_refl _) (by omega)
    refine ⟨[.ref 15, .int a, .int b, .int c, .int (nI xn), .int (nI yn), .int (nI pn), .int (nI qn), .int z, .int (nI cy), .int v0, .int v1, .int v2, .int v3, .int (nI cy)], h, ?_, ⟨v0, v1, v2, v3, rfl, r⟩, q⟩
    simp only [lb_X8_wave_56, gz_sem, gz_ae, Value.category, gz_i, gz_l, gz_nu, gz_li, gz_ll, gz_la, gz_ib, gz_iz, gz_lb, gz_lz, gz_ls, gz_lc, gz_i2l, gz_l2i, gz_get, gz_ald, gz_len, gz_dup, gz_d2, gz_nar, gz_a0, gz_a1, gz_cs, gz_cv, gz_mk, gz_te, gz_j1, gz_j2, gz_jn, gz_jk, gz_jo, gz_ja, gz_sat, gz_seti, gz_seta, gz_set2, gz_inc, gz_put, gz_ast, gz_pop, gz_vs, gz_vv, gz_sup, gz_rv, gz_ri, gz_rl, gz_ra, gz_if, gz_seq, gz_sw, gz_st, gz_st2, rok_I, rok_J, rok_V, rok_Z0, rok_Z1, rok_Zi, rok_R, rok_N, bi_rok, bi_0, bi_1, fit_I, fit_J, fit_Z0, fit_Z1, fit_Zi, fit_R, fit_N, fit_aR, aty_I, aty_Z0, aty_Z1, aty_Zi, aty_J, gz_ix, List.getElem?_cons_zero, List.getElem?_cons_succ, List.getElem?_nil, List.reverse_cons, List.reverse_nil, List.nil_append, List.cons_append, List.take_succ_cons, List.take_zero, List.take_nil, List.length_cons, List.length_nil, decide_true, decide_false, decide_not, Bool.not_true, Bool.not_false, gz_nle, if_true, if_false, and_true, true_and, and_self, and_false, false_and, or_true, true_or, or_false, false_or, Bool.false_eq_true, not_true, not_false_iff, Decidable.not_not, Nat.reduceLeDiff, Nat.reduceAdd, Nat.reduceEqDiff, Nat.reduceSub, Nat.reduceLT, Nat.zero_add, reduceCtorEq, reduceIte, eq_self, i32_10, i32_01, Nat.zero_le, Nat.one_ne_zero, k2]) cy 0 [.ref 15, .int a, .int b, .int c, .int (nI xn), .int (nI yn), .int (nI pn), .int (nI qn), .int z, .int (nI cy), .int (-1), .int 0, .int 0, .int (-1), .int (nI 0)] h (by omega) ⟨⟨-1, 0, 0, -1, rfl, rfl, rfl, rfl, rfl⟩, rq⟩
  rw [← z0] at q1
  exact ⟨e', h', q1, q2, q3⟩
