theorem IV_aw {g : gz_G} {T : Nat} {P : Nat → Nat} {hc hc' hr : gz_H} (H : IV g T P hc hr) (w : AW hc hc') : IV g T P hc' hr := by
  obtain ⟨n, k, e, y⟩ := w
  have e0 := e 0 (by omega)
  have F := H.1
  refine IV_fix H n (fun x hx => e x (by omega)) (fun x _ => k x) (fun f _ => by rw [e0.1]) (fun f h1 h2 => by rw [sm_I e0, e0.1]; exact IV_vi H f (by omega) h2) (fun i => by rw [(e 1 (by omega)).1]) ?_ y ?_ (IV_md H) (fun _ _ => rfl) (fun _ _ _ => rfl) ?_
  · obtain ⟨w1, w2, w3⟩ := F.2.2.1
    have a2 := e 2 (by omega)
    have a3 := e 3 (by omega)
    refine ⟨by omega, by omega, ?_⟩
    simp only [Nat.reduceAdd, sm_I a2, sm_I a3, a2.1, a2.2, a3.1, a3.2]
    exact w3
  · have a9 := e 9 (by omega)
    obtain ⟨w1, w2, w3, w4, w5, w6, w7, w8⟩ := F.2.2.2.2.1
    simp only [yc, a9.1, sm_I a9]
    exact ⟨w1, w2, w3, w4, w5, w6, fun x i h1 h2 => by rw [sm_I (e x (by omega)), (e x (by omega)).1]; exact w7 x i h1 h2, fun x i h1 h2 => by rw [sm_J (e x (by omega)), (e x (by omega)).1]; exact w8 x i h1 h2⟩
  · have W := H.2.1
    unfold WV at *
    rw [e0.1]
    exact W
/-- only the reference's own rows change -/
def QW (hr hr' : gz_H) : Prop := md hr' ∧ fr7 hr hr' ∧ ∀ b i, ¬ (34 ≤ b ∧ b ≤ 36) → ¬ (b = 15 ∧ 27 ≤ i) → gz_v hr' b i = gz_v hr b i
theorem IV_qw {g : gz_G} {T : Nat} {P : Nat → Nat} {hc hr hr' : gz_H} (H : IV g T P hc hr) (w : QW hr hr') : IV g T P hc hr' := by
  obtain ⟨m, f, r⟩ := w
  refine IV_fix H rfl (fun x _ => sm_rf _ _) (fun _ _ => rfl) (fun _ _ => rfl) (fun f h1 h2 => IV_vi H f (by omega) h2) (fun _ => rfl) H.1.2.2.1 H.1.2.2.2.1 H.1.2.2.2.2.1 m (fun f hf => r _ _ (by omega) (by omega)) (fun x i hx => r _ _ (by omega) (by omega)) ?_
  have W := H.2.1
  unfold WV at *
  rw [vI (r 15 18 (by omega) (by omega)), vI (r 15 19 (by omega) (by omega)), vI (r 15 20 (by omega) (by omega)), vI (r 15 21 (by omega) (by omega))]
  exact W
theorem UW_QW {h h' : gz_H} (w : UW h h') : QW h h' := ⟨w.1, w.2.1, fun b i hb _ => w.2.2 b i (by omega)⟩
theorem AW_8 {h h' : gz_H} (w : AW h h') : fr8 h h' := ⟨by rw [w.1]; exact Nat.le_refl _, fun x h1 h2 => w.2.2.1 x (by omega)⟩
/-- a junction and its begun plan, on both sides -/
theorem AX_of {g : gz_G} {T : Nat} {P : Nat → Nat} {hc hr : gz_H} (H : IV g T P hc hr) {j n c : Nat} (hj : j < g 7 0) (po : PO g j) (pv : PV hc hr (g 6 j) (g 3 j) j n c) (n2 : 2 ≤ n) : AX hc (g 7 0) (g 0 j) (g 6 j) (g 3 j) n (fun i => g 1 (8 * j + i)) (fun i => (gz_I hr 18 (8 * j + i)).toNatClampNeg) (fun i => (gz_I hr 19 (8 * j + i)).toNatClampNeg) (fun i s => bt (gz_I hr 26 (4 * j + s)) i) ∧ RX hr j (g 6 j) n (fun i => (gz_I hr 18 (8 * j + i)).toNatClampNeg) (fun i => (gz_I hr 19 (8 * j + i)).toNatClampNeg) (fun i s => bt (gz_I hr 26 (4 * j + s)) i) := by
  have h8 := IV_8 H
  have V := H.2.2.1 j hj
  have hS := IV_S H j
  obtain ⟨v1, v2, v3, v4, v5, v6, v7, v8⟩ := pv
  have st : ∀ i, i < g 6 j → SO g (8 * j + i) ∧ sc hc (g 1 (8 * j + i)) ∧ gz_I hc (g 1 (8 * j + i)) 1 = gz_I hr 18 (8 * j + i) ∧ gz_I hc (g 1 (8 * j + i)) 2 = gz_I hr 19 (8 * j + i) ∧ gz_I hr 18 (8 * j + i) = nI (gz_I hr 18 (8 * j + i)).toNatClampNeg ∧ (gz_I hr 18 (8 * j + i)).toNatClampNeg ≤ 3600 ∧ gz_I hr 19 (8 * j + i) = nI (gz_I hr 19 (8 * j + i)).toNatClampNeg ∧ 600 ≤ (gz_I hr 19 (8 * j + i)).toNatClampNeg ∧ (gz_I hr 19 (8 * j + i)).toNatClampNeg ≤ 3600 := fun i hi => by
    obtain ⟨so, sv, -⟩ := H.2.2.2.2.1.1 (8 * j + i) ⟨by omega, by rw [show (8 * j + i) % 8 = i by omega, show (8 * j + i) / 8 = j by omega]; exact hi⟩
    obtain ⟨s1, -, ⟨s2, k, k1, k2⟩, ⟨s3, r, r1, r2, r3⟩, -⟩ := sv
    have e1 : (gz_I hr 18 (8 * j + i)).toNatClampNeg = k := by rw [k2]; exact nI_clamp (by omega)
    have e2 : (gz_I hr 19 (8 * j + i)).toNatClampNeg = r := by rw [r3]; exact nI_clamp (by omega)
    exact ⟨so, s1, s2, s3, by rw [e1]; exact k2, by rw [e1]; exact k1, by rw [e2]; exact r3, by rw [e2]; exact r1, by rw [e2]; exact r2⟩
  constructor
  · refine ⟨IV_cs H, H.1.2.2.2.1, V.1.2.1, v4, ⟨hS, n2, v1, V.1.1, po.1⟩, fun i hi => ?_, fun i s hi hs => ?_⟩
    · obtain ⟨t1, t2, t3, t4, t5, t6, t7, t8, t9⟩ := st i hi
      exact ⟨V.1.2.2.2.2 i hi, t1.1, t2, t3.trans t5, t6, t4.trans t7, t8, t9⟩
    · rw [(v8 s hs).1]
  · refine ⟨by omega, hS, n2, v1, H.1.2.2.2.2.2.2.2.2.2.2.1 j (by omega), v7, fun i hi => ?_, fun i s hi hs => rfl⟩
    obtain ⟨t1, t2, t3, t4, t5, t6, t7, t8, t9⟩ := st i hi
    exact ⟨t5, t6, t7, t8, t9⟩
def sN (B : Nat → Nat) : Nat → Nat
  | 0 => 0
  | k + 1 => sN B k + B k
theorem sum_sN {h : gz_H} {a n : Nat} {B : Nat → Nat} (e : ∀ s, s < n → gz_I h a s = nI (B s)) : ∀ k, k ≤ n → gz_sum h a k = nI (sN B k)
  | 0, _ => rfl
  | k + 1, hk => by
    show gz_sum h a k + gz_I h a k = nI (sN B k + B k)
    rw [sum_sN e k (by omega), e k (by omega), nI_add]
theorem sN_le {B : Nat → Nat} {n : Nat} (e : ∀ s, s < n → B s ≤ 20) : ∀ k, k ≤ n → sN B k ≤ 20 * k
  | 0, _ => Nat.le_refl _
  | k + 1, hk => by
    have := sN_le e k (by omega)
    have := e k (by omega)
    show sN B k + B k ≤ _
    omega
/-- the betweens' sum -/
theorem bs_of {g : gz_G} {T : Nat} {P : Nat → Nat} {hc hr : gz_H} (H : IV g T P hc hr) {j n c : Nat} (hj : j < g 7 0) (pv : PV hc hr (g 6 j) (g 3 j) j n c) : ∃ B, B ≤ 80 ∧ gz_sum hc (g 3 j + 3) n = nI B ∧ md_bs hr j n n = nI B := by
  have h8 := IV_8 H
  obtain ⟨G, B, -, hB⟩ := gb_of (Nat.mod_eq_of_lt (show j < 8 by omega)) (H.2.2.1 j hj).2.1 pv
  obtain ⟨v1, v2, v3, v4, v5, v6, v7, v8⟩ := pv
  have a := sum_sN (fun s hs => (hB s hs).1) n (Nat.le_refl _)
  have b := sum_bs (hc := hc) (hr := hr) (a := g 3 j + 3) (p := j) (n := n) (fun s hs => (v8 s hs).2.2.2.2.2) n (Nat.le_refl n)
  have l := sN_le (fun s hs => (hB s hs).2.2) n (Nat.le_refl _)
  exact ⟨sN B n, by omega, a, b.symm.trans a⟩
set_option maxHeartbeats 4000000 in
theorem sh_loop {h0 : gz_H} (m0 : md h0) {p S n B : Nat} {Cn Rt : Nat → Nat} {W : Nat → Nat → Bool} (H : RX h0 p S n Cn Rt W) (hB : B ≤ 80) : ∀ d cy h1, cy + d = 91 → 20 ≤ cy → UW h0 h1 → (∀ c', 20 ≤ c' → c' < cy → ¬ SH W Cn Rt S n B c') → ∃ h', UW h0 h' ∧ ((∃ c2, 20 ≤ c2 ∧ c2 ≤ 90 ∧ SH W Cn Rt S n B c2 ∧ (∀ c', 20 ≤ c' → c' < c2 → ¬ SH W Cn Rt S n B c') ∧ gz_loop 19 4 lb_X8_share_19 [.ref 15, .int (nI p), .int (nI B), .int (nI cy)] h1 = some (.inr (some (.int (nI c2)), h'))) ∨ ((∀ c', 20 ≤ c' → c' ≤ 90 → ¬ SH W Cn Rt S n B c') ∧ ∃ e, gz_loop 19 4 lb_X8_share_19 [.ref 15, .int (nI p), .int (nI B), .int (nI cy)] h1 = some (.inl (45, e, h')))) := by
  intro d
  induction d with
  | zero =>
    intro cy h1 e h20 w no
    have : cy = 91 := by omega
    subst this
    have k1 : (90 : Int32) < nI 91 := by decide
    refine ⟨h1, w, Or.inr ⟨fun c' g1 g2 => no c' g1 (by omega), _, gz_loop_exit (l := 45) (env1 := [.ref 15, .int (nI p), .int (nI B), .int (nI 91)]) (h1 := h1) ?_ (by decide)⟩⟩
    simp only [lb_X8_share_19, gz_sem, gz_ae, Value.category, gz_i, gz_l, gz_nu, gz_li, gz_ll, gz_la, gz_ib, gz_iz, gz_lb, gz_lz, gz_ls, gz_lc, gz_i2l, gz_l2i, gz_get, gz_ald, gz_len, gz_dup, gz_d2, gz_nar, gz_a0, gz_a1, gz_cs, gz_cv, gz_mk, gz_te, gz_j1, gz_j2, gz_jn, gz_jk, gz_jo, gz_ja, gz_sat, gz_seti, gz_seta, gz_set2, gz_inc, gz_put, gz_ast, gz_pop, gz_vs, gz_vv, gz_sup, gz_rv, gz_ri, gz_rl, gz_ra, gz_if, gz_seq, gz_sw, gz_st, gz_st2, rok_I, rok_J, rok_V, rok_Z0, rok_Z1, rok_Zi, rok_R, rok_N, bi_rok, bi_0, bi_1, fit_I, fit_J, fit_Z0, fit_Z1, fit_Zi, fit_R, fit_N, fit_aR, aty_I, aty_Z0, aty_Z1, aty_Zi, aty_J, gz_ix, List.getElem?_cons_zero, List.getElem?_cons_succ, List.getElem?_nil, List.reverse_cons, List.reverse_nil, List.nil_append, List.cons_append, List.take_succ_cons, List.take_zero, List.take_nil, List.length_cons, List.length_nil, decide_true, decide_false, decide_not, Bool.not_true, Bool.not_false, gz_nle, if_true, if_false, and_true, true_and, and_self, and_false, false_and, or_true, true_or, or_false, false_or, Bool.false_eq_true, not_true, not_false_iff, Decidable.not_not, Nat.reduceLeDiff, Nat.reduceAdd, Nat.reduceEqDiff, Nat.reduceSub, Nat.reduceLT, Nat.zero_add, reduceCtorEq, reduceIte, eq_self, i32_10, i32_01, Nat.zero_le, Nat.one_ne_zero, k1]
  | succ d ih =>
    intro cy h1 e h20 w no
    have k1 : ¬ (90 : Int32) < nI cy := nI_nlt (a := 90) (by omega) (by omega)
    have m1 := w.1
    obtain ⟨h2, v, a1, a2, a3, a4⟩ := st_lsum m1 (RX_UW w H) cy h20 (by omega)
    have W2 : UW h0 h2 := ⟨a2.1, ⟨a2.2.1.1.trans w.2.1.1, fun x hx => ⟨(a2.2.1.2 x hx).1.trans (w.2.1.2 x hx).1, (a2.2.1.2 x hx).2.trans (w.2.1.2 x hx).2⟩⟩, fun b i hb => (a2.2.2 b i hb).trans (w.2.2 b i hb)⟩
    have key : v + B ≤ cy ↔ SH W Cn Rt S n B cy := by
      by_cases le : B ≤ cy
      · have := a4 (cy - B) (by omega)
        constructor
        · intro z; exact this.mp (by omega)
        · intro z; have := this.mpr z; omega
      · constructor
        · intro z; omega
        · rintro ⟨-, a', b', c', d', f⟩
          have := f.1.1
          have := f.1.2.2.2.2.2.2
          omega
    have ad : nI v + nI B = nI (v + B) := nI_add _ _
    by_cases q : v + B ≤ cy
    · have t : ¬ nI cy < nI (v + B) := nI_nlt q (by omega)
      have st : lb_X8_share_19 [.ref 15, .int (nI p), .int (nI B), .int (nI cy)] h1 = some (.inr (some (.int (nI cy)), h2)) := by
        simp only [lb_X8_share_19, gz_sem, gz_ae, Value.category, gz_i, gz_l, gz_nu, gz_li, gz_ll, gz_la, gz_ib, gz_iz, gz_lb, gz_lz, gz_ls, gz_lc, gz_i2l, gz_l2i, gz_get, gz_ald, gz_len, gz_dup, gz_d2, gz_nar, gz_a0, gz_a1, gz_cs, gz_cv, gz_mk, gz_te, gz_j1, gz_j2, gz_jn, gz_jk, gz_jo, gz_ja, gz_sat, gz_seti, gz_seta, gz_set2, gz_inc, gz_put, gz_ast, gz_pop, gz_vs, gz_vv, gz_sup, gz_rv, gz_ri, gz_rl, gz_ra, gz_if, gz_seq, gz_sw, gz_st, gz_st2, rok_I, rok_J, rok_V, rok_Z0, rok_Z1, rok_Zi, rok_R, rok_N, bi_rok, bi_0, bi_1, fit_I, fit_J, fit_Z0, fit_Z1, fit_Zi, fit_R, fit_N, fit_aR, aty_I, aty_Z0, aty_Z1, aty_Zi, aty_J, gz_ix, List.getElem?_cons_zero, List.getElem?_cons_succ, List.getElem?_nil, List.reverse_cons, List.reverse_nil, List.nil_append, List.cons_append, List.take_succ_cons, List.take_zero, List.take_nil, List.length_cons, List.length_nil, decide_true, decide_false, decide_not, Bool.not_true, Bool.not_false, gz_nle, if_true, if_false, and_true, true_and, and_self, and_false, false_and, or_true, true_or, or_false, false_or, Bool.false_eq_true, not_true, not_false_iff, Decidable.not_not, Nat.reduceLeDiff, Nat.reduceAdd, Nat.reduceEqDiff, Nat.reduceSub, Nat.reduceLT, Nat.zero_add, reduceCtorEq, reduceIte, eq_self, i32_10, i32_01, Nat.zero_le, Nat.one_ne_zero, m1, md_k, k1, a1, ad, t]
      exact ⟨h2, W2, Or.inl ⟨cy, h20, by omega, key.mp q, no, gz_loop_ret (k := 4) (env := [.ref 15, .int (nI p), .int (nI B), .int (nI cy)]) st⟩⟩
    · have t : nI cy < nI (v + B) := nI_lt (by omega) (by omega)
      obtain ⟨h4, w4, r⟩ := ih (cy + 1) h2 (by omega) (by omega) W2 (fun c' g1 g2 => by
        by_cases z : c' = cy
        · subst z; exact fun y => q (key.mpr y)
        · exact no c' g1 (by omega))
      have st : lb_X8_share_19 [.ref 15, .int (nI p), .int (nI B), .int (nI cy)] h1 = some (.inl (19, [.ref 15, .int (nI p), .int (nI B), .int (nI (cy + 1))], h2)) := by
        simp only [lb_X8_share_19, gz_sem, gz_ae, Value.category, gz_i, gz_l, gz_nu, gz_li, gz_ll, gz_la, gz_ib, gz_iz, gz_lb, gz_lz, gz_ls, gz_lc, gz_i2l, gz_l2i, gz_get, gz_ald, gz_len, gz_dup, gz_d2, gz_nar, gz_a0, gz_a1, gz_cs, gz_cv, gz_mk, gz_te, gz_j1, gz_j2, gz_jn, gz_jk, gz_jo, gz_ja, gz_sat, gz_seti, gz_seta, gz_set2, gz_inc, gz_put, gz_ast, gz_pop, gz_vs, gz_vv, gz_sup, gz_rv, gz_ri, gz_rl, gz_ra, gz_if, gz_seq, gz_sw, gz_st, gz_st2, rok_I, rok_J, rok_V, rok_Z0, rok_Z1, rok_Zi, rok_R, rok_N, bi_rok, bi_0, bi_1, fit_I, fit_J, fit_Z0, fit_Z1, fit_Zi, fit_R, fit_N, fit_aR, aty_I, aty_Z0, aty_Z1, aty_Zi, aty_J, gz_ix, List.getElem?_cons_zero, List.getElem?_cons_succ, List.getElem?_nil, List.reverse_cons, List.reverse_nil, List.nil_append, List.cons_append, List.take_succ_cons, List.take_zero, List.take_nil, List.length_cons, List.length_nil, decide_true, decide_false, decide_not, Bool.not_true, Bool.not_false, gz_nle, if_true, if_false, and_true, true_and, and_self, and_false, false_and, or_true, true_or, or_false, false_or, Bool.false_eq_true, not_true, not_false_iff, Decidable.not_not, Nat.reduceLeDiff, Nat.reduceAdd, Nat.reduceEqDiff, Nat.reduceSub, Nat.reduceLT, Nat.zero_add, reduceCtorEq, reduceIte, eq_self, i32_10, i32_01, Nat.zero_le, Nat.one_ne_zero, m1, md_k, k1, a1, ad, t, nI_1]
      refine ⟨h4, w4, ?_⟩
      rcases r with ⟨c2, s1, s2, s3, s4, s5⟩ | ⟨s1, e', s2⟩
      · exact Or.inl ⟨c2, s1, s2, s3, s4, gz_loop_next (k := 4) (env := [.ref 15, .int (nI p), .int (nI B), .int (nI cy)]) st s5⟩
      · exact Or.inr ⟨s1, e', gz_loop_next (k := 4) (env := [.ref 15, .int (nI p), .int (nI B), .int (nI cy)]) st s2⟩
set_option maxHeartbeats 8000000 in
theorem pb_share (x : Int32) : PB se_X7_share se_X8_share [.int x] := by
  intro g T hc hr H
  have c := IV_cs H
  have m := IV_md H
  have h8 := IV_8 H
  rcases ja_cs h8 x with hx | ⟨j, hj, rfl⟩
  · obtain ⟨j1, j2⟩ := ja_no H hx
    have b := bg_no H hx
    refine ⟨.int (-1), hc, hr, g, T, ?_, ?_, fr8_rf _, fr7_rf _, H⟩
    · simp only [se_X7_share, sm_X7_share, gz_sem, gz_ae, Value.category, gz_i, gz_l, gz_nu, gz_li, gz_ll, gz_la, gz_ib, gz_iz, gz_lb, gz_lz, gz_ls, gz_lc, gz_i2l, gz_l2i, gz_get, gz_ald, gz_len, gz_dup, gz_d2, gz_nar, gz_a0, gz_a1, gz_cs, gz_cv, gz_mk, gz_te, gz_j1, gz_j2, gz_jn, gz_jk, gz_jo, gz_ja, gz_sat, gz_seti, gz_seta, gz_set2, gz_inc, gz_put, gz_ast, gz_pop, gz_vs, gz_vv, gz_sup, gz_rv, gz_ri, gz_rl, gz_ra, gz_if, gz_seq, gz_sw, gz_st, gz_st2, rok_I, rok_J, rok_V, rok_Z0, rok_Z1, rok_Zi, rok_R, rok_N, bi_rok, bi_0, bi_1, fit_I, fit_J, fit_Z0, fit_Z1, fit_Zi, fit_R, fit_N, fit_aR, aty_I, aty_Z0, aty_Z1, aty_Zi, aty_J, gz_ix, List.getElem?_cons_zero, List.getElem?_cons_succ, List.getElem?_nil, List.reverse_cons, List.reverse_nil, List.nil_append, List.cons_append, List.take_succ_cons, List.take_zero, List.take_nil, List.length_cons, List.length_nil, decide_true, decide_false, decide_not, Bool.not_true, Bool.not_false, gz_nle, if_true, if_false, and_true, true_and, and_self, and_false, false_and, or_true, true_or, or_false, false_or, Bool.false_eq_true, not_true, not_false_iff, Decidable.not_not, Nat.reduceLeDiff, Nat.reduceAdd, Nat.reduceEqDiff, Nat.reduceSub, Nat.reduceLT, Nat.zero_add, reduceCtorEq, reduceIte, eq_self, i32_10, i32_01, Nat.zero_le, Nat.one_ne_zero, c, j1, b]
    · simp only [se_X8_share, sm_X8_share, se_X8_isBegun, sm_X8_isBegun, gz_sem, gz_ae, Value.category, gz_i, gz_l, gz_nu, gz_li, gz_ll, gz_la, gz_ib, gz_iz, gz_lb, gz_lz, gz_ls, gz_lc, gz_i2l, gz_l2i, gz_get, gz_ald, gz_len, gz_dup, gz_d2, gz_nar, gz_a0, gz_a1, gz_cs, gz_cv, gz_mk, gz_te, gz_j1, gz_j2, gz_jn, gz_jk, gz_jo, gz_ja, gz_sat, gz_seti, gz_seta, gz_set2, gz_inc, gz_put, gz_ast, gz_pop, gz_vs, gz_vv, gz_sup, gz_rv, gz_ri, gz_rl, gz_ra, gz_if, gz_seq, gz_sw, gz_st, gz_st2, rok_I, rok_J, rok_V, rok_Z0, rok_Z1, rok_Zi, rok_R, rok_N, bi_rok, bi_0, bi_1, fit_I, fit_J, fit_Z0, fit_Z1, fit_Zi, fit_R, fit_N, fit_aR, aty_I, aty_Z0, aty_Z1, aty_Zi, aty_J, gz_ix, List.getElem?_cons_zero, List.getElem?_cons_succ, List.getElem?_nil, List.reverse_cons, List.reverse_nil, List.nil_append, List.cons_append, List.take_succ_cons, List.take_zero, List.take_nil, List.length_cons, List.length_nil, decide_true, decide_false, decide_not, Bool.not_true, Bool.not_false, gz_nle, if_true, if_false, and_true, true_and, and_self, and_false, false_and, or_true, true_or, or_false, false_or, Bool.false_eq_true, not_true, not_false_iff, Decidable.not_not, Nat.reduceLeDiff, Nat.reduceAdd, Nat.reduceEqDiff, Nat.reduceSub, Nat.reduceLT, Nat.zero_add, reduceCtorEq, reduceIte, eq_self, i32_10, i32_01, Nat.zero_le, Nat.one_ne_zero, m, md_k, j2]
  obtain ⟨j1, j2⟩ := ja_yes H hj
  have d2 : ¬ nI j < 0 := nI_pos (by omega)
  have d3 : (nI j).toNatClampNeg = j := nI_clamp (by omega)
  have d4 : j < 16 := by omega
  rcases bg_cs H hj with ⟨q1, q2, b⟩ | ⟨q1, q2, b, po, n, cy, pv⟩
  · refine ⟨.int (-1), hc, hr, g, T, ?_, ?_, fr8_rf _, fr7_rf _, H⟩
    · simp only [se_X7_share, sm_X7_share, gz_sem, gz_ae, Value.category, gz_i, gz_l, gz_nu, gz_li, gz_ll, gz_la, gz_ib, gz_iz, gz_lb, gz_lz, gz_ls, gz_lc, gz_i2l, gz_l2i, gz_get, gz_ald, gz_len, gz_dup, gz_d2, gz_nar, gz_a0, gz_a1, gz_cs, gz_cv, gz_mk, gz_te, gz_j1, gz_j2, gz_jn, gz_jk, gz_jo, gz_ja, gz_sat, gz_seti, gz_seta, gz_set2, gz_inc, gz_put, gz_ast, gz_pop, gz_vs, gz_vv, gz_sup, gz_rv, gz_ri, gz_rl, gz_ra, gz_if, gz_seq, gz_sw, gz_st, gz_st2, rok_I, rok_J, rok_V, rok_Z0, rok_Z1, rok_Zi, rok_R, rok_N, bi_rok, bi_0, bi_1, fit_I, fit_J, fit_Z0, fit_Z1, fit_Zi, fit_R, fit_N, fit_aR, aty_I, aty_Z0, aty_Z1, aty_Zi, aty_J, gz_ix, List.getElem?_cons_zero, List.getElem?_cons_succ, List.getElem?_nil, List.reverse_cons, List.reverse_nil, List.nil_append, List.cons_append, List.take_succ_cons, List.take_zero, List.take_nil, List.length_cons, List.length_nil, decide_true, decide_false, decide_not, Bool.not_true, Bool.not_false, gz_nle, if_true, if_false, and_true, true_and, and_self, and_false, false_and, or_true, true_or, or_false, false_or, Bool.false_eq_true, not_true, not_false_iff, Decidable.not_not, Nat.reduceLeDiff, Nat.reduceAdd, Nat.reduceEqDiff, Nat.reduceSub, Nat.reduceLT, Nat.zero_add, reduceCtorEq, reduceIte, eq_self, i32_10, i32_01, Nat.zero_le, Nat.one_ne_zero, c, j1, b]
    · simp only [se_X8_share, sm_X8_share, se_X8_isBegun, sm_X8_isBegun, gz_sem, gz_ae, Value.category, gz_i, gz_l, gz_nu, gz_li, gz_ll, gz_la, gz_ib, gz_iz, gz_lb, gz_lz, gz_ls, gz_lc, gz_i2l, gz_l2i, gz_get, gz_ald, gz_len, gz_dup, gz_d2, gz_nar, gz_a0, gz_a1, gz_cs, gz_cv, gz_mk, gz_te, gz_j1, gz_j2, gz_jn, gz_jk, gz_jo, gz_ja, gz_sat, gz_seti, gz_seta, gz_set2, gz_inc, gz_put, gz_ast, gz_pop, gz_vs, gz_vv, gz_sup, gz_rv, gz_ri, gz_rl, gz_ra, gz_if, gz_seq, gz_sw, gz_st, gz_st2, rok_I, rok_J, rok_V, rok_Z0, rok_Z1, rok_Zi, rok_R, rok_N, bi_rok, bi_0, bi_1, fit_I, fit_J, fit_Z0, fit_Z1, fit_Zi, fit_R, fit_N, fit_aR, aty_I, aty_Z0, aty_Z1, aty_Zi, aty_J, gz_ix, List.getElem?_cons_zero, List.getElem?_cons_succ, List.getElem?_nil, List.reverse_cons, List.reverse_nil, List.nil_append, List.cons_append, List.take_succ_cons, List.take_zero, List.take_nil, List.length_cons, List.length_nil, decide_true, decide_false, decide_not, Bool.not_true, Bool.not_false, gz_nle, if_true, if_false, and_true, true_and, and_self, and_false, false_and, or_true, true_or, or_false, false_or, Bool.false_eq_true, not_true, not_false_iff, Decidable.not_not, Nat.reduceLeDiff, Nat.reduceAdd, Nat.reduceEqDiff, Nat.reduceSub, Nat.reduceLT, Nat.zero_add, reduceCtorEq, reduceIte, eq_self, i32_10, i32_01, Nat.zero_le, Nat.one_ne_zero, m, md_k, j2, d2, d3, d4, q1]
  have pv' := pv
  obtain ⟨v1, v2, v3, k, v5, v6, v7, v8⟩ := pv
  by_cases n2 : n < 2
  · have t1 : nI n < 2 := nI_lt (b := 2) n2 (by decide)
    have t2 : ¬ (1 : Int32) < nI n := nI_nlt (a := 1) (b := n) (by omega) (by omega)
    refine ⟨.int (-1), hc, hr, g, T, ?_, ?_, fr8_rf _, fr7_rf _, H⟩
    · simp only [se_X7_share, sm_X7_share, gz_sem, gz_ae, Value.category, gz_i, gz_l, gz_nu, gz_li, gz_ll, gz_la, gz_ib, gz_iz, gz_lb, gz_lz, gz_ls, gz_lc, gz_i2l, gz_l2i, gz_get, gz_ald, gz_len, gz_dup, gz_d2, gz_nar, gz_a0, gz_a1, gz_cs, gz_cv, gz_mk, gz_te, gz_j1, gz_j2, gz_jn, gz_jk, gz_jo, gz_ja, gz_sat, gz_seti, gz_seta, gz_set2, gz_inc, gz_put, gz_ast, gz_pop, gz_vs, gz_vv, gz_sup, gz_rv, gz_ri, gz_rl, gz_ra, gz_if, gz_seq, gz_sw, gz_st, gz_st2, rok_I, rok_J, rok_V, rok_Z0, rok_Z1, rok_Zi, rok_R, rok_N, bi_rok, bi_0, bi_1, fit_I, fit_J, fit_Z0, fit_Z1, fit_Zi, fit_R, fit_N, fit_aR, aty_I, aty_Z0, aty_Z1, aty_Zi, aty_J, gz_ix, List.getElem?_cons_zero, List.getElem?_cons_succ, List.getElem?_nil, List.reverse_cons, List.reverse_nil, List.nil_append, List.cons_append, List.take_succ_cons, List.take_zero, List.take_nil, List.length_cons, List.length_nil, decide_true, decide_false, decide_not, Bool.not_true, Bool.not_false, gz_nle, if_true, if_false, and_true, true_and, and_self, and_false, false_and, or_true, true_or, or_false, false_or, Bool.false_eq_true, not_true, not_false_iff, Decidable.not_not, Nat.reduceLeDiff, Nat.reduceAdd, Nat.reduceEqDiff, Nat.reduceSub, Nat.reduceLT, Nat.zero_add, reduceCtorEq, reduceIte, eq_self, i32_10, i32_01, Nat.zero_le, Nat.one_ne_zero, c, j1, b, k, t1]
    · simp only [se_X8_share, sm_X8_share, se_X8_isBegun, sm_X8_isBegun, gz_sem, gz_ae, Value.category, gz_i, gz_l, gz_nu, gz_li, gz_ll, gz_la, gz_ib, gz_iz, gz_lb, gz_lz, gz_ls, gz_lc, gz_i2l, gz_l2i, gz_get, gz_ald, gz_len, gz_dup, gz_d2, gz_nar, gz_a0, gz_a1, gz_cs, gz_cv, gz_mk, gz_te, gz_j1, gz_j2, gz_jn, gz_jk, gz_jo, gz_ja, gz_sat, gz_seti, gz_seta, gz_set2, gz_inc, gz_put, gz_ast, gz_pop, gz_vs, gz_vv, gz_sup, gz_rv, gz_ri, gz_rl, gz_ra, gz_if, gz_seq, gz_sw, gz_st, gz_st2, rok_I, rok_J, rok_V, rok_Z0, rok_Z1, rok_Zi, rok_R, rok_N, bi_rok, bi_0, bi_1, fit_I, fit_J, fit_Z0, fit_Z1, fit_Zi, fit_R, fit_N, fit_aR, aty_I, aty_Z0, aty_Z1, aty_Zi, aty_J, gz_ix, List.getElem?_cons_zero, List.getElem?_cons_succ, List.getElem?_nil, List.reverse_cons, List.reverse_nil, List.nil_append, List.cons_append, List.take_succ_cons, List.take_zero, List.take_nil, List.length_cons, List.length_nil, decide_true, decide_false, decide_not, Bool.not_true, Bool.not_false, gz_nle, if_true, if_false, and_true, true_and, and_self, and_false, false_and, or_true, true_or, or_false, false_or, Bool.false_eq_true, not_true, not_false_iff, Decidable.not_not, Nat.reduceLeDiff, Nat.reduceAdd, Nat.reduceEqDiff, Nat.reduceSub, Nat.reduceLT, Nat.zero_add, reduceCtorEq, reduceIte, eq_self, i32_10, i32_01, Nat.zero_le, Nat.one_ne_zero, m, md_k, j2, d2, d3, d4, q1, v7, t2]
  have t1 : ¬ nI n < 2 := nI_nlt (b := 2) (by omega) (by omega)
  have t2 : (1 : Int32) < nI n := nI_lt (a := 1) (by omega) (by omega)
  obtain ⟨AXh, RXh⟩ := AX_of H hj po pv' (by omega)
  obtain ⟨B, hB, sB, mB⟩ := bs_of H hj pv'
  have bt8 := st_X8_betweens hr m j n d4 v1 v7
  rw [mB] at bt8
  obtain ⟨hc', w7, r7⟩ := st_lc AXh sB hB
  obtain ⟨hr', w8, r8⟩ := sh_loop m RXh hB 71 20 hr rfl (by omega) (UW_rf m) (fun c' g1 g2 => by omega)
  have e20 : nI 20 = (20 : Int32) := rfl
  rw [e20] at r8
  have fin : IV g T (fun _ => 0) hc' hr' := IV_qw (IV_aw H w7) (UW_QW w8)
  rcases r7 with ⟨c1, a1, a2, a3, a4, a5⟩ | ⟨a1, a2⟩
  · rcases r8 with ⟨c2, b1, b2, b3, b4, b5⟩ | ⟨b1, -⟩
    · have e : c1 = c2 := by
        rcases Nat.lt_trichotomy c1 c2 with z | z | z
        · exact absurd a3 (b4 c1 a1 z)
        · exact z
        · exact absurd b3 (a4 c2 b1 z)
      subst e
      refine ⟨.int (nI c1), hc', hr', g, T, ?_, ?_, AW_8 w7, w8.2.1, fin⟩
      · simp only [se_X7_share, sm_X7_share, gz_sem, gz_ae, Value.category, gz_i, gz_l, gz_nu, gz_li, gz_ll, gz_la, gz_ib, gz_iz, gz_lb, gz_lz, gz_ls, gz_lc, gz_i2l, gz_l2i, gz_get, gz_ald, gz_len, gz_dup, gz_d2, gz_nar, gz_a0, gz_a1, gz_cs, gz_cv, gz_mk, gz_te, gz_j1, gz_j2, gz_jn, gz_jk, gz_jo, gz_ja, gz_sat, gz_seti, gz_seta, gz_set2, gz_inc, gz_put, gz_ast, gz_pop, gz_vs, gz_vv, gz_sup, gz_rv, gz_ri, gz_rl, gz_ra, gz_if, gz_seq, gz_sw, gz_st, gz_st2, rok_I, rok_J, rok_V, rok_Z0, rok_Z1, rok_Zi, rok_R, rok_N, bi_rok, bi_0, bi_1, fit_I, fit_J, fit_Z0, fit_Z1, fit_Zi, fit_R, fit_N, fit_aR, aty_I, aty_Z0, aty_Z1, aty_Zi, aty_J, gz_ix, List.getElem?_cons_zero, List.getElem?_cons_succ, List.getElem?_nil, List.reverse_cons, List.reverse_nil, List.nil_append, List.cons_append, List.take_succ_cons, List.take_zero, List.take_nil, List.length_cons, List.length_nil, decide_true, decide_false, decide_not, Bool.not_true, Bool.not_false, gz_nle, if_true, if_false, and_true, true_and, and_self, and_false, false_and, or_true, true_or, or_false, false_or, Bool.false_eq_true, not_true, not_false_iff, Decidable.not_not, Nat.reduceLeDiff, Nat.reduceAdd, Nat.reduceEqDiff, Nat.reduceSub, Nat.reduceLT, Nat.zero_add, reduceCtorEq, reduceIte, eq_self, i32_10, i32_01, Nat.zero_le, Nat.one_ne_zero, c, j1, b, k, t1, a5]
      · simp only [se_X8_share, sm_X8_share, se_X8_isBegun, sm_X8_isBegun, gz_sem, gz_ae, Value.category, gz_i, gz_l, gz_nu, gz_li, gz_ll, gz_la, gz_ib, gz_iz, gz_lb, gz_lz, gz_ls, gz_lc, gz_i2l, gz_l2i, gz_get, gz_ald, gz_len, gz_dup, gz_d2, gz_nar, gz_a0, gz_a1, gz_cs, gz_cv, gz_mk, gz_te, gz_j1, gz_j2, gz_jn, gz_jk, gz_jo, gz_ja, gz_sat, gz_seti, gz_seta, gz_set2, gz_inc, gz_put, gz_ast, gz_pop, gz_vs, gz_vv, gz_sup, gz_rv, gz_ri, gz_rl, gz_ra, gz_if, gz_seq, gz_sw, gz_st, gz_st2, rok_I, rok_J, rok_V, rok_Z0, rok_Z1, rok_Zi, rok_R, rok_N, bi_rok, bi_0, bi_1, fit_I, fit_J, fit_Z0, fit_Z1, fit_Zi, fit_R, fit_N, fit_aR, aty_I, aty_Z0, aty_Z1, aty_Zi, aty_J, gz_ix, List.getElem?_cons_zero, List.getElem?_cons_succ, List.getElem?_nil, List.reverse_cons, List.reverse_nil, List.nil_append, List.cons_append, List.take_succ_cons, List.take_zero, List.take_nil, List.length_cons, List.length_nil, decide_true, decide_false, decide_not, Bool.not_true, Bool.not_false, gz_nle, if_true, if_false, and_true, true_and, and_self, and_false, false_and, or_true, true_or, or_false, false_or, Bool.false_eq_true, not_true, not_false_iff, Decidable.not_not, Nat.reduceLeDiff, Nat.reduceAdd, Nat.reduceEqDiff, Nat.reduceSub, Nat.reduceLT, Nat.zero_add, reduceCtorEq, reduceIte, eq_self, i32_10, i32_01, Nat.zero_le, Nat.one_ne_zero, m, md_k, j2, d2, d3, d4, q1, v7, t2, bt8, b5]
    · exact absurd a3 (b1 c1 a1 a2)
  · rcases r8 with ⟨c2, b1, b2, b3, b4, b5⟩ | ⟨b1, e', b2⟩
    · exact absurd b3 (a1 c2 b1 b2)
    · refine ⟨.int (-1), hc', hr', g, T, ?_, ?_, AW_8 w7, w8.2.1, fin⟩
      · simp only [se_X7_share, sm_X7_share, gz_sem, gz_ae, Value.category, gz_i, gz_l, gz_nu, gz_li, gz_ll, gz_la, gz_ib, gz_iz, gz_lb, gz_lz, gz_ls, gz_lc, gz_i2l, gz_l2i, gz_get, gz_ald, gz_len, gz_dup, gz_d2, gz_nar, gz_a0, gz_a1, gz_cs, gz_cv, gz_mk, gz_te, gz_j1, gz_j2, gz_jn, gz_jk, gz_jo, gz_ja, gz_sat, gz_seti, gz_seta, gz_set2, gz_inc, gz_put, gz_ast, gz_pop, gz_vs, gz_vv, gz_sup, gz_rv, gz_ri, gz_rl, gz_ra, gz_if, gz_seq, gz_sw, gz_st, gz_st2, rok_I, rok_J, rok_V, rok_Z0, rok_Z1, rok_Zi, rok_R, rok_N, bi_rok, bi_0, bi_1, fit_I, fit_J, fit_Z0, fit_Z1, fit_Zi, fit_R, fit_N, fit_aR, aty_I, aty_Z0, aty_Z1, aty_Zi, aty_J, gz_ix, List.getElem?_cons_zero, List.getElem?_cons_succ, List.getElem?_nil, List.reverse_cons, List.reverse_nil, List.nil_append, List.cons_append, List.take_succ_cons, List.take_zero, List.take_nil, List.length_cons, List.length_nil, decide_true, decide_false, decide_not, Bool.not_true, Bool.not_false, gz_nle, if_true, if_false, and_true, true_and, and_self, and_false, false_and, or_true, true_or, or_false, false_or, Bool.false_eq_true, not_true, not_false_iff, Decidable.not_not, Nat.reduceLeDiff, Nat.reduceAdd, Nat.reduceEqDiff, Nat.reduceSub, Nat.reduceLT, Nat.zero_add, reduceCtorEq, reduceIte, eq_self, i32_10, i32_01, Nat.zero_le, Nat.one_ne_zero, c, j1, b, k, t1, a2]
      · simp only [se_X8_share, sm_X8_share, se_X8_isBegun, sm_X8_isBegun, gz_sem, gz_ae, Value.category, gz_i, gz_l, gz_nu, gz_li, gz_ll, gz_la, gz_ib, gz_iz, gz_lb, gz_lz, gz_ls, gz_lc, gz_i2l, gz_l2i, gz_get, gz_ald, gz_len, gz_dup, gz_d2, gz_nar, gz_a0, gz_a1, gz_cs, gz_cv, gz_mk, gz_te, gz_j1, gz_j2, gz_jn, gz_jk, gz_jo, gz_ja, gz_sat, gz_seti, gz_seta, gz_set2, gz_inc, gz_put, gz_ast, gz_pop, gz_vs, gz_vv, gz_sup, gz_rv, gz_ri, gz_rl, gz_ra, gz_if, gz_seq, gz_sw, gz_st, gz_st2, rok_I, rok_J, rok_V, rok_Z0, rok_Z1, rok_Zi, rok_R, rok_N, bi_rok, bi_0, bi_1, fit_I, fit_J, fit_Z0, fit_Z1, fit_Zi, fit_R, fit_N, fit_aR, aty_I, aty_Z0, aty_Z1, aty_Zi, aty_J, gz_ix, List.getElem?_cons_zero, List.getElem?_cons_succ, List.getElem?_nil, List.reverse_cons, List.reverse_nil, List.nil_append, List.cons_append, List.take_succ_cons, List.take_zero, List.take_nil, List.length_cons, List.length_nil, decide_true, decide_false, decide_not, Bool.not_true, Bool.not_false, gz_nle, if_true, if_false, and_true, true_and, and_self, and_false, false_and, or_true, true_or, or_false, false_or, Bool.false_eq_true, not_true, not_false_iff, Decidable.not_not, Nat.reduceLeDiff, Nat.reduceAdd, Nat.reduceEqDiff, Nat.reduceSub, Nat.reduceLT, Nat.zero_add, reduceCtorEq, reduceIte, eq_self, i32_10, i32_01, Nat.zero_le, Nat.one_ne_zero, m, md_k, j2, d2, d3, d4, q1, v7, t2, bt8, b2]
