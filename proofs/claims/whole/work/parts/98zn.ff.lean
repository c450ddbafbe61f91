theorem tb_1 (x k : Nat) : tb x k ≤ 1 := by unfold tb; omega
theorem dt_le (r a b c d : Nat) : dt r a b c d ≤ a + b + c + d := by
  have h0 := Nat.mul_le_mul_right a (tb_1 r 0)
  have h1 := Nat.mul_le_mul_right b (tb_1 r 1)
  have h2 := Nat.mul_le_mul_right c (tb_1 r 2)
  have h3 := Nat.mul_le_mul_right d (tb_1 r 3)
  unfold dt
  omega
/-- no stream's load is above C by V -/
def ME (W : Nat → Nat → Bool) (Cn Rt : Nat → Nat) (S n C V a b c d : Nat) : Prop := ∀ i, i < S → rS W n i ≠ 0 → Cn i * V ≤ dt (rS W n i) a b c d * (Rt i * C)
theorem FE_me {W : Nat → Nat → Bool} {Cn Rt : Nat → Nat} {S n T C V a b c d : Nat} (n4 : n ≤ 4) (hR : ∀ i, i < S → 0 < Rt i) (hC : 0 < C) (hT : T < 1000000) : FE (nds (nR Cn Rt C V) (rS W n) S) n T a b c d ↔ BG n T a b c d ∧ ME W Cn Rt S n C V a b c d := by
  rw [FE_iff]
  constructor
  · rintro ⟨h0, h⟩
    refine ⟨h0, fun i hi hr => ?_⟩
    have rl : rS W n i < 16 := bm_16 n4
    have := (nds_le S).mp (h (rS W n i) (Nat.pos_of_ne_zero hr) rl) i hi rfl
    have b := dt_le (rS W n i) a b c d
    have s := h0.2.2.2.2.2.2
    exact (pu_le (Nat.mul_pos (hR i hi) hC) (by omega)).mp this
  · rintro ⟨h0, h⟩
    refine ⟨h0, fun r h1 h2 => (nds_le S).mpr (fun i hi hr => ?_)⟩
    have b := dt_le r a b c d
    have s := h0.2.2.2.2.2.2
    unfold nR
    rw [pu_le (Nat.mul_pos (hR i hi) hC) (by omega)]
    have := h i hi (by omega)
    rw [hr] at this
    exact this
/-- greens by which no load is above C by V -/
def FS (W : Nat → Nat → Bool) (Cn Rt : Nat → Nat) (S n T C V : Nat) : Prop := ∃ a b c d, BG n T a b c d ∧ ME W Cn Rt S n C V a b c d
theorem FS_mono {W : Nat → Nat → Bool} {Cn Rt : Nat → Nat} {S n T C V V' : Nat} (h : V ≤ V') (f : FS W Cn Rt S n T C V') : FS W Cn Rt S n T C V := by
  obtain ⟨a, b, c, d, f1, f2⟩ := f
  exact ⟨a, b, c, d, f1, fun i hi hr => Nat.le_trans (Nat.mul_le_mul_left _ h) (f2 i hi hr)⟩
theorem FS_0 {W : Nat → Nat → Bool} {Cn Rt : Nat → Nat} {S n T C : Nat} (n2 : 2 ≤ n) (n4 : n ≤ 4) (nT : n ≤ T) : FS W Cn Rt S n T C 0 := by
  refine ⟨T + 1 - n, 1, if 2 < n then 1 else 0, if 3 < n then 1 else 0, ⟨by omega, by omega, fun q => by rw [if_pos q]; exact Nat.le_refl _, fun q => if_neg q, fun q => by rw [if_pos q]; exact Nat.le_refl _, fun q => if_neg q, ?_⟩, fun i hi hr => by rw [Nat.mul_zero]; exact Nat.zero_le _⟩
  by_cases q : 2 < n <;> by_cases r : 3 < n
  · rw [if_pos q, if_pos r]; omega
  · rw [if_pos q, if_neg r]; omega
  · rw [if_neg q, if_pos r]; omega
  · rw [if_neg q, if_neg r]; omega
theorem AX_R {h : gz_H} {JJ a S q n : Nat} {x Cn Rt : Nat → Nat} {W : Nat → Nat → Bool} (H : AX h JJ a S q n x Cn Rt W) : ∀ i, i < S → 0 < Rt i := fun i hi => by have := (H.2.2.2.2.2.1 i hi).2.2.2.2.2.2.1; omega
/-- asking for a load and dealing out -/
theorem ask_deal {h0 : gz_H} {JJ a S q n T : Nat} {x Cn Rt : Nat → Nat} {W : Nat → Nat → Bool} (H : AX h0 JJ a S q n x Cn Rt W) (C V : Nat) (hC : 0 < C) (hC2 : C ≤ 3600) (hV : V ≤ 324000) (hT : T ≤ 90) : ∃ h1 h2, se_X0_askForLoad [.ref 4, .ref a, .ref q, .long (lN C), .long (lN V)] h0 = some (none, h1) ∧ AW h0 h1 ∧ sm h0 h1 4 ∧ AW h0 h2 ∧ sm h0 h2 4 ∧ ((¬ FS W Cn Rt S n T C V ∧ se_X0_deals [.ref 4, .int (nI T), .int (nI n)] h1 = some (some (.int 0), h2)) ∨ (FS W Cn Rt S n T C V ∧ se_X0_deals [.ref 4, .int (nI T), .int (nI n)] h1 = some (some (.int 1), h2) ∧ ∃ a b c d, LX (nds (nR Cn Rt C V) (rS W n) S) n T a b c d ∧ gz_I h2 8 0 = nI a ∧ gz_I h2 8 1 = nI b ∧ gz_I h2 8 2 = nI c ∧ gz_I h2 8 3 = nI d)) := by
  obtain ⟨h1, a1, a2, a3, a4⟩ := st_ask H C V hC hC2 hV
  obtain ⟨b1, b2, b3, b4, ⟨b5, n2, n4, qa, qq⟩, -⟩ := AX_AW a2 H
  have nh : NH h1 (nds (nR Cn Rt C V) (rS W n) S) := fun r hr => ⟨a4 r hr, (nds_le S).mpr (fun k _ _ => nR_le Cn Rt C V k)⟩
  have fm : ∀ a b c d, FE (nds (nR Cn Rt C V) (rS W n) S) n T a b c d ↔ BG n T a b c d ∧ ME W Cn Rt S n C V a b c d := fun a b c d => FE_me n4 (AX_R H) hC (by omega)
  obtain ⟨h3, w3, ⟨r1, r2⟩ | ⟨a', b', c', d', r1, r2, r3⟩⟩ := st_deals b1 b2 nh n2 n4 (nds_Z _ W S n) (T := T) (by omega)
  · refine ⟨h1, h3, a1, a2, a3, AW_tr a2 w3.1, ⟨w3.2.1.1.trans a3.1, w3.2.1.2.trans a3.2⟩, Or.inl ⟨fun z => r1 ?_, r2⟩⟩
    obtain ⟨a, b, c, d, z⟩ := z
    exact ⟨a, b, c, d, (fm a b c d).mpr z⟩
  · exact ⟨h1, h3, a1, a2, a3, AW_tr a2 w3.1, ⟨w3.2.1.1.trans a3.1, w3.2.1.2.trans a3.2⟩, Or.inr ⟨⟨a', b', c', d', (fm a' b' c' d').mp r1.1⟩, r2, a', b', c', d', r1, r3⟩⟩
set_option maxHeartbeats 4000000 in
theorem st_mg {h0 : gz_H} {JJ a S q n T i : Nat} {x Cn Rt : Nat → Nat} {W : Nat → Nat → Bool} (H : AX h0 JJ a S q n x Cn Rt W) (hi : i < S) (pos : 0 < Cn i) (hT : T ≤ 90) : ∃ h' g, se_X0_mostGreen [.ref 4, .ref a, .ref q, .int (nI i), .int (nI T)] h0 = some (some (.int (nI g)), h') ∧ AW h0 h' ∧ sm h0 h' 4 ∧ g ≤ T ∧ (g = 0 ∨ FS W Cn Rt S n T (Cn i) (Rt i * g)) ∧ ∀ g', g' ≤ T → FS W Cn Rt S n T (Cn i) (Rt i * g') → g' ≤ g := by
  obtain ⟨-, -, -, -, ⟨hS, -⟩, c6, -⟩ := id H
  obtain ⟨-, -, -, -, d5, -, d7, d8⟩ := c6 i hi
  have i2 : ¬ nI i < 0 := nI_pos (by omega)
  have i3 : (nI i).toNatClampNeg = i := nI_clamp (by omega)
  have i4 : i < 8 := by omega
  have l1 : (nI (Cn i)).toInt64 = lN (Cn i) := nI_l (by omega)
  have l2 : (nI (Rt i)).toInt64 = lN (Rt i) := nI_l (by omega)
  have lp : ∀ d s good bad h1, s + d = 90 → good < bad → bad ≤ T + 1 → bad - good + s ≤ 91 → AW h0 h1 → sm h0 h1 4 → (good = 0 ∨ FS W Cn Rt S n T (Cn i) (Rt i * good)) → (bad = T + 1 ∨ ¬ FS W Cn Rt S n T (Cn i) (Rt i * bad)) → ∃ e h' g, gz_loop 12 8 lb_X0_mostGreen_12 [.ref 4, .ref a, .ref q, .int (nI i), .int (nI T), .int (nI good), .int (nI bad), .int (nI s)] h1 = some (.inl (97, e, h')) ∧ e.take 6 = [.ref 4, .ref a, .ref q, .int (nI i), .int (nI T), .int (nI g)] ∧ AW h0 h' ∧ sm h0 h' 4 ∧ g ≤ T ∧ (g = 0 ∨ FS W Cn Rt S n T (Cn i) (Rt i * g)) ∧ (g = T ∨ ¬ FS W Cn Rt S n T (Cn i) (Rt i * (g + 1))) := by
    intro d
    induction d with
    | zero =>
      intro s good bad h1 e gb bT bs w s4 hg hb
      have k1 : ¬ nI s < 90 := nI_nlt (b := 90) (by omega) (by omega)
      have eb : bad = good + 1 := by omega
      refine ⟨[.ref 4, .ref a, .ref q, .int (nI i), .int (nI T), .int (nI good), .int (nI bad), .int (nI s)], h1, good, gz_loop_exit ?_ (by decide), rfl, w, s4, by omega, hg, ?_⟩
      · simp only [lb_X0_mostGreen_12, gz_sem, gz_ae, Value.category, gz_i, gz_l, gz_nu, gz_li, gz_ll, gz_la, gz_ib, gz_iz, gz_lb, gz_lz, gz_ls, gz_lc, gz_i2l, gz_l2i, gz_get, gz_ald, gz_len, gz_dup, gz_d2, gz_nar, gz_a0, gz_a1, gz_cs, gz_cv, gz_mk, gz_te, gz_j1, gz_j2, gz_jn, gz_jk, gz_jo, gz_ja, gz_sat, gz_seti, gz_seta, gz_set2, gz_inc, gz_put, gz_ast, gz_pop, gz_vs, gz_vv, gz_sup, gz_rv, gz_ri, gz_rl, gz_ra, gz_if, gz_seq, gz_sw, gz_st, gz_st2, rok_I, rok_J, rok_V, rok_Z0, rok_Z1, rok_Zi, rok_R, rok_N, bi_rok, bi_0, bi_1, fit_I, fit_J, fit_Z0, fit_Z1, fit_Zi, fit_R, fit_N, fit_aR, aty_I, aty_Z0, aty_Z1, aty_Zi, aty_J, gz_ix, List.getElem?_cons_zero, List.getElem?_cons_succ, List.getElem?_nil, List.reverse_cons, List.reverse_nil, List.nil_append, List.cons_append, List.take_succ_cons, List.take_zero, List.take_nil, List.length_cons, List.length_nil, decide_true, decide_false, decide_not, Bool.not_true, Bool.not_false, gz_nle, if_true, if_false, and_true, true_and, and_self, and_false, false_and, or_true, true_or, or_false, false_or, Bool.false_eq_true, not_true, not_false_iff, Decidable.not_not, Nat.reduceLeDiff, Nat.reduceAdd, Nat.reduceEqDiff, Nat.reduceSub, Nat.reduceLT, Nat.zero_add, reduceCtorEq, reduceIte, eq_self, i32_10, i32_01, Nat.zero_le, Nat.one_ne_zero, k1]
      · rcases hb with z | z
        · exact Or.inl (by omega)
        · rw [eb] at z; exact Or.inr z
    | succ d ih =>
      intro s good bad h1 e gb bT bs w s4 hg hb
      have k1 : nI s < 90 := nI_lt (b := 90) (by omega) (by omega)
      have sb : nI bad - nI good = nI (bad - good) := pk_sub (by omega)
      by_cases c1 : bad - good ≤ 1
      · have k2 : ¬ (1 : Int32) < nI (bad - good) := nI_nlt (a := 1) c1 (by omega)
        have eb : bad = good + 1 := by omega
        refine ⟨[.ref 4, .ref a, .ref q, .int (nI i), .int (nI T), .int (nI good), .int (nI bad), .int (nI s)], h1, good, gz_loop_exit ?_ (by decide), rfl, w, s4, by omega, hg, ?_⟩
        · simp only [lb_X0_mostGreen_12, gz_sem, gz_ae, Value.category, gz_i, gz_l, gz_nu, gz_li, gz_ll, gz_la, gz_ib, gz_iz, gz_lb, gz_lz, gz_ls, gz_lc, gz_i2l, gz_l2i, gz_get, gz_ald, gz_len, gz_dup, gz_d2, gz_nar, gz_a0, gz_a1, gz_cs, gz_cv, gz_mk, gz_te, gz_j1, gz_j2, gz_jn, gz_jk, gz_jo, gz_ja, gz_sat, gz_seti, gz_seta, gz_set2, gz_inc, gz_put, gz_ast, gz_pop, gz_vs, gz_vv, gz_sup, gz_rv, gz_ri, gz_rl, gz_ra, gz_if, gz_seq, gz_sw, gz_st, gz_st2, rok_I, rok_J, rok_V, rok_Z0, rok_Z1, rok_Zi, rok_R, rok_N, bi_rok, bi_0, bi_1, fit_I, fit_J, fit_Z0, fit_Z1, fit_Zi, fit_R, fit_N, fit_aR, aty_I, aty_Z0, aty_Z1, aty_Zi, aty_J, gz_ix, List.getElem?_cons_zero, List.getElem?_cons_succ, List.getElem?_nil, List.reverse_cons, List.reverse_nil, List.nil_append, List.cons_append, List.take_succ_cons, List.take_zero, List.take_nil, List.length_cons, List.length_nil, decide_true, decide_false, decide_not, Bool.not_true, Bool.not_false, gz_nle, if_true, if_false, and_true, true_and, and_self, and_false, false_and, or_true, true_or, or_false, false_or, Bool.false_eq_true, not_true, not_false_iff, Decidable.not_not, Nat.reduceLeDiff, Nat.reduceAdd, Nat.reduceEqDiff, Nat.reduceSub, Nat.reduceLT, Nat.zero_add, reduceCtorEq, reduceIte, eq_self, i32_10, i32_01, Nat.zero_le, Nat.one_ne_zero, k1, sb, k2]
        · rcases hb with z | z
          · exact Or.inl (by omega)
          · rw [eb] at z; exact Or.inr z
      · have k2 : (1 : Int32) < nI (bad - good) := nI_lt (a := 1) (by omega) (by omega)
        have g2 : ((2 : Int32) = 0) = False := by decide
        have ad : nI good + nI bad = nI (good + bad) := nI_add _ _
        have dv : nI (good + bad) / 2 = nI ((good + bad) / 2) := pk_div (d := 2) (by omega) (by omega) (by omega)
        obtain ⟨M, hM⟩ : ∃ M, M = (good + bad) / 2 := ⟨_, rfl⟩
        rw [← hM] at dv
        have m1 : good < M ∧ M < bad := by omega
        have l3 : (nI M).toInt64 = lN M := nI_l (by omega)
        have l4 : lN (Rt i) * lN M = lN (Rt i * M) := lN_mul _ _
        have bV : Rt i * M ≤ 3600 * 90 := Nat.mul_le_mul d8 (by omega)
        have HX := AX_AW w H
        obtain ⟨h2, h3, a1, a2, a2', a3, a3', r⟩ := ask_deal HX (T := T) (Cn i) (Rt i * M) pos d5 (by omega) hT
        obtain ⟨x1, x2, x3, x4, x5, x6, x7⟩ := AX_AW w H
        obtain ⟨y1, y2, y3, y4, -⟩ := AX_AW (AW_tr w a2) H
        obtain ⟨e1, e2, e3, e4, e5, e6, e7, e8⟩ := x6 i hi
        have W3 := AW_tr w a3
        have S3 : sm h0 h3 4 := ⟨a3'.1.trans s4.1, a3'.2.trans s4.2⟩
        rcases r with ⟨r1, r2⟩ | ⟨r1, r2, -⟩
        · obtain ⟨e', h', g, s1, s2⟩ := ih (s + 1) good M h3 (by omega) m1.1 (by omega) (by omega) W3 S3 hg (Or.inr r1)
          have st : lb_X0_mostGreen_12 [.ref 4, .ref a, .ref q, .int (nI i), .int (nI T), .int (nI good), .int (nI bad), .int (nI s)] h1 = some (.inl (12, [.ref 4, .ref a, .ref q, .int (nI i), .int (nI T), .int (nI good), .int (nI M), .int (nI (s + 1))], h3)) := by
            simp only [lb_X0_mostGreen_12, gz_sem, gz_ae, Value.category, gz_i, gz_l, gz_nu, gz_li, gz_ll, gz_la, gz_ib, gz_iz, gz_lb, gz_lz, gz_ls, gz_lc, gz_i2l, gz_l2i, gz_get, gz_ald, gz_len, gz_dup, gz_d2, gz_nar, gz_a0, gz_a1, gz_cs, gz_cv, gz_mk, gz_te, gz_j1, gz_j2, gz_jn, gz_jk, gz_jo, gz_ja, gz_sat, gz_seti, gz_seta, gz_set2, gz_inc, gz_put, gz_ast, gz_pop, gz_vs, gz_vv, gz_sup, gz_rv, gz_ri, gz_rl, gz_ra, gz_if, gz_seq, gz_sw, gz_st, gz_st2, rok_I, rok_J, rok_V, rok_Z0, rok_Z1, rok_Zi, rok_R, rok_N, bi_rok, bi_0, bi_1, fit_I, fit_J, fit_Z0, fit_Z1, fit_Zi, fit_R, fit_N, fit_aR, aty_I, aty_Z0, aty_Z1, aty_Zi, aty_J, gz_ix, List.getElem?_cons_zero, List.getElem?_cons_succ, List.getElem?_nil, List.reverse_cons, List.reverse_nil, List.nil_append, List.cons_append, List.take_succ_cons, List.take_zero, List.take_nil, List.length_cons, List.length_nil, decide_true, decide_false, decide_not, Bool.not_true, Bool.not_false, gz_nle, if_true, if_false, and_true, true_and, and_self, and_false, false_and, or_true, true_or, or_false, false_or, Bool.false_eq_true, not_true, not_false_iff, Decidable.not_not, Nat.reduceLeDiff, Nat.reduceAdd, Nat.reduceEqDiff, Nat.reduceSub, Nat.reduceLT, Nat.zero_add, reduceCtorEq, reduceIte, eq_self, i32_10, i32_01, Nat.zero_le, Nat.one_ne_zero, k1, sb, k2, ad, g2, dv, x1, x3, i2, i3, i4, e1, e3, e4, e6, l1, l2, l3, l4, a1, y1, y4, r2, nI_1]
          exact ⟨e', h', g, gz_loop_next (k := 8) (env := [.ref 4, .ref a, .ref q, .int (nI i), .int (nI T), .int (nI good), .int (nI bad), .int (nI s)]) st s1, s2⟩
        · obtain ⟨e', h', g, s1, s2⟩ := ih (s + 1) M bad h3 (by omega) m1.2 bT (by omega) W3 S3 (Or.inr r1) hb
          have st : lb_X0_mostGreen_12 [.ref 4, .ref a, .ref q, .int (nI i), .int (nI T), .int (nI good), .int (nI bad), .int (nI s)] h1 = some (.inl (12, [.ref 4, .ref a, .ref q, .int (nI i), .int (nI T), .int (nI M), .int (nI bad), .int (nI (s + 1))], h3)) := by
            simp only [lb_X0_mostGreen_12, gz_sem, gz_ae, Value.category, gz_i, gz_l, gz_nu, gz_li, gz_ll, gz_la, gz_ib, gz_iz, gz_lb, gz_lz, gz_ls, gz_lc, gz_i2l, gz_l2i, gz_get, gz_ald, gz_len, gz_dup, gz_d2, gz_nar, gz_a0, gz_a1, gz_cs, gz_cv, gz_mk, gz_te, gz_j1, gz_j2, gz_jn, gz_jk, gz_jo, gz_ja, gz_sat, gz_seti, gz_seta, gz_set2, gz_inc, gz_put, gz_ast, gz_pop, gz_vs, gz_vv, gz_sup, gz_rv, gz_ri, gz_rl, gz_ra, gz_if, gz_seq, gz_sw, gz_st, gz_st2, rok_I, rok_J, rok_V, rok_Z0, rok_Z1, rok_Zi, rok_R, rok_N, bi_rok, bi_0, bi_1, fit_I, fit_J, fit_Z0, fit_Z1, fit_Zi, fit_R, fit_N, fit_aR, aty_I, aty_Z0, aty_Z1, aty_Zi, aty_J, gz_ix, List.getElem?_cons_zero, List.getElem?_cons_succ, List.getElem?_nil, List.reverse_cons, List.reverse_nil, List.nil_append, List.cons_append, List.take_succ_cons, List.take_zero, List.take_nil, List.length_cons, List.length_nil, decide_true, decide_false, decide_not, Bool.not_true, Bool.not_false, gz_nle, if_true, if_false, and_true, true_and, and_self, and_false, false_and, or_true, true_or, or_false, false_or, Bool.false_eq_true, not_true, not_false_iff, Decidable.not_not, Nat.reduceLeDiff, Nat.reduceAdd, Nat.reduceEqDiff, Nat.reduceSub, Nat.reduceLT, Nat.zero_add, reduceCtorEq, reduceIte, eq_self, i32_10, i32_01, Nat.zero_le, Nat.one_ne_zero, k1, sb, k2, ad, g2, dv, x1, x3, i2, i3, i4, e1, e3, e4, e6, l1, l2, l3, l4, a1, y1, y4, r2, nI_1]
          exact ⟨e', h', g, gz_loop_next (k := 8) (env := [.ref 4, .ref a, .ref q, .int (nI i), .int (nI T), .int (nI good), .int (nI bad), .int (nI s)]) st s1, s2⟩
  obtain ⟨e, h', g, s1, s2, s3, s4, s5, s6, s7⟩ := lp 90 0 0 (T + 1) h0 rfl (by omega) (Nat.le_refl _) (by omega) (AW_rf H.2.1) (sm_rf _ _) (Or.inl rfl) (Or.inl rfl)
  have e0 : nI 0 = (0 : Int32) := rfl
  have eT : nI T + 1 = nI (T + 1) := nI_add T 1
  rw [e0] at s1
  refine ⟨h', g, ?_, s3, s4, s5, s6, fun g' hg' f => ?_⟩
  · simp only [se_X0_mostGreen, sm_X0_mostGreen, gz_sem, gz_ae, Value.category, gz_i, gz_l, gz_nu, gz_li, gz_ll, gz_la, gz_ib, gz_iz, gz_lb, gz_lz, gz_ls, gz_lc, gz_i2l, gz_l2i, gz_get, gz_ald, gz_len, gz_dup, gz_d2, gz_nar, gz_a0, gz_a1, gz_cs, gz_cv, gz_mk, gz_te, gz_j1, gz_j2, gz_jn, gz_jk, gz_jo, gz_ja, gz_sat, gz_seti, gz_seta, gz_set2, gz_inc, gz_put, gz_ast, gz_pop, gz_vs, gz_vv, gz_sup, gz_rv, gz_ri, gz_rl, gz_ra, gz_if, gz_seq, gz_sw, gz_st, gz_st2, rok_I, rok_J, rok_V, rok_Z0, rok_Z1, rok_Zi, rok_R, rok_N, bi_rok, bi_0, bi_1, fit_I, fit_J, fit_Z0, fit_Z1, fit_Zi, fit_R, fit_N, fit_aR, aty_I, aty_Z0, aty_Z1, aty_Zi, aty_J, gz_ix, List.getElem?_cons_zero, List.getElem?_cons_succ, List.getElem?_nil, List.reverse_cons, List.reverse_nil, List.nil_append, List.cons_append, List.take_succ_cons, List.take_zero, List.take_nil, List.length_cons, List.length_nil, decide_true, decide_false, decide_not, Bool.not_true, Bool.not_false, gz_nle, if_true, if_false, and_true, true_and, and_self, and_false, false_and, or_true, true_or, or_false, false_or, Bool.false_eq_true, not_true, not_false_iff, Decidable.not_not, Nat.reduceLeDiff, Nat.reduceAdd, Nat.reduceEqDiff, Nat.reduceSub, Nat.reduceLT, Nat.zero_add, reduceCtorEq, reduceIte, eq_self, i32_10, i32_01, Nat.zero_le, Nat.one_ne_zero, eT, s1, s2]
  · rcases s7 with z | z
    · omega
    · by_cases y : g' ≤ g
      · exact y
      · exact absurd (FS_mono (Nat.mul_le_mul_left _ (show g + 1 ≤ g' by omega)) f) z
/-- so far the least greatest load -/
def KB (h : gz_H) (W : Nat → Nat → Bool) (Cn Rt : Nat → Nat) (S n T k : Nat) : Prop := ∃ C V, gz_J h 4 4 = lN C ∧ gz_J h 4 5 = lN V ∧ 0 < C ∧ C ≤ 3600 ∧ V ≤ 324000 ∧ FS W Cn Rt S n T C V ∧ ∀ i, i < k → 0 < Cn i → rS W n i ≠ 0 → ∀ g, g ≤ T → FS W Cn Rt S n T (Cn i) (Rt i * g) → C * (Rt i * g) ≤ Cn i * V
theorem kb_nl {C V C' V' X Y : Nat} (hC : 0 < C) (h1 : C * X ≤ Y * V) (h2 : C' * V < C * V') : C' * X ≤ Y * V' := by
  have e : C * (C' * X) ≤ C * (Y * V') := by
    calc C * (C' * X) = C' * (C * X) := Nat.mul_left_comm _ _ _
      _ ≤ C' * (Y * V) := Nat.mul_le_mul_left _ h1
      _ = Y * (C' * V) := Nat.mul_left_comm _ _ _
      _ ≤ Y * (C * V') := Nat.mul_le_mul_left _ (Nat.le_of_lt h2)
      _ = C * (Y * V') := Nat.mul_left_comm _ _ _
  exact Nat.le_of_mul_le_mul_left e hC
set_option maxHeartbeats 4000000 in
theorem st_ff {h0 : gz_H} {JJ a S q n T : Nat} {x Cn Rt : Nat → Nat} {W : Nat → Nat → Bool} (H : AX h0 JJ a S q n x Cn Rt W) (hT : T ≤ 90) (nT : n ≤ T) : ∃ h' C V a' b' c' d', se_X0_findFittest [.ref 4, .ref a, .ref q, .int (nI T)] h0 = some (none, h') ∧ AW h0 h' ∧ 0 < C ∧ (∀ i, i < S → 0 < Cn i → rS W n i ≠ 0 → ∀ g, g ≤ T → FS W Cn Rt S n T (Cn i) (Rt i * g) → C * (Rt i * g) ≤ Cn i * V) ∧ LX (nds (nR Cn Rt C V) (rS W n) S) n T a' b' c' d' ∧ gz_I h' 8 0 = nI a' ∧ gz_I h' 8 1 = nI b' ∧ gz_I h' 8 2 = nI c' ∧ gz_I h' 8 3 = nI d' := by
  obtain ⟨c1, c2, -, -, ⟨hS, n2, n4, -⟩, c6, -⟩ := id H
  obtain ⟨H1, hH1⟩ : ∃ H1, H1 = gz_set (gz_set h0 4 4 (.long 1)) 4 5 (.long 0) := ⟨_, rfl⟩
  have w1 : AW h0 H1 := by rw [hH1]; exact AW_J (AW_J (AW_rf c2) _ _ (Or.inl rfl)) _ _ (Or.inr rfl)
  have k1 : KB H1 W Cn Rt S n T 0 := by
    rw [hH1]
    exact ⟨1, 0, by rw [J_seto _ _ _ _ _ _ (by omega), J_set, if_pos ⟨rfl, rfl⟩]; rfl, by rw [J_set, if_pos ⟨rfl, rfl⟩]; rfl, by omega, by omega, by omega, FS_0 n2 n4 nT, fun i hi => by omega⟩
  obtain ⟨e', h', q1, q2, q3, q4⟩ := gz_forI (L := 13) (k := 5) (X := 85) (a := lb_X0_findFittest_13) S (fun k e h => e = [.ref 4, .ref a, .ref q, .int (nI T), .int (nI k)] ∧ AW h0 h ∧ KB h W Cn Rt S n T k) (fun e h => e = [.ref 4, .ref a, .ref q, .int (nI T), .int (nI S)] ∧ AW h0 h ∧ KB h W Cn Rt S n T S) (by decide) (by
    intro k e h hk ⟨ee, w, C, V, j4, j5, hC, hC2, hV, fs, al⟩
    subst ee
    have HX := AX_AW w H
    obtain ⟨x1, x2, x3, x4, ⟨x5, x5b, x5c, -⟩, x6, x7⟩ := AX_AW w H
    obtain ⟨e1, e2, e3, e4, e5, e6, e7, e8⟩ := x6 k hk
    have t1 : nI k < nI S := nI_lt hk (by omega)
    have i2 : ¬ nI k < 0 := nI_pos (by omega)
    have i3 : (nI k).toNatClampNeg = k := nI_clamp (by omega)
    have i4 : k < 8 := by omega
    have sw := st_sw x4 x5c i4 (W k) (fun s hs => x7 k s hk hs)
    have rl := bm_16 (f := W k) x5c
    by_cases p : 0 < Cn k
    · have t2 : 0 < nI (Cn k) := nI_gt0 p (by omega)
      by_cases r : rS W n k = 0
      · have t3 : decide (nI (bm (W k) n) = 0) = true := by
          rw [decide_eq_true_eq]
          have : bm (W k) n = 0 := r
          rw [this]; rfl
        refine ⟨[.ref 4, .ref a, .ref q, .int (nI T), .int (nI (k + 1))], h, ?_, rfl, w, C, V, j4, j5, hC, hC2, hV, fs, fun i hi pi ri => ?_⟩
        · simp only [lb_X0_findFittest_13, gz_sem, gz_ae, Value.category, gz_i, gz_l, gz_nu, gz_li, gz_ll, gz_la, gz_ib, gz_iz, gz_lb, gz_lz, gz_ls, gz_lc, gz_i2l, gz_l2i, gz_get, gz_ald, gz_len, gz_dup, gz_d2, gz_nar, gz_a0, gz_a1, gz_cs, gz_cv, gz_mk, gz_te, gz_j1, gz_j2, gz_jn, gz_jk, gz_jo, gz_ja, gz_sat, gz_seti, gz_seta, gz_set2, gz_inc, gz_put, gz_ast, gz_pop, gz_vs, gz_vv, gz_sup, gz_rv, gz_ri, gz_rl, gz_ra, gz_if, gz_seq, gz_sw, gz_st, gz_st2, rok_I, rok_J, rok_V, rok_Z0, rok_Z1, rok_Zi, rok_R, rok_N, bi_rok, bi_0, bi_1, fit_I, fit_J, fit_Z0, fit_Z1, fit_Zi, fit_R, fit_N, fit_aR, aty_I, aty_Z0, aty_Z1, aty_Zi, aty_J, gz_ix, List.getElem?_cons_zero, List.getElem?_cons_succ, List.getElem?_nil, List.reverse_cons, List.reverse_nil, List.nil_append, List.cons_append, List.take_succ_cons, List.take_zero, List.take_nil, List.length_cons, List.length_nil, decide_true, decide_false, decide_not, Bool.not_true, Bool.not_false, gz_nle, if_true, if_false, and_true, true_and, and_self, and_false, false_and, or_true, true_or, or_false, false_or, Bool.false_eq_true, not_true, not_false_iff, Decidable.not_not, Nat.reduceLeDiff, Nat.reduceAdd, Nat.reduceEqDiff, Nat.reduceSub, Nat.reduceLT, Nat.zero_add, reduceCtorEq, reduceIte, eq_self, i32_10, i32_01, Nat.zero_le, Nat.one_ne_zero, x3, x4, t1, i2, i3, i4, e1, e3, e4, t2, sw, t3, nI_1]
        · by_cases z : i = k
          · rw [z] at ri; exact absurd r ri
          · exact al i (by omega) pi ri
      · have t3 : ¬ nI (bm (W k) n) = 0 := nI_ne0 (Nat.pos_of_ne_zero r) (by omega)
        obtain ⟨h2, g, m1, m2, m3, m4, m5, m6⟩ := st_mg HX hk p hT
        have W2 := AW_tr w m2
        obtain ⟨y1, y2, y3, y4, y5, y6, y7⟩ := AX_AW W2 H
        obtain ⟨f1, f2, f3, f4, -, f6, -⟩ := y6 k hk
        have l1 : (nI (Cn k)).toInt64 = lN (Cn k) := nI_l (by omega)
        have l2 : (nI (Rt k)).toInt64 = lN (Rt k) := nI_l (by omega)
        have l3 : (nI g).toInt64 = lN g := nI_l (by omega)
        have l4 : lN (Rt k) * lN g = lN (Rt k * g) := lN_mul _ _
        have bV : Rt k * g ≤ 3600 * 90 := Nat.mul_le_mul e8 (by omega)
        have J4 : gz_J h2 4 4 = lN C := by rw [sm_J m3]; exact j4
        have J5 : gz_J h2 4 5 = lN V := by rw [sm_J m3]; exact j5
        have p1 : lN (Cn k) * lN V = lN (Cn k * V) := lN_mul _ _
        have p2 : lN C * lN (Rt k * g) = lN (C * (Rt k * g)) := lN_mul _ _
        have b1 : Cn k * V ≤ 3600 * 324000 := Nat.mul_le_mul e5 hV
        have b2 : C * (Rt k * g) ≤ 3600 * 324000 := Nat.mul_le_mul hC2 (by omega)
        by_cases u : Cn k * V < C * (Rt k * g)
        · have t4 : lg_cmp (lN (Cn k * V)) (lN (C * (Rt k * g))) < 0 := (lg_cmp_lt _ _).mpr ((pk_lLT (by omega) (by omega)).mpr u)
          have kb : se_X0_keepIfBetter [.ref 4, .long (lN (Cn k)), .long (lN (Rt k * g))] h2 = some (none, gz_set (gz_set h2 4 4 (.long (lN (Cn k)))) 4 5 (.long (lN (Rt k * g)))) := by
            simp only [se_X0_keepIfBetter, sm_X0_keepIfBetter, gz_sem, gz_ae, Value.category, gz_i, gz_l, gz_nu, gz_li, gz_ll, gz_la, gz_ib, gz_iz, gz_lb, gz_lz, gz_ls, gz_lc, gz_i2l, gz_l2i, gz_get, gz_ald, gz_len, gz_dup, gz_d2, gz_nar, gz_a0, gz_a1, gz_cs, gz_cv, gz_mk, gz_te, gz_j1, gz_j2, gz_jn, gz_jk, gz_jo, gz_ja, gz_sat, gz_seti, gz_seta, gz_set2, gz_inc, gz_put, gz_ast, gz_pop, gz_vs, gz_vv, gz_sup, gz_rv, gz_ri, gz_rl, gz_ra, gz_if, gz_seq, gz_sw, gz_st, gz_st2, rok_I, rok_J, rok_V, rok_Z0, rok_Z1, rok_Zi, rok_R, rok_N, bi_rok, bi_0, bi_1, fit_I, fit_J, fit_Z0, fit_Z1, fit_Zi, fit_R, fit_N, fit_aR, aty_I, aty_Z0, aty_Z1, aty_Zi, aty_J, gz_ix, List.getElem?_cons_zero, List.getElem?_cons_succ, List.getElem?_nil, List.reverse_cons, List.reverse_nil, List.nil_append, List.cons_append, List.take_succ_cons, List.take_zero, List.take_nil, List.length_cons, List.length_nil, decide_true, decide_false, decide_not, Bool.not_true, Bool.not_false, gz_nle, if_true, if_false, and_true, true_and, and_self, and_false, false_and, or_true, true_or, or_false, false_or, Bool.false_eq_true, not_true, not_false_iff, Decidable.not_not, Nat.reduceLeDiff, Nat.reduceAdd, Nat.reduceEqDiff, Nat.reduceSub, Nat.reduceLT, Nat.zero_add, reduceCtorEq, reduceIte, eq_self, i32_10, i32_01, Nat.zero_le, Nat.one_ne_zero, y1, y2, J4, J5, p1, p2, t4, gz_n_set, gz_k_set]
          have g0 : g ≠ 0 := fun z => by rw [z, Nat.mul_zero, Nat.mul_zero] at u; omega
          refine ⟨[.ref 4, .ref a, .ref q, .int (nI T), .int (nI (k + 1))], _, ?_, rfl, AW_J (AW_J W2 4 (lN (Cn k)) (Or.inl rfl)) 5 (lN (Rt k * g)) (Or.inr rfl), Cn k, Rt k * g, ?_, ?_, p, e5, by omega, ?_, fun i hi pi ri g' hg' fs' => ?_⟩
          · simp only [lb_X0_findFittest_13, gz_sem, gz_ae, Value.category, gz_i, gz_l, gz_nu, gz_li, gz_ll, gz_la, gz_ib, gz_iz, gz_lb, gz_lz, gz_ls, gz_lc, gz_i2l, gz_l2i, gz_get, gz_ald, gz_len, gz_dup, gz_d2, gz_nar, gz_a0, gz_a1, gz_cs, gz_cv, gz_mk, gz_te, gz_j1, gz_j2, gz_jn, gz_jk, gz_jo, gz_ja, gz_sat, gz_seti, gz_seta, gz_set2, gz_inc, gz_put, gz_ast, gz_pop, gz_vs, gz_vv, gz_sup, gz_rv, gz_ri, gz_rl, gz_ra, gz_if, gz_seq, gz_sw, gz_st, gz_st2, rok_I, rok_J, rok_V, rok_Z0, rok_Z1, rok_Zi, rok_R, rok_N, bi_rok, bi_0, bi_1, fit_I, fit_J, fit_Z0, fit_Z1, fit_Zi, fit_R, fit_N, fit_aR, aty_I, aty_Z0, aty_Z1, aty_Zi, aty_J, gz_ix, List.getElem?_cons_zero, List.getElem?_cons_succ, List.getElem?_nil, List.reverse_cons, List.reverse_nil, List.nil_append, List.cons_append, List.take_succ_cons, List.take_zero, List.take_nil, List.length_cons, List.length_nil, decide_true, decide_false, decide_not, Bool.not_true, Bool.not_false, gz_nle, if_true, if_false, and_true, true_and, and_self, and_false, false_and, or_true, true_or, or_false, false_or, Bool.false_eq_true, not_true, not_false_iff, Decidable.not_not, Nat.reduceLeDiff, Nat.reduceAdd, Nat.reduceEqDiff, Nat.reduceSub, Nat.reduceLT, Nat.zero_add, reduceCtorEq, reduceIte, eq_self, i32_10, i32_01, Nat.zero_le, Nat.one_ne_zero, x1, x3, x4, t1, i2, i3, i4, e1, e3, e4, t2, sw, t3, m1, y1, f3, f4, f6, l1, l2, l3, l4, kb, nI_1]
          · rw [J_seto _ _ _ _ _ _ (by omega), J_set, if_pos ⟨rfl, rfl⟩]
          · rw [J_set, if_pos ⟨rfl, rfl⟩]
          · rcases m5 with z | z
            · exact absurd z g0
            · exact z
          · by_cases z : i = k
            · subst z
              exact Nat.mul_le_mul_left _ (Nat.mul_le_mul_left _ (m6 g' hg' fs'))
            · exact kb_nl hC (al i (by omega) pi ri g' hg' fs') u
        · have t4 : ¬ lg_cmp (lN (Cn k * V)) (lN (C * (Rt k * g))) < 0 := fun z => u ((pk_lLT (by omega) (by omega)).mp ((lg_cmp_lt _ _).mp z))
          have kb : se_X0_keepIfBetter [.ref 4, .long (lN (Cn k)), .long (lN (Rt k * g))] h2 = some (none, h2) := by
            simp only [se_X0_keepIfBetter, sm_X0_keepIfBetter, gz_sem, gz_ae, Value.category, gz_i, gz_l, gz_nu, gz_li, gz_ll, gz_la, gz_ib, gz_iz, gz_lb, gz_lz, gz_ls, gz_lc, gz_i2l, gz_l2i, gz_get, gz_ald, gz_len, gz_dup, gz_d2, gz_nar, gz_a0, gz_a1, gz_cs, gz_cv, gz_mk, gz_te, gz_j1, gz_j2, gz_jn, gz_jk, gz_jo, gz_ja, gz_sat, gz_seti, gz_seta, gz_set2, gz_inc, gz_put, gz_ast, gz_pop, gz_vs, gz_vv, gz_sup, gz_rv, gz_ri, gz_rl, gz_ra, gz_if, gz_seq, gz_sw, gz_st, gz_st2, rok_I, rok_J, rok_V, rok_Z0, rok_Z1, rok_Zi, rok_R, rok_N, bi_rok, bi_0, bi_1, fit_I, fit_J, fit_Z0, fit_Z1, fit_Zi, fit_R, fit_N, fit_aR, aty_I, aty_Z0, aty_Z1, aty_Zi, aty_J, gz_ix, List.getElem?_cons_zero, List.getElem?_cons_succ, List.getElem?_nil, List.reverse_cons, List.reverse_nil, List.nil_append, List.cons_append, List.take_succ_cons, List.take_zero, List.take_nil, List.length_cons, List.length_nil, decide_true, decide_false, decide_not, Bool.not_true, Bool.not_false, gz_nle, if_true, if_false, and_true, true_and, and_self, and_false, false_and, or_true, true_or, or_false, false_or, Bool.false_eq_true, not_true, not_false_iff, Decidable.not_not, Nat.reduceLeDiff, Nat.reduceAdd, Nat.reduceEqDiff, Nat.reduceSub, Nat.reduceLT, Nat.zero_add, reduceCtorEq, reduceIte, eq_self, i32_10, i32_01, Nat.zero_le, Nat.one_ne_zero, y1, y2, J4, J5, p1, p2, t4]
          refine ⟨[.ref 4, .ref a, .ref q, .int (nI T), .int (nI (k + 1))], h2, ?_, rfl, W2, C, V, J4, J5, hC, hC2, hV, fs, fun i hi pi ri g' hg' fs' => ?_⟩
          · simp only [lb_X0_findFittest_13, gz_sem, gz_ae, Value.category, gz_i, gz_l, gz_nu, gz_li, gz_ll, gz_la, gz_ib, gz_iz, gz_lb, gz_lz, gz_ls, gz_lc, gz_i2l, gz_l2i, gz_get, gz_ald, gz_len, gz_dup, gz_d2, gz_nar, gz_a0, gz_a1, gz_cs, gz_cv, gz_mk, gz_te, gz_j1, gz_j2, gz_jn, gz_jk, gz_jo, gz_ja, gz_sat, gz_seti, gz_seta, gz_set2, gz_inc, gz_put, gz_ast, gz_pop, gz_vs, gz_vv, gz_sup, gz_rv, gz_ri, gz_rl, gz_ra, gz_if, gz_seq, gz_sw, gz_st, gz_st2, rok_I, rok_J, rok_V, rok_Z0, rok_Z1, rok_Zi, rok_R, rok_N, bi_rok, bi_0, bi_1, fit_I, fit_J, fit_Z0, fit_Z1, fit_Zi, fit_R, fit_N, fit_aR, aty_I, aty_Z0, aty_Z1, aty_Zi, aty_J, gz_ix, List.getElem?_cons_zero, List.getElem?_cons_succ, List.getElem?_nil, List.reverse_cons, List.reverse_nil, List.nil_append, List.cons_append, List.take_succ_cons, List.take_zero, List.take_nil, List.length_cons, List.length_nil, decide_true, decide_false, decide_not, Bool.not_true, Bool.not_false, gz_nle, if_true, if_false, and_true, true_and, and_self, and_false, false_and, or_true, true_or, or_false, false_or, Bool.false_eq_true, not_true, not_false_iff, Decidable.not_not, Nat.reduceLeDiff, Nat.reduceAdd, Nat.reduceEqDiff, Nat.reduceSub, Nat.reduceLT, Nat.zero_add, reduceCtorEq, reduceIte, eq_self, i32_10, i32_01, Nat.zero_le, Nat.one_ne_zero, x1, x3, x4, t1, i2, i3, i4, e1, e3, e4, t2, sw, t3, m1, y1, f3, f4, f6, l1, l2, l3, l4, kb, nI_1]
          · by_cases z : i = k
            · subst z
              exact Nat.le_trans (Nat.mul_le_mul_left _ (Nat.mul_le_mul_left _ (m6 g' hg' fs'))) (by omega)
            · exact al i (by omega) pi ri g' hg' fs'
    · have t2 : ¬ 0 < nI (Cn k) := by rw [show Cn k = 0 by omega]; decide
      refine ⟨[.ref 4, .ref a, .ref q, .int (nI T), .int (nI (k + 1))], h, ?_, rfl, w, C, V, j4, j5, hC, hC2, hV, fs, fun i hi pi ri => ?_⟩
      · simp only [lb_X0_findFittest_13, gz_sem, gz_ae, Value.category, gz_i, gz_l, gz_nu, gz_li, gz_ll, gz_la, gz_ib, gz_iz, gz_lb, gz_lz, gz_ls, gz_lc, gz_i2l, gz_l2i, gz_get, gz_ald, gz_len, gz_dup, gz_d2, gz_nar, gz_a0, gz_a1, gz_cs, gz_cv, gz_mk, gz_te, gz_j1, gz_j2, gz_jn, gz_jk, gz_jo, gz_ja, gz_sat, gz_seti, gz_seta, gz_set2, gz_inc, gz_put, gz_ast, gz_pop, gz_vs, gz_vv, gz_sup, gz_rv, gz_ri, gz_rl, gz_ra, gz_if, gz_seq, gz_sw, gz_st, gz_st2, rok_I, rok_J, rok_V, rok_Z0, rok_Z1, rok_Zi, rok_R, rok_N, bi_rok, bi_0, bi_1, fit_I, fit_J, fit_Z0, fit_Z1, fit_Zi, fit_R, fit_N, fit_aR, aty_I, aty_Z0, aty_Z1, aty_Zi, aty_J, gz_ix, List.getElem?_cons_zero, List.getElem?_cons_succ, List.getElem?_nil, List.reverse_cons, List.reverse_nil, List.nil_append, List.cons_append, List.take_succ_cons, List.take_zero, List.take_nil, List.length_cons, List.length_nil, decide_true, decide_false, decide_not, Bool.not_true, Bool.not_false, gz_nle, if_true, if_false, and_true, true_and, and_self, and_false, false_and, or_true, true_or, or_false, false_or, Bool.false_eq_true, not_true, not_false_iff, Decidable.not_not, Nat.reduceLeDiff, Nat.reduceAdd, Nat.reduceEqDiff, Nat.reduceSub, Nat.reduceLT, Nat.zero_add, reduceCtorEq, reduceIte, eq_self, i32_10, i32_01, Nat.zero_le, Nat.one_ne_zero, x3, x4, t1, i2, i3, i4, e1, e3, e4, t2, nI_1]
      · by_cases z : i = k
        · rw [z] at pi; exact absurd pi p
        · exact al i (by omega) pi ri) (by
    intro e h ⟨ee, w, kb⟩
    subst ee
    obtain ⟨x1, x2, x3, x4, -⟩ := AX_AW w H
    have t1 : ¬ nI S < nI S := nI_nlt (Nat.le_refl _) (by omega)
    refine ⟨_, h, ?_, rfl, w, kb⟩
    simp only [lb_X0_findFittest_13, gz_sem, gz_ae, Value.category, gz_i, gz_l, gz_nu, gz_li, gz_ll, gz_la, gz_ib, gz_iz, gz_lb, gz_lz, gz_ls, gz_lc, gz_i2l, gz_l2i, gz_get, gz_ald, gz_len, gz_dup, gz_d2, gz_nar, gz_a0, gz_a1, gz_cs, gz_cv, gz_mk, gz_te, gz_j1, gz_j2, gz_jn, gz_jk, gz_jo, gz_ja, gz_sat, gz_seti, gz_seta, gz_set2, gz_inc, gz_put, gz_ast, gz_pop, gz_vs, gz_vv, gz_sup, gz_rv, gz_ri, gz_rl, gz_ra, gz_if, gz_seq, gz_sw, gz_st, gz_st2, rok_I, rok_J, rok_V, rok_Z0, rok_Z1, rok_Zi, rok_R, rok_N, bi_rok, bi_0, bi_1, fit_I, fit_J, fit_Z0, fit_Z1, fit_Zi, fit_R, fit_N, fit_aR, aty_I, aty_Z0, aty_Z1, aty_Zi, aty_J, gz_ix, List.getElem?_cons_zero, List.getElem?_cons_succ, List.getElem?_nil, List.reverse_cons, List.reverse_nil, List.nil_append, List.cons_append, List.take_succ_cons, List.take_zero, List.take_nil, List.length_cons, List.length_nil, decide_true, decide_false, decide_not, Bool.not_true, Bool.not_false, gz_nle, if_true, if_false, and_true, true_and, and_self, and_false, false_and, or_true, true_or, or_false, false_or, Bool.false_eq_true, not_true, not_false_iff, Decidable.not_not, Nat.reduceLeDiff, Nat.reduceAdd, Nat.reduceEqDiff, Nat.reduceSub, Nat.reduceLT, Nat.zero_add, reduceCtorEq, reduceIte, eq_self, i32_10, i32_01, Nat.zero_le, Nat.one_ne_zero, x3, t1]) S 0 [.ref 4, .ref a, .ref q, .int (nI T), .int (nI 0)] H1 (by omega) ⟨rfl, w1, k1⟩
  have e0 : nI 0 = (0 : Int32) := rfl
  rw [e0] at q1
  subst q2
  obtain ⟨C, V, j4, j5, hC, hC2, hV, fs, al⟩ := q4
  obtain ⟨h2, h3, a1, a2, a2', a3, a3', r⟩ := ask_deal (AX_AW q3 H) (T := T) C V hC hC2 hV hT
  rcases r with ⟨r1, -⟩ | ⟨-, r2, a', b', c', d', r3, r4⟩
  · exact absurd fs r1
  obtain ⟨x1, x2, -⟩ := AX_AW q3 H
  obtain ⟨y1, y2, y3, y4, -⟩ := AX_AW (AW_tr q3 a2) H
  have k5 : gz_k (gz_set h0 4 4 (.long 1)) 4 = gz_k h0 4 := rfl
  rw [hH1] at q1
  refine ⟨h3, C, V, a', b', c', d', ?_, AW_tr q3 a3, hC, al, r3, r4⟩
  simp only [se_X0_findFittest, sm_X0_findFittest, gz_sem, gz_ae, Value.category, gz_i, gz_l, gz_nu, gz_li, gz_ll, gz_la, gz_ib, gz_iz, gz_lb, gz_lz, gz_ls, gz_lc, gz_i2l, gz_l2i, gz_get, gz_ald, gz_len, gz_dup, gz_d2, gz_nar, gz_a0, gz_a1, gz_cs, gz_cv, gz_mk, gz_te, gz_j1, gz_j2, gz_jn, gz_jk, gz_jo, gz_ja, gz_sat, gz_seti, gz_seta, gz_set2, gz_inc, gz_put, gz_ast, gz_pop, gz_vs, gz_vv, gz_sup, gz_rv, gz_ri, gz_rl, gz_ra, gz_if, gz_seq, gz_sw, gz_st, gz_st2, rok_I, rok_J, rok_V, rok_Z0, rok_Z1, rok_Zi, rok_R, rok_N, bi_rok, bi_0, bi_1, fit_I, fit_J, fit_Z0, fit_Z1, fit_Zi, fit_R, fit_N, fit_aR, aty_I, aty_Z0, aty_Z1, aty_Zi, aty_J, gz_ix, List.getElem?_cons_zero, List.getElem?_cons_succ, List.getElem?_nil, List.reverse_cons, List.reverse_nil, List.nil_append, List.cons_append, List.take_succ_cons, List.take_zero, List.take_nil, List.length_cons, List.length_nil, decide_true, decide_false, decide_not, Bool.not_true, Bool.not_false, gz_nle, if_true, if_false, and_true, true_and, and_self, and_false, false_and, or_true, true_or, or_false, false_or, Bool.false_eq_true, not_true, not_false_iff, Decidable.not_not, Nat.reduceLeDiff, Nat.reduceAdd, Nat.reduceEqDiff, Nat.reduceSub, Nat.reduceLT, Nat.zero_add, reduceCtorEq, reduceIte, eq_self, i32_10, i32_01, Nat.zero_le, Nat.one_ne_zero, c1, gz_n_set, gz_k_set, q1, x1, x2, j4, j5, a1, y1, y4, r2]
