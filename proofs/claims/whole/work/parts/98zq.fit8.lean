theorem i_sub_add {x n k : Nat} (h : n ≤ x + k) : nI x - nI n + nI k = nI (x + k - n) := by
  rw [Int32.sub_eq_add_neg, Int32.add_assoc, Int32.add_comm (-nI n), ← Int32.add_assoc, ← Int32.sub_eq_add_neg, nI_add, pk_sub h]
def vC (n T a b c : Nat) (a' b' c' d' : Nat) : Prop := BG n T a' b' c' d' ∧ (a' < a ∨ (a' = a ∧ (b' < b ∨ (b' = b ∧ c' < c))))
def vB (n T a b : Nat) (a' b' c' d' : Nat) : Prop := BG n T a' b' c' d' ∧ (a' < a ∨ (a' = a ∧ b' < b))
def vA (n T a : Nat) (a' b' c' d' : Nat) : Prop := BG n T a' b' c' d' ∧ a' < a
theorem Qset_FB {h : gz_H} {W : Nat → Nat → Bool} {Cn Rt : Nat → Nat} {S n cy : Nat} {vis : Nat → Nat → Nat → Nat → Prop} (i : Nat) (x : Int32) (f : FB h W Cn Rt S n cy vis) : FB (gz_set h 35 i (.int x)) W Cn Rt S n cy vis := FB_h (by rw [gz_v_set, if_neg (by omega)]) (by rw [gz_v_set, if_neg (by omega)]) (fun i => by rw [gz_v_set, if_neg (by omega)]) f
set_option maxHeartbeats 8000000 in
theorem fit_c {hr h0 : gz_H} (w0 : QW hr h0) {p S cy T a b : Nat} {Cn Rt : Nat → Nat} {W : Nat → Nat → Bool} (H : RX hr p S 4 Cn Rt W) (c90 : cy ≤ 90) (hT : T ≤ 90) (a1 : 1 ≤ a) (b1 : 1 ≤ b) (ab : a + b + 2 ≤ T) (fb : FB h0 W Cn Rt S 4 cy (vB 4 T a b)) (t0 : gz_I h0 35 0 = nI a) (t1 : gz_I h0 35 1 = nI b) (v1 : Value) (hv : v1.category = 1) : ∃ e h', gz_loop 161 9 lb_X8_fit_161 [.ref 15, v1, .int (nI cy), .int (nI p), .int (nI 4), .int (nI T), .int (nI a), .int (nI b), .int 1] h0 = some (.inl (213, e, h')) ∧ e.take 8 = [.ref 15, v1, .int (nI cy), .int (nI p), .int (nI 4), .int (nI T), .int (nI a), .int (nI b)] ∧ QW hr h' ∧ FB h' W Cn Rt S 4 cy (vB 4 T a (b + 1)) ∧ gz_I h' 35 0 = nI a := by
  have k15 : nI T - nI a = nI (T - a) := pk_sub (by omega)
  have k16 : nI (T - a) - nI b = nI (T - a - b) := pk_sub (by omega)
  have k17 : nI (T - a - b) - 1 = nI (T - a - b - 1) := pk_sub (b := 1) (by omega)
  have l2 : ¬ (2 : Int32) < 0 := by decide
  have l3 : ¬ (3 : Int32) < 0 := by decide
  have y2 : (2 : Int32).toNatClampNeg = 2 := rfl
  have y3 : (3 : Int32).toNatClampNeg = 3 := rfl
  have g2 : 2 < 4 := by decide
  have g3 : 3 < 4 := by decide
  obtain ⟨e', h', q1, q2, q3, q4, q5⟩ := gz_forI (L := 161) (k := 9) (X := 213) (a := lb_X8_fit_161) (T - a - b - 1) (fun i e h => e = [.ref 15, v1, .int (nI cy), .int (nI p), .int (nI 4), .int (nI T), .int (nI a), .int (nI b), .int (nI (1 + i))] ∧ QW hr h ∧ FB h W Cn Rt S 4 cy (vC 4 T a b (1 + i)) ∧ gz_I h 35 0 = nI a ∧ gz_I h 35 1 = nI b) (fun e h => e.take 8 = [.ref 15, v1, .int (nI cy), .int (nI p), .int (nI 4), .int (nI T), .int (nI a), .int (nI b)] ∧ QW hr h ∧ FB h W Cn Rt S 4 cy (vB 4 T a (b + 1)) ∧ gz_I h 35 0 = nI a) (by decide) (by
    intro i e h hi ⟨ee, w, f, x0, x1⟩
    subst ee
    obtain ⟨c, hc⟩ : ∃ c, c = 1 + i := ⟨_, rfl⟩
    rw [← hc] at f ⊢
    have k1 : ¬ nI (T - a - b - 1) < nI c := nI_nlt (by omega) (by omega)
    have k18 : nI (T - a - b) - nI c = nI (T - a - b - c) := pk_sub (by omega)
    have m := w.1
    have w2 := QW_set w 35 2 (nI c) (by omega) (by omega)
    have m2 := w2.1
    have w3 := QW_set w2 35 3 (nI (T - a - b - c)) (by omega) (by omega)
    have m3 := w3.1
    have bg : BG 4 T a b c (T - a - b - c) := ⟨a1, b1, fun _ => by omega, fun q => by omega, fun _ => by omega, fun q => by omega, by omega⟩
    obtain ⟨h4, s1, s2, s3, s4⟩ := st_tries w3 H c90 bg hT (fun s hs => by
      have : s = 0 ∨ s = 1 ∨ s = 2 ∨ s = 3 := by omega
      rcases this with rfl | rfl | rfl | rfl
      · rw [I_seto _ _ _ _ _ _ (by omega), I_seto _ _ _ _ _ _ (by omega)]; exact x0
      · rw [I_seto _ _ _ _ _ _ (by omega), I_seto _ _ _ _ _ _ (by omega)]; exact x1
      · rw [I_seto _ _ _ _ _ _ (by omega), I_set, if_pos ⟨rfl, rfl⟩]; rfl
      · rw [I_set, if_pos ⟨rfl, rfl⟩]; rfl) (vC 4 T a b c) (fun a' b' c' d' v => ⟨v.1, by
        have := v.2
        unfold ls
        omega⟩) (Qset_FB _ _ (Qset_FB _ _ f))
    have i1 : nI c + 1 = nI (c + 1) := nI_add c 1
    have e1 : 1 + (i + 1) = c + 1 := by omega
    rw [e1]
    have A35 : ∀ (y : Nat) (hy : y < 2), gz_I h4 35 y = gz_I h 35 y := fun y hy => by
      rw [vI (s3 y), I_seto _ _ _ _ _ _ (by omega), I_seto _ _ _ _ _ _ (by omega)]
    refine ⟨[.ref 15, v1, .int (nI cy), .int (nI p), .int (nI 4), .int (nI T), .int (nI a), .int (nI b), .int (nI (c + 1))], h4, ?_, rfl, s2, FB_c (fun a' b' c' d' => ?_) s4, by rw [A35 0 (by omega)]; exact x0, by rw [A35 1 (by omega)]; exact x1⟩
    · simp only [lb_X8_fit_161, gz_sem, gz_ae, Value.category, gz_i, gz_l, gz_nu, gz_li, gz_ll, gz_la, gz_ib, gz_iz, gz_lb, gz_lz, gz_ls, gz_lc, gz_i2l, gz_l2i, gz_get, gz_ald, gz_len, gz_dup, gz_d2, gz_nar, gz_a0, gz_a1, gz_cs, gz_cv, gz_mk, gz_te, gz_j1, gz_j2, gz_jn, gz_jk, gz_jo, gz_ja, gz_sat, gz_seti, gz_seta, gz_set2, gz_inc, gz_put, gz_ast, gz_pop, gz_vs, gz_vv, gz_sup, gz_rv, gz_ri, gz_rl, gz_ra, gz_if, gz_seq, gz_sw, gz_st, gz_st2, rok_I, rok_J, rok_V, rok_Z0, rok_Z1, rok_Zi, rok_R, rok_N, bi_rok, bi_0, bi_1, fit_I, fit_J, fit_Z0, fit_Z1, fit_Zi, fit_R, fit_N, fit_aR, aty_I, aty_Z0, aty_Z1, aty_Zi, aty_J, gz_ix, List.getElem?_cons_zero, List.getElem?_cons_succ, List.getElem?_nil, List.reverse_cons, List.reverse_nil, List.nil_append, List.cons_append, List.take_succ_cons, List.take_zero, List.take_nil, List.length_cons, List.length_nil, decide_true, decide_false, decide_not, Bool.not_true, Bool.not_false, gz_nle, if_true, if_false, and_true, true_and, and_self, and_false, false_and, or_true, true_or, or_false, false_or, Bool.false_eq_true, not_true, not_false_iff, Decidable.not_not, Nat.reduceLeDiff, Nat.reduceAdd, Nat.reduceEqDiff, Nat.reduceSub, Nat.reduceLT, Nat.zero_add, reduceCtorEq, reduceIte, eq_self, i32_10, i32_01, Nat.zero_le, Nat.one_ne_zero, m, m2, m3, md_k, k15, k16, k17, k18, k1, l2, l3, y2, y3, g2, g3, s1, i1]
    · unfold vC
      constructor
      · rintro (v | ⟨rfl, rfl, rfl, rfl⟩)
        · exact ⟨v.1, by have := v.2; omega⟩
        · exact ⟨bg, by omega⟩
      · rintro ⟨v1, v2⟩
        by_cases z : a' = a ∧ b' = b ∧ c' = c
        · refine Or.inr ⟨z.1, z.2.1, z.2.2, ?_⟩
          have := v1.2.2.2.2.2.2
          omega
        · exact Or.inl ⟨v1, by omega⟩) (by
    intro e h ⟨ee, w, f, x0, x1⟩
    subst ee
    have k1 : nI (T - a - b - 1) < nI (1 + (T - a - b - 1)) := nI_lt (by omega) (by omega)
    refine ⟨[.ref 15, v1, .int (nI cy), .int (nI p), .int (nI 4), .int (nI T), .int (nI a), .int (nI b), .int (nI (1 + (T - a - b - 1)))], h, ?_, rfl, w, FB_c (fun a' b' c' d' => ?_) f, x0⟩
    · simp only [lb_X8_fit_161, gz_sem, gz_ae, Value.category, gz_i, gz_l, gz_nu, gz_li, gz_ll, gz_la, gz_ib, gz_iz, gz_lb, gz_lz, gz_ls, gz_lc, gz_i2l, gz_l2i, gz_get, gz_ald, gz_len, gz_dup, gz_d2, gz_nar, gz_a0, gz_a1, gz_cs, gz_cv, gz_mk, gz_te, gz_j1, gz_j2, gz_jn, gz_jk, gz_jo, gz_ja, gz_sat, gz_seti, gz_seta, gz_set2, gz_inc, gz_put, gz_ast, gz_pop, gz_vs, gz_vv, gz_sup, gz_rv, gz_ri, gz_rl, gz_ra, gz_if, gz_seq, gz_sw, gz_st, gz_st2, rok_I, rok_J, rok_V, rok_Z0, rok_Z1, rok_Zi, rok_R, rok_N, bi_rok, bi_0, bi_1, fit_I, fit_J, fit_Z0, fit_Z1, fit_Zi, fit_R, fit_N, fit_aR, aty_I, aty_Z0, aty_Z1, aty_Zi, aty_J, gz_ix, List.getElem?_cons_zero, List.getElem?_cons_succ, List.getElem?_nil, List.reverse_cons, List.reverse_nil, List.nil_append, List.cons_append, List.take_succ_cons, List.take_zero, List.take_nil, List.length_cons, List.length_nil, decide_true, decide_false, decide_not, Bool.not_true, Bool.not_false, gz_nle, if_true, if_false, and_true, true_and, and_self, and_false, false_and, or_true, true_or, or_false, false_or, Bool.false_eq_true, not_true, not_false_iff, Decidable.not_not, Nat.reduceLeDiff, Nat.reduceAdd, Nat.reduceEqDiff, Nat.reduceSub, Nat.reduceLT, Nat.zero_add, reduceCtorEq, reduceIte, eq_self, i32_10, i32_01, Nat.zero_le, Nat.one_ne_zero, k15, k16, k17, k1]
    · unfold vC vB
      constructor
      · rintro ⟨v1, v2⟩
        exact ⟨v1, by omega⟩
      · rintro ⟨v1, v2⟩
        have z1 := v1.2.2.2.2.2.2
        have z2 := v1.2.2.2.2.1 (by decide)
        exact ⟨v1, by omega⟩) (T - a - b - 1) 0 [.ref 15, v1, .int (nI cy), .int (nI p), .int (nI 4), .int (nI T), .int (nI a), .int (nI b), .int (nI (1 + 0))] h0 (by omega) ⟨rfl, w0, FB_c (fun a' b' c' d' => by
      unfold vC vB
      constructor
      · rintro ⟨v1, v2⟩
        exact ⟨v1, by omega⟩
      · rintro ⟨v1, v2⟩
        have z2 := v1.2.2.1 (by decide)
        exact ⟨v1, by omega⟩) fb, t0, t1⟩
  exact ⟨e', h', q1, q2, q3, q4, q5⟩
set_option maxHeartbeats 8000000 in
theorem fit_b {hr h0 : gz_H} (w0 : QW hr h0) {p S n cy T a : Nat} {Cn Rt : Nat → Nat} {W : Nat → Nat → Bool} (H : RX hr p S n Cn Rt W) (n3 : n = 3 ∨ n = 4) (c90 : cy ≤ 90) (hT : T ≤ 90) (a1 : 1 ≤ a) (aT : a + n ≤ T + 1) (fb : FB h0 W Cn Rt S n cy (vA n T a)) (t0 : gz_I h0 35 0 = nI a) (v1 : Value) (hv : v1.category = 1) : ∃ e h', gz_loop 106 8 lb_X8_fit_106 [.ref 15, v1, .int (nI cy), .int (nI p), .int (nI n), .int (nI T), .int (nI a), .int 1] h0 = some (.inl (219, e, h')) ∧ e.take 7 = [.ref 15, v1, .int (nI cy), .int (nI p), .int (nI n), .int (nI T), .int (nI a)] ∧ QW hr h' ∧ FB h' W Cn Rt S n cy (vA n T (a + 1)) := by
  have k15 : nI T - nI a = nI (T - a) := pk_sub (by omega)
  have k16 : nI (T - a) - nI n + 2 = nI (T - a + 2 - n) := i_sub_add (k := 2) (by omega)
  have l1 : ¬ (1 : Int32) < 0 := by decide
  have y1 : (1 : Int32).toNatClampNeg = 1 := rfl
  have g1 : 1 < 4 := by decide
  have l2 : ¬ (2 : Int32) < 0 := by decide
  have y2 : (2 : Int32).toNatClampNeg = 2 := rfl
  have g2 : 2 < 4 := by decide
  obtain ⟨e', h', q1, q2, q3, q4⟩ := gz_forI (L := 106) (k := 8) (X := 219) (a := lb_X8_fit_106) (T - a + 2 - n) (fun i e h => e = [.ref 15, v1, .int (nI cy), .int (nI p), .int (nI n), .int (nI T), .int (nI a), .int (nI (1 + i))] ∧ QW hr h ∧ FB h W Cn Rt S n cy (vB n T a (1 + i)) ∧ gz_I h 35 0 = nI a) (fun e h => e.take 7 = [.ref 15, v1, .int (nI cy), .int (nI p), .int (nI n), .int (nI T), .int (nI a)] ∧ QW hr h ∧ FB h W Cn Rt S n cy (vA n T (a + 1))) (by decide) (by
    intro i e h hi ⟨ee, w, f, x0⟩
    subst ee
    obtain ⟨b, hb⟩ : ∃ b, b = 1 + i := ⟨_, rfl⟩
    rw [← hb] at f ⊢
    have k1 : ¬ nI (T - a + 2 - n) < nI b := nI_nlt (by omega) (by omega)
    have k18 : nI (T - a) - nI b = nI (T - a - b) := pk_sub (by omega)
    have m := w.1
    have w2 := QW_set w 35 1 (nI b) (by omega) (by omega)
    have m2 := w2.1
    have i1 : nI b + 1 = nI (b + 1) := nI_add b 1
    have e1 : 1 + (i + 1) = b + 1 := by omega
    rw [e1]
    have X0 : gz_I (gz_set h 35 1 (.int (nI b))) 35 0 = nI a := by rw [I_seto _ _ _ _ _ _ (by omega)]; exact x0
    have X1 : gz_I (gz_set h 35 1 (.int (nI b))) 35 1 = nI b := by rw [I_set, if_pos ⟨rfl, rfl⟩]
    rcases n3 with n3 | n3
    · subst n3
      have t3 : decide (nI 3 = (3 : Int32)) = true := by decide
      have w3 := QW_set w2 35 2 (nI (T - a - b)) (by omega) (by omega)
      have m3 := w3.1
      have bg : BG 3 T a b (T - a - b) 0 := ⟨a1, by omega, fun _ => by omega, fun q => by omega, fun q => by omega, fun _ => rfl, by omega⟩
      obtain ⟨h4, s1, s2, s3, s4⟩ := st_tries w3 H c90 bg hT (fun s hs => by
        have : s = 0 ∨ s = 1 ∨ s = 2 := by omega
        rcases this with rfl | rfl | rfl
        · rw [I_seto _ _ _ _ _ _ (by omega)]; exact X0
        · rw [I_seto _ _ _ _ _ _ (by omega)]; exact X1
        · rw [I_set, if_pos ⟨rfl, rfl⟩]; rfl) (vB 3 T a b) (fun a' b' c' d' v => ⟨v.1, by
          have := v.2
          unfold ls
          omega⟩) (Qset_FB _ _ (Qset_FB _ _ f))
      refine ⟨[.ref 15, v1, .int (nI cy), .int (nI p), .int (nI 3), .int (nI T), .int (nI a), .int (nI (b + 1))], h4, ?_, rfl, s2, FB_c (fun a' b' c' d' => ?_) s4, by rw [vI (s3 0), I_seto _ _ _ _ _ _ (by omega)]; exact X0⟩
      · simp only [lb_X8_fit_106, gz_sem, gz_ae, Value.category, gz_i, gz_l, gz_nu, gz_li, gz_ll, gz_la, gz_ib, gz_iz, gz_lb, gz_lz, gz_ls, gz_lc, gz_i2l, gz_l2i, gz_get, gz_ald, gz_len, gz_dup, gz_d2, gz_nar, gz_a0, gz_a1, gz_cs, gz_cv, gz_mk, gz_te, gz_j1, gz_j2, gz_jn, gz_jk, gz_jo, gz_ja, gz_sat, gz_seti, gz_seta, gz_set2, gz_inc, gz_put, gz_ast, gz_pop, gz_vs, gz_vv, gz_sup, gz_rv, gz_ri, gz_rl, gz_ra, gz_if, gz_seq, gz_sw, gz_st, gz_st2, rok_I, rok_J, rok_V, rok_Z0, rok_Z1, rok_Zi, rok_R, rok_N, bi_rok, bi_0, bi_1, fit_I, fit_J, fit_Z0, fit_Z1, fit_Zi, fit_R, fit_N, fit_aR, aty_I, aty_Z0, aty_Z1, aty_Zi, aty_J, gz_ix, List.getElem?_cons_zero, List.getElem?_cons_succ, List.getElem?_nil, List.reverse_cons, List.reverse_nil, List.nil_append, List.cons_append, List.take_succ_cons, List.take_zero, List.take_nil, List.length_cons, List.length_nil, decide_true, decide_false, decide_not, Bool.not_true, Bool.not_false, gz_nle, if_true, if_false, and_true, true_and, and_self, and_false, false_and, or_true, true_or, or_false, false_or, Bool.false_eq_true, not_true, not_false_iff, Decidable.not_not, Nat.reduceLeDiff, Nat.reduceAdd, Nat.reduceEqDiff, Nat.reduceSub, Nat.reduceLT, Nat.zero_add, reduceCtorEq, reduceIte, eq_self, i32_10, i32_01, Nat.zero_le, Nat.one_ne_zero, m, m2, m3, md_k, k15, k16, k18, k1, l1, l2, y1, y2, g1, g2, t3, hv, s1, i1]
      · unfold vB
        constructor
        · rintro (v | ⟨rfl, rfl, rfl, rfl⟩)
          · exact ⟨v.1, by have := v.2; omega⟩
          · exact ⟨bg, by omega⟩
        · rintro ⟨v1, v2⟩
          by_cases z : a' = a ∧ b' = b
          · have z1 := v1.2.2.2.2.2.2
            have z2 := v1.2.2.2.2.2.1 (by decide)
            exact Or.inr ⟨z.1, z.2, by omega, z2⟩
          · exact Or.inl ⟨v1, by omega⟩
    · subst n3
      have t3 : ¬ nI 4 = (3 : Int32) := by decide
      obtain ⟨e2, h4, s1, s2, s3, s4, s5⟩ := fit_c w2 H c90 hT a1 (by omega) (by omega) (Qset_FB _ _ f) X0 X1 v1 hv
      refine ⟨[.ref 15, v1, .int (nI cy), .int (nI p), .int (nI 4), .int (nI T), .int (nI a), .int (nI (b + 1))], h4, ?_, rfl, s3, s4, s5⟩
      simp only [lb_X8_fit_106, gz_sem, gz_ae, Value.category, gz_i, gz_l, gz_nu, gz_li, gz_ll, gz_la, gz_ib, gz_iz, gz_lb, gz_lz, gz_ls, gz_lc, gz_i2l, gz_l2i, gz_get, gz_ald, gz_len, gz_dup, gz_d2, gz_nar, gz_a0, gz_a1, gz_cs, gz_cv, gz_mk, gz_te, gz_j1, gz_j2, gz_jn, gz_jk, gz_jo, gz_ja, gz_sat, gz_seti, gz_seta, gz_set2, gz_inc, gz_put, gz_ast, gz_pop, gz_vs, gz_vv, gz_sup, gz_rv, gz_ri, gz_rl, gz_ra, gz_if, gz_seq, gz_sw, gz_st, gz_st2, rok_I, rok_J, rok_V, rok_Z0, rok_Z1, rok_Zi, rok_R, rok_N, bi_rok, bi_0, bi_1, fit_I, fit_J, fit_Z0, fit_Z1, fit_Zi, fit_R, fit_N, fit_aR, aty_I, aty_Z0, aty_Z1, aty_Zi, aty_J, gz_ix, List.getElem?_cons_zero, List.getElem?_cons_succ, List.getElem?_nil, List.reverse_cons, List.reverse_nil, List.nil_append, List.cons_append, List.take_succ_cons, List.take_zero, List.take_nil, List.length_cons, List.length_nil, decide_true, decide_false, decide_not, Bool.not_true, Bool.not_false, gz_nle, if_true, if_false, and_true, true_and, and_self, and_false, false_and, or_true, true_or, or_false, false_or, Bool.false_eq_true, not_true, not_false_iff, Decidable.not_not, Nat.reduceLeDiff, Nat.reduceAdd, Nat.reduceEqDiff, Nat.reduceSub, Nat.reduceLT, Nat.zero_add, reduceCtorEq, reduceIte, eq_self, i32_10, i32_01, Nat.zero_le, Nat.one_ne_zero, m, m2, md_k, k15, k16, k1, l1, y1, g1, t3, hv, s1, s2, i1]) (by
    intro e h ⟨ee, w, f, x0⟩
    subst ee
    have k1 : nI (T - a + 2 - n) < nI (1 + (T - a + 2 - n)) := nI_lt (by omega) (by omega)
    refine ⟨[.ref 15, v1, .int (nI cy), .int (nI p), .int (nI n), .int (nI T), .int (nI a), .int (nI (1 + (T - a + 2 - n)))], h, ?_, rfl, w, FB_c (fun a' b' c' d' => ?_) f⟩
    · simp only [lb_X8_fit_106, gz_sem, gz_ae, Value.category, gz_i, gz_l, gz_nu, gz_li, gz_ll, gz_la, gz_ib, gz_iz, gz_lb, gz_lz, gz_ls, gz_lc, gz_i2l, gz_l2i, gz_get, gz_ald, gz_len, gz_dup, gz_d2, gz_nar, gz_a0, gz_a1, gz_cs, gz_cv, gz_mk, gz_te, gz_j1, gz_j2, gz_jn, gz_jk, gz_jo, gz_ja, gz_sat, gz_seti, gz_seta, gz_set2, gz_inc, gz_put, gz_ast, gz_pop, gz_vs, gz_vv, gz_sup, gz_rv, gz_ri, gz_rl, gz_ra, gz_if, gz_seq, gz_sw, gz_st, gz_st2, rok_I, rok_J, rok_V, rok_Z0, rok_Z1, rok_Zi, rok_R, rok_N, bi_rok, bi_0, bi_1, fit_I, fit_J, fit_Z0, fit_Z1, fit_Zi, fit_R, fit_N, fit_aR, aty_I, aty_Z0, aty_Z1, aty_Zi, aty_J, gz_ix, List.getElem?_cons_zero, List.getElem?_cons_succ, List.getElem?_nil, List.reverse_cons, List.reverse_nil, List.nil_append, List.cons_append, List.take_succ_cons, List.take_zero, List.take_nil, List.length_cons, List.length_nil, decide_true, decide_false, decide_not, Bool.not_true, Bool.not_false, gz_nle, if_true, if_false, and_true, true_and, and_self, and_false, false_and, or_true, true_or, or_false, false_or, Bool.false_eq_true, not_true, not_false_iff, Decidable.not_not, Nat.reduceLeDiff, Nat.reduceAdd, Nat.reduceEqDiff, Nat.reduceSub, Nat.reduceLT, Nat.zero_add, reduceCtorEq, reduceIte, eq_self, i32_10, i32_01, Nat.zero_le, Nat.one_ne_zero, k15, k16, k1]
    · unfold vB vA
      constructor
      · rintro ⟨v1, v2⟩
        exact ⟨v1, by omega⟩
      · rintro ⟨v1, v2⟩
        have z1 := v1.2.2.2.2.2.2
        have z2 := v1.2.2.1 (by omega)
        have z3 := v1.2.2.2.2.1
        refine ⟨v1, ?_⟩
        rcases n3 with n3 | n3
        · omega
        · have := z3 (by omega); omega) (T - a + 2 - n) 0 [.ref 15, v1, .int (nI cy), .int (nI p), .int (nI n), .int (nI T), .int (nI a), .int (nI (1 + 0))] h0 (by omega) ⟨rfl, w0, FB_c (fun a' b' c' d' => by
      unfold vB vA
      constructor
      · rintro ⟨v1, v2⟩
        exact ⟨v1, by omega⟩
      · rintro ⟨v1, v2⟩
        have z2 := v1.2.1
        exact ⟨v1, by omega⟩) fb, t0⟩
  exact ⟨e', h', q1, q2, q3, q4⟩
set_option maxHeartbeats 8000000 in
theorem fit_a {hr h0 : gz_H} (w0 : QW hr h0) {p S n cy T : Nat} {Cn Rt : Nat → Nat} {W : Nat → Nat → Bool} (H : RX hr p S n Cn Rt W) (c90 : cy ≤ 90) (hT : T ≤ 90) (nT : n ≤ T) (z28 : gz_J h0 15 28 = lN 0) (v1 : Value) (hv : v1.category = 1) : ∃ e h', gz_loop 57 7 lb_X8_fit_57 [.ref 15, v1, .int (nI cy), .int (nI p), .int (nI n), .int (nI T), .int 1] h0 = some (.inl (225, e, h')) ∧ e.take 5 = [.ref 15, v1, .int (nI cy), .int (nI p), .int (nI n)] ∧ QW hr h' ∧ FB h' W Cn Rt S n cy (BG n T) := by
  have n2 := H.2.2.1
  have n4 := H.2.2.2.1
  have k16 : nI T - nI n + 1 = nI (T + 1 - n) := i_sub_add (k := 1) (by omega)
  have l0 : ¬ (0 : Int32) < 0 := by decide
  have y0 : (0 : Int32).toNatClampNeg = 0 := rfl
  have g0 : 0 < 4 := by decide
  have l1 : ¬ (1 : Int32) < 0 := by decide
  have y1 : (1 : Int32).toNatClampNeg = 1 := rfl
  have g1 : 1 < 4 := by decide
  obtain ⟨e', h', q1, q2, q3, q4⟩ := gz_forI (L := 57) (k := 7) (X := 225) (a := lb_X8_fit_57) (T + 1 - n) (fun i e h => e = [.ref 15, v1, .int (nI cy), .int (nI p), .int (nI n), .int (nI T), .int (nI (1 + i))] ∧ QW hr h ∧ FB h W Cn Rt S n cy (vA n T (1 + i))) (fun e h => e.take 5 = [.ref 15, v1, .int (nI cy), .int (nI p), .int (nI n)] ∧ QW hr h ∧ FB h W Cn Rt S n cy (BG n T)) (by decide) (by
    intro i e h hi ⟨ee, w, f⟩
    subst ee
    obtain ⟨a, ha⟩ : ∃ a, a = 1 + i := ⟨_, rfl⟩
    rw [← ha] at f ⊢
    have k1 : ¬ nI (T + 1 - n) < nI a := nI_nlt (by omega) (by omega)
    have k18 : nI T - nI a = nI (T - a) := pk_sub (by omega)
    have m := w.1
    have w2 := QW_set w 35 0 (nI a) (by omega) (by omega)
    have m2 := w2.1
    have i1 : nI a + 1 = nI (a + 1) := nI_add a 1
    have e1 : 1 + (i + 1) = a + 1 := by omega
    rw [e1]
    have X0 : gz_I (gz_set h 35 0 (.int (nI a))) 35 0 = nI a := by rw [I_set, if_pos ⟨rfl, rfl⟩]
    by_cases q2 : n = 2
    · subst q2
      have t3 : decide (nI 2 = (2 : Int32)) = true := by decide
      have w3 := QW_set w2 35 1 (nI (T - a)) (by omega) (by omega)
      have m3 := w3.1
      have bg : BG 2 T a (T - a) 0 0 := ⟨by omega, by omega, fun q => by omega, fun _ => rfl, fun q => by omega, fun _ => rfl, by omega⟩
      obtain ⟨h4, s1, s2, s3, s4⟩ := st_tries w3 H c90 bg hT (fun s hs => by
        have : s = 0 ∨ s = 1 := by omega
        rcases this with rfl | rfl
        · rw [I_seto _ _ _ _ _ _ (by omega)]; exact X0
        · rw [I_set, if_pos ⟨rfl, rfl⟩]; rfl) (vA 2 T a) (fun a' b' c' d' v => ⟨v.1, Or.inl v.2⟩) (Qset_FB _ _ (Qset_FB _ _ f))
      refine ⟨[.ref 15, v1, .int (nI cy), .int (nI p), .int (nI 2), .int (nI T), .int (nI (a + 1))], h4, ?_, rfl, s2, FB_c (fun a' b' c' d' => ?_) s4⟩
      · simp only [lb_X8_fit_57, gz_sem, gz_ae, Value.category, gz_i, gz_l, gz_nu, gz_li, gz_ll, gz_la, gz_ib, gz_iz, gz_lb, gz_lz, gz_ls, gz_lc, gz_i2l, gz_l2i, gz_get, gz_ald, gz_len, gz_dup, gz_d2, gz_nar, gz_a0, gz_a1, gz_cs, gz_cv, gz_mk, gz_te, gz_j1, gz_j2, gz_jn, gz_jk, gz_jo, gz_ja, gz_sat, gz_seti, gz_seta, gz_set2, gz_inc, gz_put, gz_ast, gz_pop, gz_vs, gz_vv, gz_sup, gz_rv, gz_ri, gz_rl, gz_ra, gz_if, gz_seq, gz_sw, gz_st, gz_st2, rok_I, rok_J, rok_V, rok_Z0, rok_Z1, rok_Zi, rok_R, rok_N, bi_rok, bi_0, bi_1, fit_I, fit_J, fit_Z0, fit_Z1, fit_Zi, fit_R, fit_N, fit_aR, aty_I, aty_Z0, aty_Z1, aty_Zi, aty_J, gz_ix, List.getElem?_cons_zero, List.getElem?_cons_succ, List.getElem?_nil, List.reverse_cons, List.reverse_nil, List.nil_append, List.cons_append, List.take_succ_cons, List.take_zero, List.take_nil, List.length_cons, List.length_nil, decide_true, decide_false, decide_not, Bool.not_true, Bool.not_false, gz_nle, if_true, if_false, and_true, true_and, and_self, and_false, false_and, or_true, true_or, or_false, false_or, Bool.false_eq_true, not_true, not_false_iff, Decidable.not_not, Nat.reduceLeDiff, Nat.reduceAdd, Nat.reduceEqDiff, Nat.reduceSub, Nat.reduceLT, Nat.zero_add, reduceCtorEq, reduceIte, eq_self, i32_10, i32_01, Nat.zero_le, Nat.one_ne_zero, m, m2, m3, md_k, k16, k18, k1, l0, l1, y0, y1, g0, g1, t3, hv, s1, i1]
      · unfold vA
        constructor
        · rintro (v | ⟨rfl, rfl, rfl, rfl⟩)
          · exact ⟨v.1, by have := v.2; omega⟩
          · exact ⟨bg, by omega⟩
        · rintro ⟨v1, v2⟩
          by_cases z : a' = a
          · have z1 := v1.2.2.2.2.2.2
            have z2 := v1.2.2.2.2.2.1 (by decide)
            have z3 := v1.2.2.2.1 (by decide)
            exact Or.inr ⟨z, by omega, z3, z2⟩
          · exact Or.inl ⟨v1, by omega⟩
    · have t3 : ¬ nI n = (2 : Int32) := fun z => q2 ((nI_eq (b := 2) (by omega) (by omega)).mp z)
      obtain ⟨e2, h4, s1, s2, s3, s4⟩ := fit_b w2 H (by omega) c90 hT (a := a) (by omega) (by omega) (Qset_FB _ _ f) X0 v1 hv
      refine ⟨[.ref 15, v1, .int (nI cy), .int (nI p), .int (nI n), .int (nI T), .int (nI (a + 1))], h4, ?_, rfl, s3, s4⟩
      simp only [lb_X8_fit_57, gz_sem, gz_ae, Value.category, gz_i, gz_l, gz_nu, gz_li, gz_ll, gz_la, gz_ib, gz_iz, gz_lb, gz_lz, gz_ls, gz_lc, gz_i2l, gz_l2i, gz_get, gz_ald, gz_len, gz_dup, gz_d2, gz_nar, gz_a0, gz_a1, gz_cs, gz_cv, gz_mk, gz_te, gz_j1, gz_j2, gz_jn, gz_jk, gz_jo, gz_ja, gz_sat, gz_seti, gz_seta, gz_set2, gz_inc, gz_put, gz_ast, gz_pop, gz_vs, gz_vv, gz_sup, gz_rv, gz_ri, gz_rl, gz_ra, gz_if, gz_seq, gz_sw, gz_st, gz_st2, rok_I, rok_J, rok_V, rok_Z0, rok_Z1, rok_Zi, rok_R, rok_N, bi_rok, bi_0, bi_1, fit_I, fit_J, fit_Z0, fit_Z1, fit_Zi, fit_R, fit_N, fit_aR, aty_I, aty_Z0, aty_Z1, aty_Zi, aty_J, gz_ix, List.getElem?_cons_zero, List.getElem?_cons_succ, List.getElem?_nil, List.reverse_cons, List.reverse_nil, List.nil_append, List.cons_append, List.take_succ_cons, List.take_zero, List.take_nil, List.length_cons, List.length_nil, decide_true, decide_false, decide_not, Bool.not_true, Bool.not_false, gz_nle, if_true, if_false, and_true, true_and, and_self, and_false, false_and, or_true, true_or, or_false, false_or, Bool.false_eq_true, not_true, not_false_iff, Decidable.not_not, Nat.reduceLeDiff, Nat.reduceAdd, Nat.reduceEqDiff, Nat.reduceSub, Nat.reduceLT, Nat.zero_add, reduceCtorEq, reduceIte, eq_self, i32_10, i32_01, Nat.zero_le, Nat.one_ne_zero, m, m2, md_k, k16, k1, l0, y0, g0, t3, hv, s1, s2, i1]) (by
    intro e h ⟨ee, w, f⟩
    subst ee
    have k1 : nI (T + 1 - n) < nI (1 + (T + 1 - n)) := nI_lt (by omega) (by omega)
    refine ⟨[.ref 15, v1, .int (nI cy), .int (nI p), .int (nI n), .int (nI T), .int (nI (1 + (T + 1 - n)))], h, ?_, rfl, w, FB_c (fun a' b' c' d' => ?_) f⟩
    · simp only [lb_X8_fit_57, gz_sem, gz_ae, Value.category, gz_i, gz_l, gz_nu, gz_li, gz_ll, gz_la, gz_ib, gz_iz, gz_lb, gz_lz, gz_ls, gz_lc, gz_i2l, gz_l2i, gz_get, gz_ald, gz_len, gz_dup, gz_d2, gz_nar, gz_a0, gz_a1, gz_cs, gz_cv, gz_mk, gz_te, gz_j1, gz_j2, gz_jn, gz_jk, gz_jo, gz_ja, gz_sat, gz_seti, gz_seta, gz_set2, gz_inc, gz_put, gz_ast, gz_pop, gz_vs, gz_vv, gz_sup, gz_rv, gz_ri, gz_rl, gz_ra, gz_if, gz_seq, gz_sw, gz_st, gz_st2, rok_I, rok_J, rok_V, rok_Z0, rok_Z1, rok_Zi, rok_R, rok_N, bi_rok, bi_0, bi_1, fit_I, fit_J, fit_Z0, fit_Z1, fit_Zi, fit_R, fit_N, fit_aR, aty_I, aty_Z0, aty_Z1, aty_Zi, aty_J, gz_ix, List.getElem?_cons_zero, List.getElem?_cons_succ, List.getElem?_nil, List.reverse_cons, List.reverse_nil, List.nil_append, List.cons_append, List.take_succ_cons, List.take_zero, List.take_nil, List.length_cons, List.length_nil, decide_true, decide_false, decide_not, Bool.not_true, Bool.not_false, gz_nle, if_true, if_false, and_true, true_and, and_self, and_false, false_and, or_true, true_or, or_false, false_or, Bool.false_eq_true, not_true, not_false_iff, Decidable.not_not, Nat.reduceLeDiff, Nat.reduceAdd, Nat.reduceEqDiff, Nat.reduceSub, Nat.reduceLT, Nat.zero_add, reduceCtorEq, reduceIte, eq_self, i32_10, i32_01, Nat.zero_le, Nat.one_ne_zero, k16, k1]
    · unfold vA
      constructor
      · rintro ⟨v1, v2⟩
        exact v1
      · intro v1
        have z1 := v1.2.2.2.2.2.2
        have z0 := v1.2.1
        have z2 := v1.2.2.1
        have z3 := v1.2.2.2.2.1
        refine ⟨v1, ?_⟩
        by_cases q : 2 < n
        · have := z2 q
          by_cases q' : 3 < n
          · have := z3 q'; omega
          · omega
        · omega) (T + 1 - n) 0 [.ref 15, v1, .int (nI cy), .int (nI p), .int (nI n), .int (nI T), .int (nI (1 + 0))] h0 (by omega) ⟨rfl, w0, Or.inl ⟨z28, fun a' b' c' d' v => by
      have := v.1.1
      have := v.2
      omega⟩⟩
  exact ⟨e', h', q1, q2, q3, q4⟩
