theorem cq_add (g : Int32) (w p j : Nat) : ∀ k, cq g (w + j) (cq g w p j) k = cq g w p (j + k) := by
  intro k
  induction k with
  | zero => rfl
  | succ k ih =>
    show (if ¬ g = 0 ∧ w + j + k = 0 then cq g (w + j) (cq g w p j) k else cq g (w + j) (cq g w p j) k + 1) = (if ¬ g = 0 ∧ w + (j + k) = 0 then cq g w p (j + k) else cq g w p (j + k) + 1)
    rw [ih, Nat.add_assoc]
theorem cmp_0 {w : Nat} (h : w < 2 ^ 31) : (0 < lg_cmp (lN w) 0) ↔ 0 < w := by
  unfold lg_cmp
  have e : (0 : Int64) = lN 0 := rfl
  rw [e]
  by_cases z : 0 < w
  · rw [if_pos ((lN_lt (by omega) h).mpr z)]
    exact ⟨fun _ => z, fun _ => by decide⟩
  · have : w = 0 := by omega
    subst this
    rw [if_neg (fun q => absurd ((lN_lt (by omega) (by omega)).mp q) (by omega)), if_pos rfl]
    exact ⟨fun q => absurd q (by decide), fun q => absurd q z⟩
set_option maxHeartbeats 4000000 in
theorem co7 (K : gz_H) (x a c w m l p q : Nat) (t : Int64) (k : sc K x) (hw : w < 2 ^ 30) (g : Int32) : se_X3_come [.ref x, .int g] (sw7 K x a c w m l p q t) = some (none, sw7 K x a c (w + 1) (m + 1) l (cq g w p 1) q t) := by
  rw [st_X3_come _ _ (sw7_sc K x a c w m l p q t k)]
  obtain ⟨v6, v7, v8, v9, v10, v11, v12, v13⟩ := sw7_x K x a c w m l p q t
  unfold sc_come
  rw [gz_I_of v8, gz_I_of v9, gz_I_of v11, nI_1, nI_1, nI_1]
  have z : (0 : Int32) < nI w ↔ 0 < w := nI_ltI (a := 0) (by omega) (by omega)
  by_cases q1 : ¬ g = 0 ∧ w = 0
  · have e : cq g w p 1 = p := if_pos q1
    rw [if_pos ⟨q1.1, fun u => by have := z.mp u; omega⟩, e, sw7_9, sw7_8]
  · have e : cq g w p 1 = p + 1 := if_neg q1
    rw [if_neg (fun u => q1 ⟨u.1, Nat.eq_zero_of_not_pos (fun q => u.2 (z.mpr q))⟩), e, sw7_11, sw7_9, sw7_8]
set_option maxHeartbeats 4000000 in
theorem co8 (R : gz_H) (s a c w m l p q : Nat) (t : Int64) (k : md R) (hs : s < 64) (hw : w < 2 ^ 30) (g : Int32) : se_X8_comes [.ref 15, .int (nI s), .int g] (sw8 R s a c w m l p q t) = some (none, sw8 R s a c (w + 1) (m + 1) l (cq g w p 1) q t) := by
  have d2 : ¬ nI s < 0 := nI_pos (by omega)
  have d3 : (nI s).toNatClampNeg = s := nI_clamp (by omega)
  have m1 := sw8_md R s a c w m l p q t k
  have m2 := sw8_md R s a c w (m + 1) l p q t k
  have m3 := sw8_md R s a c w (m + 1) l (p + 1) q t k
  obtain ⟨-, -, a45, a46, a47, a48, a49, a50⟩ := sw8_x R s a c w m l p q t
  obtain ⟨-, -, b45, b46, b47, b48, b49, b50⟩ := sw8_x R s a c w (m + 1) l p q t
  obtain ⟨-, -, c45, c46, c47, c48, c49, c50⟩ := sw8_x R s a c w (m + 1) l (p + 1) q t
  have z := cmp_0 (w := w) (by omega)
  by_cases q1 : ¬ g = 0 ∧ w = 0
  · have e : cq g w p 1 = p := if_pos q1
    have z' : ¬ 0 < lg_cmp (lN w) 0 := fun u => by have := z.mp u; omega
    simp only [se_X8_comes, sm_X8_comes, gz_sem, gz_ae, Value.category, gz_i, gz_l, gz_nu, gz_li, gz_ll, gz_la, gz_ib, gz_iz, gz_lb, gz_lz, gz_ls, gz_lc, gz_i2l, gz_l2i, gz_get, gz_ald, gz_len, gz_dup, gz_d2, gz_nar, gz_a0, gz_a1, gz_cs, gz_cv, gz_mk, gz_te, gz_j1, gz_j2, gz_jn, gz_jk, gz_jo, gz_ja, gz_sat, gz_seti, gz_seta, gz_set2, gz_inc, gz_put, gz_ast, gz_pop, gz_vs, gz_vv, gz_sup, gz_rv, gz_ri, gz_rl, gz_ra, gz_if, gz_seq, gz_sw, gz_st, gz_st2, rok_I, rok_J, rok_V, rok_Z0, rok_Z1, rok_Zi, rok_R, rok_N, bi_rok, bi_0, bi_1, fit_I, fit_J, fit_Z0, fit_Z1, fit_Zi, fit_R, fit_N, fit_aR, aty_I, aty_Z0, aty_Z1, aty_Zi, aty_J, gz_ix, List.getElem?_cons_zero, List.getElem?_cons_succ, List.getElem?_nil, List.reverse_cons, List.reverse_nil, List.nil_append, List.cons_append, List.take_succ_cons, List.take_zero, List.take_nil, List.length_cons, List.length_nil, decide_true, decide_false, decide_not, Bool.not_true, Bool.not_false, gz_nle, if_true, if_false, and_true, true_and, and_self, and_false, false_and, or_true, true_or, or_false, false_or, Bool.false_eq_true, not_true, not_false_iff, Decidable.not_not, Nat.reduceLeDiff, Nat.reduceAdd, Nat.reduceEqDiff, Nat.reduceSub, Nat.reduceLT, Nat.zero_add, reduceCtorEq, reduceIte, eq_self, i32_10, i32_01, Nat.zero_le, Nat.one_ne_zero, m1, m2, md_k, d2, d3, hs, a46, lN_1, sw8_46, q1.1, b45, z', sw8_45, e]
  · have e : cq g w p 1 = p + 1 := if_neg q1
    by_cases g0 : g = 0
    · simp only [se_X8_comes, sm_X8_comes, gz_sem, gz_ae, Value.category, gz_i, gz_l, gz_nu, gz_li, gz_ll, gz_la, gz_ib, gz_iz, gz_lb, gz_lz, gz_ls, gz_lc, gz_i2l, gz_l2i, gz_get, gz_ald, gz_len, gz_dup, gz_d2, gz_nar, gz_a0, gz_a1, gz_cs, gz_cv, gz_mk, gz_te, gz_j1, gz_j2, gz_jn, gz_jk, gz_jo, gz_ja, gz_sat, gz_seti, gz_seta, gz_set2, gz_inc, gz_put, gz_ast, gz_pop, gz_vs, gz_vv, gz_sup, gz_rv, gz_ri, gz_rl, gz_ra, gz_if, gz_seq, gz_sw, gz_st, gz_st2, rok_I, rok_J, rok_V, rok_Z0, rok_Z1, rok_Zi, rok_R, rok_N, bi_rok, bi_0, bi_1, fit_I, fit_J, fit_Z0, fit_Z1, fit_Zi, fit_R, fit_N, fit_aR, aty_I, aty_Z0, aty_Z1, aty_Zi, aty_J, gz_ix, List.getElem?_cons_zero, List.getElem?_cons_succ, List.getElem?_nil, List.reverse_cons, List.reverse_nil, List.nil_append, List.cons_append, List.take_succ_cons, List.take_zero, List.take_nil, List.length_cons, List.length_nil, decide_true, decide_false, decide_not, Bool.not_true, Bool.not_false, gz_nle, if_true, if_false, and_true, true_and, and_self, and_false, false_and, or_true, true_or, or_false, false_or, Bool.false_eq_true, not_true, not_false_iff, Decidable.not_not, Nat.reduceLeDiff, Nat.reduceAdd, Nat.reduceEqDiff, Nat.reduceSub, Nat.reduceLT, Nat.zero_add, reduceCtorEq, reduceIte, eq_self, i32_10, i32_01, Nat.zero_le, Nat.one_ne_zero, m1, m2, m3, md_k, d2, d3, hs, a46, lN_1, sw8_46, g0, b49, sw8_49, c45, sw8_45]
      rw [g0] at e
      rw [e]
    · have z' : 0 < lg_cmp (lN w) 0 := z.mpr (Nat.pos_of_ne_zero (fun u => q1 ⟨g0, u⟩))
      simp only [se_X8_comes, sm_X8_comes, gz_sem, gz_ae, Value.category, gz_i, gz_l, gz_nu, gz_li, gz_ll, gz_la, gz_ib, gz_iz, gz_lb, gz_lz, gz_ls, gz_lc, gz_i2l, gz_l2i, gz_get, gz_ald, gz_len, gz_dup, gz_d2, gz_nar, gz_a0, gz_a1, gz_cs, gz_cv, gz_mk, gz_te, gz_j1, gz_j2, gz_jn, gz_jk, gz_jo, gz_ja, gz_sat, gz_seti, gz_seta, gz_set2, gz_inc, gz_put, gz_ast, gz_pop, gz_vs, gz_vv, gz_sup, gz_rv, gz_ri, gz_rl, gz_ra, gz_if, gz_seq, gz_sw, gz_st, gz_st2, rok_I, rok_J, rok_V, rok_Z0, rok_Z1, rok_Zi, rok_R, rok_N, bi_rok, bi_0, bi_1, fit_I, fit_J, fit_Z0, fit_Z1, fit_Zi, fit_R, fit_N, fit_aR, aty_I, aty_Z0, aty_Z1, aty_Zi, aty_J, gz_ix, List.getElem?_cons_zero, List.getElem?_cons_succ, List.getElem?_nil, List.reverse_cons, List.reverse_nil, List.nil_append, List.cons_append, List.take_succ_cons, List.take_zero, List.take_nil, List.length_cons, List.length_nil, decide_true, decide_false, decide_not, Bool.not_true, Bool.not_false, gz_nle, if_true, if_false, and_true, true_and, and_self, and_false, false_and, or_true, true_or, or_false, false_or, Bool.false_eq_true, not_true, not_false_iff, Decidable.not_not, Nat.reduceLeDiff, Nat.reduceAdd, Nat.reduceEqDiff, Nat.reduceSub, Nat.reduceLT, Nat.zero_add, reduceCtorEq, reduceIte, eq_self, i32_10, i32_01, Nat.zero_le, Nat.one_ne_zero, m1, m2, m3, md_k, d2, d3, hs, a46, lN_1, sw8_46, g0, b45, z', b49, sw8_49, c45, sw8_45, e]
/-- how many of a list, of the first n -/
noncomputable def ctl (d : Nat → Prop) : List Nat → Nat
  | [] => 0
  | o :: l => @ite Nat (d o) (Classical.propDecidable _) 1 0 + ctl d l
noncomputable def ctn (d : Nat → Prop) : Nat → Nat
  | 0 => 0
  | n + 1 => ctn d n + @ite Nat (d n) (Classical.propDecidable _) 1 0
theorem ctn_b (d : Nat → Prop) : ∀ n, ctn d n ≤ n := by
  intro n
  induction n with
  | zero => exact Nat.le_refl _
  | succ n ih =>
    unfold ctn
    by_cases z : d n
    · rw [if_pos z]; omega
    · rw [if_neg z]; omega
theorem ctn_add {d e : Nat → Prop} {a : Nat} (h : ∀ o, e o ↔ (d o ∨ o = a)) (na : ¬ d a) : ∀ n, ctn e n = ctn d n + (if a < n then 1 else 0) := by
  intro n
  induction n with
  | zero => rfl
  | succ n ih =>
    unfold ctn
    rw [ih]
    by_cases z : n = a
    · subst z
      rw [if_pos ((h n).mpr (Or.inr rfl)), if_neg na, if_neg (Nat.lt_irrefl n), if_pos (Nat.lt_succ_self n)]
    · by_cases y : d n
      · rw [if_pos ((h n).mpr (Or.inl y)), if_pos y]
        by_cases u : a < n
        · rw [if_pos u, if_pos (by omega)]
        · rw [if_neg u, if_neg (by omega)]
      · rw [if_neg (fun u => ((h n).mp u).elim y z), if_neg y]
        by_cases u : a < n
        · rw [if_pos u, if_pos (by omega)]
        · rw [if_neg u, if_neg (by omega)]
theorem ctn_c {d e : Nat → Prop} : ∀ n, (∀ o, o < n → (e o ↔ d o)) → ctn e n = ctn d n := by
  intro n
  induction n with
  | zero => intro _; rfl
  | succ n ih =>
    intro h
    unfold ctn
    rw [ih (fun o ho => h o (by omega))]
    by_cases y : d n
    · rw [if_pos ((h n (by omega)).mpr y), if_pos y]
    · rw [if_neg (fun u => y ((h n (by omega)).mp u)), if_neg y]
theorem ctl_n (d : Nat → Prop) (n : Nat) : ∀ l : List Nat, l.Nodup → (∀ o, o ∈ l → o < n) → ctl d l = ctn (fun o => o ∈ l ∧ d o) n := by
  intro l
  induction l with
  | nil =>
    intro _ _
    have : ∀ n, ctn (fun o => o ∈ ([] : List Nat) ∧ d o) n = 0 := by
      intro n
      induction n with
      | zero => rfl
      | succ n ih => unfold ctn; rw [ih, if_neg (fun z => by cases z.1)]
    exact (this n).symm
  | cons a l ih =>
    intro nd hn
    obtain ⟨na, nd⟩ := List.nodup_cons.mp nd
    unfold ctl
    rw [ih nd (fun o ho => hn o (List.mem_cons_of_mem _ ho))]
    by_cases y : d a
    · rw [if_pos y, ctn_add (d := fun o => o ∈ l ∧ d o) (e := fun o => o ∈ a :: l ∧ d o) (a := a) (fun o => by
        rw [List.mem_cons]
        constructor
        · rintro ⟨z | z, u⟩
          · exact Or.inr z
          · exact Or.inl ⟨z, u⟩
        · rintro (⟨z, u⟩ | z)
          · exact ⟨Or.inr z, u⟩
          · exact ⟨Or.inl z, by rw [z]; exact y⟩) (fun z => na z.1) n, if_pos (hn a (List.mem_cons_self ..))]
      omega
    · rw [if_neg y, Nat.zero_add]
      refine (ctn_c n (fun o _ => ?_)).symm
      rw [List.mem_cons]
      constructor
      · rintro ⟨z | z, u⟩
        · rw [z] at u; exact absurd u y
        · exact ⟨z, u⟩
      · rintro ⟨z, u⟩; exact ⟨Or.inr z, u⟩
/-- the class's streets bring -/
def br7 (K : gz_H) (r T : Nat) : gz_H := gz_set (gz_set K (r + 1) (T % 61) (.int 0)) r 5 (.int (gz_I K r 5 - 1))
noncomputable def r7 (g : gz_G) (d : Nat → Prop) (T : Nat) : List Nat → gz_H → gz_H
  | [], K => K
  | o :: l, K => r7 g d T l (@ite gz_H (d o) (Classical.propDecidable _) (br7 K (g 2 o) T) K)
theorem br7_sm {K : gz_H} {r T y : Nat} (h1 : y ≠ r) (h2 : y ≠ r + 1) : sm K (br7 K r T) y := sm_set (sm_set (sm_rf _ _) h2) h1
theorem r7_n (g : gz_G) (d : Nat → Prop) (T : Nat) : ∀ l K, (r7 g d T l K).1 = K.1 ∧ ∀ y, gz_k (r7 g d T l K) y = gz_k K y := by
  intro l
  induction l with
  | nil => intro K; exact ⟨rfl, fun _ => rfl⟩
  | cons o l ih =>
    intro K
    unfold r7
    by_cases z : d o
    · rw [if_pos z]; exact ih (br7 K (g 2 o) T)
    · rw [if_neg z]; exact ih K
theorem r7_o (g : gz_G) (d : Nat → Prop) (T y : Nat) : ∀ l K, (∀ o, o ∈ l → y ≠ g 2 o ∧ y ≠ g 2 o + 1) → sm K (r7 g d T l K) y := by
  intro l
  induction l with
  | nil => intro K _; exact sm_rf _ _
  | cons o l ih =>
    intro K h
    obtain ⟨h1, h2⟩ := h o (List.mem_cons_self ..)
    have h3 := fun o ho => h o (List.mem_cons_of_mem _ ho)
    unfold r7
    by_cases z : d o
    · rw [if_pos z]
      have a := ih (br7 K (g 2 o) T) h3
      have b := br7_sm (K := K) (T := T) h1 h2
      exact ⟨a.1.trans b.1, a.2.trans b.2⟩
    · rw [if_neg z]; exact ih K h3
/-- blocks of streets lie apart -/
def apl (g : gz_G) (l : List Nat) : Prop := ∀ o o', o ∈ l → o' ∈ l → o ≠ o' → g 2 o ≠ g 2 o' ∧ g 2 o ≠ g 2 o' + 1 ∧ g 2 o + 1 ≠ g 2 o'
theorem r7_i (g : gz_G) (d : Nat → Prop) (T : Nat) : ∀ l K, l.Nodup → apl g l → ∀ o, o ∈ l → (¬ d o → sm K (r7 g d T l K) (g 2 o) ∧ sm K (r7 g d T l K) (g 2 o + 1)) ∧ (d o → (∀ f, gz_v (r7 g d T l K) (g 2 o) f = if f = 5 then .int (gz_I K (g 2 o) 5 - 1) else gz_v K (g 2 o) f) ∧ ∀ y, gz_v (r7 g d T l K) (g 2 o + 1) y = if y = T % 61 then .int 0 else gz_v K (g 2 o + 1) y) := by
  intro l
  induction l with
  | nil => intro K _ _ o ho; cases ho
  | cons a l ih =>
    intro K nd ap o ho
    obtain ⟨na, nd⟩ := List.nodup_cons.mp nd
    have ap' : apl g l := fun o o' h1 h2 => ap o o' (List.mem_cons_of_mem _ h1) (List.mem_cons_of_mem _ h2)
    unfold r7
    rcases List.mem_cons.mp ho with rfl | hl
    · have far : ∀ o', o' ∈ l → (g 2 o ≠ g 2 o' ∧ g 2 o ≠ g 2 o' + 1) ∧ (g 2 o + 1 ≠ g 2 o' ∧ g 2 o + 1 ≠ g 2 o' + 1) := fun o' h => by
        have := ap o o' (List.mem_cons_self ..) (List.mem_cons_of_mem _ h) (fun z => na (by rw [z]; exact h))
        omega
      by_cases z : d o
      · rw [if_pos z]
        have s0 := r7_o g d T (g 2 o) l (br7 K (g 2 o) T) (fun o' h => (far o' h).1)
        have s1 := r7_o g d T (g 2 o + 1) l (br7 K (g 2 o) T) (fun o' h => (far o' h).2)
        refine ⟨fun q => absurd z q, fun _ => ⟨fun f => ?_, fun y => ?_⟩⟩
        · rw [s0.1]
          unfold br7
          rw [gz_v_set]
          by_cases q : f = 5
          · rw [if_pos ⟨rfl, q⟩, if_pos q]
          · rw [if_neg (fun u => q u.2), if_neg q, gz_v_set, if_neg (by omega)]
        · rw [s1.1]
          unfold br7
          rw [gz_v_set, if_neg (by omega), gz_v_set]
          by_cases q : y = T % 61
          · rw [if_pos ⟨rfl, q⟩, if_pos q]
          · rw [if_neg (fun u => q u.2), if_neg q]
      · rw [if_neg z]
        have s0 := r7_o g d T (g 2 o) l K (fun o' h => (far o' h).1)
        have s1 := r7_o g d T (g 2 o + 1) l K (fun o' h => (far o' h).2)
        exact ⟨fun _ => ⟨s0, s1⟩, fun q => absurd q z⟩
    · have far := ap o a (List.mem_cons_of_mem _ hl) (List.mem_cons_self ..) (fun z => na (by rw [← z]; exact hl))
      by_cases z : d a
      · rw [if_pos z]
        have s0 := br7_sm (K := K) (T := T) (r := g 2 a) (y := g 2 o) (by omega) (by omega)
        have s1 := br7_sm (K := K) (T := T) (r := g 2 a) (y := g 2 o + 1) (by omega) (by omega)
        have i := ih (br7 K (g 2 a) T) nd ap' o hl
        rw [s0.1, s1.1, sm_I s0] at i
        refine ⟨fun q => ?_, i.2⟩
        obtain ⟨i1, i2⟩ := i.1 q
        exact ⟨⟨i1.1.trans s0.1, i1.2.trans s0.2⟩, ⟨i2.1.trans s1.1, i2.2.trans s1.2⟩⟩
      · rw [if_neg z]; exact ih K nd ap' o hl
theorem tc_sw {K : gz_H} {x r a c w m l p q : Nat} {t : Int64} (k : tc K r) (h1 : r ≠ x) (h2 : r + 1 ≠ x) : tc (sw7 K x a c w m l p q t) r := by
  have e : ∀ y, y ≠ x → sm K (sw7 K x a c w m l p q t) y := fun y hy => ⟨funext (fun i => sw7_o _ _ _ _ _ _ _ _ _ _ (Or.inl hy)), rfl⟩
  exact tc_sm (h := K) (Nat.le_refl _) (e r h1) (e (r + 1) h2) k
set_option maxHeartbeats 8000000 in
/-- the class's loop over the streets that end at a stream -/
theorem lp_X3_pass (g : gz_G) (d : Nat → Prop) (T x : Nat) (gb : Int32) (a c lf q : Nat) (t : Int64) (hT : T < 2 ^ 29) : ∀ l (K : gz_H) (v : Value) (w m p : Nat), w + l.length < 2 ^ 30 → sc K x → (∀ o, o ∈ l → tc K (g 2 o) ∧ g 2 o ≠ x ∧ g 2 o + 1 ≠ x ∧ (d o ↔ ¬ gz_I K (g 2 o + 1) (T % 61) = 0)) → l.Nodup → apl g l → inl g K v l → gz_loop 45 4 lb_X3_pass_45 [.ref x, .int (nI T), .int gb, v] (sw7 K x a c w m lf p q t) = some (.inl (70, [.ref x, .int (nI T), .int gb, .null], sw7 (r7 g d T l K) x a c (w + ctl d l) (m + ctl d l) lf (cq gb w p (ctl d l)) q t)) := by
  intro l
  induction l with
  | nil =>
    intro K v w m p hw k ht nd ap hi
    have : v = .null := hi
    subst this
    refine gz_loop_exit ?_ (by decide)
    simp only [lb_X3_pass_45, gz_sem, gz_ae, Value.category, gz_i, gz_l, gz_nu, gz_li, gz_ll, gz_la, gz_ib, gz_iz, gz_lb, gz_lz, gz_ls, gz_lc, gz_i2l, gz_l2i, gz_get, gz_ald, gz_len, gz_dup, gz_d2, gz_nar, gz_a0, gz_a1, gz_cs, gz_cv, gz_mk, gz_te, gz_j1, gz_j2, gz_jn, gz_jk, gz_jo, gz_ja, gz_sat, gz_seti, gz_seta, gz_set2, gz_inc, gz_put, gz_ast, gz_pop, gz_vs, gz_vv, gz_sup, gz_rv, gz_ri, gz_rl, gz_ra, gz_if, gz_seq, gz_sw, gz_st, gz_st2, rok_I, rok_J, rok_V, rok_Z0, rok_Z1, rok_Zi, rok_R, rok_N, bi_rok, bi_0, bi_1, fit_I, fit_J, fit_Z0, fit_Z1, fit_Zi, fit_R, fit_N, fit_aR, aty_I, aty_Z0, aty_Z1, aty_Zi, aty_J, gz_ix, List.getElem?_cons_zero, List.getElem?_cons_succ, List.getElem?_nil, List.reverse_cons, List.reverse_nil, List.nil_append, List.cons_append, List.take_succ_cons, List.take_zero, List.take_nil, List.length_cons, List.length_nil, decide_true, decide_false, decide_not, Bool.not_true, Bool.not_false, gz_nle, if_true, if_false, and_true, true_and, and_self, and_false, false_and, or_true, true_or, or_false, false_or, Bool.false_eq_true, not_true, not_false_iff, Decidable.not_not, Nat.reduceLeDiff, Nat.reduceAdd, Nat.reduceEqDiff, Nat.reduceSub, Nat.reduceLT, Nat.zero_add, reduceCtorEq, reduceIte, eq_self, i32_10, i32_01, Nat.zero_le, Nat.one_ne_zero]
    rfl
  | cons o l ih =>
    intro K v w m p hw k ht nd ap hi
    rw [List.length_cons] at hw
    obtain ⟨hv, hi⟩ := hi
    subst hv
    obtain ⟨na, nd⟩ := List.nodup_cons.mp nd
    have ap' : apl g l := fun o o' h1 h2 => ap o o' (List.mem_cons_of_mem _ h1) (List.mem_cons_of_mem _ h2)
    obtain ⟨tk, n1, n2, dd⟩ := ht o (List.mem_cons_self ..)
    have tks : tc (sw7 K x a c w m lf p q t) (g 2 o) := tc_sw tk n1 n2
    have ksc := sw7_sc K x a c w m lf p q t k
    obtain ⟨b0, b1⟩ := st_X4_brings (sw7 K x a c w m lf p q t) (g 2 o) T tks (by omega)
    have i1 : ∀ i, gz_I (sw7 K x a c w m lf p q t) (g 2 o + 1) i = gz_I K (g 2 o + 1) i := fun i => vI (sw7_o _ _ _ _ _ _ _ _ _ _ (Or.inl n2))
    have i5 : gz_I (sw7 K x a c w m lf p q t) (g 2 o) 5 = gz_I K (g 2 o) 5 := vI (sw7_o _ _ _ _ _ _ _ _ _ _ (Or.inl n1))
    rw [i1] at b0 b1
    rw [i5, sw7_set _ _ _ _ _ _ _ _ _ _ _ _ _ n2, sw7_set _ _ _ _ _ _ _ _ _ _ _ _ _ n1] at b1
    have far : ∀ o', o' ∈ l → (g 2 o' ≠ g 2 o ∧ g 2 o' ≠ g 2 o + 1) ∧ (g 2 o' + 1 ≠ g 2 o ∧ g 2 o' + 1 ≠ g 2 o + 1) := fun o' h => by
      have := ap o o' (List.mem_cons_self ..) (List.mem_cons_of_mem _ h) (fun z => na (by rw [z]; exact h))
      omega
    have nx : (∀ i, gz_v K (g 2 o) 1 = .ref i → True) := fun _ _ => trivial
    have v1t : gz_v K (g 2 o) 1 = .null ∨ ∃ r, gz_v K (g 2 o) 1 = .ref r := by
      cases l with
      | nil => exact Or.inl hi
      | cons b l => exact Or.inr ⟨_, hi.1⟩
    unfold ctl r7
    by_cases z : d o
    · rw [if_pos z, if_pos z]
      have b1 := b1 (dd.mp z)
      have s0 : ∀ y, y ≠ g 2 o → y ≠ g 2 o + 1 → sm K (br7 K (g 2 o) T) y := fun y h1 h2 => br7_sm h1 h2
      have kx : sc (br7 K (g 2 o) T) x := sc_sm (h := K) (Nat.le_refl _) (s0 x (Ne.symm n1) (Ne.symm n2)) k
      have co := co7 (br7 K (g 2 o) T) x a c w m lf p q t kx (by omega) gb
      have kc := sw7_sc (br7 K (g 2 o) T) x a c w m lf p q t kx
      have v1 : gz_v (sw7 (br7 K (g 2 o) T) x a c (w + 1) (m + 1) lf (cq gb w p 1) q t) (g 2 o) 1 = gz_v K (g 2 o) 1 := by
        rw [sw7_o _ _ _ _ _ _ _ _ _ _ (Or.inl n1)]
        unfold br7
        rw [gz_v_set, if_neg (by omega), gz_v_set, if_neg (by omega)]
      have ihh := ih (br7 K (g 2 o) T) (gz_v K (g 2 o) 1) (w + 1) (m + 1) (cq gb w p 1) (by omega) kx (fun o' h' => by
        obtain ⟨t1, t2, t3, t4⟩ := ht o' (List.mem_cons_of_mem _ h')
        obtain ⟨⟨f1, f2⟩, f3, f4⟩ := far o' h'
        exact ⟨tc_sm (h := K) (Nat.le_refl _) (s0 _ f1 f2) (s0 _ f3 f4) t1, t2, t3, by rw [sm_I (s0 _ f3 f4)]; exact t4⟩) nd ap' (inl_fr l _ (fun o' h' => ⟨rfl, by rw [(s0 _ (far o' h').1.1 (far o' h').1.2).1]⟩) hi)
      rw [cq_add, show w + 1 + ctl d l = w + (1 + ctl d l) by omega, show m + 1 + ctl d l = m + (1 + ctl d l) by omega] at ihh
      refine gz_loop_next (env1 := [.ref x, .int (nI T), .int gb, gz_v K (g 2 o) 1]) ?_ ihh
      have kk : gz_k (sw7 (br7 K (g 2 o) T) x a c (w + 1) (m + 1) lf (cq gb w p 1) q t) (g 2 o) = (4, 6) := tk.2.2.1
      have kn : g 2 o < (sw7 (br7 K (g 2 o) T) x a c (w + 1) (m + 1) lf (cq gb w p 1) q t).1 := tk.1
      unfold br7 at *
      rcases v1t with v1t | ⟨r, v1t⟩
      · rw [v1t] at v1 ⊢
        simp only [lb_X3_pass_45, gz_sem, gz_ae, Value.category, gz_i, gz_l, gz_nu, gz_li, gz_ll, gz_la, gz_ib, gz_iz, gz_lb, gz_lz, gz_ls, gz_lc, gz_i2l, gz_l2i, gz_get, gz_ald, gz_len, gz_dup, gz_d2, gz_nar, gz_a0, gz_a1, gz_cs, gz_cv, gz_mk, gz_te, gz_j1, gz_j2, gz_jn, gz_jk, gz_jo, gz_ja, gz_sat, gz_seti, gz_seta, gz_set2, gz_inc, gz_put, gz_ast, gz_pop, gz_vs, gz_vv, gz_sup, gz_rv, gz_ri, gz_rl, gz_ra, gz_if, gz_seq, gz_sw, gz_st, gz_st2, rok_I, rok_J, rok_V, rok_Z0, rok_Z1, rok_Zi, rok_R, rok_N, bi_rok, bi_0, bi_1, fit_I, fit_J, fit_Z0, fit_Z1, fit_Zi, fit_R, fit_N, fit_aR, aty_I, aty_Z0, aty_Z1, aty_Zi, aty_J, gz_ix, List.getElem?_cons_zero, List.getElem?_cons_succ, List.getElem?_nil, List.reverse_cons, List.reverse_nil, List.nil_append, List.cons_append, List.take_succ_cons, List.take_zero, List.take_nil, List.length_cons, List.length_nil, decide_true, decide_false, decide_not, Bool.not_true, Bool.not_false, gz_nle, if_true, if_false, and_true, true_and, and_self, and_false, false_and, or_true, true_or, or_false, false_or, Bool.false_eq_true, not_true, not_false_iff, Decidable.not_not, Nat.reduceLeDiff, Nat.reduceAdd, Nat.reduceEqDiff, Nat.reduceSub, Nat.reduceLT, Nat.zero_add, reduceCtorEq, reduceIte, eq_self, i32_10, i32_01, Nat.zero_le, Nat.one_ne_zero, tks, ksc, kc, b1, co, v1, kk, kn]
      · rw [v1t] at v1 ⊢
        simp only [lb_X3_pass_45, gz_sem, gz_ae, Value.category, gz_i, gz_l, gz_nu, gz_li, gz_ll, gz_la, gz_ib, gz_iz, gz_lb, gz_lz, gz_ls, gz_lc, gz_i2l, gz_l2i, gz_get, gz_ald, gz_len, gz_dup, gz_d2, gz_nar, gz_a0, gz_a1, gz_cs, gz_cv, gz_mk, gz_te, gz_j1, gz_j2, gz_jn, gz_jk, gz_jo, gz_ja, gz_sat, gz_seti, gz_seta, gz_set2, gz_inc, gz_put, gz_ast, gz_pop, gz_vs, gz_vv, gz_sup, gz_rv, gz_ri, gz_rl, gz_ra, gz_if, gz_seq, gz_sw, gz_st, gz_st2, rok_I, rok_J, rok_V, rok_Z0, rok_Z1, rok_Zi, rok_R, rok_N, bi_rok, bi_0, bi_1, fit_I, fit_J, fit_Z0, fit_Z1, fit_Zi, fit_R, fit_N, fit_aR, aty_I, aty_Z0, aty_Z1, aty_Zi, aty_J, gz_ix, List.getElem?_cons_zero, List.getElem?_cons_succ, List.getElem?_nil, List.reverse_cons, List.reverse_nil, List.nil_append, List.cons_append, List.take_succ_cons, List.take_zero, List.take_nil, List.length_cons, List.length_nil, decide_true, decide_false, decide_not, Bool.not_true, Bool.not_false, gz_nle, if_true, if_false, and_true, true_and, and_self, and_false, false_and, or_true, true_or, or_false, false_or, Bool.false_eq_true, not_true, not_false_iff, Decidable.not_not, Nat.reduceLeDiff, Nat.reduceAdd, Nat.reduceEqDiff, Nat.reduceSub, Nat.reduceLT, Nat.zero_add, reduceCtorEq, reduceIte, eq_self, i32_10, i32_01, Nat.zero_le, Nat.one_ne_zero, tks, ksc, kc, b1, co, v1, kk, kn]
    · rw [if_neg z, if_neg z, Nat.zero_add]
      have b0 := b0 (Classical.byContradiction (fun u => z (dd.mpr u)))
      have v1 : gz_v (sw7 K x a c w m lf p q t) (g 2 o) 1 = gz_v K (g 2 o) 1 := sw7_o _ _ _ _ _ _ _ _ _ _ (Or.inl n1)
      have ihh := ih K (gz_v K (g 2 o) 1) w m p (by omega) k (fun o' h' => ht o' (List.mem_cons_of_mem _ h')) nd ap' hi
      refine gz_loop_next (env1 := [.ref x, .int (nI T), .int gb, gz_v K (g 2 o) 1]) ?_ ihh
      rcases v1t with v1t | ⟨r, v1t⟩
      · rw [v1t] at v1 ⊢
        simp only [lb_X3_pass_45, gz_sem, gz_ae, Value.category, gz_i, gz_l, gz_nu, gz_li, gz_ll, gz_la, gz_ib, gz_iz, gz_lb, gz_lz, gz_ls, gz_lc, gz_i2l, gz_l2i, gz_get, gz_ald, gz_len, gz_dup, gz_d2, gz_nar, gz_a0, gz_a1, gz_cs, gz_cv, gz_mk, gz_te, gz_j1, gz_j2, gz_jn, gz_jk, gz_jo, gz_ja, gz_sat, gz_seti, gz_seta, gz_set2, gz_inc, gz_put, gz_ast, gz_pop, gz_vs, gz_vv, gz_sup, gz_rv, gz_ri, gz_rl, gz_ra, gz_if, gz_seq, gz_sw, gz_st, gz_st2, rok_I, rok_J, rok_V, rok_Z0, rok_Z1, rok_Zi, rok_R, rok_N, bi_rok, bi_0, bi_1, fit_I, fit_J, fit_Z0, fit_Z1, fit_Zi, fit_R, fit_N, fit_aR, aty_I, aty_Z0, aty_Z1, aty_Zi, aty_J, gz_ix, List.getElem?_cons_zero, List.getElem?_cons_succ, List.getElem?_nil, List.reverse_cons, List.reverse_nil, List.nil_append, List.cons_append, List.take_succ_cons, List.take_zero, List.take_nil, List.length_cons, List.length_nil, decide_true, decide_false, decide_not, Bool.not_true, Bool.not_false, gz_nle, if_true, if_false, and_true, true_and, and_self, and_false, false_and, or_true, true_or, or_false, false_or, Bool.false_eq_true, not_true, not_false_iff, Decidable.not_not, Nat.reduceLeDiff, Nat.reduceAdd, Nat.reduceEqDiff, Nat.reduceSub, Nat.reduceLT, Nat.zero_add, reduceCtorEq, reduceIte, eq_self, i32_10, i32_01, Nat.zero_le, Nat.one_ne_zero, tks, b0, v1]
      · rw [v1t] at v1 ⊢
        simp only [lb_X3_pass_45, gz_sem, gz_ae, Value.category, gz_i, gz_l, gz_nu, gz_li, gz_ll, gz_la, gz_ib, gz_iz, gz_lb, gz_lz, gz_ls, gz_lc, gz_i2l, gz_l2i, gz_get, gz_ald, gz_len, gz_dup, gz_d2, gz_nar, gz_a0, gz_a1, gz_cs, gz_cv, gz_mk, gz_te, gz_j1, gz_j2, gz_jn, gz_jk, gz_jo, gz_ja, gz_sat, gz_seti, gz_seta, gz_set2, gz_inc, gz_put, gz_ast, gz_pop, gz_vs, gz_vv, gz_sup, gz_rv, gz_ri, gz_rl, gz_ra, gz_if, gz_seq, gz_sw, gz_st, gz_st2, rok_I, rok_J, rok_V, rok_Z0, rok_Z1, rok_Zi, rok_R, rok_N, bi_rok, bi_0, bi_1, fit_I, fit_J, fit_Z0, fit_Z1, fit_Zi, fit_R, fit_N, fit_aR, aty_I, aty_Z0, aty_Z1, aty_Zi, aty_J, gz_ix, List.getElem?_cons_zero, List.getElem?_cons_succ, List.getElem?_nil, List.reverse_cons, List.reverse_nil, List.nil_append, List.cons_append, List.take_succ_cons, List.take_zero, List.take_nil, List.length_cons, List.length_nil, decide_true, decide_false, decide_not, Bool.not_true, Bool.not_false, gz_nle, if_true, if_false, and_true, true_and, and_self, and_false, false_and, or_true, true_or, or_false, false_or, Bool.false_eq_true, not_true, not_false_iff, Decidable.not_not, Nat.reduceLeDiff, Nat.reduceAdd, Nat.reduceEqDiff, Nat.reduceSub, Nat.reduceLT, Nat.zero_add, reduceCtorEq, reduceIte, eq_self, i32_10, i32_01, Nat.zero_le, Nat.one_ne_zero, tks, b0, v1]
