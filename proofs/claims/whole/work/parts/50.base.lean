theorem i32_10 : ((1 : Int32) = 0) = False := by decide
theorem i32_01 : ((0 : Int32) = 1) = False := by decide
theorem rok_I (x : Int32) : gz_rok (some .int) (some (.int x)) = true := rfl
theorem rok_J (x : Int64) : gz_rok (some .long) (some (.long x)) = true := rfl
theorem rok_V : gz_rok none none = true := rfl
theorem rok_Z0 : gz_rok (some .boolean) (some (.int 0)) = true := rfl
theorem rok_Z1 : gz_rok (some .boolean) (some (.int 1)) = true := rfl
theorem rok_Zi (c : Prop) [Decidable c] : gz_rok (some .boolean) (some (.int (if c then 1 else 0))) = true := by by_cases h : c <;> simp [h] <;> rfl
theorem rok_R (C : String) (x : Nat) : gz_rok (some (.object C)) (some (.ref x)) = true := rfl
theorem rok_N (C : String) : gz_rok (some (.object C)) (some .null) = true := rfl
theorem fit_I (x : Int32) : gz_fit .int (.int x) = true := rfl
theorem fit_J (x : Int64) : gz_fit .long (.long x) = true := rfl
theorem fit_Z0 : gz_fit .boolean (.int 0) = true := rfl
theorem fit_Z1 : gz_fit .boolean (.int 1) = true := rfl
theorem fit_Zi (c : Prop) [Decidable c] : gz_fit .boolean (.int (if c then 1 else 0)) = true := by by_cases h : c <;> simp [h] <;> rfl
theorem fit_R (C : String) (x : Nat) : gz_fit (.object C) (.ref x) = true := rfl
theorem fit_N (C : String) : gz_fit (.object C) .null = true := rfl
theorem fit_aR (t : FieldType) (x : Nat) : gz_fit (.array t) (.ref x) = true := rfl
theorem aty_I (h : gz_H) (x : Int32) : gz_aty 100 h (.int x) = true := rfl
theorem aty_Z0 (h : gz_H) : gz_aty 101 h (.int 0) = true := rfl
theorem aty_Z1 (h : gz_H) : gz_aty 101 h (.int 1) = true := rfl
theorem aty_Zi (h : gz_H) (c : Prop) [Decidable c] : gz_aty 101 h (.int (if c then 1 else 0)) = true := by by_cases g : c <;> simp [g] <;> rfl
theorem aty_J (h : gz_H) (x : Int64) : gz_aty 102 h (.long x) = true := rfl
theorem gz_nle (x y : Int32) : (x ≤ y) = ¬ (y < x) := by
  rw [Int32.le_iff_toInt_le, Int32.lt_iff_toInt_lt]
  exact propext ⟨fun h => by omega, fun h => by omega⟩
/-- a loop that counts from s to n -/
theorem gz_for {L k X : Nat} {a : gz_Sx} (n : Nat) (E : Nat → List Value) (G : Nat → gz_H) {env' : List Value} {h' : gz_H} (hX : X ≠ L) (hs : ∀ s, s < n → a ((E s).take k) (G s) = some (.inl (L, E (s + 1), G (s + 1)))) (hx : a ((E n).take k) (G n) = some (.inl (X, env', h'))) : ∀ d s, s + d = n → gz_loop L k a (E s) (G s) = some (.inl (X, env', h')) := by
  intro d
  induction d with
  | zero => intro s e; rw [show s = n by omega]; exact gz_loop_exit hx hX
  | succ d ih => intro s e; exact gz_loop_next (hs s (by omega)) (ih (s + 1) (by omega))
theorem gz_for0 {L k X : Nat} {a : gz_Sx} (n : Nat) (E : Nat → List Value) (G : Nat → gz_H) {env' : List Value} {h' : gz_H} (hX : X ≠ L) (hs : ∀ s, s < n → a ((E s).take k) (G s) = some (.inl (L, E (s + 1), G (s + 1)))) (hx : a ((E n).take k) (G n) = some (.inl (X, env', h'))) : gz_loop L k a (E 0) (G 0) = some (.inl (X, env', h')) := gz_for n E G hX hs hx n 0 (by omega)
/-- a loop that seeks: it comes to n -/
theorem gz_seekN {L k X : Nat} {a : gz_Sx} (n : Nat) (P : Nat → Prop) (E : Nat → List Value) {h : gz_H} {env' : List Value} {h' : gz_H} (hX : X ≠ L) (hs : ∀ s, s < n → ¬ P s → a ((E s).take k) h = some (.inl (L, E (s + 1), h))) (hx : a ((E n).take k) h = some (.inl (X, env', h'))) (hp : ∀ s, s < n → ¬ P s) : gz_loop L k a (E 0) h = some (.inl (X, env', h')) :=
  gz_for n E (fun _ => h) hX (fun s q => hs s q (hp s q)) hx n 0 (by omega)
/-- a loop that seeks: it finds -/
theorem gz_seekY {L k : Nat} {a : gz_Sx} (n : Nat) (P : Nat → Prop) (E : Nat → List Value) {h : gz_H} (R : Nat → Option Value × gz_H) (hs : ∀ s, s < n → ¬ P s → a ((E s).take k) h = some (.inl (L, E (s + 1), h))) (hf : ∀ s, s < n → P s → a ((E s).take k) h = some (.inr (R s))) : ∀ d s, P (s + d) → s + d < n → (∀ i, s ≤ i → i < s + d → ¬ P i) → gz_loop L k a (E s) h = some (.inr (R (s + d))) := by
  intro d
  induction d with
  | zero => intro s hp hn _; exact gz_loop_ret (hf s hn hp)
  | succ d ih =>
    intro s hp hn hq
    refine gz_loop_next (hs s (by omega) (hq s (Nat.le_refl _) (by omega))) ?_
    have h1 := ih (s + 1) (by rw [show s + 1 + d = s + (d + 1) by omega]; exact hp) (by omega) (fun i h1 h2 => hq i (by omega) (by omega))
    rw [show s + 1 + d = s + (d + 1) by omega] at h1
    exact h1
theorem gz_least (P : Nat → Prop) (n : Nat) (h : ∃ s, s < n ∧ P s) : ∃ s, s < n ∧ P s ∧ ∀ i, i < s → ¬ P i := by
  obtain ⟨k, hk, hl⟩ := pk_least (fun s => s < n ∧ P s) h
  exact ⟨k, hk.1, hk.2, fun i hi q => hl i hi ⟨by omega, q⟩⟩
theorem gz_seek0 {L k : Nat} {a : gz_Sx} (n : Nat) (P : Nat → Prop) (E : Nat → List Value) {h : gz_H} (R : Nat → Option Value × gz_H) (hs : ∀ s, s < n → ¬ P s → a ((E s).take k) h = some (.inl (L, E (s + 1), h))) (hf : ∀ s, s < n → P s → a ((E s).take k) h = some (.inr (R s))) (s : Nat) (hp : P s) (hn : s < n) (hq : ∀ i, i < s → ¬ P i) : gz_loop L k a (E 0) h = some (.inr (R s)) := by
  have h1 := gz_seekY n P E R hs hf s 0 (by rw [Nat.zero_add]; exact hp) (by omega) (fun i _ h2 => hq i (by omega))
  rw [Nat.zero_add] at h1
  exact h1
/-- bits -/
theorem bt_t {i : Nat} (hi : i < 31) (b : Int32) : (b >>> (nI i &&& 31)) &&& 1 = if bt b i = true then 1 else 0 := by
  apply b_ext
  intro q hq
  rw [b_and, b_sshr i (by omega) b hq]
  have h1 : ∀ q, q < 32 → bt (1 : Int32) q = decide (q = 0) := by decide +kernel
  rw [h1 q hq]
  by_cases h0 : q = 0
  · subst h0
    rw [if_pos (by omega)]
    by_cases hb : bt b i = true
    · simp [hb]; decide
    · simp only [Bool.not_eq_true] at hb
      simp [hb]; decide
  · by_cases hb : bt b i = true
    · simp [hb, h0, h1 q hq]
    · simp only [Bool.not_eq_true] at hb
      simp [hb, h0]
      exact b_0 q
theorem one_shl : ∀ s, s < 31 → (1 : Int32) <<< (nI s &&& 31) = nI (2 ^ s) := by decide +kernel
/-- truth as a number -/
noncomputable def gz_bi (P : Prop) : Int32 := @ite Int32 P (Classical.propDecidable P) 1 0
theorem bi_t {P : Prop} (h : P) : gz_bi P = 1 := by unfold gz_bi; rw [if_pos h]
theorem bi_f {P : Prop} (h : ¬ P) : gz_bi P = 0 := by unfold gz_bi; rw [if_neg h]
theorem bi_c {P Q : Prop} (h : P ↔ Q) : gz_bi P = gz_bi Q := by rw [propext h]
theorem bi_01 (P : Prop) : (P ∧ gz_bi P = 1) ∨ (¬ P ∧ gz_bi P = 0) := by
  by_cases h : P
  · exact Or.inl ⟨h, bi_t h⟩
  · exact Or.inr ⟨h, bi_f h⟩
theorem bi_rok (P : Prop) : gz_rok (some .boolean) (some (.int (gz_bi P))) = true := by rcases bi_01 P with ⟨-, h⟩ | ⟨-, h⟩ <;> rw [h] <;> rfl
theorem bi_0 (P : Prop) : (gz_bi P = 0) = ¬ P := by
  rcases bi_01 P with ⟨h1, h⟩ | ⟨h1, h⟩ <;> rw [h] <;> simp [h1]
theorem bi_1 (P : Prop) : (gz_bi P = 1) = P := by
  rcases bi_01 P with ⟨h1, h⟩ | ⟨h1, h⟩ <;> rw [h] <;> simp [h1]
/-- how many of the numbers from 1 on have it -/
noncomputable def gz_cnt (P : Nat → Prop) : Nat → Int32
  | 0 => 0
  | n + 1 => gz_cnt P n + gz_bi (P (n + 1))
theorem gz_v_set (h : gz_H) (a i : Nat) (v : Value) (b j : Nat) : gz_v (gz_set h a i v) b j = if b = a ∧ j = i then v else gz_v h b j := rfl
theorem gz_k_set (h : gz_H) (a i : Nat) (v : Value) (b : Nat) : gz_k (gz_set h a i v) b = gz_k h b := rfl
theorem gz_n_set (h : gz_H) (a i : Nat) (v : Value) : (gz_set h a i v).1 = h.1 := rfl
theorem gz_n_new (h : gz_H) (k : Nat × Nat) (d : Nat → Value) : (gz_new h k d).1 = h.1 + 1 := rfl
theorem gz_k_new (h : gz_H) (k : Nat × Nat) (d : Nat → Value) (b : Nat) : gz_k (gz_new h k d) b = if b = h.1 then k else gz_k h b := rfl
theorem gz_v_new (h : gz_H) (k : Nat × Nat) (d : Nat → Value) (b j : Nat) : gz_v (gz_new h k d) b j = if b = h.1 then d j else gz_v h b j := rfl
/-- a number at a place -/
def gz_I (h : gz_H) (a i : Nat) : Int32 := match gz_v h a i with
  | .int x => x
  | _ => 0
set_option maxHeartbeats 4000000 in
theorem st_X7_outside (v lo hi : Int32) (h : gz_H) : se_X7_outside [.int v, .int lo, .int hi] h = some (some (.int (if v < lo ∨ hi < v then 1 else 0)), h) := by
  by_cases h1 : v < lo <;> by_cases h2 : hi < v <;> simp only [se_X7_outside, sm_X7_outside, gz_sem, gz_ae, Value.category, gz_i, gz_l, gz_nu, gz_li, gz_ll, gz_la, gz_ib, gz_iz, gz_lb, gz_lz, gz_ls, gz_lc, gz_i2l, gz_l2i, gz_get, gz_ald, gz_len, gz_dup, gz_d2, gz_nar, gz_a0, gz_a1, gz_cs, gz_cv, gz_mk, gz_te, gz_j1, gz_j2, gz_jn, gz_jk, gz_jo, gz_ja, gz_sat, gz_seti, gz_seta, gz_set2, gz_inc, gz_put, gz_ast, gz_pop, gz_vs, gz_vv, gz_sup, gz_rv, gz_ri, gz_rl, gz_ra, gz_if, gz_seq, gz_sw, gz_st, gz_st2, rok_I, rok_J, rok_V, rok_Z0, rok_Z1, rok_Zi, rok_R, rok_N, bi_rok, bi_0, bi_1, fit_I, fit_J, fit_Z0, fit_Z1, fit_Zi, fit_R, fit_N, fit_aR, aty_I, aty_Z0, aty_Z1, aty_Zi, aty_J, gz_ix, List.getElem?_cons_zero, List.getElem?_cons_succ, List.getElem?_nil, List.reverse_cons, List.reverse_nil, List.nil_append, List.cons_append, List.take_succ_cons, List.take_zero, List.take_nil, List.length_cons, List.length_nil, decide_true, decide_false, decide_not, Bool.not_true, Bool.not_false, gz_nle, if_true, if_false, and_true, true_and, and_self, and_false, false_and, or_true, true_or, or_false, false_or, Bool.false_eq_true, not_true, not_false_iff, Decidable.not_not, Nat.reduceLeDiff, Nat.reduceAdd, Nat.reduceEqDiff, Nat.reduceSub, Nat.reduceLT, Nat.zero_add, reduceCtorEq, reduceIte, eq_self, i32_10, i32_01, Nat.zero_le, Nat.one_ne_zero, h1, h2]
set_option maxHeartbeats 4000000 in
theorem st_X8_isIn (v lo hi : Int32) (h : gz_H) : se_X8_isIn [.int v, .int lo, .int hi] h = some (some (.int (if ¬ v < lo ∧ ¬ hi < v then 1 else 0)), h) := by
  by_cases h1 : v < lo <;> by_cases h2 : hi < v <;> simp only [se_X8_isIn, sm_X8_isIn, gz_sem, gz_ae, Value.category, gz_i, gz_l, gz_nu, gz_li, gz_ll, gz_la, gz_ib, gz_iz, gz_lb, gz_lz, gz_ls, gz_lc, gz_i2l, gz_l2i, gz_get, gz_ald, gz_len, gz_dup, gz_d2, gz_nar, gz_a0, gz_a1, gz_cs, gz_cv, gz_mk, gz_te, gz_j1, gz_j2, gz_jn, gz_jk, gz_jo, gz_ja, gz_sat, gz_seti, gz_seta, gz_set2, gz_inc, gz_put, gz_ast, gz_pop, gz_vs, gz_vv, gz_sup, gz_rv, gz_ri, gz_rl, gz_ra, gz_if, gz_seq, gz_sw, gz_st, gz_st2, rok_I, rok_J, rok_V, rok_Z0, rok_Z1, rok_Zi, rok_R, rok_N, bi_rok, bi_0, bi_1, fit_I, fit_J, fit_Z0, fit_Z1, fit_Zi, fit_R, fit_N, fit_aR, aty_I, aty_Z0, aty_Z1, aty_Zi, aty_J, gz_ix, List.getElem?_cons_zero, List.getElem?_cons_succ, List.getElem?_nil, List.reverse_cons, List.reverse_nil, List.nil_append, List.cons_append, List.take_succ_cons, List.take_zero, List.take_nil, List.length_cons, List.length_nil, decide_true, decide_false, decide_not, Bool.not_true, Bool.not_false, gz_nle, if_true, if_false, and_true, true_and, and_self, and_false, false_and, or_true, true_or, or_false, false_or, Bool.false_eq_true, not_true, not_false_iff, Decidable.not_not, Nat.reduceLeDiff, Nat.reduceAdd, Nat.reduceEqDiff, Nat.reduceSub, Nat.reduceLT, Nat.zero_add, reduceCtorEq, reduceIte, eq_self, i32_10, i32_01, Nat.zero_le, Nat.one_ne_zero, h1, h2]
set_option maxHeartbeats 4000000 in
theorem st_X2_behind (a : Nat) (s st : Int32) (h : gz_H) (ha : a < h.1) (hk : gz_k h a = (2, 9)) (hst : gz_v h a 2 = .int st) : se_X2_behind [.ref a, .int s] h = some (some (.int (if s + 1 < st then s + 1 else 0)), h) := by
  by_cases h1 : s + 1 < st <;> simp only [se_X2_behind, sm_X2_behind, gz_sem, gz_ae, Value.category, gz_i, gz_l, gz_nu, gz_li, gz_ll, gz_la, gz_ib, gz_iz, gz_lb, gz_lz, gz_ls, gz_lc, gz_i2l, gz_l2i, gz_get, gz_ald, gz_len, gz_dup, gz_d2, gz_nar, gz_a0, gz_a1, gz_cs, gz_cv, gz_mk, gz_te, gz_j1, gz_j2, gz_jn, gz_jk, gz_jo, gz_ja, gz_sat, gz_seti, gz_seta, gz_set2, gz_inc, gz_put, gz_ast, gz_pop, gz_vs, gz_vv, gz_sup, gz_rv, gz_ri, gz_rl, gz_ra, gz_if, gz_seq, gz_sw, gz_st, gz_st2, rok_I, rok_J, rok_V, rok_Z0, rok_Z1, rok_Zi, rok_R, rok_N, bi_rok, bi_0, bi_1, fit_I, fit_J, fit_Z0, fit_Z1, fit_Zi, fit_R, fit_N, fit_aR, aty_I, aty_Z0, aty_Z1, aty_Zi, aty_J, gz_ix, List.getElem?_cons_zero, List.getElem?_cons_succ, List.getElem?_nil, List.reverse_cons, List.reverse_nil, List.nil_append, List.cons_append, List.take_succ_cons, List.take_zero, List.take_nil, List.length_cons, List.length_nil, decide_true, decide_false, decide_not, Bool.not_true, Bool.not_false, gz_nle, if_true, if_false, and_true, true_and, and_self, and_false, false_and, or_true, true_or, or_false, false_or, Bool.false_eq_true, not_true, not_false_iff, Decidable.not_not, Nat.reduceLeDiff, Nat.reduceAdd, Nat.reduceEqDiff, Nat.reduceSub, Nat.reduceLT, Nat.zero_add, reduceCtorEq, reduceIte, eq_self, i32_10, i32_01, Nat.zero_le, Nat.one_ne_zero, h1, ha, hk, hst]

/-- sums of rows of numbers -/
def gz_sum (h : gz_H) (a : Nat) : Nat → Int32
  | 0 => 0
  | n + 1 => gz_sum h a n + gz_I h a n
theorem gz_I_of {h : gz_H} {a i : Nat} {x : Int32} (e : gz_v h a i = .int x) : gz_I h a i = x := by simp [gz_I, e]
/-- a row of n numbers -/
def gz_row (h : gz_H) (a n : Nat) : Prop := a < h.1 ∧ gz_k h a = (100, n) ∧ ∀ i, i < n → gz_v h a i = .int (gz_I h a i)
set_option maxHeartbeats 4000000 in
theorem lp_X2_allGreens (a g n : Nat) (h : gz_H) (ha : a < h.1) (hk : gz_k h a = (2, 9)) (hn : n ≤ 4) (hst : gz_v h a 2 = .int (nI n)) (hg : gz_v h a 5 = .ref g) (hr : gz_row h g 4) : ∀ (d s : Nat), s + d = n → gz_loop 4 3 lb_X2_allGreens_4 [.ref a, .int (gz_sum h g s), .int (nI s)] h = some (.inl (27, [.ref a, .int (gz_sum h g n), .int (nI n)], h)) := by
  obtain ⟨g1, g2, g3⟩ := hr
  intro d
  induction d with
  | zero =>
    intro s e
    have e : s = n := by omega
    subst e
    refine gz_loop_exit ?_ (by decide)
    have c1 : ¬ nI s < nI s := nI_nlt (Nat.le_refl _) (by omega)
    simp only [lb_X2_allGreens_4, gz_sem, gz_ae, Value.category, gz_i, gz_l, gz_nu, gz_li, gz_ll, gz_la, gz_ib, gz_iz, gz_lb, gz_lz, gz_ls, gz_lc, gz_i2l, gz_l2i, gz_get, gz_ald, gz_len, gz_dup, gz_d2, gz_nar, gz_a0, gz_a1, gz_cs, gz_cv, gz_mk, gz_te, gz_j1, gz_j2, gz_jn, gz_jk, gz_jo, gz_ja, gz_sat, gz_seti, gz_seta, gz_set2, gz_inc, gz_put, gz_ast, gz_pop, gz_vs, gz_vv, gz_sup, gz_rv, gz_ri, gz_rl, gz_ra, gz_if, gz_seq, gz_sw, gz_st, gz_st2, rok_I, rok_J, rok_V, rok_Z0, rok_Z1, rok_Zi, rok_R, rok_N, bi_rok, bi_0, bi_1, fit_I, fit_J, fit_Z0, fit_Z1, fit_Zi, fit_R, fit_N, fit_aR, aty_I, aty_Z0, aty_Z1, aty_Zi, aty_J, gz_ix, List.getElem?_cons_zero, List.getElem?_cons_succ, List.getElem?_nil, List.reverse_cons, List.reverse_nil, List.nil_append, List.cons_append, List.take_succ_cons, List.take_zero, List.take_nil, List.length_cons, List.length_nil, decide_true, decide_false, decide_not, Bool.not_true, Bool.not_false, gz_nle, if_true, if_false, and_true, true_and, and_self, and_false, false_and, or_true, true_or, or_false, false_or, Bool.false_eq_true, not_true, not_false_iff, Decidable.not_not, Nat.reduceLeDiff, Nat.reduceAdd, Nat.reduceEqDiff, Nat.reduceSub, Nat.reduceLT, Nat.zero_add, reduceCtorEq, reduceIte, eq_self, i32_10, i32_01, Nat.zero_le, Nat.one_ne_zero, ha, hk, hst, c1]
  | succ d ih =>
    intro s e
    refine gz_loop_next ?_ (ih (s + 1) (by omega))
    have c1 : nI s < nI n := nI_lt (by omega) (by omega)
    have c2 : ¬ nI s < 0 := nI_pos (by omega)
    have c3 : (nI s).toNatClampNeg = s := nI_clamp (by omega)
    have c4 : s < 4 := by omega
    simp only [lb_X2_allGreens_4, gz_sem, gz_ae, Value.category, gz_i, gz_l, gz_nu, gz_li, gz_ll, gz_la, gz_ib, gz_iz, gz_lb, gz_lz, gz_ls, gz_lc, gz_i2l, gz_l2i, gz_get, gz_ald, gz_len, gz_dup, gz_d2, gz_nar, gz_a0, gz_a1, gz_cs, gz_cv, gz_mk, gz_te, gz_j1, gz_j2, gz_jn, gz_jk, gz_jo, gz_ja, gz_sat, gz_seti, gz_seta, gz_set2, gz_inc, gz_put, gz_ast, gz_pop, gz_vs, gz_vv, gz_sup, gz_rv, gz_ri, gz_rl, gz_ra, gz_if, gz_seq, gz_sw, gz_st, gz_st2, rok_I, rok_J, rok_V, rok_Z0, rok_Z1, rok_Zi, rok_R, rok_N, bi_rok, bi_0, bi_1, fit_I, fit_J, fit_Z0, fit_Z1, fit_Zi, fit_R, fit_N, fit_aR, aty_I, aty_Z0, aty_Z1, aty_Zi, aty_J, gz_ix, List.getElem?_cons_zero, List.getElem?_cons_succ, List.getElem?_nil, List.reverse_cons, List.reverse_nil, List.nil_append, List.cons_append, List.take_succ_cons, List.take_zero, List.take_nil, List.length_cons, List.length_nil, decide_true, decide_false, decide_not, Bool.not_true, Bool.not_false, gz_nle, if_true, if_false, and_true, true_and, and_self, and_false, false_and, or_true, true_or, or_false, false_or, Bool.false_eq_true, not_true, not_false_iff, Decidable.not_not, Nat.reduceLeDiff, Nat.reduceAdd, Nat.reduceEqDiff, Nat.reduceSub, Nat.reduceLT, Nat.zero_add, reduceCtorEq, reduceIte, eq_self, i32_10, i32_01, Nat.zero_le, Nat.one_ne_zero, ha, hk, hst, hg, g1, g2, c1, c2, c3, c4, g3 s c4, gz_sum, nI_1]
set_option maxHeartbeats 4000000 in
theorem st_X2_allGreens (a g n : Nat) (h : gz_H) (ha : a < h.1) (hk : gz_k h a = (2, 9)) (hn : n ≤ 4) (hst : gz_v h a 2 = .int (nI n)) (hg : gz_v h a 5 = .ref g) (hr : gz_row h g 4) : se_X2_allGreens [.ref a] h = some (some (.int (gz_sum h g n)), h) := by
  have l := lp_X2_allGreens a g n h ha hk hn hst hg hr n 0 (by omega)
  simp only [gz_sum, nI_0] at l
  simp only [se_X2_allGreens, sm_X2_allGreens, gz_sem, gz_ae, Value.category, gz_i, gz_l, gz_nu, gz_li, gz_ll, gz_la, gz_ib, gz_iz, gz_lb, gz_lz, gz_ls, gz_lc, gz_i2l, gz_l2i, gz_get, gz_ald, gz_len, gz_dup, gz_d2, gz_nar, gz_a0, gz_a1, gz_cs, gz_cv, gz_mk, gz_te, gz_j1, gz_j2, gz_jn, gz_jk, gz_jo, gz_ja, gz_sat, gz_seti, gz_seta, gz_set2, gz_inc, gz_put, gz_ast, gz_pop, gz_vs, gz_vv, gz_sup, gz_rv, gz_ri, gz_rl, gz_ra, gz_if, gz_seq, gz_sw, gz_st, gz_st2, rok_I, rok_J, rok_V, rok_Z0, rok_Z1, rok_Zi, rok_R, rok_N, bi_rok, bi_0, bi_1, fit_I, fit_J, fit_Z0, fit_Z1, fit_Zi, fit_R, fit_N, fit_aR, aty_I, aty_Z0, aty_Z1, aty_Zi, aty_J, gz_ix, List.getElem?_cons_zero, List.getElem?_cons_succ, List.getElem?_nil, List.reverse_cons, List.reverse_nil, List.nil_append, List.cons_append, List.take_succ_cons, List.take_zero, List.take_nil, List.length_cons, List.length_nil, decide_true, decide_false, decide_not, Bool.not_true, Bool.not_false, gz_nle, if_true, if_false, and_true, true_and, and_self, and_false, false_and, or_true, true_or, or_false, false_or, Bool.false_eq_true, not_true, not_false_iff, Decidable.not_not, Nat.reduceLeDiff, Nat.reduceAdd, Nat.reduceEqDiff, Nat.reduceSub, Nat.reduceLT, Nat.zero_add, reduceCtorEq, reduceIte, eq_self, i32_10, i32_01, Nat.zero_le, Nat.one_ne_zero, l]
