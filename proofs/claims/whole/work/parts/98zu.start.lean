/-- the heap at the beginning, piece by piece -/
def hA0 : gz_H := gz_new gz_h0 (7, 9) (fun j => defaultValue (tyX7 j))
def hA1 : gz_H := mkA 0 hA0 L7
def hA2 : gz_H := gz_new hA1 (5, 3) (fun j => defaultValue (tyX5 j))
def hA3 : gz_H := gz_set (i5 hA2 2) 0 1 (.ref 2)
def hA4 : gz_H := gz_new hA3 (0, 6) (fun j => defaultValue (tyX0 j))
def hA5 : gz_H := gz_set (i0 hA4 4) 0 2 (.ref 4)
def hA6 : gz_H := gz_new hA5 (6, 10) (fun j => defaultValue (tyX6 j))
def hA7 : gz_H := gz_set (i6 hA6 9) 0 3 (.ref 9)
def hA8 : gz_H := gz_set (gz_set (gz_set hA7 0 6 (.int (-1))) 0 7 (.int (-1))) 0 8 (.int (-1))
def hA9 : gz_H := gz_new hA8 (8, 48) (fun j => defaultValue (tyX8 j))
def hAa : gz_H := gz_set (gz_set (gz_set (mkA 15 hA9 L8a) 15 19 (.int (-1))) 15 20 (.int (-1))) 15 21 (.int (-1))
def hAz : gz_H := mkA 15 hAa L8b
theorem st_i7 : se_X7_init [.ref 0] hA0 = some (none, hA8) := by
  refine sem1 (Nat.le_refl _) ?_
  rw [X7_is, sup1, puts_ok L7 hA0 (by decide +kernel) (by decide +kernel)]
  rw [pm (h := mkA 0 hA0 L7) (h2 := i5 hA2 2) (x := 2) (by decide +kernel) (ini_5 (h := hA2) (by decide +kernel) (by decide +kernel)) (by decide +kernel) (by decide +kernel)]
  rw [show gz_set (i5 hA2 2) 0 1 (.ref 2) = hA3 from rfl, pm (h := hA3) (h2 := i0 hA4 4) (x := 4) (by decide +kernel) (ini_0 (h := hA4) (by decide +kernel) (by decide +kernel)) (by decide +kernel) (by decide +kernel)]
  rw [show gz_set (i0 hA4 4) 0 2 (.ref 4) = hA5 from rfl, pm (h := hA5) (h2 := i6 hA6 9) (x := 9) (by decide +kernel) (ini_6 (h := hA6) (by decide +kernel) (by decide +kernel)) (by decide +kernel) (by decide +kernel)]
  rw [show gz_set (i6 hA6 9) 0 3 (.ref 9) = hA7 from rfl, pint (h := hA7) (by decide +kernel) (by decide +kernel), pint (by decide +kernel) (by decide +kernel), pint (by decide +kernel) (by decide +kernel)]
  rfl
theorem st_i8 : se_X8_init [.ref 15] hA9 = some (none, hAz) := by
  refine sem1 (Nat.le_refl _) ?_
  rw [X8_is, sup1, puts_ok L8a hA9 (by decide +kernel) (by decide +kernel)]
  rw [pint (h := mkA 15 hA9 L8a) (by decide +kernel) (by decide +kernel), pint (by decide +kernel) (by decide +kernel), pint (by decide +kernel) (by decide +kernel)]
  rw [show gz_set (gz_set (gz_set (mkA 15 hA9 L8a) 15 19 (.int (-1))) 15 20 (.int (-1))) 15 21 (.int (-1)) = hAa from rfl, puts_ok L8b hAa (by decide +kernel) (by decide +kernel)]
  rfl
theorem hp_0 : lp_L [.float 0] gz_h0 = some (.inl (18, [.float 0, .ref 0, .ref 15, .int 0], hAz)) := by
  have e7 : se_X7_init [.ref 0] (gz_new gz_h0 (7, 9) (fun j => defaultValue (tyX7 j))) = some (none, hA8) := st_i7
  have n8 : hA8.1 = 15 := by decide +kernel
  have e8 : se_X8_init [.ref 15] (gz_new hA8 (8, 48) (fun j => defaultValue (tyX8 j))) = some (none, hAz) := st_i8
  have z0 : gz_h0.1 = 0 := rfl
  simp only [lp_L, gz_sem, gz_ae, Value.category, gz_i, gz_l, gz_nu, gz_li, gz_ll, gz_la, gz_ib, gz_iz, gz_lb, gz_lz, gz_ls, gz_lc, gz_i2l, gz_l2i, gz_get, gz_ald, gz_len, gz_dup, gz_d2, gz_nar, gz_a0, gz_a1, gz_cs, gz_cv, gz_mk, gz_te, gz_j1, gz_j2, gz_jn, gz_jk, gz_jo, gz_ja, gz_sat, gz_seti, gz_seta, gz_set2, gz_inc, gz_put, gz_ast, gz_pop, gz_vs, gz_vv, gz_sup, gz_rv, gz_ri, gz_rl, gz_ra, gz_if, gz_seq, gz_sw, gz_st, gz_st2, rok_I, rok_J, rok_V, rok_Z0, rok_Z1, rok_Zi, rok_R, rok_N, bi_rok, bi_0, bi_1, fit_I, fit_J, fit_Z0, fit_Z1, fit_Zi, fit_R, fit_N, fit_aR, aty_I, aty_Z0, aty_Z1, aty_Zi, aty_J, gz_ix, List.getElem?_cons_zero, List.getElem?_cons_succ, List.getElem?_nil, List.reverse_cons, List.reverse_nil, List.nil_append, List.cons_append, List.take_succ_cons, List.take_zero, List.take_nil, List.length_cons, List.length_nil, decide_true, decide_false, decide_not, Bool.not_true, Bool.not_false, gz_nle, if_true, if_false, and_true, true_and, and_self, and_false, false_and, or_true, true_or, or_false, false_or, Bool.false_eq_true, not_true, not_false_iff, Decidable.not_not, Nat.reduceLeDiff, Nat.reduceAdd, Nat.reduceEqDiff, Nat.reduceSub, Nat.reduceLT, Nat.zero_add, reduceCtorEq, reduceIte, eq_self, i32_10, i32_01, Nat.zero_le, Nat.one_ne_zero, e7, n8, e8, z0]
/-- what a value is -/
def isR (v : Value) (n : Nat) : Bool := match v with
  | .ref x => decide (x = n)
  | _ => false
def isI (v : Value) (n : Int32) : Bool := match v with
  | .int x => decide (x = n)
  | _ => false
def isJ (v : Value) (n : Int64) : Bool := match v with
  | .long x => decide (x = n)
  | _ => false
theorem isR_e {v : Value} {n : Nat} (h : isR v n = true) : v = .ref n := by
  unfold isR at h
  split at h
  · rw [of_decide_eq_true h]
  · exact absurd h (by decide)
theorem isI_e {v : Value} {n : Int32} (h : isI v n = true) : v = .int n := by
  unfold isI at h
  split at h
  · rw [of_decide_eq_true h]
  · exact absurd h (by decide)
theorem isJ_e {v : Value} {n : Int64} (h : isJ v n = true) : v = .long n := by
  unfold isJ at h
  split at h
  · rw [of_decide_eq_true h]
  · exact absurd h (by decide)
def kA (b : Nat) : Nat × Nat := match b with
  | 0 => (7, 9)
  | 1 => (104, 8)
  | 2 => (5, 3)
  | 3 => (100, 8)
  | 4 => (0, 6)
  | 5 => (100, 16)
  | 6 => (100, 4)
  | 7 => (100, 4)
  | 8 => (100, 4)
  | 9 => (6, 10)
  | 10 => (105, 3)
  | 11 => (100, 6)
  | 12 => (100, 6)
  | 13 => (102, 540)
  | 14 => (102, 540)
  | b => md_k b
theorem z_n : hAz.1 = 55 := by decide +kernel
theorem z_k : ∀ b, b < 55 → gz_k hAz b = kA b := by decide +kernel
theorem z_15 : ∀ f, f < 48 → (2 ≤ f ∧ f ≤ 17 → isR (gz_v hAz 15 f) (f + 14) = true) ∧ (22 ≤ f ∧ f ≤ 26 → isR (gz_v hAz 15 f) (f + 10) = true) ∧ (29 ≤ f ∧ f ≤ 46 → isR (gz_v hAz 15 f) (f + 8) = true) ∧ ((f ≤ 1 ∨ f = 18 ∨ f = 47) → isI (gz_v hAz 15 f) 0 = true) ∧ (19 ≤ f ∧ f ≤ 21 → isI (gz_v hAz 15 f) (-1) = true) ∧ ((f = 27 ∨ f = 28) → isJ (gz_v hAz 15 f) 0 = true) := by decide +kernel
theorem z_0 : isR (gz_v hAz 0 0) 1 = true ∧ isR (gz_v hAz 0 1) 2 = true ∧ isR (gz_v hAz 0 2) 4 = true ∧ isR (gz_v hAz 0 3) 9 = true ∧ isI (gz_v hAz 0 4) 0 = true ∧ isI (gz_v hAz 0 5) 0 = true ∧ isI (gz_v hAz 0 6) (-1) = true ∧ isI (gz_v hAz 0 7) (-1) = true ∧ isI (gz_v hAz 0 8) (-1) = true := by decide +kernel
theorem z_2 : isR (gz_v hAz 2 0) 3 = true ∧ isI (gz_v hAz 2 1) (-1) = true ∧ isI (gz_v hAz 2 2) (-1) = true := by decide +kernel
theorem z_4 : isR (gz_v hAz 4 0) 5 = true ∧ isR (gz_v hAz 4 1) 6 = true ∧ isR (gz_v hAz 4 2) 7 = true ∧ isR (gz_v hAz 4 3) 8 = true ∧ isJ (gz_v hAz 4 4) 0 = true ∧ isJ (gz_v hAz 4 5) 0 = true := by decide +kernel
theorem z_9 : isR (gz_v hAz 9 0) 10 = true ∧ isR (gz_v hAz 9 1) 11 = true ∧ isR (gz_v hAz 9 2) 12 = true ∧ isR (gz_v hAz 9 3) 13 = true ∧ isR (gz_v hAz 9 4) 14 = true ∧ ∀ f, f < 10 → 5 ≤ f → isI (gz_v hAz 9 f) 0 = true := by decide +kernel
theorem z_ar : AR hAz := by
  have a0 : AR hA0 := AR_obj (h := gz_h0) (fun x hx => absurd hx (Nat.not_lt_zero x)) (Or.inl rfl) _ _
  have a1 : AR hA1 := AR_mk (Or.inl rfl) L7 _ a0
  have a2 : AR hA2 := AR_obj a1 (by decide +kernel) _ _
  have a3 : AR hA3 := AR_set (AR_set (AR_set (AR_mk (by decide) L5 _ a2) (by decide) _ _) (by decide) _ _) (by decide) _ _
  have a4 : AR hA4 := AR_obj a3 (by decide +kernel) _ _
  have a5 : AR hA5 := AR_set (AR_mk (by decide) L0 _ a4) (by decide) _ _
  have a6 : AR hA6 := AR_obj a5 (by decide +kernel) _ _
  have a7 : AR hA7 := AR_set (AR_mk (by decide) L6 _ a6) (by decide) _ _
  have a8 : AR hA8 := AR_set (AR_set (AR_set a7 (by decide) _ _) (by decide) _ _) (by decide) _ _
  have a9 : AR hA9 := AR_obj a8 (by decide +kernel) _ _
  have aa : AR hAa := AR_set (AR_set (AR_set (AR_mk (by decide) L8a _ a9) (by decide) _ _) (by decide) _ _) (by decide) _ _
  exact AR_mk (by decide) L8b _ aa
theorem dv_l : dv 102 = .long 0 := rfl
theorem dv_i {ct : Nat} (h : ct = 100 ∨ ct = 101) : dv ct = .int 0 := by rcases h with rfl | rfl <;> rfl
theorem mdk_i : ∀ b, b < 55 → 16 ≤ b → ¬ (45 ≤ b ∧ b ≤ 50) → (kA b).1 = 100 ∨ (kA b).1 = 101 := by decide +kernel
theorem mdk_j : ∀ b, b < 55 → 45 ≤ b ∧ b ≤ 50 → (kA b).1 = 102 := by decide +kernel
theorem z_i (b i : Nat) (h1 : 16 ≤ b) (h2 : b < 55) (h3 : ¬ (45 ≤ b ∧ b ≤ 50)) : gz_v hAz b i = .int 0 := by
  rw [z_ar b (by rw [z_n]; omega) (by omega) (by omega) (by omega) (by omega) (by omega) i, z_k b h2]
  exact dv_i (mdk_i b h2 h1 h3)
theorem z_j (b i : Nat) (h3 : 45 ≤ b ∧ b ≤ 50) : gz_v hAz b i = .long 0 := by
  rw [z_ar b (by rw [z_n]; omega) (by omega) (by omega) (by omega) (by omega) (by omega) i, z_k b (by omega), mdk_j b (by omega) h3]
  exact dv_l
theorem I_e {h : gz_H} {a i : Nat} {x : Int32} (e : gz_v h a i = .int x) : gz_v h a i = .int (gz_I h a i) := by rw [gz_I_of e]; exact e
theorem J_of {h : gz_H} {a i : Nat} {x : Int64} (e : gz_v h a i = .long x) : gz_J h a i = x := by simp [gz_J, e]
theorem J_e {h : gz_H} {a i : Nat} {x : Int64} (e : gz_v h a i = .long x) : gz_v h a i = .long (gz_J h a i) := by rw [J_of e]; exact e
theorem kA_md : ∀ b, b < 55 → 15 ≤ b → kA b = md_k b := by decide +kernel
theorem z_md : md hAz := by
  refine ⟨fun b hb => by rw [z_n]; exact hb, fun b h1 h2 => by rw [z_k b (by omega)]; exact kA_md b (by omega) h1, fun f h1 h2 => isR_e ((z_15 f (by omega)).1 ⟨h1, h2⟩), fun f h1 h2 => isR_e ((z_15 f (by omega)).2.1 ⟨h1, h2⟩), fun f h1 h2 => isR_e ((z_15 f (by omega)).2.2.1 ⟨h1, h2⟩), fun b i h1 h2 => I_e (z_i b i h1 (by omega) (by omega)), fun b i h1 h2 => J_e (z_j b i ⟨h1, h2⟩), fun b i h1 h2 => I_e (z_i b i (by omega) (by omega) (by omega)), fun f h1 => I_e (isI_e ((z_15 f (by omega)).2.2.2.1 (Or.inl h1))), fun f h1 h2 => ?_, fun f h1 h2 => J_e (isJ_e ((z_15 f (by omega)).2.2.2.2.2 (by omega))), I_e (isI_e ((z_15 47 (by omega)).2.2.2.1 (Or.inr (Or.inr rfl))))⟩
  by_cases q : f = 18
  · exact I_e (isI_e ((z_15 f (by omega)).2.2.2.1 (Or.inr (Or.inl q))))
  · exact I_e (isI_e ((z_15 f (by omega)).2.2.2.2.1 ⟨by omega, h2⟩))
/-- the ghost at the beginning -/
def ghz : gz_G := fun a b => if a = 5 ∧ b < 15 then 50 else 0
theorem z_c (x i : Nat) (hx : x = 3 ∨ x = 5 ∨ x = 6 ∨ x = 7 ∨ x = 8 ∨ x = 11 ∨ x = 12) : gz_v hAz x i = .int 0 := by
  rw [z_ar x (by rw [z_n]; omega) (by omega) (by omega) (by omega) (by omega) (by omega) i, z_k x (by omega)]
  rcases hx with rfl | rfl | rfl | rfl | rfl | rfl | rfl <;> rfl
theorem z_l (x i : Nat) (hx : x = 13 ∨ x = 14) : gz_v hAz x i = .long 0 := by
  rw [z_ar x (by rw [z_n]; omega) (by omega) (by omega) (by omega) (by omega) (by omega) i, z_k x (by omega)]
  rcases hx with rfl | rfl <;> rfl
theorem z_IV : IV ghz 0 (fun _ => 0) hAz hAz := by
  obtain ⟨a0, a1, a2, a3, a4, a5, a6, a7, a8⟩ := z_0
  obtain ⟨b0, b1, b2⟩ := z_2
  obtain ⟨c0, c1, c2, c3, c4, c5⟩ := z_4
  obtain ⟨d0, d1, d2, d3, d4, d5⟩ := z_9
  have g7 : ghz 7 0 = 0 := rfl
  have g6 : ∀ j, ghz 6 j = 0 := fun j => rfl
  have e15 : ∀ f, (f ≤ 1 ∨ f = 18) → gz_I hAz 15 f = 0 := fun f hf => gz_I_of (isI_e ((z_15 f (by omega)).2.2.2.1 (by omega)))
  have zi : ∀ b i, 16 ≤ b → b < 55 → ¬ (45 ≤ b ∧ b ≤ 50) → gz_I hAz b i = 0 := fun b i h1 h2 h3 => gz_I_of (z_i b i h1 h2 h3)
  have nx : ∀ s, ¬ EX ghz s := fun s h => by
    have := h.2
    rw [g6] at this
    omega
  refine ⟨⟨z_md, ?_, ?_, ?_, ?_, by rw [g7]; omega, by rw [g7]; exact e15 0 (by omega), isI_e a5, e15 1 (by omega), by omega, fun j hj => by rw [g6]; exact zi 16 j (by omega) (by omega) (by omega), fun j => by rw [g6]; omega, fun j _ => g6 j, by rw [z_n]; omega, fun x hx => by unfold ghz; rw [if_pos ⟨rfl, hx⟩], fun x h1 h2 => by unfold ghz; rw [if_neg (by omega)]⟩, Or.inl ⟨e15 18 (by omega), isI_e a6, isI_e a7, isI_e a8⟩, fun j hj => by rw [g7] at hj; omega, fun j hj => by rw [g7] at hj; omega, ⟨fun s hs => absurd hs (nx s), fun o ho e => ?_⟩, ⟨fun j _ hj => ⟨zi 23 j (by omega) (by omega) (by omega), zi 23 (8 + j) (by omega) (by omega) (by omega), zi 30 j (by omega) (by omega) (by omega), zi 31 j (by omega) (by omega) (by omega), fun i _ => ⟨zi 21 _ (by omega) (by omega) (by omega), zi 22 _ (by omega) (by omega) (by omega)⟩, fun u _ => zi 52 _ (by omega) (by omega) (by omega)⟩, fun s hs _ => ⟨zi 37 s (by omega) (by omega) (by omega), zi 43 s (by omega) (by omega) (by omega), zi 44 s (by omega) (by omega) (by omega), zi 51 s (by omega) (by omega) (by omega), fun b h1 h2 => J_of (z_j b s ⟨h1, h2⟩)⟩, fun s hs _ => zi 41 s (by omega) (by omega) (by omega)⟩⟩
  · refine ⟨fun b hb => by rw [z_n]; omega, z_k 0 (by omega), z_k 1 (by omega), z_k 2 (by omega), z_k 3 (by omega), z_k 4 (by omega), z_k 5 (by omega), z_k 6 (by omega), z_k 7 (by omega), z_k 8 (by omega), z_k 9 (by omega), z_k 10 (by omega), z_k 11 (by omega), z_k 12 (by omega), z_k 13 (by omega), z_k 14 (by omega), isR_e a0, isR_e a1, isR_e a2, isR_e a3, isI_e a4, fun f h1 h2 => ?_, fun j hj => by rw [g7] at hj; omega⟩
    have : f = 5 ∨ f = 6 ∨ f = 7 ∨ f = 8 := by omega
    rcases this with rfl | rfl | rfl | rfl
    · exact I_e (isI_e a5)
    · exact I_e (isI_e a6)
    · exact I_e (isI_e a7)
    · exact I_e (isI_e a8)
  · exact ⟨by rw [z_n]; omega, by rw [z_n]; omega, z_k 2 (by omega), z_k 3 (by omega), isR_e b0, I_e (isI_e b1), I_e (isI_e b2), fun i => I_e (z_c 3 i (by omega))⟩
  · exact ⟨isR_e c0, isR_e c1, isR_e c2, isR_e c3, J_e (isJ_e c4), J_e (isJ_e c5), fun x i h1 h2 => I_e (z_c x i (by omega))⟩
  · exact ⟨isR_e d0, isR_e d1, isR_e d2, isR_e d3, isR_e d4, fun f h1 h2 => I_e (isI_e (d5 f (by omega) h1)), fun x i h1 h2 => I_e (z_c x i (by omega)), fun x i h1 h2 => J_e (z_l x i (by omega))⟩
  · rw [zi 37 o (by omega) (by omega) (by omega)] at e
    exact absurd e (by decide)
theorem hi_0 : Inv hAz := ⟨ghz, 0, z_IV⟩
