/-- what is barred in the class is what is apart in the reference -/
abbrev rb (h h' : gz_H) (j a : Nat) : Prop := (∀ i k, i < 8 → k < 8 → (bt (gz_I h (a + 4) i) k = true ↔ 0 < md_ap h' j i k)) ∧ (∀ i k, i < 8 → 8 ≤ k → bt (gz_I h (a + 4) i) k = false) ∧ (∀ i k, i < 8 → k < 8 → (0 < md_ap h' j i k ↔ 0 < md_ap h' j k i)) ∧ ∀ i, i < 8 → ¬ 0 < md_ap h' j i i
theorem and_ne0 (x y : Int32) : ¬ x &&& y = 0 ↔ ∃ k, k < 32 ∧ bt x k = true ∧ bt y k = true := by
  constructor
  · intro h
    refine Classical.byContradiction (fun q => h (b_ext (fun i hi => ?_)))
    rw [b_0, b_and]
    cases hx : bt x i
    · rfl
    · cases hy : bt y i
      · rfl
      · exact absurd ⟨i, hi, hx, hy⟩ q
  · rintro ⟨k, hk, h1, h2⟩ q
    have h3 : bt (x &&& y) k = true := by rw [b_and, h1, h2]; rfl
    rw [q, b_0] at h3
    cases h3
theorem bt_nI {k i : Nat} (hi : i < 32) : bt (nI k) i = k.testBit i := by
  show (BitVec.ofNat 32 k).getLsbD i = _
  rw [BitVec.getLsbD_ofNat]
  simp [hi]
/-- of a number below 2^S no bit from S on stands -/
theorem bt_hi {b : Int32} {S k : Nat} (h0 : ¬ b < 0) (h1 : b < nI (2 ^ S)) (h8 : S ≤ 8) (hk : S ≤ k) : bt b k = false := by
  obtain ⟨p1, p2⟩ := gz_p2 h8
  obtain ⟨n, hn, rfl⟩ := gz_nat h0 h1 (by omega)
  by_cases h32 : k < 32
  · rw [bt_nI h32]
    exact Nat.testBit_lt_two_pow (Nat.lt_of_lt_of_le hn (Nat.pow_le_pow_right (by omega) hk))
  · exact b_big (by omega)
theorem eq_set {h h' : gz_H} {j a S : Nat} (r : rb h h' j a) (h8 : S ≤ 8) (b : Int32) : jc_set h a S b ↔ md_set h' j S b := by
  obtain ⟨r1, r2, r3, r4⟩ := r
  constructor
  · rintro ⟨g1, g2, g3⟩
    refine ⟨g1, g2, fun i hi k hk ⟨z1, z2, z3⟩ => g3 i hi ⟨z1, (and_ne0 _ _).mpr ⟨k, by omega, (r1 i k (by omega) (by omega)).mpr z3, z2⟩⟩⟩
  · rintro ⟨g1, g2, g3⟩
    refine ⟨g1, g2, fun i hi ⟨z1, z2⟩ => ?_⟩
    obtain ⟨k, hk, w1, w2⟩ := (and_ne0 _ _).mp z2
    have kS : k < S := Nat.lt_of_not_le (fun q => by rw [bt_hi g1 g2 h8 q] at w2; cases w2)
    have w3 := (r1 i k (by omega) (by omega)).mp w1
    rcases Nat.lt_trichotomy k i with q | q | q
    · exact g3 i hi k q ⟨z1, w2, w3⟩
    · subst q; exact r4 k (by omega) w3
    · exact g3 k kS i q ⟨w2, z1, (r3 i k (by omega) (by omega)).mp w3⟩
theorem bt_or1 {b : Int32} {i k : Nat} (hi : i < 31) (hk : k < 32) : bt (b ||| (1 : Int32) <<< (nI i &&& 31)) k = (bt b k || decide (k = i)) := by
  rw [b_or, one_shl i hi, bt_nI hk, Nat.testBit_two_pow]
  congr 1
  by_cases q : i = k
  · subst q; simp
  · simp [q, Ne.symm q]
theorem or_below {b : Int32} {S i : Nat} (h0 : ¬ b < 0) (h1 : b < nI (2 ^ S)) (h8 : S ≤ 8) (hi : i < S) : ¬ (b ||| (1 : Int32) <<< (nI i &&& 31)) < 0 ∧ (b ||| (1 : Int32) <<< (nI i &&& 31)) < nI (2 ^ S) := by
  obtain ⟨p1, p2⟩ := gz_p2 h8
  obtain ⟨n, hn, rfl⟩ := gz_nat h0 h1 (by omega)
  rw [one_shl i (by omega)]
  have e : nI n ||| nI (2 ^ i) = nI (n ||| 2 ^ i) := by
    apply b_ext
    intro q hq
    rw [b_or, bt_nI hq, bt_nI hq, bt_nI hq, Nat.testBit_or]
  have hlt : n ||| 2 ^ i < 2 ^ S := Nat.or_lt_two_pow hn (Nat.pow_lt_pow_right (by omega) hi)
  rw [e]
  exact ⟨nI_pos (by omega), nI_lt hlt (by omega)⟩
theorem eq_gr {h h' : gz_H} {j a S : Nat} (r : rb h h' j a) (h8 : S ≤ 8) {b : Int32} (g1 : ¬ b < 0) (g2 : b < nI (2 ^ S)) : jc_gr h a S b ↔ md_gr h' j S b := by
  have es := fun b => eq_set (S := S) r h8 b
  obtain ⟨r1, r2, r3, r4⟩ := r
  constructor
  · intro g
    have hset : jc_set h a S b := ⟨g1, g2, fun i hi ⟨z1, z2⟩ => z2 ((g i hi).mp z1)⟩
    refine ⟨(es b).mp hset, fun i hi ⟨z1, z2⟩ => ?_⟩
    have z3 := (es _).mpr z2
    have z4 : ¬ gz_I h (a + 4) i &&& b = 0 := fun q => z1 ((g i hi).mpr q)
    obtain ⟨k, hk, w1, w2⟩ := (and_ne0 _ _).mp z4
    refine z3.2.2 i hi ⟨by rw [bt_or1 (by omega) (by omega)]; simp, (and_ne0 _ _).mpr ⟨k, hk, w1, by rw [bt_or1 (by omega) hk, w2]; rfl⟩⟩
  · rintro ⟨g, g3⟩ i hi
    have hset := (es b).mpr g
    constructor
    · intro z1
      exact Classical.byContradiction (fun z2 => hset.2.2 i hi ⟨z1, z2⟩)
    · intro z1
      refine Classical.byContradiction (fun z2 => g3 i hi ⟨z2, (es _).mp ?_⟩)
      obtain ⟨o1, o2⟩ := or_below g1 g2 h8 hi
      refine ⟨o1, o2, fun k hk ⟨w1, w2⟩ => ?_⟩
      obtain ⟨q, hq, v1, v2⟩ := (and_ne0 _ _).mp w2
      rw [bt_or1 (by omega) hq, Bool.or_eq_true, decide_eq_true_eq] at v2
      rw [bt_or1 (by omega) (by omega), Bool.or_eq_true, decide_eq_true_eq] at w1
      have q8 : q < 8 := Nat.lt_of_not_le (fun z => by rw [r2 k q (by omega) z] at v1; cases v1)
      have ap := (r1 k q (by omega) q8).mp v1
      have none_i : ∀ t, t < 8 → bt b t = true → ¬ 0 < md_ap h' j i t := fun t ht hb hap => by
        have : ¬ gz_I h (a + 4) i &&& b = 0 := (and_ne0 _ _).mpr ⟨t, by omega, (r1 i t (by omega) ht).mpr hap, hb⟩
        exact this z1
      rcases w1 with w1 | w1
      · rcases v2 with v2 | v2
        · exact hset.2.2 k hk ⟨w1, (and_ne0 _ _).mpr ⟨q, hq, v1, v2⟩⟩
        · subst v2
          exact none_i k (by omega) w1 ((r3 k q (by omega) q8).mp ap)
      · subst w1
        rcases v2 with v2 | v2
        · exact none_i q q8 v2 ap
        · subst v2
          exact r4 q (by omega) ap
theorem cnt_congr {P Q : Nat → Prop} : ∀ n, (∀ b, 1 ≤ b → b ≤ n → (P b ↔ Q b)) → gz_cnt P n = gz_cnt Q n := by
  intro n
  induction n with
  | zero => intro _; rfl
  | succ n ih =>
    intro hh
    show gz_cnt P n + gz_bi (P (n + 1)) = gz_cnt Q n + gz_bi (Q (n + 1))
    rw [ih (fun b h1 h2 => hh b h1 (by omega)), bi_c (hh (n + 1) (by omega) (Nat.le_refl _))]
theorem kth_congr {P Q : Nat → Prop} : ∀ n k i, (∀ b, i ≤ b → b < i + n → (P b ↔ Q b)) → gz_kth P k n i = gz_kth Q k n i := by
  intro n
  induction n with
  | zero => intro _ _ _; rfl
  | succ n ih =>
    intro k i hh
    unfold gz_kth
    have h1 := hh i (Nat.le_refl _) (by omega)
    by_cases hp : P i
    · rw [if_pos hp, if_pos (h1.mp hp), ih (k - 1) (i + 1) (fun b q1 q2 => hh b (by omega) (by omega))]
    · rw [if_neg hp, if_neg (fun z => hp (h1.mpr z)), ih k (i + 1) (fun b q1 q2 => hh b (by omega) (by omega))]
theorem eq_sets {h h' : gz_H} {j a S : Nat} (r : rb h h' j a) (h8 : S ≤ 8) : gz_cnt (fun b => jc_gr h a S (nI b)) (2 ^ S - 1) = gz_cnt (fun b => md_gr h' j S (nI b)) (2 ^ S - 1) := by
  obtain ⟨p1, p2⟩ := gz_p2 h8
  exact cnt_congr _ (fun b h1 h2 => eq_gr r h8 (nI_pos (by omega)) (nI_lt (by omega) (by omega)))
theorem eq_kth {h h' : gz_H} {j a S : Nat} (r : rb h h' j a) (h8 : S ≤ 8) (k : Nat) : gz_kth (fun b => jc_gr h a S (nI b)) k (2 ^ S - 1) 1 = gz_kth (fun b => md_gr h' j S (nI b)) k (2 ^ S - 1) 1 := by
  obtain ⟨p1, p2⟩ := gz_p2 h8
  exact kth_congr _ k 1 (fun b h1 h2 => eq_gr r h8 (nI_pos (by omega)) (nI_lt (by omega) (by omega)))
