/-- bits and how many -/
def tb (x k : Nat) : Nat := x / 2 ^ k % 2
def sb (x : Nat) : Nat → Nat
  | 0 => 0
  | n + 1 => sb x n + tb x n
theorem tb_d (x a b : Nat) : tb x (a + b) = tb (x / 2 ^ a) b := by unfold tb; rw [Nat.pow_add, Nat.div_div_eq_div_mul]
theorem sb8 (x n : Nat) : sb x (n + 8) = sb x n + pcb (x / 2 ^ n % 256) := by
  show sb x n + tb x n + tb x (n + 1) + tb x (n + 2) + tb x (n + 3) + tb x (n + 4) + tb x (n + 5) + tb x (n + 6) + tb x (n + 7) = _
  have e0 : tb x n = tb (x / 2 ^ n) 0 := tb_d x n 0
  rw [e0, tb_d x n 1, tb_d x n 2, tb_d x n 3, tb_d x n 4, tb_d x n 5, tb_d x n 6, tb_d x n 7]
  generalize x / 2 ^ n = y
  unfold tb pcb
  omega
theorem pop_sb (x : Nat) : pop8 x = sb x 64 := by
  rw [sb8 x 56, sb8 x 48, sb8 x 40, sb8 x 32, sb8 x 24, sb8 x 16, sb8 x 8, sb8 x 0]
  have e : ∀ n, x / 2 ^ (n + 8) = x / 2 ^ n / 256 := fun n => by rw [Nat.pow_add, ← Nat.div_div_eq_div_mul]
  rw [e 48, e 40, e 32, e 24, e 16, e 8, e 0, Nat.pow_zero, Nat.div_one]
  unfold pop8
  show _ = 0 + _ + _ + _ + _ + _ + _ + _ + _
  rw [Nat.zero_add]
theorem tb_tb (x k : Nat) : tb x k = if x.testBit k = true then 1 else 0 := by
  rw [Nat.testBit_eq_decide_div_mod_eq]
  unfold tb
  by_cases q : x / 2 ^ k % 2 = 1
  · rw [if_pos (decide_eq_true q), q]
  · rw [if_neg (by rw [decide_eq_true_eq]; exact q)]; omega
def bm (f : Nat → Bool) : Nat → Nat
  | 0 => 0
  | n + 1 => bm f n + if f n = true then 2 ^ n else 0
theorem bm_lt (f : Nat → Bool) : ∀ n, bm f n < 2 ^ n
  | 0 => by show 0 < 1; omega
  | n + 1 => by
    have h := bm_lt f n
    show bm f n + _ < _
    rw [Nat.pow_succ]
    split <;> omega
theorem bm_bit (f : Nat → Bool) : ∀ n k, (bm f n).testBit k = (decide (k < n) && f k)
  | 0, k => by show (0 : Nat).testBit k = _; rw [Nat.zero_testBit]; simp
  | n + 1, k => by
    have ih := bm_bit f n
    have h := bm_lt f n
    show (bm f n + _).testBit k = _
    by_cases q : f n = true
    · rw [if_pos q, Nat.add_comm, show 2 ^ n + bm f n = 2 ^ n * 1 + bm f n by rw [Nat.mul_one], Nat.testBit_two_pow_mul_add _ h]
      by_cases z : k < n
      · rw [if_pos z, ih, decide_eq_true z, decide_eq_true (show k < n + 1 by omega)]
      · rw [if_neg z]
        by_cases y : k = n
        · subst y; rw [Nat.sub_self, q, decide_eq_true (show k < k + 1 by omega)]; rfl
        · rw [decide_eq_false (show ¬ k < n + 1 by omega), Bool.false_and, Nat.testBit_eq_decide_div_mod_eq, Nat.div_eq_of_lt (Nat.one_lt_two_pow (by omega))]; rfl
    · rw [if_neg q, Nat.add_zero, ih]
      by_cases z : k < n
      · rw [decide_eq_true z, decide_eq_true (show k < n + 1 by omega)]
      · rw [decide_eq_false z]
        by_cases y : k = n
        · subst y; rw [Bool.eq_false_iff.mpr q, Bool.and_false, Bool.and_false]
        · rw [decide_eq_false (show ¬ k < n + 1 by omega)]
theorem bm_and (f e : Nat → Bool) (n : Nat) : bm f n &&& bm e n = bm (fun t => f t && e t) n := by
  apply Nat.eq_of_testBit_eq
  intro k
  rw [Nat.testBit_and, bm_bit, bm_bit, bm_bit]
  cases decide (k < n) <;> simp
theorem bm_or (f : Nat → Bool) (n : Nat) : bm f n ||| (if f n = true then 2 ^ n else 0) = bm f (n + 1) := by
  show _ = bm f n + _
  by_cases q : f n = true
  · rw [if_pos q, Nat.or_comm, Nat.add_comm]
    have := Nat.two_pow_add_eq_or_of_lt (bm_lt f n) 1
    rw [Nat.mul_one] at this
    exact this.symm
  · rw [if_neg q, Nat.or_zero, Nat.add_zero]
theorem bm_all (f : Nat → Bool) (n : Nat) (hn : n ≤ 64) : bm f n &&& (2 ^ 64 - 1) = bm f n := by
  rw [Nat.and_two_pow_sub_one_eq_mod]
  exact Nat.mod_eq_of_lt (Nat.lt_of_lt_of_le (bm_lt f n) (Nat.pow_le_pow_right (by omega) hn))
def cN (f : Nat → Bool) : Nat → Nat
  | 0 => 0
  | n + 1 => cN f n + if f n = true then 1 else 0
theorem cN_le (f : Nat → Bool) : ∀ n, cN f n ≤ n
  | 0 => Nat.le_refl _
  | n + 1 => by
    have := cN_le f n
    show cN f n + _ ≤ _
    split <;> omega
theorem sb_bm (f : Nat → Bool) (n : Nat) : ∀ m, sb (bm f n) m = cN f (min m n)
  | 0 => by rw [Nat.zero_min]; rfl
  | m + 1 => by
    have ih := sb_bm f n m
    show sb (bm f n) m + tb (bm f n) m = _
    rw [ih, tb_tb, bm_bit]
    by_cases q : m < n
    · rw [Nat.min_eq_left (by omega), Nat.min_eq_left (by omega), decide_eq_true q, Bool.true_and]; rfl
    · rw [Nat.min_eq_right (by omega), Nat.min_eq_right (by omega), decide_eq_false q, Bool.false_and]; rfl
theorem pop_bm (f : Nat → Bool) {n : Nat} (hn : n ≤ 64) : pop8 (bm f n) = cN f n := by rw [pop_sb, sb_bm, Nat.min_eq_right hn]
theorem cN_add (f : Nat → Bool) (a : Nat) : ∀ d, cN f (a + d) = cN f a + cN (fun t => f (a + t)) d
  | 0 => rfl
  | d + 1 => by
    have ih := cN_add f a d
    show cN f (a + d) + _ = cN f a + (cN _ d + _)
    rw [ih, Nat.add_assoc]
    rfl
theorem cN_split (f : Nat → Bool) (cy : Nat) : cN f (min cy 45) + cN (fun t => f (45 + t)) (cy - 45) = cN f cy := by
  by_cases q : cy ≤ 45
  · rw [Nat.min_eq_left q, show cy - 45 = 0 by omega]; rfl
  · rw [Nat.min_eq_right (by omega), ← cN_add, show 45 + (cy - 45) = cy by omega]
theorem cnt_cN (Q : Nat → Prop) (f : Nat → Bool) : ∀ n, (∀ t, t < n → (f t = true ↔ Q t)) → gz_cnt (fun b => Q (b - 1)) n = nI (cN f n)
  | 0, _ => rfl
  | n + 1, hf => by
    have ih := cnt_cN Q f n (fun t ht => hf t (by omega))
    show _ + gz_bi (Q (n + 1 - 1)) = nI (cN f n + _)
    rw [ih, Nat.add_sub_cancel]
    by_cases q : Q n
    · rw [bi_t q, if_pos ((hf n (by omega)).mpr q)]; exact nI_add _ _
    · rw [bi_f q, if_neg (fun z => q ((hf n (by omega)).mp z))]; exact nI_add _ _
/-- a loop that keeps something -/
theorem gz_forI {L k X : Nat} {a : gz_Sx} (n : Nat) (I : Nat → List Value → gz_H → Prop) (R : List Value → gz_H → Prop) (hX : X ≠ L) (hs : ∀ s e h, s < n → I s e h → ∃ e' h', a e h = some (.inl (L, e', h')) ∧ I (s + 1) (e'.take k) h') (hx : ∀ e h, I n e h → ∃ e' h', a e h = some (.inl (X, e', h')) ∧ R e' h') : ∀ d s e h, s + d = n → I s (e.take k) h → ∃ e' h', gz_loop L k a e h = some (.inl (X, e', h')) ∧ R e' h' := by
  intro d
  induction d with
  | zero =>
    intro s e h hd i
    have : s = n := by omega
    subst this
    obtain ⟨e', h', q1, q2⟩ := hx _ _ i
    exact ⟨e', h', gz_loop_exit q1 hX, q2⟩
  | succ d ih =>
    intro s e h hd i
    obtain ⟨e', h', q1, q2⟩ := hs s _ h (by omega) i
    obtain ⟨e2, h2, q3, q4⟩ := ih (s + 1) e' h' (by omega) q2
    exact ⟨e2, h2, gz_loop_next q1 q3, q4⟩
theorem yc_J {h : gz_H} (y : yc h) (b i : Nat) (x : Int64) (hb : b = 13 ∨ b = 14) : yc (gz_set h b i (.long x)) := by
  obtain ⟨w1, w2, w3, w4, w5, w6, w7, w8⟩ := y
  have o : ∀ b' i', ¬ (b' = b ∧ i' = i) → gz_v (gz_set h b i (.long x)) b' i' = gz_v h b' i' := fun b' i' n => by rw [gz_v_set, if_neg n]
  refine ⟨by rw [o _ _ (by omega)]; exact w1, by rw [o _ _ (by omega)]; exact w2, by rw [o _ _ (by omega)]; exact w3, by rw [o _ _ (by omega)]; exact w4, by rw [o _ _ (by omega)]; exact w5, fun f h1 h2 => ?_, fun x' i' h1 h2 => ?_, fun x' i' h1 h2 => ?_⟩
  · rw [I_seto _ _ _ _ _ _ (by omega), o _ _ (by omega)]; exact w6 f h1 h2
  · rw [I_seto _ _ _ _ _ _ (by omega), o _ _ (by omega)]; exact w7 x' i' h1 h2
  · rw [J_set, gz_v_set]
    by_cases q : x' = b ∧ i' = i
    · rw [if_pos q, if_pos q]
    · rw [if_neg q, if_neg q]; exact w8 x' i' h1 h2
/-- only bits of the way at these places change -/
def LF (A : Nat → Prop) (h h' : gz_H) : Prop := h'.1 = h.1 ∧ (∀ x, gz_k h' x = gz_k h x) ∧ yc h' ∧ ∀ b i, ¬ ((b = 13 ∨ b = 14) ∧ A i) → gz_v h' b i = gz_v h b i
theorem LF_rf {A : Nat → Prop} {h : gz_H} (y : yc h) : LF A h h := ⟨rfl, fun _ => rfl, y, fun _ _ _ => rfl⟩
theorem LF_set {A : Nat → Prop} {h h' : gz_H} (w : LF A h h') {b i : Nat} (x : Int64) (hb : b = 13 ∨ b = 14) (hi : A i) : LF A h (gz_set h' b i (.long x)) := ⟨w.1, fun z => w.2.1 z, yc_J w.2.2.1 _ _ _ hb, fun b' i' n => by
  rw [gz_v_set, if_neg (fun z => n ⟨by rw [z.1]; exact hb, by rw [z.2]; exact hi⟩)]; exact w.2.2.2 b' i' n⟩
theorem LF_tr {A : Nat → Prop} {h h' h'' : gz_H} (a : LF A h h') (b : LF A h' h'') : LF A h h'' := ⟨b.1.trans a.1, fun x => (b.2.1 x).trans (a.2.1 x), b.2.2.1, fun x i n => (b.2.2.2 x i n).trans (a.2.2.2 x i n)⟩
theorem LF_mo {A B : Nat → Prop} {h h' : gz_H} (m : ∀ i, A i → B i) (a : LF A h h') : LF B h h' := ⟨a.1, a.2.1, a.2.2.1, fun x i n => a.2.2.2 x i (fun z => n ⟨z.1, m i z.2⟩)⟩
theorem LF_sm {A : Nat → Prop} {h h' : gz_H} (a : LF A h h') {x : Nat} (n : x ≠ 13) (n' : x ≠ 14) : sm h h' x := ⟨funext (fun i => a.2.2.2 x i (by omega)), a.2.1 x⟩
theorem LF_cs {A : Nat → Prop} {h h' : gz_H} {J : Nat} (a : LF A h h') (c : cs h J) : cs h' J := cs_fr (by rw [a.1]; exact Nat.le_refl _) (fun x _ => a.2.1 x) (fun f _ => a.2.2.2 _ _ (by omega)) (fun f h1 h2 => by rw [sm_I (LF_sm a (by omega) (by omega)), a.2.2.2 _ _ (by omega)]; exact c.2.2.2.2.2.2.2.2.2.2.2.2.2.2.2.2.2.2.2.2.2.1 f h1 h2) (fun i _ => a.2.2.2 _ _ (by omega)) c
theorem LF_pc {A : Nat → Prop} {h h' : gz_H} {q n : Nat} (a : LF A h h') (hq : 55 ≤ q) (c : pc h q n) : pc h' q n := pc_sm (by rw [a.1]; exact Nat.le_refl _) (fun k _ => LF_sm a (by omega) (by omega)) c
theorem LF_J {A : Nat → Prop} {h h' : gz_H} (a : LF A h h') {b i : Nat} (n : ¬ A i) : gz_J h' b i = gz_J h b i := by
  unfold gz_J; rw [a.2.2.2 b i (fun z => n z.2)]
