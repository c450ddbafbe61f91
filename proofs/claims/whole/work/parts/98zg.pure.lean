/-- greens by a row of stages -/
def dt (r a b c d : Nat) : Nat := tb r 0 * a + tb r 1 * b + tb r 2 * c + tb r 3 * d
theorem dt_1 (a b c d : Nat) : dt 1 a b c d = a := by show 1 * a + 0 * b + 0 * c + 0 * d = _; omega
theorem dt_2 (a b c d : Nat) : dt 2 a b c d = b := by show 0 * a + 1 * b + 0 * c + 0 * d = _; omega
theorem dt_3 (a b c d : Nat) : dt 3 a b c d = a + b := by show 1 * a + 1 * b + 0 * c + 0 * d = _; omega
theorem dt_4 (a b c d : Nat) : dt 4 a b c d = c := by show 0 * a + 0 * b + 1 * c + 0 * d = _; omega
theorem dt_5 (a b c d : Nat) : dt 5 a b c d = a + c := by show 1 * a + 0 * b + 1 * c + 0 * d = _; omega
theorem dt_6 (a b c d : Nat) : dt 6 a b c d = b + c := by show 0 * a + 1 * b + 1 * c + 0 * d = _; omega
theorem dt_7 (a b c d : Nat) : dt 7 a b c d = a + b + c := by show 1 * a + 1 * b + 1 * c + 0 * d = _; omega
theorem dt_8 (a b c d : Nat) : dt 8 a b c d = d := by show 0 * a + 0 * b + 0 * c + 1 * d = _; omega
theorem dt_9 (a b c d : Nat) : dt 9 a b c d = a + d := by show 1 * a + 0 * b + 0 * c + 1 * d = _; omega
theorem dt_10 (a b c d : Nat) : dt 10 a b c d = b + d := by show 0 * a + 1 * b + 0 * c + 1 * d = _; omega
theorem dt_11 (a b c d : Nat) : dt 11 a b c d = a + b + d := by show 1 * a + 1 * b + 0 * c + 1 * d = _; omega
theorem dt_12 (a b c d : Nat) : dt 12 a b c d = c + d := by show 0 * a + 0 * b + 1 * c + 1 * d = _; omega
theorem dt_13 (a b c d : Nat) : dt 13 a b c d = a + c + d := by show 1 * a + 0 * b + 1 * c + 1 * d = _; omega
theorem dt_14 (a b c d : Nat) : dt 14 a b c d = b + c + d := by show 0 * a + 1 * b + 1 * c + 1 * d = _; omega
theorem dt_15 (a b c d : Nat) : dt 15 a b c d = a + b + c + d := by show 1 * a + 1 * b + 1 * c + 1 * d = _; omega
/-- greens that add up -/
def BG (n tot a b c d : Nat) : Prop := 1 ≤ a ∧ 1 ≤ b ∧ (2 < n → 1 ≤ c) ∧ (¬ 2 < n → c = 0) ∧ (3 < n → 1 ≤ d) ∧ (¬ 3 < n → d = 0) ∧ a + b + c + d = tot
/-- greens that meet the needs -/
def FE (N : Nat → Nat) (n tot a b c d : Nat) : Prop := BG n tot a b c d ∧ N 1 ≤ a ∧ N 2 ≤ b ∧ N 3 ≤ a + b ∧ N 4 ≤ c ∧ N 5 ≤ a + c ∧ N 6 ≤ b + c ∧ N 7 ≤ a + b + c ∧ N 8 ≤ d ∧ N 9 ≤ a + d ∧ N 10 ≤ b + d ∧ N 11 ≤ a + b + d ∧ N 12 ≤ c + d ∧ N 13 ≤ a + c + d ∧ N 14 ≤ b + c + d ∧ N 15 ≤ a + b + c + d
theorem FE_iff (N : Nat → Nat) (n tot a b c d : Nat) : FE N n tot a b c d ↔ BG n tot a b c d ∧ ∀ r, 1 ≤ r → r < 16 → N r ≤ dt r a b c d := by
  unfold FE
  constructor
  · rintro ⟨h0, h1, h2, h3, h4, h5, h6, h7, h8, h9, h10, h11, h12, h13, h14, h15⟩
    refine ⟨h0, fun r q1 q2 => ?_⟩
    have : r = 1 ∨ r = 2 ∨ r = 3 ∨ r = 4 ∨ r = 5 ∨ r = 6 ∨ r = 7 ∨ r = 8 ∨ r = 9 ∨ r = 10 ∨ r = 11 ∨ r = 12 ∨ r = 13 ∨ r = 14 ∨ r = 15 := by omega
    rcases this with rfl | rfl | rfl | rfl | rfl | rfl | rfl | rfl | rfl | rfl | rfl | rfl | rfl | rfl | rfl
    · rw [dt_1]; exact h1
    · rw [dt_2]; exact h2
    · rw [dt_3]; exact h3
    · rw [dt_4]; exact h4
    · rw [dt_5]; exact h5
    · rw [dt_6]; exact h6
    · rw [dt_7]; exact h7
    · rw [dt_8]; exact h8
    · rw [dt_9]; exact h9
    · rw [dt_10]; exact h10
    · rw [dt_11]; exact h11
    · rw [dt_12]; exact h12
    · rw [dt_13]; exact h13
    · rw [dt_14]; exact h14
    · rw [dt_15]; exact h15
  · rintro ⟨h0, h⟩
    have h1 := h 1 (by omega) (by omega)
    have h2 := h 2 (by omega) (by omega)
    have h3 := h 3 (by omega) (by omega)
    have h4 := h 4 (by omega) (by omega)
    have h5 := h 5 (by omega) (by omega)
    have h6 := h 6 (by omega) (by omega)
    have h7 := h 7 (by omega) (by omega)
    have h8 := h 8 (by omega) (by omega)
    have h9 := h 9 (by omega) (by omega)
    have h10 := h 10 (by omega) (by omega)
    have h11 := h 11 (by omega) (by omega)
    have h12 := h 12 (by omega) (by omega)
    have h13 := h 13 (by omega) (by omega)
    have h14 := h 14 (by omega) (by omega)
    have h15 := h 15 (by omega) (by omega)
    rw [dt_1] at h1
    rw [dt_2] at h2
    rw [dt_3] at h3
    rw [dt_4] at h4
    rw [dt_5] at h5
    rw [dt_6] at h6
    rw [dt_7] at h7
    rw [dt_8] at h8
    rw [dt_9] at h9
    rw [dt_10] at h10
    rw [dt_11] at h11
    rw [dt_12] at h12
    rw [dt_13] at h13
    rw [dt_14] at h14
    rw [dt_15] at h15
    exact ⟨h0, h1, h2, h3, h4, h5, h6, h7, h8, h9, h10, h11, h12, h13, h14, h15⟩
/-- by the first, then the next -/
def lx (a b c d a' b' c' d' : Nat) : Prop := a < a' ∨ (a = a' ∧ (b < b' ∨ (b = b' ∧ (c < c' ∨ (c = c' ∧ d ≤ d')))))
/-- the least greens that meet the needs -/
def LX (N : Nat → Nat) (n tot a b c d : Nat) : Prop := FE N n tot a b c d ∧ ∀ a' b' c' d', FE N n tot a' b' c' d' → lx a b c d a' b' c' d'
/-- the needs beside the first -/
def nb (N : Nat → Nat) (r f : Nat) : Nat := max (N r) (N (r + 1) - f)
def lo (N : Nat → Nat) (n f s r : Nat) : Nat := if s < n then max 1 (nb N r f) else 0
def hi (N : Nat → Nat) (n f rest s r : Nat) : Nat := if s < n then rest - nb N r f else 0
def DB (N : Nat → Nat) (n f rest : Nat) : Prop := nb N 14 f ≤ rest ∧ nb N 12 f ≤ rest ∧ lo N n f 1 2 ≤ hi N n f rest 1 12 ∧ nb N 10 f ≤ rest ∧ lo N n f 2 4 ≤ hi N n f rest 2 10 ∧ nb N 6 f ≤ rest ∧ lo N n f 3 8 ≤ hi N n f rest 3 6 ∧ lo N n f 1 2 + lo N n f 2 4 + lo N n f 3 8 ≤ rest ∧ rest ≤ hi N n f rest 1 12 + hi N n f rest 2 10 + hi N n f rest 3 6
def x1 (N : Nat → Nat) (n f rest : Nat) : Nat := max (lo N n f 1 2) (rest - (hi N n f rest 2 10 + hi N n f rest 3 6))
def x2 (N : Nat → Nat) (n f rest : Nat) : Nat := max (lo N n f 2 4) (rest - (x1 N n f rest + hi N n f rest 3 6))
def x3 (N : Nat → Nat) (n f rest : Nat) : Nat := rest - x1 N n f rest - x2 N n f rest
theorem nb_le {N : Nat → Nat} {r f x : Nat} : nb N r f ≤ x ↔ N r ≤ x ∧ N (r + 1) ≤ f + x := by
  unfold nb
  omega
/-- the greens of those behind the first lie between the least and the most -/
theorem FE_bd {N : Nat → Nat} {n f rest b c d : Nat} (hn : 2 ≤ n) (n4 : n ≤ 4) (H : FE N n (f + rest) f b c d) : (nb N 14 f ≤ rest ∧ nb N 12 f ≤ rest ∧ nb N 10 f ≤ rest ∧ nb N 6 f ≤ rest) ∧ (lo N n f 1 2 ≤ b ∧ b ≤ hi N n f rest 1 12) ∧ (lo N n f 2 4 ≤ c ∧ c ≤ hi N n f rest 2 10) ∧ (lo N n f 3 8 ≤ d ∧ d ≤ hi N n f rest 3 6) ∧ b + c + d = rest := by
  obtain ⟨⟨a1, a2, a3, a4, a5, a6, a7⟩, h1, h2, h3, h4, h5, h6, h7, h8, h9, h10, h11, h12, h13, h14, h15⟩ := H
  have e : b + c + d = rest := by omega
  have n14 : nb N 14 f ≤ b + c + d := nb_le.mpr ⟨h14, by show N 15 ≤ _; omega⟩
  have n12 : nb N 12 f ≤ c + d := nb_le.mpr ⟨h12, by show N 13 ≤ _; omega⟩
  have n10 : nb N 10 f ≤ b + d := nb_le.mpr ⟨h10, by show N 11 ≤ _; omega⟩
  have n6 : nb N 6 f ≤ b + c := nb_le.mpr ⟨h6, by show N 7 ≤ _; omega⟩
  have n2 : nb N 2 f ≤ b := nb_le.mpr ⟨h2, by omega⟩
  have n4' : nb N 4 f ≤ c := nb_le.mpr ⟨h4, by omega⟩
  have n8 : nb N 8 f ≤ d := nb_le.mpr ⟨h8, by omega⟩
  unfold lo hi
  generalize nb N 14 f = y14 at *
  generalize nb N 12 f = y12 at *
  generalize nb N 10 f = y10 at *
  generalize nb N 6 f = y6 at *
  generalize nb N 2 f = y2 at *
  generalize nb N 4 f = y4 at *
  generalize nb N 8 f = y8 at *
  clear h1 h2 h3 h4 h5 h6 h7 h8 h9 h10 h11 h12 h13 h14 h15
  refine ⟨⟨by omega, by omega, by omega, by omega⟩, ⟨?_, ?_⟩, ⟨?_, ?_⟩, ⟨?_, ?_⟩, e⟩
  · rw [if_pos (by omega)]; omega
  · rw [if_pos (by omega)]; omega
  · split <;> omega
  · split <;> omega
  · split <;> omega
  · split <;> omega
theorem FE_db {N : Nat → Nat} {n f rest b c d : Nat} (hn : 2 ≤ n) (n4 : n ≤ 4) (H : FE N n (f + rest) f b c d) : DB N n f rest := by
  obtain ⟨⟨k1, k2, k3, k4⟩, ⟨b1, b2⟩, ⟨c1, c2⟩, ⟨d1, d2⟩, e⟩ := FE_bd hn n4 H
  exact ⟨k1, k2, by omega, k3, by omega, k4, by omega, by omega, by omega⟩
theorem bd_FE {N : Nat → Nat} {n f rest b c d : Nat} (hn : 2 ≤ n) (n4 : n ≤ 4) (f1 : 1 ≤ f) (fN : N 1 ≤ f) (Z : ∀ r, 2 ^ n ≤ r → r < 16 → N r = 0) (k14 : nb N 14 f ≤ rest) (k12 : nb N 12 f ≤ rest) (k10 : nb N 10 f ≤ rest) (k6 : nb N 6 f ≤ rest) (b1 : lo N n f 1 2 ≤ b) (b2 : b ≤ hi N n f rest 1 12) (c1 : lo N n f 2 4 ≤ c) (c2 : c ≤ hi N n f rest 2 10) (d1 : lo N n f 3 8 ≤ d) (d2 : d ≤ hi N n f rest 3 6) (e : b + c + d = rest) : FE N n (f + rest) f b c d := by
  have m2 : max 1 (nb N 2 f) ≤ b := by unfold lo at b1; rw [if_pos (by omega)] at b1; exact b1
  have m12 : b ≤ rest - nb N 12 f := by unfold hi at b2; rw [if_pos (by omega)] at b2; exact b2
  have zz : ∀ r, 2 ^ n ≤ r → r + 1 < 16 → nb N r f = 0 := fun r h1 h2 => by unfold nb; rw [Z r h1 (by omega), Z (r + 1) (by omega) h2]; omega
  have mc : (2 < n ∧ max 1 (nb N 4 f) ≤ c ∧ c ≤ rest - nb N 10 f) ∨ (¬ 2 < n ∧ c = 0 ∧ nb N 4 f = 0) := by
    unfold lo at c1
    unfold hi at c2
    by_cases q : 2 < n
    · rw [if_pos q] at c1 c2; exact Or.inl ⟨q, c1, c2⟩
    · rw [if_neg q] at c2
      have : n = 2 := by omega
      subst this
      exact Or.inr ⟨q, by omega, zz 4 (by decide) (by decide)⟩
  have md : (3 < n ∧ max 1 (nb N 8 f) ≤ d ∧ d ≤ rest - nb N 6 f) ∨ (¬ 3 < n ∧ d = 0 ∧ nb N 8 f = 0) := by
    unfold lo at d1
    unfold hi at d2
    by_cases q : 3 < n
    · rw [if_pos q] at d1 d2; exact Or.inl ⟨q, d1, d2⟩
    · rw [if_neg q] at d2
      refine Or.inr ⟨q, by omega, zz 8 ?_ (by decide)⟩
      have : n = 2 ∨ n = 3 := by omega
      rcases this with rfl | rfl <;> decide
  have n14 : nb N 14 f ≤ b + c + d := by omega
  have n12 : nb N 12 f ≤ c + d := by omega
  have n10 : nb N 10 f ≤ b + d := by omega
  have n6 : nb N 6 f ≤ b + c := by omega
  have n2 : nb N 2 f ≤ b := by omega
  have n4' : nb N 4 f ≤ c := by omega
  have n8 : nb N 8 f ≤ d := by omega
  rw [nb_le] at n14 n12 n10 n6 n2 n4' n8
  refine ⟨⟨f1, by omega, by omega, by omega, by omega, by omega, by omega⟩, fN, n2.1, n2.2, n4'.1, n4'.2, n6.1, ?_, n8.1, n8.2, n10.1, ?_, n12.1, ?_, n14.1, ?_⟩
  · have : N 7 ≤ f + (b + c) := n6.2
    omega
  · have : N 11 ≤ f + (b + d) := n10.2
    omega
  · have : N 13 ≤ f + (c + d) := n12.2
    omega
  · have : N 15 ≤ f + (b + c + d) := n14.2
    omega
theorem x_bd {L1 L2 L3 U1 U2 U3 rest : Nat} (q1 : L1 ≤ U1) (q2 : L2 ≤ U2) (q3 : L3 ≤ U3) (s1 : L1 + L2 + L3 ≤ rest) (s2 : rest ≤ U1 + U2 + U3) : ∀ y1 y2 y3, y1 = max L1 (rest - (U2 + U3)) → y2 = max L2 (rest - (y1 + U3)) → y3 = rest - y1 - y2 → (L1 ≤ y1 ∧ y1 ≤ U1) ∧ (L2 ≤ y2 ∧ y2 ≤ U2) ∧ (L3 ≤ y3 ∧ y3 ≤ U3) ∧ y1 + y2 + y3 = rest ∧ ∀ b c d, L1 ≤ b → b ≤ U1 → L2 ≤ c → c ≤ U2 → L3 ≤ d → d ≤ U3 → b + c + d = rest → y1 < b ∨ (y1 = b ∧ (y2 < c ∨ (y2 = c ∧ y3 ≤ d))) := by
  intro y1 y2 y3 e1 e2 e3
  have a1 : (L1 ≤ y1 ∧ y1 ≤ U1) := by omega
  have a2 : (L2 ≤ y2 ∧ y2 ≤ U2) := by omega
  have a3 : y1 + y2 ≤ rest := by omega
  have a4 : (L3 ≤ y3 ∧ y3 ≤ U3) := by omega
  refine ⟨a1, a2, a4, by omega, fun b c d b1 b2 c1 c2 d1 d2 e => ?_⟩
  have : y1 ≤ b := by omega
  by_cases q : y1 < b
  · exact Or.inl q
  · have eb : y1 = b := by omega
    refine Or.inr ⟨eb, ?_⟩
    have : y2 ≤ c := by omega
    by_cases q' : y2 < c
    · exact Or.inl q'
    · exact Or.inr ⟨by omega, by omega⟩
theorem DB_fe {N : Nat → Nat} {n f rest : Nat} (hn : 2 ≤ n) (n4 : n ≤ 4) (f1 : 1 ≤ f) (fN : N 1 ≤ f) (Z : ∀ r, 2 ^ n ≤ r → r < 16 → N r = 0) (H : DB N n f rest) : FE N n (f + rest) f (x1 N n f rest) (x2 N n f rest) (x3 N n f rest) ∧ ∀ b c d, FE N n (f + rest) f b c d → lx f (x1 N n f rest) (x2 N n f rest) (x3 N n f rest) f b c d := by
  obtain ⟨q14, q12, q1, q10, q2, q6, q3, s1, s2⟩ := H
  obtain ⟨⟨a1, a2⟩, ⟨a3, a4⟩, ⟨a5, a6⟩, a7, a8⟩ := x_bd q1 q2 q3 s1 s2 (x1 N n f rest) (x2 N n f rest) (x3 N n f rest) rfl rfl rfl
  refine ⟨bd_FE hn n4 f1 fN Z q14 q12 q10 q6 a1 a2 a3 a4 a5 a6 a7, fun b c d F => ?_⟩
  obtain ⟨-, ⟨b1, b2⟩, ⟨c1, c2⟩, ⟨d1, d2⟩, e⟩ := FE_bd hn n4 F
  exact Or.inr ⟨rfl, a8 b c d b1 b2 c1 c2 d1 d2 e⟩
/-- the first first green by which the others can be dealt out -/
theorem LX_of {N : Nat → Nat} {n tot f : Nat} (hn : 2 ≤ n) (n4 : n ≤ 4) (Z : ∀ r, 2 ^ n ≤ r → r < 16 → N r = 0) (f1 : max 1 (N 1) ≤ f) (ft : f < tot) (H : DB N n f (tot - f)) (no : ∀ f', max 1 (N 1) ≤ f' → f' < f → ¬ DB N n f' (tot - f')) : LX N n tot f (x1 N n f (tot - f)) (x2 N n f (tot - f)) (x3 N n f (tot - f)) := by
  have e : ∀ g, g < tot → g + (tot - g) = tot := fun g hg => by omega
  obtain ⟨a1, a2⟩ := DB_fe hn n4 (by omega) (by omega) Z H
  rw [e f ft] at a1 a2
  refine ⟨a1, fun a' b' c' d' F => ?_⟩
  have F' := F
  obtain ⟨⟨g1, g2, -, -, -, -, g3⟩, g4, -⟩ := F'
  by_cases q : f < a'
  · exact Or.inl q
  · by_cases q' : f = a'
    · subst q'; exact a2 _ _ _ F
    · exfalso
      refine no a' (by omega) (by omega) (FE_db hn n4 (b := b') (c := c') (d := d') ?_)
      rw [e a' (by omega)]
      exact F
theorem LX_no {N : Nat → Nat} {n tot : Nat} (hn : 2 ≤ n) (n4 : n ≤ 4) (no : ∀ f', max 1 (N 1) ≤ f' → f' < tot → ¬ DB N n f' (tot - f')) : ¬ ∃ a b c d, FE N n tot a b c d := by
  rintro ⟨a', b', c', d', F⟩
  have F' := F
  obtain ⟨⟨g1, g2, -, -, -, -, g3⟩, g4, -⟩ := F'
  refine no a' (by omega) (by omega) (FE_db hn n4 (b := b') (c := c') (d := d') ?_)
  rw [show a' + (tot - a') = tot by omega]
  exact F
/-- what the others need -/
def oN (N : Nat → Nat) (r a b : Nat) : Nat := N r - (if r % 2 = 1 then a else 0) - (if r / 2 % 2 = 1 then b else 0)
def o3 (N : Nat → Nat) (a b : Nat) : Nat := max (max (max (max 1 (N 4)) (N 5 - a)) (N 6 - b)) (N 7 - a - b)
def o4 (N : Nat → Nat) (n a b : Nat) : Nat := max (max (max (max (if 3 < n then 1 else 0) (N 8)) (N 9 - a)) (N 10 - b)) (N 11 - a - b)
def ob (N : Nat → Nat) (a b : Nat) : Nat := max (max (max (max 0 (N 12)) (N 13 - a)) (N 14 - b)) (N 15 - a - b)
def oth (N : Nat → Nat) (n a b : Nat) : Nat := if n = 2 then 0 else max (o3 N a b + o4 N n a b) (ob N a b)
theorem oth_fe {N : Nat → Nat} {n T a b : Nat} (hn : 2 ≤ n) (n4 : n ≤ 4) (Z : ∀ r, 2 ^ n ≤ r → r < 16 → N r = 0) (a1 : max 1 (N 1) ≤ a) (b1 : max 1 (N 2) ≤ b) (ab : N 3 ≤ a + b) (le : a + b + oth N n a b ≤ T) : ∃ a b c d, FE N n T a b c d := by
  by_cases n2 : n = 2
  · subst n2
    have z : ∀ r, 4 ≤ r → r < 16 → N r = 0 := fun r h1 h2 => Z r h1 h2
    refine ⟨a + (T - a - b), b, 0, 0, ⟨by omega, by omega, by omega, by omega, by omega, by omega, ?_⟩, by omega, by omega, by omega, ?_⟩
    · unfold oth at le; rw [if_pos rfl] at le; omega
    · rw [z 4 (by omega) (by omega), z 5 (by omega) (by omega), z 6 (by omega) (by omega), z 7 (by omega) (by omega), z 8 (by omega) (by omega), z 9 (by omega) (by omega), z 10 (by omega) (by omega), z 11 (by omega) (by omega), z 12 (by omega) (by omega), z 13 (by omega) (by omega), z 14 (by omega) (by omega), z 15 (by omega) (by omega)]
      refine ⟨?_, ?_, ?_, ?_, ?_, ?_, ?_, ?_, ?_, ?_, ?_, ?_⟩ <;> exact Nat.zero_le _
  · unfold oth at le
    rw [if_neg n2] at le
    have p3 : 1 ≤ o3 N a b ∧ N 4 ≤ o3 N a b ∧ N 5 ≤ a + o3 N a b ∧ N 6 ≤ b + o3 N a b ∧ N 7 ≤ a + b + o3 N a b := by unfold o3; omega
    have p4 : N 8 ≤ o4 N n a b ∧ N 9 ≤ a + o4 N n a b ∧ N 10 ≤ b + o4 N n a b ∧ N 11 ≤ a + b + o4 N n a b := by unfold o4; omega
    have p5 : N 12 ≤ ob N a b ∧ N 13 ≤ a + ob N a b ∧ N 14 ≤ b + ob N a b ∧ N 15 ≤ a + b + ob N a b := by unfold ob; omega
    have p6 : (3 < n → 1 ≤ o4 N n a b) ∧ (¬ 3 < n → o4 N n a b = 0) := by
      constructor
      · intro q; unfold o4; rw [if_pos q]; omega
      · intro q
        have : n = 3 := by omega
        subst this
        unfold o4
        rw [if_neg q, Z 8 (by decide) (by decide), Z 9 (by decide) (by decide), Z 10 (by decide) (by decide), Z 11 (by decide) (by decide)]
        omega
    generalize o3 N a b = y3 at *
    generalize o4 N n a b = y4 at *
    generalize ob N a b = yb at *
    have e : ∃ c, y3 ≤ c ∧ yb ≤ c + y4 ∧ a + b + c + y4 = T := ⟨T - a - b - y4, by omega, by omega, by omega⟩
    obtain ⟨c, e1, e2, e3⟩ := e
    exact ⟨a, b, c, y4, ⟨by omega, by omega, by omega, by omega, p6.1, p6.2, e3⟩, by omega, by omega, ab, by omega, by omega, by omega, by omega, by omega, by omega, by omega, by omega, by omega, by omega, by omega, by omega⟩
theorem fe_oth {N : Nat → Nat} {n T a b c d : Nat} (hn : 2 ≤ n) (n4 : n ≤ 4) (F : FE N n T a b c d) : max 1 (N 1) ≤ a ∧ max 1 (N 2) ≤ b ∧ N 3 ≤ a + b ∧ a + b + oth N n a b ≤ T := by
  obtain ⟨⟨a1, a2, a3, a4, a5, a6, a7⟩, h1, h2, h3, h4, h5, h6, h7, h8, h9, h10, h11, h12, h13, h14, h15⟩ := F
  refine ⟨by omega, by omega, h3, ?_⟩
  unfold oth
  by_cases n2 : n = 2
  · rw [if_pos n2]; omega
  · rw [if_neg n2]
    have p3 : o3 N a b ≤ c := by unfold o3; omega
    have p4 : o4 N n a b ≤ d := by
      unfold o4
      by_cases q : 3 < n
      · rw [if_pos q]; omega
      · rw [if_neg q]; omega
    have p5 : ob N a b ≤ c + d := by unfold ob; omega
    omega
