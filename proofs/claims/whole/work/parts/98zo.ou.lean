def gf (a b c d k : Nat) : Nat := if k = 0 then a else if k = 1 then b else if k = 2 then c else d
def gsm (f : Nat → Bool) (t : Nat → Nat) : Nat → Nat
  | 0 => 0
  | s + 1 => gsm f t s + if f s = true then t s else 0
theorem tb_bm (f : Nat → Bool) (n k : Nat) : tb (bm f n) k = if k < n ∧ f k = true then 1 else 0 := by
  rw [tb_tb, bm_bit]
  by_cases q : k < n <;> by_cases r : f k = true <;> simp [q, r]
theorem gsm_dt (f : Nat → Bool) (a b c d : Nat) {n : Nat} (n2 : 2 ≤ n) (n4 : n ≤ 4) : gsm f (gf a b c d) n = dt (bm f n) a b c d := by
  unfold dt
  rw [tb_bm, tb_bm, tb_bm, tb_bm]
  have : n = 2 ∨ n = 3 ∨ n = 4 := by omega
  have e0 : gf a b c d 0 = a := rfl
  have e1 : gf a b c d 1 = b := rfl
  have e2 : gf a b c d 2 = c := rfl
  have e3 : gf a b c d 3 = d := rfl
  rcases this with rfl | rfl | rfl
  · show 0 + (if f 0 = true then gf a b c d 0 else 0) + (if f 1 = true then gf a b c d 1 else 0) = _
    rw [e0, e1]
    by_cases f0 : f 0 = true <;> by_cases f1 : f 1 = true <;> simp [f0, f1]
  · show 0 + (if f 0 = true then gf a b c d 0 else 0) + (if f 1 = true then gf a b c d 1 else 0) + (if f 2 = true then gf a b c d 2 else 0) = _
    rw [e0, e1, e2]
    by_cases f0 : f 0 = true <;> by_cases f1 : f 1 = true <;> by_cases f2 : f 2 = true <;> simp [f0, f1, f2]
  · show 0 + (if f 0 = true then gf a b c d 0 else 0) + (if f 1 = true then gf a b c d 1 else 0) + (if f 2 = true then gf a b c d 2 else 0) + (if f 3 = true then gf a b c d 3 else 0) = _
    rw [e0, e1, e2, e3]
    by_cases f0 : f 0 = true <;> by_cases f1 : f 1 = true <;> by_cases f2 : f 2 = true <;> by_cases f3 : f 3 = true <;> simp [f0, f1, f2, f3]
theorem gsm_le (f : Nat → Bool) (t : Nat → Nat) (M : Nat) : ∀ n, (∀ s, s < n → t s ≤ M) → gsm f t n ≤ n * M
  | 0, _ => by rw [Nat.zero_mul]; exact Nat.le_refl _
  | n + 1, h => by
    have ih := gsm_le f t M n (fun s hs => h s (by omega))
    have := h n (by omega)
    show gsm f t n + _ ≤ _
    rw [Nat.succ_mul]
    split <;> omega
theorem dt_pos {n T a b c d r : Nat} (n4 : n ≤ 4) (g : BG n T a b c d) (h0 : r ≠ 0) (hr : r < 2 ^ n) : 0 < dt r a b c d := by
  obtain ⟨g1, g2, g3, -, g4, -, -⟩ := g
  have h16 : r < 16 := Nat.lt_of_lt_of_le hr (Nat.pow_le_pow_right (n := 2) (i := n) (j := 4) (by omega) n4)
  have k3 : 4 ≤ r → 1 ≤ c ∨ 8 ≤ r := fun q => by
    by_cases z : 2 < n
    · exact Or.inl (g3 z)
    · exfalso
      have := Nat.pow_le_pow_right (n := 2) (i := n) (j := 2) (by omega) (by omega)
      omega
  have k4 : 8 ≤ r → 1 ≤ d ∧ 1 ≤ c := fun q => by
    by_cases z : 3 < n
    · exact ⟨g4 z, g3 (by omega)⟩
    · exfalso
      have := Nat.pow_le_pow_right (n := 2) (i := n) (j := 3) (by omega) (by omega)
      omega
  have : r = 1 ∨ r = 2 ∨ r = 3 ∨ r = 4 ∨ r = 5 ∨ r = 6 ∨ r = 7 ∨ r = 8 ∨ r = 9 ∨ r = 10 ∨ r = 11 ∨ r = 12 ∨ r = 13 ∨ r = 14 ∨ r = 15 := by omega
  rcases this with rfl | rfl | rfl | rfl | rfl | rfl | rfl | rfl | rfl | rfl | rfl | rfl | rfl | rfl | rfl
  · rw [dt_1]; omega
  · rw [dt_2]; omega
  · rw [dt_3]; omega
  · rw [dt_4]; omega
  · rw [dt_5]; omega
  · rw [dt_6]; omega
  · rw [dt_7]; omega
  · rw [dt_8]; omega
  · rw [dt_9]; omega
  · rw [dt_10]; omega
  · rw [dt_11]; omega
  · rw [dt_12]; omega
  · rw [dt_13]; omega
  · rw [dt_14]; omega
  · rw [dt_15]; omega
theorem dt_0 (a b c d : Nat) : dt 0 a b c d = 0 := by show 0 * a + 0 * b + 0 * c + 0 * d = _; omega
/-- the greatest load, as parts -/
def ou (cy : Nat) (Cn Rt s : Nat → Nat) : Nat → Nat × Nat
  | 0 => (0, 1)
  | i + 1 => if s i = 0 then ou cy Cn Rt s i else if Cn i * cy * (ou cy Cn Rt s i).2 ≤ (ou cy Cn Rt s i).1 * (Rt i * s i) then ou cy Cn Rt s i else (Cn i * cy, Rt i * s i)
theorem ou_sp {cy : Nat} {Cn Rt s : Nat → Nat} : ∀ S, (∀ i, i < S → Cn i ≤ 3600 ∧ 0 < Rt i ∧ Rt i ≤ 3600 ∧ s i ≤ 90) → cy ≤ 90 → ((ou cy Cn Rt s S).1 ≤ 324000 ∧ 0 < (ou cy Cn Rt s S).2 ∧ (ou cy Cn Rt s S).2 ≤ 324000) ∧ (∀ i, i < S → s i ≠ 0 → (ou cy Cn Rt s S).2 * (Cn i * cy) ≤ Rt i * s i * (ou cy Cn Rt s S).1) ∧ (((ou cy Cn Rt s S).1 = 0 ∧ (ou cy Cn Rt s S).2 = 1) ∨ ∃ i, i < S ∧ s i ≠ 0 ∧ 0 < Cn i ∧ (ou cy Cn Rt s S).1 = Cn i * cy ∧ (ou cy Cn Rt s S).2 = Rt i * s i)
  | 0, _, _ => ⟨⟨Nat.zero_le _, Nat.one_pos, by show 1 ≤ _; decide⟩, fun i hi => by omega, Or.inl ⟨rfl, rfl⟩⟩
  | S + 1, h, hc => by
    obtain ⟨⟨i1, i2, i3⟩, i4, i5⟩ := ou_sp S (fun i hi => h i (by omega)) hc
    obtain ⟨b1, b2, b3, b4⟩ := h S (by omega)
    have e : ou cy Cn Rt s (S + 1) = if s S = 0 then ou cy Cn Rt s S else if Cn S * cy * (ou cy Cn Rt s S).2 ≤ (ou cy Cn Rt s S).1 * (Rt S * s S) then ou cy Cn Rt s S else (Cn S * cy, Rt S * s S) := rfl
    have up : ((ou cy Cn Rt s S).1 = 0 ∧ (ou cy Cn Rt s S).2 = 1) ∨ (∃ i, i < S + 1 ∧ s i ≠ 0 ∧ 0 < Cn i ∧ (ou cy Cn Rt s S).1 = Cn i * cy ∧ (ou cy Cn Rt s S).2 = Rt i * s i) := by
      rcases i5 with z | ⟨i, z1, z2⟩
      · exact Or.inl z
      · exact Or.inr ⟨i, by omega, z2⟩
    by_cases q : s S = 0
    · rw [e, if_pos q]
      refine ⟨⟨i1, i2, i3⟩, fun i hi hs => ?_, up⟩
      by_cases z : i = S
      · rw [z] at hs; exact absurd q hs
      · exact i4 i (by omega) hs
    · by_cases r : Cn S * cy * (ou cy Cn Rt s S).2 ≤ (ou cy Cn Rt s S).1 * (Rt S * s S)
      · rw [e, if_neg q, if_pos r]
        refine ⟨⟨i1, i2, i3⟩, fun i hi hs => ?_, up⟩
        by_cases z : i = S
        · rw [z, Nat.mul_comm, Nat.mul_comm (Rt S * s S)]; exact r
        · exact i4 i (by omega) hs
      · rw [e, if_neg q, if_neg r]
        have c1 : Cn S * cy ≤ 3600 * 90 := Nat.mul_le_mul b1 hc
        have c2 : Rt S * s S ≤ 3600 * 90 := Nat.mul_le_mul b3 b4
        have c3 : 0 < Rt S * s S := Nat.mul_pos b2 (Nat.pos_of_ne_zero q)
        refine ⟨⟨by show Cn S * cy ≤ _; omega, c3, by show Rt S * s S ≤ _; omega⟩, fun i hi hs => ?_, Or.inr ⟨S, by omega, q, ?_, rfl, rfl⟩⟩
        · show Rt S * s S * (Cn i * cy) ≤ Rt i * s i * (Cn S * cy)
          by_cases z : i = S
          · rw [z]; exact Nat.le_refl _
          · refine kb_nl i2 (i4 i (by omega) hs) ?_
            rw [Nat.mul_comm (Rt S * s S), Nat.mul_comm _ (Cn S * cy)]
            omega
        · refine Nat.pos_of_ne_zero (fun z => r ?_)
          rw [z, Nat.zero_mul, Nat.zero_mul]; exact Nat.zero_le _
theorem fr_ltle {u1 o1 u2 o2 u3 o3 : Nat} (h2 : 0 < u2) (h3 : 0 < u3) (a : u2 * o1 < u1 * o2) (b : u3 * o2 ≤ u2 * o3) : u3 * o1 < u1 * o3 := by
  have e : u2 * (u3 * o1) < u2 * (u1 * o3) := by
    calc u2 * (u3 * o1) = u3 * (u2 * o1) := Nat.mul_left_comm _ _ _
      _ < u3 * (u1 * o2) := Nat.mul_lt_mul_of_pos_left a h3
      _ = u1 * (u3 * o2) := Nat.mul_left_comm _ _ _
      _ ≤ u1 * (u2 * o3) := Nat.mul_le_mul_left _ b
      _ = u2 * (u1 * o3) := Nat.mul_left_comm _ _ _
  exact Nat.lt_of_mul_lt_mul_left e
/-- the load of greens -/
def lD (W : Nat → Nat → Bool) (Cn Rt : Nat → Nat) (S n cy a b c d : Nat) : Nat × Nat := ou cy Cn Rt (fun i => dt (rS W n i) a b c d) S
/-- strictly ahead -/
def ls (a b c d a' b' c' d' : Nat) : Prop := a < a' ∨ (a = a' ∧ (b < b' ∨ (b = b' ∧ (c < c' ∨ (c = c' ∧ d < d')))))
/-- the first of the least load among those that were tried -/
def FB (h : gz_H) (W : Nat → Nat → Bool) (Cn Rt : Nat → Nat) (S n cy : Nat) (vis : Nat → Nat → Nat → Nat → Prop) : Prop := (gz_J h 15 28 = lN 0 ∧ ∀ a b c d, ¬ vis a b c d) ∨ (∃ a b c d, vis a b c d ∧ gz_J h 15 27 = lN (lD W Cn Rt S n cy a b c d).1 ∧ gz_J h 15 28 = lN (lD W Cn Rt S n cy a b c d).2 ∧ (∀ s, s < n → gz_I h 36 s = nI (gf a b c d s)) ∧ ∀ a' b' c' d', vis a' b' c' d' → (lD W Cn Rt S n cy a' b' c' d').2 * (lD W Cn Rt S n cy a b c d).1 ≤ (lD W Cn Rt S n cy a b c d).2 * (lD W Cn Rt S n cy a' b' c' d').1 ∧ (ls a' b' c' d' a b c d → (lD W Cn Rt S n cy a' b' c' d').2 * (lD W Cn Rt S n cy a b c d).1 < (lD W Cn Rt S n cy a b c d).2 * (lD W Cn Rt S n cy a' b' c' d').1))
theorem FB_c {h : gz_H} {W : Nat → Nat → Bool} {Cn Rt : Nat → Nat} {S n cy : Nat} {vis vis' : Nat → Nat → Nat → Nat → Prop} (e : ∀ a b c d, vis a b c d ↔ vis' a b c d) (f : FB h W Cn Rt S n cy vis) : FB h W Cn Rt S n cy vis' := by
  have : vis = vis' := by
    funext a b c d
    exact propext (e a b c d)
  rw [← this]
  exact f
theorem FB_h {h h' : gz_H} {W : Nat → Nat → Bool} {Cn Rt : Nat → Nat} {S n cy : Nat} {vis : Nat → Nat → Nat → Nat → Prop} (e7 : gz_v h' 15 27 = gz_v h 15 27) (e8 : gz_v h' 15 28 = gz_v h 15 28) (e36 : ∀ i, gz_v h' 36 i = gz_v h 36 i) (f : FB h W Cn Rt S n cy vis) : FB h' W Cn Rt S n cy vis := by
  unfold FB at *
  rw [vJ e7, vJ e8]
  rcases f with f | ⟨a, b, c, d, f1, f2, f3, f4, f5⟩
  · exact Or.inl f
  · exact Or.inr ⟨a, b, c, d, f1, f2, f3, fun s hs => by rw [vI (e36 s)]; exact f4 s hs, f5⟩
