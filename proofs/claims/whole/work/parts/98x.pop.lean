theorem and_sp {a1 a0 b1 b0 : Nat} (ha : a0 < 256) (hb : b0 < 256) : (256 * a1 + a0) &&& (256 * b1 + b0) = 256 * (a1 &&& b1) + (a0 &&& b0) := by
  have hl : a0 &&& b0 < 2 ^ 8 := Nat.lt_of_le_of_lt Nat.and_le_left ha
  apply Nat.eq_of_testBit_eq
  intro i
  rw [Nat.testBit_and, show (256 : Nat) = 2 ^ 8 from rfl, Nat.testBit_two_pow_mul_add _ ha, Nat.testBit_two_pow_mul_add _ hb, Nat.testBit_two_pow_mul_add _ hl]
  by_cases q : i < 8
  · rw [if_pos q, if_pos q, if_pos q, Nat.testBit_and]
  · rw [if_neg q, if_neg q, if_neg q, Nat.testBit_and]
/-- a byte so often -/
def rp (b : Nat) : Nat → Nat
  | 0 => 0
  | m + 1 => 256 * rp b m + b
theorem rp_s (b m : Nat) : rp b (m + 1) = 256 * rp b m + b := rfl
def p1 (m x : Nat) : Nat := x - ((x / 2) &&& rp 85 m)
def p2 (m x : Nat) : Nat := (x &&& rp 51 m) + ((x / 4) &&& rp 51 m)
def p3 (m x : Nat) : Nat := (x + x / 16) &&& rp 15 m
/-- the ones of a byte -/
def by1 (b : Nat) : Nat := b - ((b / 2) &&& 85)
def by2 (b : Nat) : Nat := (b &&& 51) + ((b / 4) &&& 51)
def by3 (b : Nat) : Nat := (b + b / 16) &&& 15
def pcb (b : Nat) : Nat := b % 2 + b / 2 % 2 + b / 4 % 2 + b / 8 % 2 + b / 16 % 2 + b / 32 % 2 + b / 64 % 2 + b / 128 % 2
theorem by_ok : ∀ b, b < 256 → (b / 2) &&& 85 ≤ b ∧ by1 b < 171 ∧ by2 (by1 b) < 69 ∧ by2 (by1 b) % 16 ≤ 4 ∧ by3 (by2 (by1 b)) = pcb b ∧ pcb b ≤ 8 ∧ (128 + b / 2) &&& 85 = (b / 2) &&& 85 := by decide +kernel
theorem by_ok2 : ∀ b, b < 256 → ∀ c, c < 4 → (64 * c + b / 4) &&& 51 = (b / 4) &&& 51 := by decide +kernel
theorem by_ok3 : ∀ b, b < 69 → ∀ c, c < 5 → b % 16 ≤ 4 → (b + (16 * c + b / 16)) % 256 &&& 15 = (b + b / 16) &&& 15 := by decide +kernel
theorem p1_s (m z b : Nat) (hb : b < 256) (hz : (z / 2) &&& rp 85 m ≤ z) : p1 (m + 1) (256 * z + b) = 256 * p1 m z + by1 b := by
  obtain ⟨h1, -, -, -, -, -, h7⟩ := by_ok b hb
  unfold p1 by1
  rw [rp_s]
  have e : (256 * z + b) / 2 = 256 * (z / 2) + (128 * (z % 2) + b / 2) := by omega
  rw [e, and_sp (by omega) (by omega)]
  have e2 : (128 * (z % 2) + b / 2) &&& 85 = (b / 2) &&& 85 := by
    have : z % 2 = 0 ∨ z % 2 = 1 := by omega
    rcases this with q | q
    · rw [q, Nat.mul_zero, Nat.zero_add]
    · rw [q]; exact h7
  rw [e2]
  omega
theorem p1_le (m : Nat) : ∀ z, z < 256 ^ m → (z / 2) &&& rp 85 m ≤ z := fun z _ => Nat.le_trans Nat.and_le_left (Nat.div_le_self _ _)
theorem p2_s (m z b : Nat) (hb : b < 256) : p2 (m + 1) (256 * z + b) = 256 * p2 m z + by2 b := by
  unfold p2 by2
  rw [rp_s]
  have e : (256 * z + b) / 4 = 256 * (z / 4) + (64 * (z % 4) + b / 4) := by omega
  rw [e, and_sp hb (by omega), and_sp (by omega) (by omega), by_ok2 b hb (z % 4) (by omega)]
  omega
theorem p3_s (m z b : Nat) (hb : b < 69) (hb4 : b % 16 ≤ 4) (hz : z % 16 ≤ 4) : p3 (m + 1) (256 * z + b) = 256 * p3 m z + by3 b := by
  unfold p3 by3
  rw [rp_s]
  have e : 256 * z + b + (256 * z + b) / 16 = 256 * (z + z / 16) + (b + (16 * (z % 16) + b / 16)) := by omega
  have k := by_ok3 b hb (z % 16) (by omega) hb4
  have lt : b + (16 * (z % 16) + b / 16) < 256 := by omega
  rw [Nat.mod_eq_of_lt lt] at k
  rw [e, and_sp lt (by omega), k]
/-- the ones of m bytes, byte by byte -/
def bb (m : Nat) : Nat → Nat := fun x => match m with
  | 0 => 0
  | m + 1 => 256 * bb m (x / 256) + pcb (x % 256)
theorem p_all : ∀ m x, x < 256 ^ m → p3 m (p2 m (p1 m x)) = bb m x ∧ p2 m (p1 m x) % 16 ≤ 4 := by
  intro m
  induction m with
  | zero =>
    intro x hx
    have : x = 0 := by omega
    subst this
    exact ⟨rfl, by decide⟩
  | succ m ih =>
    intro x hx
    have hz : x / 256 < 256 ^ m := by
      rw [Nat.pow_succ] at hx
      exact Nat.div_lt_of_lt_mul (by rw [Nat.mul_comm]; exact hx)
    have hb : x % 256 < 256 := Nat.mod_lt _ (by omega)
    obtain ⟨h1, h2, h3, h4, h5, h6, -⟩ := by_ok (x % 256) hb
    obtain ⟨i1, i2⟩ := ih (x / 256) hz
    have e : x = 256 * (x / 256) + x % 256 := by omega
    have s1 := p1_s m (x / 256) (x % 256) hb (p1_le m _ hz)
    rw [← e] at s1
    have s2 := p2_s m (p1 m (x / 256)) (by1 (x % 256)) (by omega)
    have s3 := p3_s m (p2 m (p1 m (x / 256))) (by2 (by1 (x % 256))) h3 h4 i2
    rw [s1, s2, s3, i1, h5]
    exact ⟨rfl, by omega⟩
