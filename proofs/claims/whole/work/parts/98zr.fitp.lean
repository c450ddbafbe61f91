theorem ou_0 {W : Nat → Nat → Bool} {n T a b c d i : Nat} (n4 : n ≤ 4) (g : BG n T a b c d) : dt (rS W n i) a b c d ≠ 0 ↔ rS W n i ≠ 0 := by
  constructor
  · intro h z
    rw [z, dt_0] at h
    exact h rfl
  · intro h
    have := dt_pos n4 g h (rS_lt W n i)
    omega
/-- the load of greens, as they meet one -/
theorem ME_ld {W : Nat → Nat → Bool} {Cn Rt : Nat → Nat} {S n T cy C V a b c d : Nat} (n4 : n ≤ 4) (hX : ∀ i, i < S → Cn i ≤ 3600 ∧ 0 < Rt i ∧ Rt i ≤ 3600) (c0 : 0 < cy) (c90 : cy ≤ 90) (hT : T ≤ 90) (g : BG n T a b c d) : ME W Cn Rt S n C V a b c d ↔ (lD W Cn Rt S n cy a b c d).1 * V ≤ C * cy * (lD W Cn Rt S n cy a b c d).2 := by
  obtain ⟨⟨i1, i2, i3⟩, i4, i5⟩ := ou_sp (cy := cy) (Cn := Cn) (Rt := Rt) (s := fun i => dt (rS W n i) a b c d) S (fun k hk => ⟨(hX k hk).1, (hX k hk).2.1, (hX k hk).2.2, dt_90 g hT _⟩) c90
  unfold lD
  generalize ou cy Cn Rt (fun i => dt (rS W n i) a b c d) S = pr at *
  constructor
  · intro me
    rcases i5 with ⟨z1, z2⟩ | ⟨i, hi, hs, -, z1, z2⟩
    · rw [z1, Nat.zero_mul]; exact Nat.zero_le _
    · have := me i hi ((ou_0 n4 g).mp hs)
      rw [z1, z2]
      show Cn i * cy * V ≤ C * cy * (Rt i * dt (rS W n i) a b c d)
      calc Cn i * cy * V = cy * (Cn i * V) := by rw [Nat.mul_comm (Cn i), Nat.mul_assoc]
        _ ≤ cy * (dt (rS W n i) a b c d * (Rt i * C)) := Nat.mul_le_mul_left _ this
        _ = C * cy * (Rt i * dt (rS W n i) a b c d) := by
          simp only [Nat.mul_comm, Nat.mul_left_comm, Nat.mul_assoc]
  · intro le i hi hr
    have h1 := i4 i hi ((ou_0 n4 g).mpr hr)
    have h1 : pr.2 * (Cn i * cy) ≤ Rt i * dt (rS W n i) a b c d * pr.1 := h1
    have e : (pr.2 * cy) * (Cn i * V) ≤ (pr.2 * cy) * (dt (rS W n i) a b c d * (Rt i * C)) := by
      calc (pr.2 * cy) * (Cn i * V) = (pr.2 * (Cn i * cy)) * V := by simp only [Nat.mul_comm, Nat.mul_left_comm, Nat.mul_assoc]
        _ ≤ (Rt i * dt (rS W n i) a b c d * pr.1) * V := Nat.mul_le_mul_right _ h1
        _ = (Rt i * dt (rS W n i) a b c d) * (pr.1 * V) := Nat.mul_assoc _ _ _
        _ ≤ (Rt i * dt (rS W n i) a b c d) * (C * cy * pr.2) := Nat.mul_le_mul_left _ le
        _ = (pr.2 * cy) * (dt (rS W n i) a b c d * (Rt i * C)) := by simp only [Nat.mul_comm, Nat.mul_left_comm, Nat.mul_assoc]
    exact Nat.le_of_mul_le_mul_left e (Nat.mul_pos i2 c0)
/-- both find the same greens -/
theorem fit_eq {W : Nat → Nat → Bool} {Cn Rt : Nat → Nat} {S n T cy C V a b c d a' b' c' d' : Nat} (n4 : n ≤ 4) (hX : ∀ i, i < S → Cn i ≤ 3600 ∧ 0 < Rt i ∧ Rt i ≤ 3600) (c0 : 0 < cy) (c90 : cy ≤ 90) (hT : T ≤ 90) (hC : 0 < C) (al : ∀ i, i < S → 0 < Cn i → rS W n i ≠ 0 → ∀ g, g ≤ T → FS W Cn Rt S n T (Cn i) (Rt i * g) → C * (Rt i * g) ≤ Cn i * V) (lx' : LX (nds (nR Cn Rt C V) (rS W n) S) n T a b c d) (g' : BG n T a' b' c' d') (mn : ∀ x y z w, BG n T x y z w → (lD W Cn Rt S n cy x y z w).2 * (lD W Cn Rt S n cy a' b' c' d').1 ≤ (lD W Cn Rt S n cy a' b' c' d').2 * (lD W Cn Rt S n cy x y z w).1 ∧ (ls x y z w a' b' c' d' → (lD W Cn Rt S n cy x y z w).2 * (lD W Cn Rt S n cy a' b' c' d').1 < (lD W Cn Rt S n cy a' b' c' d').2 * (lD W Cn Rt S n cy x y z w).1)) : a = a' ∧ b = b' ∧ c = c' ∧ d = d' := by
  have fm : ∀ x y z w, FE (nds (nR Cn Rt C V) (rS W n) S) n T x y z w ↔ BG n T x y z w ∧ ME W Cn Rt S n C V x y z w := fun x y z w => FE_me n4 (fun i hi => (hX i hi).2.1) hC (by omega)
  have sp : ∀ x y z w, BG n T x y z w → 0 < (lD W Cn Rt S n cy x y z w).2 := fun x y z w g => (ou_sp (cy := cy) (Cn := Cn) (Rt := Rt) (s := fun i => dt (rS W n i) x y z w) S (fun k hk => ⟨(hX k hk).1, (hX k hk).2.1, (hX k hk).2.2, dt_90 g hT _⟩) c90).1.2.1
  obtain ⟨l1, l2⟩ := lx'
  obtain ⟨g, me⟩ := (fm a b c d).mp l1
  have me1 := (ME_ld n4 hX c0 c90 hT g).mp me
  obtain ⟨m1, m2⟩ := mn a b c d g
  have u1 := sp a b c d g
  have u2 := sp a' b' c' d' g'
  -- the reference's greens meet it
  have me2 : ME W Cn Rt S n C V a' b' c' d' := by
    rw [ME_ld n4 hX c0 c90 hT g']
    generalize lD W Cn Rt S n cy a b c d = p at *
    generalize lD W Cn Rt S n cy a' b' c' d' = q at *
    have e : p.2 * (q.1 * V) ≤ p.2 * (C * cy * q.2) := by
      calc p.2 * (q.1 * V) = (p.2 * q.1) * V := (Nat.mul_assoc _ _ _).symm
        _ ≤ (q.2 * p.1) * V := Nat.mul_le_mul_right _ m1
        _ = q.2 * (p.1 * V) := Nat.mul_assoc _ _ _
        _ ≤ q.2 * (C * cy * p.2) := Nat.mul_le_mul_left _ me1
        _ = p.2 * (C * cy * q.2) := by simp only [Nat.mul_comm, Nat.mul_left_comm, Nat.mul_assoc]
    exact Nat.le_of_mul_le_mul_left e u1
  have lxf := l2 a' b' c' d' ((fm a' b' c' d').mpr ⟨g', me2⟩)
  -- the class's are no worse
  have back : (lD W Cn Rt S n cy a' b' c' d').2 * (lD W Cn Rt S n cy a b c d).1 ≤ (lD W Cn Rt S n cy a b c d).2 * (lD W Cn Rt S n cy a' b' c' d').1 := by
    obtain ⟨-, i4, i5⟩ := ou_sp (cy := cy) (Cn := Cn) (Rt := Rt) (s := fun i => dt (rS W n i) a' b' c' d') S (fun k hk => ⟨(hX k hk).1, (hX k hk).2.1, (hX k hk).2.2, dt_90 g' hT _⟩) c90
    obtain ⟨-, j4, j5⟩ := ou_sp (cy := cy) (Cn := Cn) (Rt := Rt) (s := fun i => dt (rS W n i) a b c d) S (fun k hk => ⟨(hX k hk).1, (hX k hk).2.1, (hX k hk).2.2, dt_90 g hT _⟩) c90
    rcases i5 with ⟨z1, z2⟩ | ⟨i, hi, hs, pi, z1, z2⟩
    · rcases j5 with ⟨y1, y2⟩ | ⟨i, hi, hs, pi, y1, y2⟩
      · have y1 : (lD W Cn Rt S n cy a b c d).1 = 0 := y1
        rw [y1, Nat.mul_zero]; exact Nat.zero_le _
      · exfalso
        have := i4 i hi ((ou_0 n4 g').mpr ((ou_0 n4 g).mp hs))
        rw [z1, z2, Nat.mul_zero, Nat.one_mul] at this
        have := Nat.mul_pos pi c0
        omega
    · have z1 : (lD W Cn Rt S n cy a' b' c' d').1 = Cn i * cy := z1
      have z2 : (lD W Cn Rt S n cy a' b' c' d').2 = Rt i * dt (rS W n i) a' b' c' d' := z2
      have hr := (ou_0 n4 g').mp hs
      have fs : FS W Cn Rt S n T (Cn i) (Rt i * dt (rS W n i) a' b' c' d') := by
        refine ⟨a', b', c', d', g', ?_⟩
        rw [ME_ld n4 hX c0 c90 hT g', z1, z2]
        exact Nat.le_refl _
      have dT : dt (rS W n i) a' b' c' d' ≤ T := by
        have := dt_le (rS W n i) a' b' c' d'
        have := g'.2.2.2.2.2.2
        omega
      have aa := al i hi pi hr _ dT fs
      rw [← z2] at aa
      generalize lD W Cn Rt S n cy a b c d = p at *
      generalize lD W Cn Rt S n cy a' b' c' d' = q at *
      have V0 : 0 < V := by
        refine Nat.pos_of_ne_zero (fun z => ?_)
        rw [z, Nat.mul_zero] at aa
        have := Nat.mul_pos hC u2
        omega
      have e : V * (q.2 * p.1) ≤ V * (p.2 * q.1) := by
        calc V * (q.2 * p.1) = q.2 * (p.1 * V) := by simp only [Nat.mul_comm, Nat.mul_left_comm, Nat.mul_assoc]
          _ ≤ q.2 * (C * cy * p.2) := Nat.mul_le_mul_left _ me1
          _ = (C * q.2) * (cy * p.2) := by simp only [Nat.mul_comm, Nat.mul_left_comm, Nat.mul_assoc]
          _ ≤ (Cn i * V) * (cy * p.2) := Nat.mul_le_mul_right _ aa
          _ = V * (p.2 * (Cn i * cy)) := by simp only [Nat.mul_comm, Nat.mul_left_comm, Nat.mul_assoc]
          _ = V * (p.2 * q.1) := by rw [z1]
      exact Nat.le_of_mul_le_mul_left e V0
  have nl : ¬ ls a b c d a' b' c' d' := fun z => by
    have := m2 z
    omega
  unfold lx at lxf
  unfold ls at nl
  omega
