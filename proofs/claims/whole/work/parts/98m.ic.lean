/-- what holds within a second -/
def IC (g : gz_G) (T : Nat) (P : Nat → Nat) (hc hr : gz_H) : Prop := FV g T hc hr ∧ WV hc hr ∧ (∀ j, j < g 7 0 → JV g hc hr j) ∧ BV g T P hc hr ∧ ZV g hr
theorem IC_asm {g : gz_G} {T : Nat} {P P' : Nat → Nat} {hc hc' hr hr' : gz_H} {s : Nat} (H : IC g T P hc hr) (xs : EX g s) (hP : ∀ u, u ≠ s → P' u = P u) (c0 : hc'.1 = hc.1) (cA : ∀ y, (g 5 y < 100 ∨ 300 ≤ g 5 y) → sm hc hc' y) (cS : ∀ u, EX g u → u ≠ s → sm hc hc' (g 1 u)) (cx : ∀ i, i < 6 → gz_v hc' (g 1 s) i = gz_v hc (g 1 s) i) (cT : ∀ o, o < 64 → gz_I hr 37 o = 1 → gz_v hc' (g 2 o) 1 = gz_v hc (g 2 o) 1) (M : md hr') (rA : ∀ b i, (b < 41 ∨ 51 < b) → gz_v hr' b i = gz_v hr b i) (rS : ∀ b u, u ≠ s → 43 ≤ b → b ≤ 51 → gz_v hr' b u = gz_v hr b u) (r41 : ∀ u, u < 64 → gz_I hr 37 u = 0 → gz_v hr' 41 u = gz_v hr 41 u) (S : SV (65 * (T + P' s)) hc' hr' (g 1 s) s) (V : ∀ o, o < 64 → gz_I hr 37 o = 1 → TV g T P' hc' hr' o) : IC g T P' hc' hr' := by
  obtain ⟨F, HW, HJ, HB, HZ⟩ := H
  obtain ⟨f1, f2, f3, f4, f5, f6, f7, f8, f9, f10, f11, f12, f13, f14, f15, f16⟩ := F
  have e15 : ∀ x, x < 15 → sm hc hc' x := fun x hx => cA x (by rw [f15 x hx]; omega)
  have R : ∀ j, j < 99 → ro hr hr' j := fun j hj b i q => by
    have := rj_c (b := b) (i := i) (by omega)
    exact rA b i (by omega)
  refine ⟨⟨M, ?_, wc_sm (by omega) (fun x _ hx => e15 x hx) f3, ac_sm (fun x _ hx => e15 x hx) f4, yc_sm (fun x _ hx => e15 x hx) f5, f6, by rw [vI (rA _ _ (by omega))]; exact f7, by rw [(e15 0 (by omega)).1]; exact f8, by rw [vI (rA _ _ (by omega))]; exact f9, f10, fun i hi => by rw [vI (rA _ _ (by omega))]; exact f11 i hi, f12, f13, by omega, f15, f16⟩, ?_, fun i hi => ?_, ⟨fun u hu => ?_, fun o ho h => ?_⟩, ⟨fun i q1 q2 => ?_, fun u q1 q2 => ?_, fun u q1 q2 => ?_⟩⟩
  · exact cs_fr (by omega) (fun x hx => (e15 x hx).2) (fun f _ => by rw [(e15 0 (by omega)).1]) (fun f q1 q2 => by rw [sm_I (e15 0 (by omega)), (e15 0 (by omega)).1]; exact f2.2.2.2.2.2.2.2.2.2.2.2.2.2.2.2.2.2.2.2.2.2.1 f q1 q2) (fun i _ => by rw [(e15 1 (by omega)).1]) f2
  · unfold WV at *
    rw [(e15 0 (by omega)).1, vI (rA 15 18 (by omega)), vI (rA 15 19 (by omega)), vI (rA 15 20 (by omega)), vI (rA 15 21 (by omega))]
    exact HW
  · exact JV_fr (by omega) (by omega) ⟨rfl, rfl, fun _ _ => rfl, rfl, rfl⟩ (fun x hx hg => ⟨rfl, cA x (by omega)⟩) (by rw [(e15 1 (by omega)).1]) (R i (by omega)) (HJ i hi)
  · obtain ⟨b1, b2, b3, b4⟩ := HB.1 u hu
    by_cases q : u = s
    · subst q
      exact ⟨b1, S, OV_fr rfl (fun _ => rfl) (cx 4 (by omega)) (rA _ _ (by omega)) b3, IL_fr rfl (cx 5 (by omega)) (fun o ho h => ⟨rfl, cT o ho h⟩) (fun o ho => ⟨rA _ _ (by omega), rA _ _ (by omega)⟩) b4⟩
    · have cs := cS u hu q
      refine ⟨b1, ?_, OV_fr rfl (fun _ => rfl) (by rw [cs.1]) (rA _ _ (by omega)) b3, IL_fr rfl (by rw [cs.1]) (fun o ho h => ⟨rfl, cT o ho h⟩) (fun o ho => ⟨rA _ _ (by omega), rA _ _ (by omega)⟩) b4⟩
      rw [hP u q]
      exact SV_f (by omega) cs.2 (fun i _ _ => by rw [cs.1]) (fun b hb => by
        by_cases z : b < 41
        · exact rA _ _ (by omega)
        · exact rS _ _ q (by omega) (by omega)) b2
  · rw [vI (rA _ _ (by omega))] at h
    exact V o ho h
  · obtain ⟨a1, a2, a3, a4, a5, a6⟩ := HZ.1 i q1 q2
    rw [vI (rA 23 i (by omega)), vI (rA 23 (8 + i) (by omega)), vI (rA 30 i (by omega)), vI (rA 31 i (by omega))]
    exact ⟨a1, a2, a3, a4, fun u hu => by rw [vI (rA 21 _ (by omega)), vI (rA 22 _ (by omega))]; exact a5 u hu, fun u hu => by rw [vI (rA 52 _ (by omega))]; exact a6 u hu⟩
  · have us : u ≠ s := fun z => q2 (by rw [z]; exact xs)
    obtain ⟨a1, a2, a3, a4, a5⟩ := HZ.2.1 u q1 q2
    rw [vI (rA 37 u (by omega)), vI (rS 43 u us (by omega) (by omega)), vI (rS 44 u us (by omega) (by omega)), vI (rS 51 u us (by omega) (by omega))]
    exact ⟨a1, a2, a3, a4, fun b w1 w2 => by rw [vJ (rS b u us (by omega) (by omega))]; exact a5 b w1 w2⟩
  · rw [vI (rA 37 u (by omega))] at q2
    rw [vI (r41 u q1 q2)]
    exact HZ.2.2 u q1 q2
/-- the body of TV, with its numbers -/
def TX (g : gz_G) (T : Nat) (P : Nat → Nat) (hc hr : gz_H) (o e tm rm n : Nat) (D : Nat → Nat) : Prop := EX g e ∧ e / 8 ≠ o / 8 ∧ gz_v hc (g 2 o) 0 = .ref (g 1 e) ∧ gz_I hr 38 o = nI e ∧ gz_I hc (g 2 o) 2 = nI tm ∧ gz_I hr 39 o = nI tm ∧ 1 ≤ tm ∧ tm ≤ 60 ∧ gz_I hc (g 2 o) 3 = nI rm ∧ gz_I hr 40 o = nI rm ∧ 1 ≤ rm ∧ rm ≤ 60 ∧ gz_I hc (g 2 o) 5 = nI n ∧ gz_I hr 41 o = nI n ∧ n ≤ 60 ∧ (∀ k, k < n → gz_I hr 42 (60 * o + k) = nI (D k) ∧ T + P e ≤ D k ∧ D k < T + tm + P o) ∧ (∀ k, k + 1 < n → D k < D (k + 1)) ∧ ∀ y, y < 61 → (¬ gz_I hc (g 2 o + 1) y = 0 ↔ ∃ k, k < n ∧ D k % 61 = y)
theorem D_up {D : Nat → Nat} {n : Nat} (h : ∀ k, k + 1 < n → D k < D (k + 1)) : ∀ d k, k + d < n → D k + d ≤ D (k + d) := by
  intro d
  induction d with
  | zero => intro k _; exact Nat.le_refl _
  | succ d ih =>
    intro k hk
    have a := ih k (by omega)
    have b := h (k + d) (by omega)
    show D k + (d + 1) ≤ D (k + d + 1)
    omega
theorem due_iff {g : gz_G} {T : Nat} {P : Nat → Nat} {hc hr : gz_H} {o e tm rm n : Nat} {D : Nat → Nat} (X : TX g T P hc hr o e tm rm n D) (pe : P e = 0) (po : P o ≤ 1) : (¬ gz_I hc (g 2 o + 1) (T % 61) = 0) ↔ (0 < n ∧ D 0 = T) := by
  obtain ⟨-, -, -, -, -, -, t1, t60, -, -, -, -, -, -, n6, hD, hm, hr⟩ := X
  rw [hr (T % 61) (Nat.mod_lt _ (by omega))]
  constructor
  · rintro ⟨k, hk, e1⟩
    obtain ⟨-, lo, hi⟩ := hD k hk
    have ek : D k = T := by omega
    have := D_up hm k 0 (by omega)
    rw [Nat.zero_add] at this
    have l0 := (hD 0 (by omega)).2.1
    have : k = 0 := by omega
    subst this
    exact ⟨hk, ek⟩
  · rintro ⟨h1, h2⟩
    exact ⟨0, h1, by rw [h2]⟩
/-- a street that has brought -/
theorem TX_in {g : gz_G} {T : Nat} {P P' : Nat → Nat} {hc hc' hr hr' : gz_H} {o e tm rm n : Nat} {D : Nat → Nat} (X : TX g T P hc hr o e tm rm n D) (pe : P e = 0) (pe' : P' e = 1) (po : P o ≤ 1) (po' : P' o = P o) (n0 : 0 < n) (d0 : D 0 = T) (v0 : ∀ f, f ≠ 5 → gz_v hc' (g 2 o) f = gz_v hc (g 2 o) f) (v5 : gz_I hc' (g 2 o) 5 = nI (n - 1)) (v1 : ∀ y, gz_I hc' (g 2 o + 1) y = if y = T % 61 then 0 else gz_I hc (g 2 o + 1) y) (r : ∀ b, 38 ≤ b → b ≤ 40 → gz_v hr' b o = gz_v hr b o) (r41 : gz_I hr' 41 o = nI (n - 1)) (r42 : ∀ k, k < n - 1 → gz_I hr' 42 (60 * o + k) = gz_I hr 42 (60 * o + (k + 1))) : TX g T P' hc' hr' o e tm rm (n - 1) (fun k => D (k + 1)) := by
  obtain ⟨x1, x2, x3, x4, x5, x6, t1, t60, x9, x10, x11, x12, x13, x14, n6, hD, hm, hr⟩ := X
  refine ⟨x1, x2, ?_, ?_, ?_, ?_, t1, t60, ?_, ?_, x11, x12, v5, r41, by omega, fun k hk => ?_, fun k hk => hm (k + 1) (by omega), fun y hy => ?_⟩
  · rw [v0 0 (by omega)]; exact x3
  · rw [vI (r 38 (by omega) (by omega))]; exact x4
  · rw [vI (v0 2 (by omega))]; exact x5
  · rw [vI (r 39 (by omega) (by omega))]; exact x6
  · rw [vI (v0 3 (by omega))]; exact x9
  · rw [vI (r 40 (by omega) (by omega))]; exact x10
  · obtain ⟨h1, h2, h3⟩ := hD (k + 1) (by omega)
    have u := D_up hm (k + 1) 0 (by omega)
    rw [Nat.zero_add] at u
    rw [r42 k hk]
    exact ⟨h1, by show T + P' e ≤ D (k + 1); omega, by show D (k + 1) < _; omega⟩
  · rw [v1 y]
    by_cases q : y = T % 61
    · rw [if_pos q]
      refine ⟨fun z => absurd rfl z, fun ⟨k, hk, e1⟩ => ?_⟩
      exfalso
      have e1 : D (k + 1) % 61 = y := e1
      obtain ⟨-, h2, h3⟩ := hD (k + 1) (by omega)
      have u := D_up hm (k + 1) 0 (by omega)
      rw [Nat.zero_add] at u
      omega
    · rw [if_neg q, hr y hy]
      constructor
      · rintro ⟨k, hk, e1⟩
        have : k ≠ 0 := fun z => by subst z; rw [d0] at e1; exact q e1.symm
        exact ⟨k - 1, by omega, by show D (k - 1 + 1) % 61 = y; rw [show k - 1 + 1 = k by omega]; exact e1⟩
      · rintro ⟨k, hk, e1⟩
        exact ⟨k + 1, by omega, e1⟩
/-- a street that has not -/
theorem TX_no {g : gz_G} {T : Nat} {P P' : Nat → Nat} {hc hc' hr hr' : gz_H} {o e tm rm n : Nat} {D : Nat → Nat} (X : TX g T P hc hr o e tm rm n D) (pe : P' e = P e ∨ (P e = 0 ∧ P' e = 1 ∧ ¬ (0 < n ∧ D 0 = T))) (po : P o ≤ P' o) (v0 : sm hc hc' (g 2 o)) (v1 : sm hc hc' (g 2 o + 1)) (r : ∀ b, 38 ≤ b → b ≤ 41 → gz_v hr' b o = gz_v hr b o) (r42 : ∀ k, k < 60 → gz_v hr' 42 (60 * o + k) = gz_v hr 42 (60 * o + k)) : TX g T P' hc' hr' o e tm rm n D := by
  obtain ⟨x1, x2, x3, x4, x5, x6, t1, t60, x9, x10, x11, x12, x13, x14, n6, hD, hm, hr⟩ := X
  refine ⟨x1, x2, ?_, ?_, ?_, ?_, t1, t60, ?_, ?_, x11, x12, ?_, ?_, n6, fun k hk => ?_, hm, fun y hy => ?_⟩
  · rw [v0.1]; exact x3
  · rw [vI (r 38 (by omega) (by omega))]; exact x4
  · rw [sm_I v0]; exact x5
  · rw [vI (r 39 (by omega) (by omega))]; exact x6
  · rw [sm_I v0]; exact x9
  · rw [vI (r 40 (by omega) (by omega))]; exact x10
  · rw [sm_I v0]; exact x13
  · rw [vI (r 41 (by omega) (by omega))]; exact x14
  · obtain ⟨h1, h2, h3⟩ := hD k hk
    rw [vI (r42 k (by omega))]
    refine ⟨h1, ?_, by omega⟩
    rcases pe with pe | ⟨p1, p2, p3⟩
    · rw [pe]; exact h2
    · have u := D_up hm k 0 (by omega)
      rw [Nat.zero_add] at u
      have l0 := (hD 0 (by omega)).2.1
      have : D 0 ≠ T := fun z => p3 ⟨by omega, z⟩
      omega
  · rw [sm_I v1]; exact hr y hy
/-- a street on which one was sent -/
theorem TX_out {g : gz_G} {T : Nat} {P P' : Nat → Nat} {hc hc' hr hr' : gz_H} {o e tm rm n : Nat} {D : Nat → Nat} (X : TX g T P hc hr o e tm rm n D) (pe : P' e = P e) (pe1 : P e ≤ 1) (po : P o = 0) (po' : P' o = 1) (n6 : n < 60) (v0 : ∀ f, f ≠ 5 → gz_v hc' (g 2 o) f = gz_v hc (g 2 o) f) (v5 : gz_I hc' (g 2 o) 5 = nI (n + 1)) (v1 : ∀ y, gz_I hc' (g 2 o + 1) y = if y = (T + tm) % 61 then 1 else gz_I hc (g 2 o + 1) y) (r : ∀ b, 38 ≤ b → b ≤ 40 → gz_v hr' b o = gz_v hr b o) (r41 : gz_I hr' 41 o = nI (n + 1)) (r42 : ∀ k, k < 60 → gz_I hr' 42 (60 * o + k) = if k = n then nI (T + tm) else gz_I hr 42 (60 * o + k)) : TX g T P' hc' hr' o e tm rm (n + 1) (fun k => if k = n then T + tm else D k) := by
  obtain ⟨x1, x2, x3, x4, x5, x6, t1, t60, x9, x10, x11, x12, x13, x14, -, hD, hm, hr⟩ := X
  have n10 : ¬ (1 : Int32) = 0 := by decide
  refine ⟨x1, x2, ?_, ?_, ?_, ?_, t1, t60, ?_, ?_, x11, x12, v5, r41, by omega, fun k hk => ?_, fun k hk => ?_, fun y hy => ?_⟩
  · rw [v0 0 (by omega)]; exact x3
  · rw [vI (r 38 (by omega) (by omega))]; exact x4
  · rw [vI (v0 2 (by omega))]; exact x5
  · rw [vI (r 39 (by omega) (by omega))]; exact x6
  · rw [vI (v0 3 (by omega))]; exact x9
  · rw [vI (r 40 (by omega) (by omega))]; exact x10
  · rw [r42 k (by omega)]
    show _ = nI (if k = n then T + tm else D k) ∧ T + P' e ≤ (if k = n then T + tm else D k) ∧ (if k = n then T + tm else D k) < _
    by_cases q : k = n
    · rw [if_pos q, if_pos q]
      exact ⟨rfl, by omega, by omega⟩
    · rw [if_neg q, if_neg q]
      obtain ⟨h1, h2, h3⟩ := hD k (by omega)
      exact ⟨h1, by omega, by omega⟩
  · show (if k = n then T + tm else D k) < (if k + 1 = n then T + tm else D (k + 1))
    rw [if_neg (by omega)]
    by_cases q : k + 1 = n
    · rw [if_pos q]
      have := (hD k (by omega)).2.2
      omega
    · rw [if_neg q]; exact hm k (by omega)
  · rw [v1 y]
    by_cases q : y = (T + tm) % 61
    · rw [if_pos q]
      exact ⟨fun _ => ⟨n, by omega, by show (if n = n then T + tm else D n) % 61 = y; rw [if_pos rfl]; exact q.symm⟩, fun _ => n10⟩
    · rw [if_neg q, hr y hy]
      constructor
      · rintro ⟨k, hk, e1⟩
        exact ⟨k, by omega, by show (if k = n then T + tm else D k) % 61 = y; rw [if_neg (by omega)]; exact e1⟩
      · rintro ⟨k, hk, e1⟩
        have e1 : (if k = n then T + tm else D k) % 61 = y := e1
        by_cases z : k = n
        · rw [if_pos z] at e1; exact absurd e1.symm q
        · rw [if_neg z] at e1
          exact ⟨k, by omega, e1⟩
