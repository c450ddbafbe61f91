theorem gz_A_c {h h' : gz_H} {x i : Nat} (e : gz_v h' x i = gz_v h x i) : gz_A h' x i = gz_A h x i := by unfold gz_A; rw [e]
theorem cs_fr {hc hc' : gz_H} {J : Nat} (m : hc.1 ≤ hc'.1) (k0 : ∀ x, x < 15 → gz_k hc' x = gz_k hc x) (v0 : ∀ f, f ≤ 4 → gz_v hc' 0 f = gz_v hc 0 f) (vi : ∀ f, 5 ≤ f → f ≤ 8 → gz_v hc' 0 f = .int (gz_I hc' 0 f)) (v1 : ∀ i, i < J → gz_v hc' 1 i = gz_v hc 1 i) (c : cs hc J) : cs hc' J := by
  obtain ⟨c0, c1, c2, c3, c4, c5, c6, c7, c8, c9, c10, c11, c12, c13, c14, c15, c16, c17, c18, c19, c20, c21, c22⟩ := c
  refine ⟨fun b hb => Nat.lt_of_lt_of_le (c0 b hb) m, (k0 0 (by omega)).trans c1, (k0 1 (by omega)).trans c2, (k0 2 (by omega)).trans c3, (k0 3 (by omega)).trans c4, (k0 4 (by omega)).trans c5, (k0 5 (by omega)).trans c6, (k0 6 (by omega)).trans c7, (k0 7 (by omega)).trans c8, (k0 8 (by omega)).trans c9, (k0 9 (by omega)).trans c10, (k0 10 (by omega)).trans c11, (k0 11 (by omega)).trans c12, (k0 12 (by omega)).trans c13, (k0 13 (by omega)).trans c14, (k0 14 (by omega)).trans c15, (v0 0 (by omega)).trans c16, (v0 1 (by omega)).trans c17, (v0 2 (by omega)).trans c18, (v0 3 (by omega)).trans c19, (v0 4 (by omega)).trans c20, vi, fun j hj => ?_⟩
  rw [gz_A_c (v1 j hj), v1 j hj]
  exact c22 j hj
theorem ZV_fr {g g' : gz_G} {hr hr' : gz_H} (G0 : g' 7 0 = g 7 0) (X : ∀ s, EX g' s ↔ EX g s) (r : ∀ i, i < 8 → g 7 0 ≤ i → ro hr hr' i) (rs : ∀ s, s < 64 → so hr hr' s) (Z : ZV g hr) : ZV g' hr' := by
  obtain ⟨z1, z2, z3⟩ := Z
  refine ⟨fun j h1 h2 => ?_, fun s h1 h2 => ?_, fun s h1 h2 => ?_⟩
  · rw [G0] at h1
    obtain ⟨a1, a2, a3, a4, a5, a6⟩ := z1 j h1 h2
    have R := r j h2 h1
    rw [vI (R 23 j (by simp [rj]; omega)), vI (R 23 (8 + j) (by simp [rj]; omega)), vI (R 30 j (by simp [rj])), vI (R 31 j (by simp [rj]))]
    refine ⟨a1, a2, a3, a4, fun i hi => ?_, fun u hu => ?_⟩
    · rw [vI (R 21 _ (by simp [rj]; omega)), vI (R 22 _ (by simp [rj]; omega))]
      exact a5 i hi
    · rw [vI (R 52 _ (by simp [rj]; omega))]
      exact a6 u hu
  · have R := rs s h1
    obtain ⟨a1, a2, a3, a4, a5⟩ := z2 s h1 (fun q => h2 ((X s).mpr q))
    rw [vI (R 37 s (rt_s (by omega) (by omega))), vI (R 43 s (rt_s (by omega) (by omega))), vI (R 44 s (rt_s (by omega) (by omega))), vI (R 51 s (rt_s (by omega) (by omega)))]
    refine ⟨a1, a2, a3, a4, fun b h3 h4 => ?_⟩
    rw [vJ (R b s (rt_s (by omega) (by omega)))]
    exact a5 b h3 h4
  · have R := rs s h1
    rw [vI (R 37 s (rt_s (by omega) (by omega)))] at h2
    rw [vI (R 41 s (rt_s (by omega) (by omega)))]
    exact z3 s h1 h2
theorem IV_8 {g : gz_G} {T : Nat} {P : Nat → Nat} {hc hr : gz_H} (H : IV g T P hc hr) : g 7 0 ≤ 8 := H.1.2.2.2.2.2.1
theorem JV_lt {g : gz_G} {hc hr : gz_H} {j : Nat} (H : JV g hc hr j) : ∀ k, k ≤ 5 → g 0 j + k < hc.1 := fun k hk => by
  have := H.1.2.1.2.2.2.2.2.1
  omega
/-- only junction j changes -/
theorem IV_j {g g' : gz_G} {T : Nat} {P : Nat → Nat} {hc hc' hr hr' : gz_H} {j : Nat} (H : IV g T P hc hr) (hj : j < g 7 0) (m : hc.1 ≤ hc'.1) (G0 : g' 7 0 = g 7 0) (G6 : ∀ i, g' 6 i = g 6 i) (G1 : ∀ s, g' 1 s = g 1 s) (G2 : ∀ s, g' 2 s = g 2 s) (Ga : ∀ i, g' 0 i = g 0 i) (G3 : ∀ i, i < 8 → i ≠ j → g' 3 i = g 3 i ∧ g' 3 (8 + i) = g 3 (8 + i)) (e : ∀ x, x < hc.1 → g 5 x ≠ 50 → g 5 x ≠ 1 + j → g 5 x ≠ 300 + j → g 5 x ≠ 300 + (8 + j) → g' 5 x = g 5 x ∧ sm hc hc' x) (c5 : ∀ x, x < 55 → g' 5 x = g 5 x) (k0 : ∀ x, x < 15 → gz_k hc' x = gz_k hc x) (v0 : ∀ f, f ≤ 5 → gz_v hc' 0 f = gz_v hc 0 f) (vi : ∀ f, 6 ≤ f → f ≤ 8 → gz_v hc' 0 f = .int (gz_I hc' 0 f)) (v1 : ∀ i, gz_v hc' 1 i = gz_v hc 1 i) (w : wc hc' 2) (a : ac hc') (y : yc hc') (M : md hr') (r15 : ∀ f, f ≤ 1 → gz_v hr' 15 f = gz_v hr 15 f) (r16 : ∀ i, gz_v hr' 16 i = gz_v hr 16 i) (r : ∀ i, i < 8 → i ≠ j → ro hr hr' i) (rs : ∀ s, s < 64 → so hr hr' s) (W : WV hc' hr') (N : JV g' hc' hr' j) (L : gz_v hc' (g 0 j) 10 = gz_v hc (g 0 j) 10) : IV g' T P hc' hr' := by
  obtain ⟨F, _, HJ, HW, HB, HZ⟩ := H
  obtain ⟨f1, f2, f3, f4, f5, f6, f7, f8, f9, f10, f11, f12, f13, f14, f15, f16⟩ := F
  have X : ∀ s, EX g' s ↔ EX g s := fun s => by unfold EX; rw [G6]
  refine ⟨⟨M, ?_, w, a, y, by rw [G0]; exact f6, by rw [vI (r15 0 (by omega)), G0]; exact f7, (v0 5 (by omega)).trans f8, by rw [vI (r15 1 (by omega))]; exact f9, f10, fun i hi => by rw [vI (r16 i), G6]; exact f11 i hi, fun i => by rw [G6]; exact f12 i, fun i hi => by rw [G6]; exact f13 i (by omega), by omega, fun x hx => by rw [c5 x (by omega)]; exact f15 x hx, fun x h1 h2 => by rw [c5 x h2]; exact f16 x h1 h2⟩, W, fun i hi => ?_, fun i hi => ?_, BV_fr HZ m X (fun s _ => G1 s) (fun s _ => G2 s) (fun x hx h1 h2 => e x hx (by omega) (by omega) (by omega) (by omega)) rs HB, ZV_fr G0 X (fun i h1 h2 => r i h1 (by omega)) rs HZ⟩
  · rw [G0]
    exact cs_fr m k0 (fun f hf => v0 f (by omega)) (fun f h1 h2 => by
      by_cases q : f = 5
      · subst q
        rw [vI (v0 5 (by omega)), v0 5 (by omega)]
        exact f2.2.2.2.2.2.2.2.2.2.2.2.2.2.2.2.2.2.2.2.2.2.1 5 (by omega) (by omega)
      · exact vi f (by omega) h2) (fun i _ => v1 i) f2
  · by_cases q : i = j
    · subst q; exact N
    · have hi : i < 8 := by omega
      exact JV_fr hi m ⟨Ga i, G6 i, fun k _ => G1 _, (G3 i hi q).1, (G3 i hi q).2⟩ (fun x hx hg => e x hx (by omega) (by omega) (by omega) (by omega)) (v1 i) (r i hi q) (HJ i (by omega))
  · refine WG_fr (Ga i) (G6 i) ?_ (fun k hk => rs _ (by have := f12 i; omega) 51 _ (rt_s (by omega) (by omega))) (HW i (by omega))
    by_cases q : i = j
    · subst q; exact L
    · have h1 := HJ i (by omega)
      have h2 := JV_lt h1 0 (by omega)
      have h3 := h1.1.2.2.2.1 0 (by omega)
      rw [Nat.add_zero] at h2 h3
      rw [(e _ h2 (by omega) (by omega) (by omega) (by omega)).2.1]
/-- the class's cells stand; the reference's stand -/
def fr8 (h h' : gz_H) : Prop := h.1 ≤ h'.1 ∧ ∀ x, 15 ≤ x → x < 55 → sm h h' x
def fr7 (h h' : gz_H) : Prop := h'.1 = h.1 ∧ ∀ x, (x < 15 ∨ 55 ≤ x) → sm h h' x
theorem md_fr {h h' : gz_H} (n : 55 ≤ h'.1) (e : ∀ x, 15 ≤ x → x < 55 → sm h h' x) (m : md h) : md h' := by
  obtain ⟨m1, m2, m3, m4, m5, m6, m7, m8, m9, m10, m11, m12⟩ := m
  have e15 := e 15 (by omega) (by omega)
  refine ⟨fun b hb => by omega, fun b h1 h2 => ?_, ?_⟩
  · rw [(e b h1 (by omega)).2]; exact m2 b h1 h2
  · simp only [e15.1, sm_I e15, sm_J e15]
    refine ⟨m3, m4, m5, fun b i h1 h2 => ?_, fun b i h1 h2 => ?_, fun b i h1 h2 => ?_, m9, m10, m11, m12⟩
    · rw [sm_I (e b (by omega) (by omega)), (e b (by omega) (by omega)).1]; exact m6 b i h1 h2
    · rw [sm_J (e b (by omega) (by omega)), (e b (by omega) (by omega)).1]; exact m7 b i h1 h2
    · rw [sm_I (e b (by omega) (by omega)), (e b (by omega) (by omega)).1]; exact m8 b i h1 h2
theorem rj_b {b i : Nat} (h : rj b i ≠ 99) : 15 ≤ b ∧ b < 55 := by
  unfold rj at h
  by_cases q : 16 ≤ b ∧ b ≤ 52
  · omega
  · rw [if_neg (by omega), if_neg (by omega), if_neg (by omega), if_neg (by omega), if_neg (by omega), if_neg (by omega)] at h
    exact absurd rfl h
theorem rt_b {b i : Nat} (h : rt b i ≠ 99) : 15 ≤ b ∧ b < 55 := by
  unfold rt at h
  by_cases q : 16 ≤ b ∧ b ≤ 52
  · omega
  · rw [if_neg (by omega), if_neg (by omega)] at h
    exact absurd rfl h
theorem IV_cc {g : gz_G} {T : Nat} {P : Nat → Nat} {hc hc' hr hr' : gz_H} (H : IV g T P hc hr) (m : hc.1 ≤ hc'.1) (e : ∀ x, (x < 15 ∨ 55 ≤ x) → sm hc hc' x) (n : 55 ≤ hr'.1) (r : ∀ x, 15 ≤ x → x < 55 → sm hr hr' x) : IV g T P hc' hr' := by
  obtain ⟨F, HW, HJ, HG, HB, HZ⟩ := H
  obtain ⟨f1, f2, f3, f4, f5, f6, f7, f8, f9, f10, f11, f12, f13, f14, f15, f16⟩ := F
  have ec : ∀ x, g 5 x ≠ 0 → sm hc hc' x := fun x hx => e x (by
    by_cases q : x < 15 ∨ 55 ≤ x
    · exact q
    · exact absurd (f16 x (by omega) (by omega)) hx)
  have e0 := e 0 (by omega)
  have e1 := e 1 (by omega)
  have R : ∀ j, j < 99 → ro hr hr' j := fun j hj b i q => by
    have hb := rj_b (b := b) (i := i) (by omega)
    rw [(r b hb.1 hb.2).1]
  have RS : ∀ j, j < 99 → so hr hr' j := fun j hj b i q => by
    have hb := rt_b (b := b) (i := i) (by omega)
    rw [(r b hb.1 hb.2).1]
  have r15 := r 15 (by omega) (by omega)
  refine ⟨⟨md_fr n r f1, ?_, ?_, ?_, ?_, f6, by rw [sm_I r15]; exact f7, by rw [e0.1]; exact f8, by rw [sm_I r15]; exact f9, f10, fun i hi => by rw [sm_I (r 16 (by omega) (by omega))]; exact f11 i hi, f12, f13, by omega, f15, f16⟩, ?_, fun i hi => ?_, fun i hi => ?_, BV_fr HZ m (fun _ => Iff.rfl) (fun _ _ => rfl) (fun _ _ => rfl) (fun x hx h1 h2 => ⟨rfl, ec x (by omega)⟩) (fun s hs => RS s (by omega)) HB, ZV_fr rfl (fun _ => Iff.rfl) (fun i h1 h2 => R i (by omega)) (fun s hs => RS s (by omega)) HZ⟩
  · exact cs_fr m (fun x hx => (e x (Or.inl hx)).2) (fun f hf => by rw [e0.1]) (fun f h1 h2 => by rw [sm_I e0, e0.1]; exact f2.2.2.2.2.2.2.2.2.2.2.2.2.2.2.2.2.2.2.2.2.2.1 f h1 h2) (fun i _ => by rw [e1.1]) f2
  · obtain ⟨w1, w2, w3⟩ := f3
    have a2 := e 2 (by omega)
    have a3 := e 3 (by omega)
    refine ⟨by omega, by omega, ?_⟩
    simp only [Nat.reduceAdd, sm_I a2, sm_I a3, a2.1, a2.2, a3.1, a3.2]
    exact w3
  · have a4 := e 4 (by omega)
    obtain ⟨w1, w2, w3, w4, w5, w6, w7⟩ := f4
    simp only [ac, a4.1, sm_J a4]
    exact ⟨w1, w2, w3, w4, w5, w6, fun x i h1 h2 => by rw [sm_I (e x (by omega)), (e x (by omega)).1]; exact w7 x i h1 h2⟩
  · have a9 := e 9 (by omega)
    obtain ⟨w1, w2, w3, w4, w5, w6, w7, w8⟩ := f5
    simp only [yc, a9.1, sm_I a9]
    exact ⟨w1, w2, w3, w4, w5, w6, fun x i h1 h2 => by rw [sm_I (e x (by omega)), (e x (by omega)).1]; exact w7 x i h1 h2, fun x i h1 h2 => by rw [sm_J (e x (by omega)), (e x (by omega)).1]; exact w8 x i h1 h2⟩
  · unfold WV
    rw [e0.1, sm_I r15]
    exact HW
  · exact JV_fr (by omega) m ⟨rfl, rfl, fun _ _ => rfl, rfl, rfl⟩ (fun x hx hg => ⟨rfl, ec x (by omega)⟩) (by rw [e1.1]) (R i (by omega)) (HJ i hi)
  · refine WG_fr rfl rfl ?_ (fun k hk => RS _ (by have := f12 i; omega) 51 _ (rt_s (by omega) (by omega))) (HG i hi)
    have h3 := (HJ i hi).1.2.2.2.1 0 (by omega)
    rw [Nat.add_zero] at h3
    rw [(ec (g 0 i) (by omega)).1]
/-- what holds between two calls -/
def Inv (h : gz_H) : Prop := ∃ g T, IV g T (fun _ => 0) h h
/-- both answer alike -/
def PB (f7 f8 : gz_Me) (args : List Value) : Prop := ∀ g T hc hr, IV g T (fun _ => 0) hc hr → ∃ v hc' hr' g' T', f7 (.ref 0 :: args) hc = some (some v, hc') ∧ f8 (.ref 15 :: args) hr = some (some v, hr') ∧ fr8 hc hc' ∧ fr7 hr hr' ∧ IV g' T' (fun _ => 0) hc' hr'
theorem PB_Inv {f7 f8 : gz_Me} {args : List Value} (p : PB f7 f8 args) {h : gz_H} (I : Inv h) : ∃ v h1 h2, f7 (.ref 0 :: args) h = some (some v, h1) ∧ f8 (.ref 15 :: args) h1 = some (some v, h2) ∧ Inv h2 := by
  obtain ⟨g, T, H⟩ := I
  obtain ⟨v, h1, _, _, _, a1, _, a3, _, _⟩ := p g T h h H
  have n : 55 ≤ h.1 := H.1.2.2.2.2.2.2.2.2.2.2.2.2.2.1
  have H1 : IV g T (fun _ => 0) h h1 := IV_cc H (Nat.le_refl _) (fun _ _ => ⟨rfl, rfl⟩) (Nat.le_trans n a3.1) a3.2
  obtain ⟨v', h1', h2, g', T', b1, b2, b3, b4, b5⟩ := p g T h h1 H1
  rw [a1] at b1
  cases b1
  refine ⟨v, h1, h2, a1, b2, g', T', IV_cc b5 (by rw [b4.1]; exact Nat.le_refl _) b4.2 (by rw [b4.1]; exact Nat.le_trans n a3.1) (fun _ _ _ => ⟨rfl, rfl⟩)⟩
