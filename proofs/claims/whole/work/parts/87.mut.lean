theorem set_eq_wr (h : gz_H) (b i : Nat) (x : Int32) : gz_set h b i (.int x) = gz_wr h b i (i + 1) (fun _ => x) := by
  have := wr_s (h := h) (a := b) (lo := i) (hi := i) (f := fun _ => x) (Nat.le_refl _)
  rw [wr_0] at this
  exact this
theorem md_setI {h : gz_H} (m : md h) (b i : Nat) (x : Int32) (hb : (16 ≤ b ∧ b ≤ 44) ∨ (51 ≤ b ∧ b ≤ 54)) : md (gz_set h b i (.int x)) := by
  rw [set_eq_wr]; exact md_wr m _ _ _ _ hb
theorem I_set (h : gz_H) (a i : Nat) (x : Int32) (b j : Nat) : gz_I (gz_set h a i (.int x)) b j = if b = a ∧ j = i then x else gz_I h b j := by
  unfold gz_I
  rw [gz_v_set]
  by_cases q : b = a ∧ j = i
  · rw [if_pos q, if_pos q]
  · rw [if_neg q, if_neg q]
theorem I_seto (h : gz_H) (a i : Nat) (v : Value) (b j : Nat) (n : ¬ (b = a ∧ j = i)) : gz_I (gz_set h a i v) b j = gz_I h b j := by
  unfold gz_I
  rw [gz_v_set, if_neg n]
theorem J_seto (h : gz_H) (a i : Nat) (v : Value) (b j : Nat) (n : ¬ (b = a ∧ j = i)) : gz_J (gz_set h a i v) b j = gz_J h b j := by
  unfold gz_J
  rw [gz_v_set, if_neg n]
theorem md_set15 {h : gz_H} (m : md h) (f : Nat) (x : Int32) (hf : f ≤ 1 ∨ (18 ≤ f ∧ f ≤ 21) ∨ f = 47) : md (gz_set h 15 f (.int x)) := by
  obtain ⟨m1, m2, m3, m4, m5, m6, m7, m8, m9, m10, m11, m12⟩ := m
  have o : ∀ b i, ¬ (b = 15 ∧ i = f) → gz_v (gz_set h 15 f (.int x)) b i = gz_v h b i := fun b i n => by rw [gz_v_set, if_neg n]
  have ty : ∀ b i, gz_v h b i = .int (gz_I h b i) → gz_v (gz_set h 15 f (.int x)) b i = .int (gz_I (gz_set h 15 f (.int x)) b i) := fun b i hx => by
    rw [gz_v_set, I_set]
    by_cases q : b = 15 ∧ i = f
    · rw [if_pos q, if_pos q]
    · rw [if_neg q, if_neg q]; exact hx
  refine ⟨m1, m2, fun q h1 h2 => by rw [o _ _ (by omega)]; exact m3 q h1 h2, fun q h1 h2 => by rw [o _ _ (by omega)]; exact m4 q h1 h2, fun q h1 h2 => by rw [o _ _ (by omega)]; exact m5 q h1 h2, fun b i h1 h2 => ty b i (m6 b i h1 h2), fun b i h1 h2 => ?_, fun b i h1 h2 => ty b i (m8 b i h1 h2), fun q h1 => ty 15 q (m9 q h1), fun q h1 h2 => ty 15 q (m10 q h1 h2), fun q h1 h2 => ?_, ty 15 47 m12⟩
  · rw [o _ _ (by omega), J_seto _ _ _ _ _ _ (by omega)]; exact m7 b i h1 h2
  · rw [o _ _ (by omega), J_seto _ _ _ _ _ _ (by omega)]; exact m11 q h1 h2
theorem J_set (h : gz_H) (a i : Nat) (x : Int64) (b j : Nat) : gz_J (gz_set h a i (.long x)) b j = if b = a ∧ j = i then x else gz_J h b j := by
  unfold gz_J
  rw [gz_v_set]
  by_cases q : b = a ∧ j = i
  · rw [if_pos q, if_pos q]
  · rw [if_neg q, if_neg q]
theorem md_setJ {h : gz_H} (m : md h) (a f : Nat) (x : Int64) (hf : (45 ≤ a ∧ a ≤ 50) ∨ (a = 15 ∧ 27 ≤ f ∧ f ≤ 28)) : md (gz_set h a f (.long x)) := by
  obtain ⟨m1, m2, m3, m4, m5, m6, m7, m8, m9, m10, m11, m12⟩ := m
  have o : ∀ b i, ¬ (b = a ∧ i = f) → gz_v (gz_set h a f (.long x)) b i = gz_v h b i := fun b i n => by rw [gz_v_set, if_neg n]
  have ty : ∀ b i, gz_v h b i = .long (gz_J h b i) → gz_v (gz_set h a f (.long x)) b i = .long (gz_J (gz_set h a f (.long x)) b i) := fun b i hx => by
    rw [gz_v_set, J_set]
    by_cases q : b = a ∧ i = f
    · rw [if_pos q, if_pos q]
    · rw [if_neg q, if_neg q]; exact hx
  have ti : ∀ b i, ¬ (b = a ∧ i = f) → gz_v h b i = .int (gz_I h b i) → gz_v (gz_set h a f (.long x)) b i = .int (gz_I (gz_set h a f (.long x)) b i) := fun b i n hx => by
    rw [o b i n, I_seto _ _ _ _ _ _ n]; exact hx
  refine ⟨m1, m2, fun q h1 h2 => by rw [o _ _ (by omega)]; exact m3 q h1 h2, fun q h1 h2 => by rw [o _ _ (by omega)]; exact m4 q h1 h2, fun q h1 h2 => by rw [o _ _ (by omega)]; exact m5 q h1 h2, fun b i h1 h2 => ti b i (by omega) (m6 b i h1 h2), fun b i h1 h2 => ty b i (m7 b i h1 h2), fun b i h1 h2 => ti b i (by omega) (m8 b i h1 h2), fun q h1 => ti 15 q (by omega) (m9 q h1), fun q h1 h2 => ti 15 q (by omega) (m10 q h1 h2), fun q h1 h2 => ty 15 q (m11 q h1 h2), ti 15 47 (by omega) m12⟩
theorem jc_setI {h : gz_H} {a S : Nat} (c : jc h a S) (b i : Nat) (x : Int32) (hb : b ≠ a) : jc (gz_set h b i (.int x)) a S := by
  rw [set_eq_wr]; exact jc_wr c _ _ _ _ hb
theorem pc_setI {h : gz_H} {a n : Nat} (c : pc h a n) (b i : Nat) (x : Int32) (hb : b ≠ a) : pc (gz_set h b i (.int x)) a n := by
  rw [set_eq_wr]; exact pc_wr c _ _ _ _ hb
theorem jc_f {h : gz_H} {a S : Nat} (c : jc h a S) (f : Nat) (v : Value) (hf : 6 ≤ f) : jc (gz_set h a f v) a S := by
  obtain ⟨c1, c2, c3, c4, c5, c6, k1, k2, k3, k4, k5, k6, v0, v1, v2, v3, v4, v5, t1, t2, t3, t4⟩ := c
  have o : ∀ b i, ¬ (b = a ∧ i = f) → gz_v (gz_set h a f v) b i = gz_v h b i := fun b i n => by rw [gz_v_set, if_neg n]
  have ti : ∀ b, b ≠ a → (∀ i, gz_v h b i = .int (gz_I h b i)) → ∀ i, gz_v (gz_set h a f v) b i = .int (gz_I (gz_set h a f v) b i) := fun b hb hx i => by
    rw [o b i (fun z => hb z.1), I_seto _ _ _ _ _ _ (fun z => hb z.1)]; exact hx i
  exact ⟨c1, c2, c3, c4, c5, c6, k1, k2, k3, k4, k5, k6, by rw [o _ _ (by omega)]; exact v0, by rw [o _ _ (by omega)]; exact v1, by rw [o _ _ (by omega)]; exact v2, by rw [o _ _ (by omega)]; exact v3, by rw [o _ _ (by omega)]; exact v4, by rw [o _ _ (by omega)]; exact v5, ti _ (by omega) t1, ti _ (by omega) t2, ti _ (by omega) t3, ti _ (by omega) t4⟩
theorem pc_f {h : gz_H} {a n : Nat} (c : pc h a n) (f : Nat) (x : Int32) (hf : f ≤ 1 ∨ f = 3) : pc (gz_set h a f (.int x)) a n := by
  obtain ⟨c1, c2, c3, c4, c5, c6, k1, k2, k3, k4, k5, k6, v0, v1, v2, v3, v4, v5, v6, v7, v8, t1, t2, t3, t4, t5⟩ := c
  have o : ∀ b i, ¬ (b = a ∧ i = f) → gz_v (gz_set h a f (.int x)) b i = gz_v h b i := fun b i n => by rw [gz_v_set, if_neg n]
  have ty : ∀ b i, gz_v h b i = .int (gz_I h b i) → gz_v (gz_set h a f (.int x)) b i = .int (gz_I (gz_set h a f (.int x)) b i) := fun b i hx => by
    rw [gz_v_set, I_set]
    by_cases q : b = a ∧ i = f
    · rw [if_pos q, if_pos q]
    · rw [if_neg q, if_neg q]; exact hx
  exact ⟨c1, c2, c3, c4, c5, c6, k1, k2, k3, k4, k5, k6, ty _ _ v0, ty _ _ v1, by rw [o _ _ (by omega)]; exact v2, ty _ _ v3, by rw [o _ _ (by omega)]; exact v4, by rw [o _ _ (by omega)]; exact v5, by rw [o _ _ (by omega)]; exact v6, by rw [o _ _ (by omega)]; exact v7, by rw [o _ _ (by omega)]; exact v8, fun i => ty _ i (t1 i), fun i => ty _ i (t2 i), fun i => ty _ i (t3 i), fun i => ty _ i (t4 i), fun i => ty _ i (t5 i)⟩
theorem pc_n {h : gz_H} {a n : Nat} (c : pc h a n) (n' : Nat) : pc (gz_set h a 2 (.int (nI n'))) a n' := by
  obtain ⟨c1, c2, c3, c4, c5, c6, k1, k2, k3, k4, k5, k6, v0, v1, v2, v3, v4, v5, v6, v7, v8, t1, t2, t3, t4, t5⟩ := c
  have o : ∀ b i, ¬ (b = a ∧ i = 2) → gz_v (gz_set h a 2 (.int (nI n'))) b i = gz_v h b i := fun b i n => by rw [gz_v_set, if_neg n]
  have ty : ∀ b i, gz_v h b i = .int (gz_I h b i) → gz_v (gz_set h a 2 (.int (nI n'))) b i = .int (gz_I (gz_set h a 2 (.int (nI n'))) b i) := fun b i hx => by
    rw [gz_v_set, I_set]
    by_cases q : b = a ∧ i = 2
    · rw [if_pos q, if_pos q]
    · rw [if_neg q, if_neg q]; exact hx
  exact ⟨c1, c2, c3, c4, c5, c6, k1, k2, k3, k4, k5, k6, ty _ _ v0, ty _ _ v1, by rw [gz_v_set, if_pos ⟨rfl, rfl⟩], ty _ _ v3, by rw [o _ _ (by omega)]; exact v4, by rw [o _ _ (by omega)]; exact v5, by rw [o _ _ (by omega)]; exact v6, by rw [o _ _ (by omega)]; exact v7, by rw [o _ _ (by omega)]; exact v8, fun i => ty _ i (t1 i), fun i => ty _ i (t2 i), fun i => ty _ i (t3 i), fun i => ty _ i (t4 i), fun i => ty _ i (t5 i)⟩
theorem sm_rf (h : gz_H) (x : Nat) : sm h h x := ⟨rfl, rfl⟩
theorem sm_set {h h' : gz_H} {x b i : Nat} {v : Value} (e : sm h h' x) (n : x ≠ b) : sm h (gz_set h' b i v) x := ⟨by
  rw [← e.1]; funext k; rw [gz_v_set, if_neg (fun z => n z.1)], e.2⟩
theorem sm_wr {h h' : gz_H} {x b lo hi : Nat} {f : Nat → Int32} (e : sm h h' x) (n : x ≠ b) : sm h (gz_wr h' b lo hi f) x := ⟨by
  rw [← e.1]; funext k; rw [wr_v, if_neg (fun z => n z.1)], e.2⟩
/-- the ghost stands, but for junction j's plans -/
def gk (g g' : gz_G) (j n : Nat) : Prop := g' 7 0 = g 7 0 ∧ (∀ i, g' 6 i = g 6 i) ∧ (∀ s, g' 1 s = g 1 s) ∧ (∀ s, g' 2 s = g 2 s) ∧ (∀ i, g' 0 i = g 0 i) ∧ (∀ i, i < 8 → i ≠ j → g' 3 i = g 3 i ∧ g' 3 (8 + i) = g 3 (8 + i)) ∧ ∀ x, x < n → g 5 x ≠ 1 + j → g 5 x ≠ 300 + j → g 5 x ≠ 300 + (8 + j) → g' 5 x = g 5 x
theorem gk_rf (g : gz_G) (j n : Nat) : gk g g j n := ⟨rfl, fun _ => rfl, fun _ => rfl, fun _ => rfl, fun _ => rfl, fun _ _ _ => ⟨rfl, rfl⟩, fun _ _ _ _ _ => rfl⟩
theorem wc_sm {h h' : gz_H} (m : h.1 ≤ h'.1) (e : ∀ x, 2 ≤ x → x < 15 → sm h h' x) (f : wc h 2) : wc h' 2 := by
  obtain ⟨w1, w2, w3⟩ := f
  have a2 := e 2 (by omega) (by omega)
  have a3 := e 3 (by omega) (by omega)
  refine ⟨by omega, by omega, ?_⟩
  simp only [Nat.reduceAdd, sm_I a2, sm_I a3, a2.1, a2.2, a3.1, a3.2]
  exact w3
theorem ac_sm {h h' : gz_H} (e : ∀ x, 2 ≤ x → x < 15 → sm h h' x) (f : ac h) : ac h' := by
  have a4 := e 4 (by omega) (by omega)
  obtain ⟨w1, w2, w3, w4, w5, w6, w7⟩ := f
  simp only [ac, a4.1, sm_J a4]
  exact ⟨w1, w2, w3, w4, w5, w6, fun x i h1 h2 => by rw [sm_I (e x (by omega) (by omega)), (e x (by omega) (by omega)).1]; exact w7 x i h1 h2⟩
theorem yc_sm {h h' : gz_H} (e : ∀ x, 2 ≤ x → x < 15 → sm h h' x) (f : yc h) : yc h' := by
  have a9 := e 9 (by omega) (by omega)
  obtain ⟨w1, w2, w3, w4, w5, w6, w7, w8⟩ := f
  simp only [yc, a9.1, sm_I a9]
  exact ⟨w1, w2, w3, w4, w5, w6, fun x i h1 h2 => by rw [sm_I (e x (by omega) (by omega)), (e x (by omega) (by omega)).1]; exact w7 x i h1 h2, fun x i h1 h2 => by rw [sm_J (e x (by omega) (by omega)), (e x (by omega) (by omega)).1]; exact w8 x i h1 h2⟩
theorem IV_k {g g' : gz_G} {T : Nat} {P : Nat → Nat} {hc hc' hr hr' : gz_H} {j : Nat} (H : IV g T P hc hr) (hj : j < g 7 0) (m : hc.1 ≤ hc'.1) (G : gk g g' j hc.1) (e : ∀ x, x < hc.1 → g 5 x ≠ 1 + j → g 5 x ≠ 300 + j → g 5 x ≠ 300 + (8 + j) → sm hc hc' x) (M : md hr') (r15 : ∀ i, gz_v hr' 15 i = gz_v hr 15 i) (r16 : ∀ i, gz_v hr' 16 i = gz_v hr 16 i) (r : ∀ i, i < 8 → i ≠ j → ro hr hr' i) (rs : ∀ s, s < 64 → so hr hr' s) (N : JV g' hc' hr' j) (L : gz_v hc' (g 0 j) 10 = gz_v hc (g 0 j) 10) : IV g' T P hc' hr' := by
  obtain ⟨G0, G6, G1, G2, Ga, G3, G5⟩ := G
  have h8 := IV_8 H
  have F := H.1
  obtain ⟨f1, f2, f3, f4, f5, f6, f7, f8, f9, f10, f11, f12, f13, f14, f15, f16⟩ := F
  have e15 : ∀ x, x < 15 → sm hc hc' x := fun x hx => by
    have := f15 x hx
    exact e x (by omega) (by omega) (by omega) (by omega)
  refine IV_j H hj m G0 G6 G1 G2 Ga G3 (fun x hx _ h1 h2 h3 => ⟨G5 x hx h1 h2 h3, e x hx h1 h2 h3⟩) (fun x hx => ?_) (fun x hx => (e15 x hx).2) (fun f _ => by rw [(e15 0 (by omega)).1]) (fun f q1 q2 => ?_) (fun i => by rw [(e15 1 (by omega)).1]) (wc_sm m (fun x _ hx => e15 x hx) f3) (ac_sm (fun x _ hx => e15 x hx) f4) (yc_sm (fun x _ hx => e15 x hx) f5) M (fun f _ => r15 f) r16 r rs ?_ N L
  · by_cases q : x < 15
    · have := f15 x q
      exact G5 x (by omega) (by omega) (by omega) (by omega)
    · have := f16 x (by omega) hx
      exact G5 x (by omega) (by omega) (by omega) (by omega)
  · rw [sm_I (e15 0 (by omega)), (e15 0 (by omega)).1]
    exact f2.2.2.2.2.2.2.2.2.2.2.2.2.2.2.2.2.2.2.2.2.2.1 f (by omega) q2
  · have W := H.2.1
    unfold WV at *
    rw [(e15 0 (by omega)).1, vI (r15 18), vI (r15 19), vI (r15 20), vI (r15 21)]
    exact W
theorem pl_cs {g : gz_G} {T : Nat} {P : Nat → Nat} {hc hr : gz_H} (H : IV g T P hc hr) {j : Nat} (hj : j < g 7 0) : (se_X1_hasPlan [.ref (g 0 j)] hc = some (some (.int 0), hc) ∧ se_X8_isPlanned [.ref 15, .int (nI j)] hr = some (some (.int 0), hr) ∧ gz_I hr 23 j = 0 ∧ gz_I hr 23 (8 + j) = 0 ∧ gz_v hc (g 0 j) 6 = .null ∧ gz_v hc (g 0 j) 7 = .null) ∨ (se_X1_hasPlan [.ref (g 0 j)] hc = some (some (.int 1), hc) ∧ se_X8_isPlanned [.ref 15, .int (nI j)] hr = some (some (.int 1), hr)) := by
  have k := IV_jc H hj
  have h8 := IV_8 H
  obtain ⟨p1, p2, p3⟩ := st_X1_hasPlan hc (g 0 j) (g 6 j) k
  rw [st_X8_isPlanned hr (IV_md H) j (by omega)]
  have n10 : ¬ (1 : Int32) = 0 := by decide
  rcases (H.2.2.1 j hj).2.2.1 with ⟨q1, q2⟩ | ⟨q1, q2, -⟩
  · rcases (H.2.2.1 j hj).2.2.2.1 with ⟨w1, w2⟩ | ⟨w1, w2, -⟩
    · exact Or.inl ⟨p1 q2 w2, by rw [if_pos ⟨q1, w1⟩], q1, w1, q2, w2⟩
    · exact Or.inr ⟨p3 _ q2 w2, by rw [if_neg (fun z => n10 (w1.symm.trans z.2))]⟩
  · exact Or.inr ⟨p2 _ q2, by rw [if_neg (fun z => n10 (q1.symm.trans z.1))]⟩
