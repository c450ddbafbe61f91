/-- a cell stands as it was -/
def sm (h h' : gz_H) (x : Nat) : Prop := gz_v h' x = gz_v h x ∧ gz_k h' x = gz_k h x
theorem sm_I {h h' : gz_H} {x : Nat} (e : sm h h' x) : gz_I h' x = gz_I h x := by funext i; unfold gz_I; rw [e.1]
theorem sm_J {h h' : gz_H} {x : Nat} (e : sm h h' x) : gz_J h' x = gz_J h x := by funext i; unfold gz_J; rw [e.1]
theorem vI {h h' : gz_H} {x i : Nat} (e : gz_v h' x i = gz_v h x i) : gz_I h' x i = gz_I h x i := by unfold gz_I; rw [e]
theorem vJ {h h' : gz_H} {x i : Nat} (e : gz_v h' x i = gz_v h x i) : gz_J h' x i = gz_J h x i := by unfold gz_J; rw [e]
theorem pc_sm {h h' : gz_H} {q n : Nat} (m : h.1 ≤ h'.1) (e : ∀ k, k ≤ 5 → sm h h' (q + k)) (c : pc h q n) : pc h' q n := by
  obtain ⟨c1, c2, c3, c4, c5, c6, cr⟩ := c
  have e0 := e 0 (by omega)
  rw [Nat.add_zero] at e0
  have e1 := e 1 (by omega)
  have e2 := e 2 (by omega)
  have e3 := e 3 (by omega)
  have e4 := e 4 (by omega)
  have e5 := e 5 (by omega)
  refine ⟨by omega, by omega, by omega, by omega, by omega, by omega, ?_⟩
  simp only [sm_I e0, sm_I e1, sm_I e2, sm_I e3, sm_I e4, sm_I e5, e0.1, e0.2, e1.1, e1.2, e2.1, e2.2, e3.1, e3.2, e4.1, e4.2, e5.1, e5.2]
  exact cr
theorem jc_sm {h h' : gz_H} {q n : Nat} (m : h.1 ≤ h'.1) (e : ∀ k, k ≤ 5 → sm h h' (q + k)) (c : jc h q n) : jc h' q n := by
  obtain ⟨c1, c2, c3, c4, c5, c6, cr⟩ := c
  have e0 := e 0 (by omega)
  rw [Nat.add_zero] at e0
  have e1 := e 1 (by omega)
  have e2 := e 2 (by omega)
  have e3 := e 3 (by omega)
  have e4 := e 4 (by omega)
  have e5 := e 5 (by omega)
  refine ⟨by omega, by omega, by omega, by omega, by omega, by omega, ?_⟩
  simp only [sm_I e0, sm_I e1, sm_I e2, sm_I e3, sm_I e4, sm_I e5, e0.1, e0.2, e1.1, e1.2, e2.1, e2.2, e3.1, e3.2, e4.1, e4.2, e5.1, e5.2]
  exact cr
theorem sc_sm {h h' : gz_H} {x : Nat} (m : h.1 ≤ h'.1) (e : sm h h' x) (c : sc h x) : sc h' x := by
  obtain ⟨c1, cr⟩ := c
  refine ⟨by omega, ?_⟩
  simp only [sm_I e, sm_J e, e.1, e.2]
  exact cr
theorem tc_sm {h h' : gz_H} {x : Nat} (m : h.1 ≤ h'.1) (e : sm h h' x) (e1 : sm h h' (x + 1)) (c : tc h x) : tc h' x := by
  obtain ⟨c1, c2, cr⟩ := c
  refine ⟨by omega, by omega, ?_⟩
  simp only [sm_I e, sm_I e1, e.1, e.2, e1.1, e1.2]
  exact cr
/-- whose a cell of the reference is: a junction's, a stream's -/
def rj (b i : Nat) : Nat := if b = 16 ∨ b = 29 ∨ b = 30 ∨ b = 31 then i else if b = 21 ∨ b = 22 then i / 64 else if b = 23 ∨ b = 24 ∨ b = 25 ∨ b = 28 then i % 8 else if b = 26 ∨ b = 27 then i / 4 % 8 else if b = 32 ∨ b = 33 then i / 90 % 8 else if b = 52 then i / 200 else 99
def rt (b i : Nat) : Nat := if b = 42 then i / 60 else if (17 ≤ b ∧ b ≤ 20) ∨ (37 ≤ b ∧ b ≤ 51) then i else 99
/-- finer: gaps, a plan, lamps, what is torn -/
def rq (b i : Nat) : Nat := if b = 21 ∨ b = 22 then 8 * (i / 64) + 1 else if b = 23 ∨ b = 24 ∨ b = 25 ∨ b = 28 then 8 * i + 2 else if b = 26 ∨ b = 27 then 8 * (i / 4) + 2 else if b = 32 ∨ b = 33 then 8 * (i / 90) + 2 else if b = 52 then 8 * (i / 200) + 3 else if b = 30 ∨ b = 31 then 8 * i + 3 else if b = 29 then 8 * i + 4 else 0
def ra (h h' : gz_H) (c : Nat) : Prop := ∀ b i, rq b i = c → gz_v h' b i = gz_v h b i
theorem ra_rf (h : gz_H) (c : Nat) : ra h h c := fun _ _ _ => rfl
theorem ra_set {h h' : gz_H} {c b i : Nat} {v : Value} (e : ra h h' c) (n : rq b i ≠ c) : ra h (gz_set h' b i v) c := fun x y q => by
  rw [gz_v_set, if_neg (fun z => n (by rw [← z.1, ← z.2]; exact q))]; exact e x y q
theorem ra_wr {h h' : gz_H} {c b lo hi : Nat} {f : Nat → Int32} (e : ra h h' c) (n : ∀ i, lo ≤ i → i < hi → rq b i ≠ c) : ra h (gz_wr h' b lo hi f) c := fun x y q => by
  rw [wr_v, if_neg (fun z => n y z.2.1 z.2.2 (by rw [← z.1]; exact q))]; exact e x y q
def ro (h h' : gz_H) (j : Nat) : Prop := ∀ b i, rj b i = j → gz_v h' b i = gz_v h b i
def so (h h' : gz_H) (s : Nat) : Prop := ∀ b i, rt b i = s → gz_v h' b i = gz_v h b i
theorem ro_rf (h : gz_H) (j : Nat) : ro h h j := fun _ _ _ => rfl
theorem so_rf (h : gz_H) (s : Nat) : so h h s := fun _ _ _ => rfl
theorem ro_set {h h' : gz_H} {j b i : Nat} {v : Value} (e : ro h h' j) (n : rj b i ≠ j) : ro h (gz_set h' b i v) j := fun x y q => by
  rw [gz_v_set, if_neg (fun z => n (by rw [← z.1, ← z.2]; exact q))]; exact e x y q
theorem so_set {h h' : gz_H} {s b i : Nat} {v : Value} (e : so h h' s) (n : rt b i ≠ s) : so h (gz_set h' b i v) s := fun x y q => by
  rw [gz_v_set, if_neg (fun z => n (by rw [← z.1, ← z.2]; exact q))]; exact e x y q
theorem ro_wr {h h' : gz_H} {j b lo hi : Nat} {f : Nat → Int32} (e : ro h h' j) (n : ∀ i, lo ≤ i → i < hi → rj b i ≠ j) : ro h (gz_wr h' b lo hi f) j := fun x y q => by
  rw [wr_v, if_neg (fun z => n y z.2.1 z.2.2 (by rw [← z.1]; exact q))]; exact e x y q
theorem so_wr {h h' : gz_H} {s b lo hi : Nat} {f : Nat → Int32} (e : so h h' s) (n : ∀ i, lo ≤ i → i < hi → rt b i ≠ s) : so h (gz_wr h' b lo hi f) s := fun x y q => by
  rw [wr_v, if_neg (fun z => n y z.2.1 z.2.2 (by rw [← z.1]; exact q))]; exact e x y q
theorem ro_ra {h h' : gz_H} {j c : Nat} (hj : j < 8) (r : ro h h' j) (hc : c = 8 * j + 1 ∨ c = 8 * j + 2 ∨ c = 8 * (8 + j) + 2 ∨ c = 8 * j + 3 ∨ c = 8 * j + 4) : ra h h' c := fun b i q => by
  refine r b i ?_
  unfold rq at q
  by_cases q1 : b = 21 ∨ b = 22
  · rw [if_pos q1] at q
    have : rj b i = i / 64 := by rcases q1 with rfl | rfl <;> simp [rj]
    omega
  rw [if_neg q1] at q
  by_cases q2 : b = 23 ∨ b = 24 ∨ b = 25 ∨ b = 28
  · rw [if_pos q2] at q
    have : rj b i = i % 8 := by rcases q2 with rfl | rfl | rfl | rfl <;> simp [rj]
    omega
  rw [if_neg q2] at q
  by_cases q3 : b = 26 ∨ b = 27
  · rw [if_pos q3] at q
    have : rj b i = i / 4 % 8 := by rcases q3 with rfl | rfl <;> simp [rj]
    omega
  rw [if_neg q3] at q
  by_cases q4 : b = 32 ∨ b = 33
  · rw [if_pos q4] at q
    have : rj b i = i / 90 % 8 := by rcases q4 with rfl | rfl <;> simp [rj]
    omega
  rw [if_neg q4] at q
  by_cases q5 : b = 52
  · rw [if_pos q5] at q
    have : rj b i = i / 200 := by subst q5; simp [rj]
    omega
  rw [if_neg q5] at q
  by_cases q6 : b = 30 ∨ b = 31
  · rw [if_pos q6] at q
    have : rj b i = i := by rcases q6 with rfl | rfl <;> simp [rj]
    omega
  rw [if_neg q6] at q
  by_cases q7 : b = 29
  · rw [if_pos q7] at q
    have : rj b i = i := by subst q7; simp [rj]
    omega
  rw [if_neg q7] at q
  omega
theorem ap_ro {hr hr' : gz_H} {j : Nat} (r : ra hr hr' (8 * j + 1)) {i k : Nat} (hi : i < 8) (hk : k < 8) : md_ap hr' j i k = md_ap hr j i k := by
  unfold md_ap
  have a1 : gz_I hr' 22 (64 * j + 8 * i + k) = gz_I hr 22 (64 * j + 8 * i + k) := vI (r 22 _ (by simp [rq]; omega))
  have a2 : gz_I hr' 22 (64 * j + 8 * k + i) = gz_I hr 22 (64 * j + 8 * k + i) := vI (r 22 _ (by simp [rq]; omega))
  have a3 : gz_I hr' 21 (64 * j + 8 * i + k) = gz_I hr 21 (64 * j + 8 * i + k) := vI (r 21 _ (by simp [rq]; omega))
  rw [a1, a2, a3]
theorem fo_ext {f g : Nat → Int32 → Int32} : ∀ n x, (∀ i, i < n → ∀ y, f i y = g i y) → gz_fo f x n = gz_fo g x n := by
  intro n
  induction n with
  | zero => intro x _; rfl
  | succ n ih => intro x e; show f n (gz_fo f x n) = g n (gz_fo g x n); rw [ih x (fun i hi => e i (by omega)), e n (by omega)]
theorem bw_ap {hr hr' : gz_H} {j : Nat} (e : ∀ i k, i < 8 → k < 8 → md_ap hr' j i k = md_ap hr j i k) (x y : Int32) : md_bw hr' j x y = md_bw hr j x y := by
  unfold md_bw
  refine fo_ext 8 0 (fun i hi y => fo_ext 8 y (fun k hk z => ?_))
  show (if _ then gz_mx z (md_ap hr' j i k) else z) = (if _ then gz_mx z (md_ap hr j i k) else z)
  rw [e i k hi hk]
theorem J1_fr {g g' : gz_G} {hc hc' : gz_H} {j : Nat} (m : hc.1 ≤ hc'.1) (A : g' 0 j = g 0 j) (S : g' 6 j = g 6 j) (B : ∀ i, i < g 6 j → g' 1 (8 * j + i) = g 1 (8 * j + i)) (e : ∀ x, x < hc.1 → g 5 x = 1 + j → g' 5 x = 1 + j ∧ sm hc hc' x) (v : gz_v hc' 1 j = gz_v hc 1 j) (H : J1 g hc j) : J1 g' hc' j := by
  obtain ⟨h1, h2, h3, h4, h5⟩ := H
  have hl : ∀ k, k ≤ 5 → g 0 j + k < hc.1 := fun k hk => by
    have := h2.2.2.2.2.2.1
    omega
  unfold J1
  rw [A, S]
  refine ⟨h1, jc_sm m (fun k hk => (e _ (hl k hk) (h4 k hk)).2) h2, v.trans h3, fun k hk => (e _ (hl k hk) (h4 k hk)).1, fun i hi => ?_⟩
  rw [(e _ (hl 1 (by omega)) (h4 1 (by omega))).2.1, B i hi]
  exact h5 i hi
theorem J2_fr {hc hc' hr hr' : gz_H} {a j : Nat} (e2 : sm hc hc' (a + 2)) (e3 : sm hc hc' (a + 3)) (e4 : sm hc hc' (a + 4)) (r : ra hr hr' (8 * j + 1)) (H : J2 hc hr a j) : J2 hc' hr' a j := by
  obtain ⟨h1, h2, h3, h4, h5, h6⟩ := H
  have a1 : ∀ i k, i < 8 → k < 8 → gz_I hr' 21 (64 * j + 8 * i + k) = gz_I hr 21 (64 * j + 8 * i + k) := fun i k hi hk => vI (r 21 _ (by simp [rq]; omega))
  have a2 : ∀ i k, i < 8 → k < 8 → gz_I hr' 22 (64 * j + 8 * i + k) = gz_I hr 22 (64 * j + 8 * i + k) := fun i k hi hk => vI (r 22 _ (by simp [rq]; omega))
  refine ⟨fun i k hi hk => ?_, fun i k hi hk => ?_, fun i k hi hk => ?_, fun i hi => ?_, fun i k hi hk => ?_, fun i k hi hk => ?_, fun i k hi hk => ?_, fun i k hi hk => ?_, fun i hi => ?_⟩
  · rw [sm_I e2, a1 i k hi hk]; exact h1 i k hi hk
  · rw [a1 i k hi hk]; exact h2 i k hi hk
  · rw [a1 i k hi hk, a1 k i hk hi]; exact h3 i k hi hk
  · rw [a1 i i hi hi]; exact h4 i hi
  · rw [sm_I e3, a2 i k hi hk]; exact h5 i k hi hk
  · rw [sm_I e4, ap_ro r hi hk]; exact h6.1 i k hi hk
  · rw [sm_I e4]; exact h6.2.1 i k hi hk
  · rw [ap_ro r hi hk, ap_ro r hk hi]; exact h6.2.2.1 i k hi hk
  · rw [ap_ro r hi hi]; exact h6.2.2.2 i hi
theorem bw_fr {hr hr' : gz_H} {p n s : Nat} (r : ra hr hr' (8 * (p % 8) + 1)) (r2 : ra hr hr' (8 * p + 2)) (hs : s < n) (hn : n ≤ 4) : bw hr' p n s = bw hr p n s := by
  have e : ∀ s, s < 4 → gz_I hr' 26 (4 * p + s) = gz_I hr 26 (4 * p + s) := fun s hs => vI (r2 26 _ (by simp [rq]; omega))
  have hm := Nat.mod_lt (s + 1) (show 0 < n by omega)
  unfold bw
  rw [e s (by omega), e ((s + 1) % n) (by omega)]
  exact bw_ap (fun i k hi hk => ap_ro r hi hk) _ _
theorem PV_fr {hc hc' hr hr' : gz_H} {S q p n c : Nat} (m : hc.1 ≤ hc'.1) (e : ∀ k, k ≤ 5 → sm hc hc' (q + k)) (r : ra hr hr' (8 * (p % 8) + 1)) (r2 : ra hr hr' (8 * p + 2)) (H : PV hc hr S q p n c) : PV hc' hr' S q p n c := by
  obtain ⟨h1, h2, h3, h4, h5, h6, h7, h8⟩ := H
  have e0 := e 0 (by omega)
  rw [Nat.add_zero] at e0
  have r26 : ∀ s, s < 4 → gz_I hr' 26 (4 * p + s) = gz_I hr 26 (4 * p + s) := fun s hs => vI (r2 26 _ (by simp [rq]; omega))
  have r27 : ∀ s, s < 4 → gz_I hr' 27 (4 * p + s) = gz_I hr 27 (4 * p + s) := fun s hs => vI (r2 27 _ (by simp [rq]; omega))
  have r24 : gz_I hr' 24 p = gz_I hr 24 p := vI (r2 24 _ (by simp [rq]))
  have r25 : gz_I hr' 25 p = gz_I hr 25 p := vI (r2 25 _ (by simp [rq]))
  refine ⟨h1, h2, h3, pc_sm m e h4, by rw [sm_I e0]; exact h5, by rw [r24]; exact h6, by rw [r25]; exact h7, fun s hs => ?_⟩
  rw [sm_I (e 1 (by omega)), sm_I (e 2 (by omega)), sm_I (e 3 (by omega)), r26 s (by omega), r27 s (by omega), bw_fr r r2 hs h1]
  exact h8 s hs
theorem TK_fr {hc hc' hr hr' : gz_H} {q j n c : Nat} (hj : j < 8) (h9 : c ≤ 90) (e : ∀ k, k ≤ 5 → sm hc hc' (q + k)) (r2 : ra hr hr' (8 * (8 + j) + 2)) (r4 : ra hr hr' (8 * j + 4)) (H : TK hc hr q j n c) : TK hc' hr' q j n c := by
  obtain ⟨h1, h2, h3, h4, E, h5, h6, h7⟩ := H
  have e0 := e 0 (by omega)
  rw [Nat.add_zero] at e0
  have r28 : gz_I hr' 28 (8 + j) = gz_I hr 28 (8 + j) := vI (r2 28 _ (by simp [rq]))
  have r29 : gz_I hr' 29 j = gz_I hr 29 j := vI (r4 29 _ (by simp [rq]))
  have r32 : ∀ t, t < 90 → gz_I hr' 32 (90 * (8 + j) + t) = gz_I hr 32 (90 * (8 + j) + t) := fun t ht => vI (r2 32 _ (by simp [rq]; omega))
  have r33 : ∀ t, t < 90 → gz_I hr' 33 (90 * (8 + j) + t) = gz_I hr 33 (90 * (8 + j) + t) := fun t ht => vI (r2 33 _ (by simp [rq]; omega))
  have mono : ∀ d s, s + d ≤ n → E s ≤ E (s + d) := by
    intro d
    induction d with
    | zero => intro s _; exact Nat.le_refl _
    | succ d ih => intro s hs; exact Nat.le_trans (ih s (by omega)) (Nat.le_of_lt (h7 (s + d) (by omega)).1)
  refine ⟨h1, by rw [sm_I e0, r28]; exact h2, by rw [sm_I e0, r29]; exact h3, fun t ht => by rw [sm_I (e 5 (by omega)), r32 t (by omega)]; exact h4 t ht, E, h5, h6, fun s hs => ?_⟩
  have hb : E (s + 1) ≤ 90 := by
    have := mono (n - (s + 1)) (s + 1) (by omega)
    rw [show s + 1 + (n - (s + 1)) = n by omega] at this
    omega
  rw [sm_I (e 4 (by omega))]
  refine ⟨(h7 s hs).1, (h7 s hs).2.1, fun t h1 h2 => ?_⟩
  rw [r33 t (by omega)]
  exact (h7 s hs).2.2 t h1 h2
theorem PO_fr {g g' : gz_G} {hc : gz_H} {p n : Nat} (A : g' 3 p = g 3 p) (c : pc hc (g 3 p) n) (e : ∀ x, x < hc.1 → g 5 x = 300 + p → g' 5 x = 300 + p) (H : PO g p) : PO g' p := by
  unfold PO
  rw [A]
  exact ⟨H.1, fun k hk => e _ (by have := c.2.2.2.2.2.1; omega) (H.2 k hk)⟩
theorem J3_fr {g g' : gz_G} {hc hc' hr hr' : gz_H} {j : Nat} (hj : j < 8) (m : hc.1 ≤ hc'.1) (A : g' 0 j = g 0 j) (S : g' 6 j = g 6 j) (Q : g' 3 j = g 3 j) (e : ∀ x, x < hc.1 → g 5 x = 300 + j → g' 5 x = 300 + j ∧ sm hc hc' x) (v : gz_v hc' (g 0 j) 6 = gz_v hc (g 0 j) 6) (r : ra hr hr' (8 * j + 1)) (r2 : ra hr hr' (8 * j + 2)) (H : J3 g hc hr j) : J3 g' hc' hr' j := by
  have r23 : gz_I hr' 23 j = gz_I hr 23 j := vI (r2 23 _ (by simp [rq]))
  unfold J3
  rw [r23, A, S, Q, v]
  rcases H with H | ⟨h1, h2, h3, n, c, h4⟩
  · exact Or.inl H
  · have hl : ∀ k, k ≤ 5 → g 3 j + k < hc.1 := fun k hk => by
      have := h4.2.2.2.1.2.2.2.2.2.1
      omega
    exact Or.inr ⟨h1, h2, PO_fr Q h4.2.2.2.1 (fun x hx hg => (e x hx hg).1) h3, n, c, PV_fr m (fun k hk => (e _ (hl k hk) (h3.2 k hk)).2) (by rw [Nat.mod_eq_of_lt hj]; exact r) r2 h4⟩
theorem J4_fr {g g' : gz_G} {hc hc' hr hr' : gz_H} {j : Nat} (hj : j < 8) (m : hc.1 ≤ hc'.1) (A : g' 0 j = g 0 j) (S : g' 6 j = g 6 j) (Q : g' 3 (8 + j) = g 3 (8 + j)) (e : ∀ x, x < hc.1 → g 5 x = 300 + (8 + j) → g' 5 x = 300 + (8 + j) ∧ sm hc hc' x) (v : gz_v hc' (g 0 j) 7 = gz_v hc (g 0 j) 7) (r : ra hr hr' (8 * j + 1)) (r2 : ra hr hr' (8 * (8 + j) + 2)) (r4 : ra hr hr' (8 * j + 4)) (H : J4 g hc hr j) : J4 g' hc' hr' j := by
  have r23 : gz_I hr' 23 (8 + j) = gz_I hr 23 (8 + j) := vI (r2 23 _ (by simp [rq]))
  unfold J4
  rw [r23, A, S, Q, v]
  rcases H with H | ⟨h1, h2, h3, n, c, h4, h5⟩
  · exact Or.inl H
  · have hl : ∀ k, k ≤ 5 → g 3 (8 + j) + k < hc.1 := fun k hk => by
      have := h4.2.2.2.1.2.2.2.2.2.1
      omega
    have es : ∀ k, k ≤ 5 → sm hc hc' (g 3 (8 + j) + k) := fun k hk => (e _ (hl k hk) (h3.2 k hk)).2
    exact Or.inr ⟨h1, h2, PO_fr Q h4.2.2.2.1 (fun x hx hg => (e x hx hg).1) h3, n, c, PV_fr m es (by rw [show (8 + j) % 8 = j by omega]; exact r) r2 h4, TK_fr hj h4.2.2.1 es r2 r4 h5⟩
theorem J5_fr {hc hc' hr hr' : gz_H} {a j : Nat} (e0 : ∀ f, 8 ≤ f → f ≤ 10 → gz_v hc' a f = gz_v hc a f) (e5 : sm hc hc' (a + 5)) (r : ra hr hr' (8 * j + 3)) (H : J5 hc hr a j) : J5 hc' hr' a j := by
  obtain ⟨h1, h2, h3, h4, h5⟩ := H
  have r31 : gz_I hr' 31 j = gz_I hr 31 j := vI (r 31 _ (by simp [rq]))
  have r30 : gz_I hr' 30 j = gz_I hr 30 j := vI (r 30 _ (by simp [rq]))
  unfold J5
  rw [e0 8 (by omega) (by omega), e0 9 (by omega) (by omega), vI (e0 10 (by omega) (by omega)), e0 10 (by omega) (by omega), r31, r30]
  refine ⟨h1, h2, h3, h4, fun u hu => ?_⟩
  rw [sm_I e5, vI (r 52 _ (by simp [rq]; omega))]
  exact h5 u hu
/-- the ghost stands for junction j -/
def ga (g g' : gz_G) (j : Nat) : Prop := g' 0 j = g 0 j ∧ g' 6 j = g 6 j ∧ (∀ i, i < g 6 j → g' 1 (8 * j + i) = g 1 (8 * j + i)) ∧ g' 3 j = g 3 j ∧ g' 3 (8 + j) = g 3 (8 + j)
theorem JV_fr {g g' : gz_G} {hc hc' hr hr' : gz_H} {j : Nat} (hj : j < 8) (m : hc.1 ≤ hc'.1) (G : ga g g' j) (e : ∀ x, x < hc.1 → (g 5 x = 1 + j ∨ g 5 x = 300 + j ∨ g 5 x = 300 + (8 + j)) → g' 5 x = g 5 x ∧ sm hc hc' x) (v : gz_v hc' 1 j = gz_v hc 1 j) (r : ro hr hr' j) (H : JV g hc hr j) : JV g' hc' hr' j := by
  obtain ⟨h1, h2, h3, h4, h5⟩ := H
  obtain ⟨A, S, B, Q1, Q2⟩ := G
  have r1 := ro_ra hj r (c := 8 * j + 1) (by omega)
  have r2 := ro_ra hj r (c := 8 * j + 2) (by omega)
  have r2' := ro_ra hj r (c := 8 * (8 + j) + 2) (by omega)
  have r3 := ro_ra hj r (c := 8 * j + 3) (by omega)
  have r4 := ro_ra hj r (c := 8 * j + 4) (by omega)
  have hl : ∀ k, k ≤ 5 → g 0 j + k < hc.1 := fun k hk => by
    have := h1.2.1.2.2.2.2.2.1
    omega
  have es : ∀ k, k ≤ 5 → sm hc hc' (g 0 j + k) := fun k hk => (e _ (hl k hk) (Or.inl (h1.2.2.2.1 k hk))).2
  have e0 := es 0 (by omega)
  rw [Nat.add_zero] at e0
  refine ⟨J1_fr m A S B (fun x hx hg => ?_) v h1, ?_, J3_fr hj m A S Q1 (fun x hx hg => ?_) (by rw [e0.1]) r1 r2 h3, J4_fr hj m A S Q2 (fun x hx hg => ?_) (by rw [e0.1]) r1 r2' r4 h4, ?_⟩
  · have := e x hx (Or.inl hg)
    exact ⟨this.1.trans hg, this.2⟩
  · rw [A]; exact J2_fr (es 2 (by omega)) (es 3 (by omega)) (es 4 (by omega)) r1 h2
  · have := e x hx (Or.inr (Or.inl hg))
    exact ⟨this.1.trans hg, this.2⟩
  · have := e x hx (Or.inr (Or.inr hg))
    exact ⟨this.1.trans hg, this.2⟩
  · rw [A]; exact J5_fr (fun f _ _ => by rw [e0.1]) (es 5 (by omega)) r3 h5
theorem WG_fr {g g' : gz_G} {T : Nat} {hc hc' hr hr' : gz_H} {j : Nat} (A : g' 0 j = g 0 j) (S : g' 6 j = g 6 j) (v : gz_v hc' (g 0 j) 10 = gz_v hc (g 0 j) 10) (r : ∀ i, i < g 6 j → gz_v hr' 51 (8 * j + i) = gz_v hr 51 (8 * j + i)) (H : WG g T hc hr j) : WG g' T hc' hr' j := by
  unfold WG
  rw [A, S, vI v]
  exact ⟨fun i hi => by rw [vI (r i hi)]; exact H.1 i hi, H.2⟩
theorem rt_s {b i : Nat} (h : (17 ≤ b ∧ b ≤ 20) ∨ (37 ≤ b ∧ b ≤ 51)) (h2 : b ≠ 42) : rt b i = i := by unfold rt; rw [if_neg h2, if_pos h]
theorem SV_fr {B : Nat} {hc hc' hr hr' : gz_H} {x s : Nat} (m : hc.1 ≤ hc'.1) (e : sm hc hc' x) (r : so hr hr' s) (H : SV B hc hr x s) : SV B hc' hr' x s := by
  have i1 : ∀ b, ((17 ≤ b ∧ b ≤ 20) ∨ (37 ≤ b ∧ b ≤ 51)) → b ≠ 42 → gz_v hr' b s = gz_v hr b s := fun b h1 h2 => r b s (rt_s h1 h2)
  have a17 := vI (i1 17 (by omega) (by omega))
  have a18 := vI (i1 18 (by omega) (by omega))
  have a19 := vI (i1 19 (by omega) (by omega))
  have a20 := vI (i1 20 (by omega) (by omega))
  have a43 := vI (i1 43 (by omega) (by omega))
  have a44 := vI (i1 44 (by omega) (by omega))
  have a45 := vJ (i1 45 (by omega) (by omega))
  have a46 := vJ (i1 46 (by omega) (by omega))
  have a47 := vJ (i1 47 (by omega) (by omega))
  have a48 := vJ (i1 48 (by omega) (by omega))
  have a49 := vJ (i1 49 (by omega) (by omega))
  have a50 := vJ (i1 50 (by omega) (by omega))
  obtain ⟨h1, hr⟩ := H
  refine ⟨sc_sm m e h1, ?_⟩
  rw [sm_I e, sm_J e, a17, a18, a19, a20, a43, a44, a45, a46, a47, a48, a49, a50]
  exact hr
theorem SV_up {B B' : Nat} {hc hr : gz_H} {x s : Nat} (q : B ≤ B') (H : SV B hc hr x s) : SV B' hc hr x s := by
  obtain ⟨h1, h2, h3, h4, h5, h6, h7, ⟨k1, a1, b1⟩, ⟨k2, a2, b2⟩, ⟨k3, a3, b3⟩, ⟨k4, a4, b4⟩, ⟨k5, a5, b5⟩, h8⟩ := H
  exact ⟨h1, h2, h3, h4, h5, h6, h7, ⟨k1, by omega, b1⟩, ⟨k2, by omega, b2⟩, ⟨k3, by omega, b3⟩, ⟨k4, by omega, b4⟩, ⟨k5, by omega, b5⟩, h8⟩
theorem OV_fr {g g' : gz_G} {hc hc' hr hr' : gz_H} {s : Nat} (A : g' 1 s = g 1 s) (B : gz_I hr 37 s = 1 → g' 2 s = g 2 s) (v : gz_v hc' (g 1 s) 4 = gz_v hc (g 1 s) 4) (r : gz_v hr' 37 s = gz_v hr 37 s) (H : OV g hc hr s) : OV g' hc' hr' s := by
  unfold OV
  rw [A, v, vI r]
  rcases H with H | ⟨h1, h2⟩
  · exact Or.inl H
  · exact Or.inr ⟨h1, by rw [B h1]; exact h2⟩
theorem inl_fr {g g' : gz_G} {hc hc' : gz_H} : ∀ (l : List Nat) (v : Value), (∀ o, o ∈ l → g' 2 o = g 2 o ∧ gz_v hc' (g 2 o) 1 = gz_v hc (g 2 o) 1) → inl g hc v l → inl g' hc' v l := by
  intro l
  induction l with
  | nil => intro v _ h; exact h
  | cons o l ih =>
    intro v e h
    obtain ⟨e1, e2⟩ := e o (List.mem_cons_self ..)
    refine ⟨by rw [e1]; exact h.1, ?_⟩
    rw [e1, e2]
    exact ih _ (fun o ho => e o (List.mem_cons_of_mem _ ho)) h.2
theorem IL_fr {g g' : gz_G} {hc hc' hr hr' : gz_H} {s : Nat} (A : g' 1 s = g 1 s) (v : gz_v hc' (g 1 s) 5 = gz_v hc (g 1 s) 5) (e : ∀ o, o < 64 → gz_I hr 37 o = 1 → g' 2 o = g 2 o ∧ gz_v hc' (g 2 o) 1 = gz_v hc (g 2 o) 1) (r : ∀ o, o < 64 → gz_v hr' 37 o = gz_v hr 37 o ∧ gz_v hr' 38 o = gz_v hr 38 o) (H : IL g hc hr s) : IL g' hc' hr' s := by
  obtain ⟨l, h1, h2, h3⟩ := H
  refine ⟨l, ?_, h2, fun o => ?_⟩
  · rw [A, v]
    exact inl_fr l _ (fun o ho => e o ((h3 o).mp ho).1 ((h3 o).mp ho).2.1) h1
  · rw [h3 o]
    constructor
    · rintro ⟨q1, q2⟩
      rw [vI (r o q1).1, vI (r o q1).2]
      exact ⟨q1, q2⟩
    · rintro ⟨q1, q2⟩
      rw [vI (r o q1).1, vI (r o q1).2] at q2
      exact ⟨q1, q2⟩
theorem TV_fr {g g' : gz_G} {T : Nat} {P : Nat → Nat} {hc hc' hr hr' : gz_H} {o : Nat} (ho : o < 64) (m : hc.1 ≤ hc'.1) (A : g' 2 o = g 2 o) (B : ∀ e, EX g e → EX g' e ∧ g' 1 e = g 1 e) (C : ∀ x, x < hc.1 → g 5 x = 200 + o → g' 5 x = 200 + o ∧ sm hc hc' x) (r : so hr hr' o) (H : TV g T P hc hr o) : TV g' T P hc' hr' o := by
  obtain ⟨h1, h2, h3, h4, e, tm, rm, n, D, d1, d2, d3, d4, d5, d6, d7, d8, d9, d10, d11, d12, d13, d14, d15, d16, d17, d18⟩ := H
  have c0 := C _ h4.1 h2
  have c1 := C _ h4.2.1 h3
  have i1 : ∀ b, ((17 ≤ b ∧ b ≤ 20) ∨ (37 ≤ b ∧ b ≤ 51)) → b ≠ 42 → gz_I hr' b o = gz_I hr b o := fun b h1 h2 => vI (r b o (rt_s h1 h2))
  unfold TV
  rw [A]
  refine ⟨h1, c0.1, c1.1, tc_sm m c0.2 c1.2 h4, e, tm, rm, n, D, (B e d1).1, d2, ?_, ?_, ?_, ?_, d7, d8, ?_, ?_, d11, d12, ?_, ?_, d15, fun k hk => ?_, d17, ?_⟩
  · rw [c0.2.1, (B e d1).2]; exact d3
  · rw [i1 38 (by omega) (by omega)]; exact d4
  · rw [sm_I c0.2]; exact d5
  · rw [i1 39 (by omega) (by omega)]; exact d6
  · rw [sm_I c0.2]; exact d9
  · rw [i1 40 (by omega) (by omega)]; exact d10
  · rw [sm_I c0.2]; exact d13
  · rw [i1 41 (by omega) (by omega)]; exact d14
  · rw [vI (r 42 (60 * o + k) (by unfold rt; rw [if_pos rfl]; omega))]; exact d16 k hk
  · rw [sm_I c1.2]; exact d18
theorem ZV_ex {g : gz_G} {hr : gz_H} (Z : ZV g hr) {o : Nat} (ho : o < 64) (h : gz_I hr 37 o = 1) : EX g o := Classical.byContradiction (fun q => by
  have := (Z.2.1 o ho q).1
  rw [this] at h
  exact absurd h (by decide))
theorem BV_fr {g g' : gz_G} {T : Nat} {P : Nat → Nat} {hc hc' hr hr' : gz_H} (Z : ZV g hr) (m : hc.1 ≤ hc'.1) (X : ∀ s, EX g' s ↔ EX g s) (A : ∀ s, EX g s → g' 1 s = g 1 s) (A2 : ∀ s, EX g s → g' 2 s = g 2 s) (C : ∀ x, x < hc.1 → 100 ≤ g 5 x → g 5 x < 300 → g' 5 x = g 5 x ∧ sm hc hc' x) (r : ∀ s, s < 64 → so hr hr' s) (H : BV g T P hc hr) : BV g' T P hc' hr' := by
  obtain ⟨H1, H2⟩ := H
  have r37 : ∀ o, o < 64 → gz_v hr' 37 o = gz_v hr 37 o := fun o ho => r o ho 37 o (rt_s (by omega) (by omega))
  have r38 : ∀ o, o < 64 → gz_v hr' 38 o = gz_v hr 38 o := fun o ho => r o ho 38 o (rt_s (by omega) (by omega))
  constructor
  · intro s hs
    have hs := (X s).mp hs
    obtain ⟨h1, h2, h3, h4⟩ := H1 s hs
    have hs64 := hs.1
    have c := C _ h2.1.1 (by rw [h1.2]; omega) (by rw [h1.2]; omega)
    refine ⟨?_, ?_, OV_fr (A s hs) (fun _ => A2 s hs) (by rw [c.2.1]) (r37 s hs.1) h3, IL_fr (A s hs) (by rw [c.2.1]) (fun o ho h => ?_) (fun o ho => ⟨r37 o ho, r38 o ho⟩) h4⟩
    · unfold SO; rw [A s hs, c.1]; exact h1
    · rw [A s hs]; exact SV_fr m c.2 (r s hs.1) h2
    · have t := H2 o ho h
      have c := C _ t.2.2.2.1.1 (by rw [t.2.1]; omega) (by rw [t.2.1]; omega)
      exact ⟨A2 o (ZV_ex Z ho h), by rw [c.2.1]⟩
  · intro o ho h
    rw [vI (r37 o ho)] at h
    exact TV_fr ho m (A2 o (ZV_ex Z ho h)) (fun e he => ⟨(X e).mpr he, A e he⟩) (fun x hx hg => by
      have := C x hx (by omega) (by omega)
      exact ⟨this.1.trans hg, this.2⟩) (r o ho) (H2 o ho h)
