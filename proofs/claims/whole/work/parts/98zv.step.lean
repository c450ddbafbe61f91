theorem fit_int {v : Value} (h : gz_fit .int v = true) : ∃ x, v = .int x := by
  cases v with
  | int x => exact ⟨x, rfl⟩
  | _ => exact absurd h (by simp [gz_fit])
theorem fit_boo {v : Value} (h : gz_fit .boolean v = true) : ∃ x, v = .int x := by
  cases v with
  | int x => exact ⟨x, rfl⟩
  | _ => exact absurd h (by simp [gz_fit])
theorem fit_lon {v : Value} (h : gz_fit .long v = true) : ∃ x, v = .long x := by
  cases v with
  | long x => exact ⟨x, rfl⟩
  | _ => exact absurd h (by simp [gz_fit])
theorem sem_fit {ty : FieldType} {n : Nat} {t : gz_Sx} {av : List Value} {h h' : gz_H} {v : Value} (e : gz_sem (some ty) n t av h = some (some v, h')) : gz_fit ty v = true := by
  unfold gz_sem at e
  split at e
  · split at e
    · split at e
      · rename_i r h1 _ hr
        simp only [Option.some.injEq, Prod.mk.injEq] at e
        obtain ⟨rfl, rfl⟩ := e
        exact hr
      · exact absurd e (by simp)
    · exact absurd e (by simp)
  · exact absurd e (by simp)
/-- one call on both sides -/
theorem PB_st {f7 f8 : gz_Me} {args : List Value} (p : PB f7 f8 args) {h : gz_H} (I : Inv h) : (0 < h.1 ∧ gz_k h 0 = (7, 9)) ∧ ∃ v h1 h2, f7 (.ref 0 :: args) h = some (some v, h1) ∧ (15 < h1.1 ∧ gz_k h1 15 = (8, 48)) ∧ f8 (.ref 15 :: args) h1 = some (some v, h2) ∧ Inv h2 := by
  obtain ⟨v, h1, h2, a1, a2, a3⟩ := PB_Inv p I
  obtain ⟨g, T, H⟩ := I
  obtain ⟨v', h1', _, _, _, b1, _, b3, _, _⟩ := p g T h h H
  rw [a1] at b1
  cases b1
  have c := IV_cs H
  have m := IV_md H
  refine ⟨⟨c.1 0 (by omega), c.2.1⟩, v, h1, h2, a1, ⟨Nat.lt_of_lt_of_le (m.1 15 (by omega)) b3.1, ?_⟩, a2, a3⟩
  rw [(b3.2 15 (by omega) (by omega)).2]
  exact m.2.1 15 (by omega) (by omega)
theorem lc_i {f7 f8 : gz_Me} {args : List Value} {A7 A8 : gz_Ax} {env : List Value} {h : gz_H} (p : PB f7 f8 args) (iv : ∀ h v h', f7 (.ref 0 :: args) h = some (some v, h') → ∃ x, v = .int x) (e7 : ∀ st h, A7 env st h = some (.ref 0 :: args, h)) (e8 : ∀ st h, A8 env st h = some (.ref 15 :: args, h)) (I : Inv h) : ∃ h2, gz_if (gz_j2 (fun x y => decide (x = y)) (gz_cv 7 9 f7 A7) (gz_cv 8 48 f8 A8)) (gz_sat 1215) (gz_ri (gz_i 0)) env h = some (.inl (1215, env, h2)) ∧ Inv h2 := by
  obtain ⟨k7, v, h1, h2, a1, k8, a2, a3⟩ := PB_st p I
  obtain ⟨x, rfl⟩ := iv _ _ _ a1
  refine ⟨h2, ?_, a3⟩
  simp only [gz_if, gz_j2, gz_cv, e7, e8, k7, k8, a1, a2, and_self, if_true, if_pos, decide_true, gz_sat]
theorem lc_j {f7 f8 : gz_Me} {args : List Value} {A7 A8 : gz_Ax} {env : List Value} {h : gz_H} (p : PB f7 f8 args) (iv : ∀ h v h', f7 (.ref 0 :: args) h = some (some v, h') → ∃ x, v = .long x) (e7 : ∀ st h, A7 env st h = some (.ref 0 :: args, h)) (e8 : ∀ st h, A8 env st h = some (.ref 15 :: args, h)) (I : Inv h) : ∃ h2, gz_if (gz_j1 (fun x => decide (x = 0)) (gz_lc (gz_cv 7 9 f7 A7) (gz_cv 8 48 f8 A8))) (gz_sat 1215) (gz_ri (gz_i 0)) env h = some (.inl (1215, env, h2)) ∧ Inv h2 := by
  obtain ⟨k7, v, h1, h2, a1, k8, a2, a3⟩ := PB_st p I
  obtain ⟨x, rfl⟩ := iv _ _ _ a1
  refine ⟨h2, ?_, a3⟩
  have c : lg_cmp x x = 0 := (lg_cmp_eq x x).mpr rfl
  simp only [gz_if, gz_j1, gz_lc, gz_cv, e7, e8, k7, k8, a1, a2, c, and_self, if_true, if_pos, decide_true, gz_sat]
theorem ar_0 {L i : Nat} {xs : Nat → Int32} {n : Int32} : (∀ st h, gz_a1 gz_a0 (gz_la 1) [.float 0, .ref 0, .ref 15, .int n] st h = some ([.ref 0], h)) ∧ (∀ st h, gz_a1 gz_a0 (gz_la 2) [.float 0, .ref 0, .ref 15, .int n] st h = some ([.ref 15], h)) := ⟨fun _ _ => rfl, fun _ _ => rfl⟩
theorem ar_s {L i c : Nat} {xs : Nat → Int32} (hL : L ≤ 4608) (hi : 9 * i + 9 ≤ L) (hc : c ≤ 8) {A : gz_Ax} {vs : List Value} (e : ∀ st h, A [.float 0, .ref 0, .ref 15, .int (nI (9 * i))] st h = some (vs, h)) : ∀ st h, gz_a1 A (gz_sld L xs (gz_la 0) (gz_ib (fun x y => x + y) (gz_li 3) (gz_i (nI c)))) [.float 0, .ref 0, .ref 15, .int (nI (9 * i))] st h = some (vs ++ [.int (xs (9 * i + c))], h) := fun st h => by
  have a : nI (9 * i) + nI c = nI (9 * i + c) := nI_add _ _
  have b : ¬ nI (9 * i + c) < 0 := nI_pos (by omega)
  have d : (nI (9 * i + c)).toNatClampNeg = 9 * i + c := nI_clamp (by omega)
  have l : 9 * i + c < L := by omega
  simp only [gz_a1, e, gz_sld, gz_la, gz_ib, gz_li, gz_i, List.getElem?_cons_zero, List.getElem?_cons_succ, a, b, d, l, not_false_iff, and_self, if_true, if_pos]
theorem lk_0 {L i : Nat} {xs : Nat → Int32} {h : gz_H} (hL : L ≤ 4608) (hi : 9 * i + 9 ≤ L) (I : Inv h) : ∃ h2, lc_0 L xs [.float 0, .ref 0, .ref 15, .int (nI (9 * i))] h = some (.inl (1215, [.float 0, .ref 0, .ref 15, .int (nI (9 * i))], h2)) ∧ Inv h2 := lc_i pb_junction (fun _ _ _ e => fit_int (sem_fit e)) (ar_0 (L := L) (i := i) (xs := xs)).1 (ar_0 (L := L) (i := i) (xs := xs)).2 I
theorem lk_1 {L i : Nat} {xs : Nat → Int32} {h : gz_H} (hL : L ≤ 4608) (hi : 9 * i + 9 ≤ L) (I : Inv h) : ∃ h2, lc_1 L xs [.float 0, .ref 0, .ref 15, .int (nI (9 * i))] h = some (.inl (1215, [.float 0, .ref 0, .ref 15, .int (nI (9 * i))], h2)) ∧ Inv h2 := lc_i (pb_stream (xs (9 * i + 1)) (xs (9 * i + 2)) (xs (9 * i + 3)) (xs (9 * i + 4)) (xs (9 * i + 5))) (fun _ _ _ e => fit_int (sem_fit e)) (ar_s (c := 5) (xs := xs) hL hi (by decide) (ar_s (c := 4) (xs := xs) hL hi (by decide) (ar_s (c := 3) (xs := xs) hL hi (by decide) (ar_s (c := 2) (xs := xs) hL hi (by decide) (ar_s (c := 1) (xs := xs) hL hi (by decide) (ar_0 (L := L) (i := i) (xs := xs)).1))))) (ar_s (c := 5) (xs := xs) hL hi (by decide) (ar_s (c := 4) (xs := xs) hL hi (by decide) (ar_s (c := 3) (xs := xs) hL hi (by decide) (ar_s (c := 2) (xs := xs) hL hi (by decide) (ar_s (c := 1) (xs := xs) hL hi (by decide) (ar_0 (L := L) (i := i) (xs := xs)).2))))) I
theorem lk_2 {L i : Nat} {xs : Nat → Int32} {h : gz_H} (hL : L ≤ 4608) (hi : 9 * i + 9 ≤ L) (I : Inv h) : ∃ h2, lc_2 L xs [.float 0, .ref 0, .ref 15, .int (nI (9 * i))] h = some (.inl (1215, [.float 0, .ref 0, .ref 15, .int (nI (9 * i))], h2)) ∧ Inv h2 := lc_i (pb_against (xs (9 * i + 1)) (xs (9 * i + 2)) (xs (9 * i + 3)) (xs (9 * i + 4)) (xs (9 * i + 5))) (fun _ _ _ e => fit_boo (sem_fit e)) (ar_s (c := 5) (xs := xs) hL hi (by decide) (ar_s (c := 4) (xs := xs) hL hi (by decide) (ar_s (c := 3) (xs := xs) hL hi (by decide) (ar_s (c := 2) (xs := xs) hL hi (by decide) (ar_s (c := 1) (xs := xs) hL hi (by decide) (ar_0 (L := L) (i := i) (xs := xs)).1))))) (ar_s (c := 5) (xs := xs) hL hi (by decide) (ar_s (c := 4) (xs := xs) hL hi (by decide) (ar_s (c := 3) (xs := xs) hL hi (by decide) (ar_s (c := 2) (xs := xs) hL hi (by decide) (ar_s (c := 1) (xs := xs) hL hi (by decide) (ar_0 (L := L) (i := i) (xs := xs)).2))))) I
theorem lk_3 {L i : Nat} {xs : Nat → Int32} {h : gz_H} (hL : L ≤ 4608) (hi : 9 * i + 9 ≤ L) (I : Inv h) : ∃ h2, lc_3 L xs [.float 0, .ref 0, .ref 15, .int (nI (9 * i))] h = some (.inl (1215, [.float 0, .ref 0, .ref 15, .int (nI (9 * i))], h2)) ∧ Inv h2 := lc_i (pb_yields (xs (9 * i + 1)) (xs (9 * i + 2)) (xs (9 * i + 3))) (fun _ _ _ e => fit_boo (sem_fit e)) (ar_s (c := 3) (xs := xs) hL hi (by decide) (ar_s (c := 2) (xs := xs) hL hi (by decide) (ar_s (c := 1) (xs := xs) hL hi (by decide) (ar_0 (L := L) (i := i) (xs := xs)).1))) (ar_s (c := 3) (xs := xs) hL hi (by decide) (ar_s (c := 2) (xs := xs) hL hi (by decide) (ar_s (c := 1) (xs := xs) hL hi (by decide) (ar_0 (L := L) (i := i) (xs := xs)).2))) I
theorem lk_4 {L i : Nat} {xs : Nat → Int32} {h : gz_H} (hL : L ≤ 4608) (hi : 9 * i + 9 ≤ L) (I : Inv h) : ∃ h2, lc_4 L xs [.float 0, .ref 0, .ref 15, .int (nI (9 * i))] h = some (.inl (1215, [.float 0, .ref 0, .ref 15, .int (nI (9 * i))], h2)) ∧ Inv h2 := lc_i (pb_street (xs (9 * i + 1)) (xs (9 * i + 2)) (xs (9 * i + 3)) (xs (9 * i + 4)) (xs (9 * i + 5)) (xs (9 * i + 6))) (fun _ _ _ e => fit_boo (sem_fit e)) (ar_s (c := 6) (xs := xs) hL hi (by decide) (ar_s (c := 5) (xs := xs) hL hi (by decide) (ar_s (c := 4) (xs := xs) hL hi (by decide) (ar_s (c := 3) (xs := xs) hL hi (by decide) (ar_s (c := 2) (xs := xs) hL hi (by decide) (ar_s (c := 1) (xs := xs) hL hi (by decide) (ar_0 (L := L) (i := i) (xs := xs)).1)))))) (ar_s (c := 6) (xs := xs) hL hi (by decide) (ar_s (c := 5) (xs := xs) hL hi (by decide) (ar_s (c := 4) (xs := xs) hL hi (by decide) (ar_s (c := 3) (xs := xs) hL hi (by decide) (ar_s (c := 2) (xs := xs) hL hi (by decide) (ar_s (c := 1) (xs := xs) hL hi (by decide) (ar_0 (L := L) (i := i) (xs := xs)).2)))))) I
theorem lk_5 {L i : Nat} {xs : Nat → Int32} {h : gz_H} (hL : L ≤ 4608) (hi : 9 * i + 9 ≤ L) (I : Inv h) : ∃ h2, lc_5 L xs [.float 0, .ref 0, .ref 15, .int (nI (9 * i))] h = some (.inl (1215, [.float 0, .ref 0, .ref 15, .int (nI (9 * i))], h2)) ∧ Inv h2 := lc_i (pb_sets (xs (9 * i + 1))) (fun _ _ _ e => fit_int (sem_fit e)) (ar_s (c := 1) (xs := xs) hL hi (by decide) (ar_0 (L := L) (i := i) (xs := xs)).1) (ar_s (c := 1) (xs := xs) hL hi (by decide) (ar_0 (L := L) (i := i) (xs := xs)).2) I
theorem lk_6 {L i : Nat} {xs : Nat → Int32} {h : gz_H} (hL : L ≤ 4608) (hi : 9 * i + 9 ≤ L) (I : Inv h) : ∃ h2, lc_6 L xs [.float 0, .ref 0, .ref 15, .int (nI (9 * i))] h = some (.inl (1215, [.float 0, .ref 0, .ref 15, .int (nI (9 * i))], h2)) ∧ Inv h2 := lc_i (pb_set (xs (9 * i + 1)) (xs (9 * i + 2))) (fun _ _ _ e => fit_int (sem_fit e)) (ar_s (c := 2) (xs := xs) hL hi (by decide) (ar_s (c := 1) (xs := xs) hL hi (by decide) (ar_0 (L := L) (i := i) (xs := xs)).1)) (ar_s (c := 2) (xs := xs) hL hi (by decide) (ar_s (c := 1) (xs := xs) hL hi (by decide) (ar_0 (L := L) (i := i) (xs := xs)).2)) I
theorem lk_7 {L i : Nat} {xs : Nat → Int32} {h : gz_H} (hL : L ≤ 4608) (hi : 9 * i + 9 ≤ L) (I : Inv h) : ∃ h2, lc_7 L xs [.float 0, .ref 0, .ref 15, .int (nI (9 * i))] h = some (.inl (1215, [.float 0, .ref 0, .ref 15, .int (nI (9 * i))], h2)) ∧ Inv h2 := lc_i (pb_goes (xs (9 * i + 1)) (xs (9 * i + 2))) (fun _ _ _ e => fit_boo (sem_fit e)) (ar_s (c := 2) (xs := xs) hL hi (by decide) (ar_s (c := 1) (xs := xs) hL hi (by decide) (ar_0 (L := L) (i := i) (xs := xs)).1)) (ar_s (c := 2) (xs := xs) hL hi (by decide) (ar_s (c := 1) (xs := xs) hL hi (by decide) (ar_0 (L := L) (i := i) (xs := xs)).2)) I
theorem lk_8 {L i : Nat} {xs : Nat → Int32} {h : gz_H} (hL : L ≤ 4608) (hi : 9 * i + 9 ≤ L) (I : Inv h) : ∃ h2, lc_8 L xs [.float 0, .ref 0, .ref 15, .int (nI (9 * i))] h = some (.inl (1215, [.float 0, .ref 0, .ref 15, .int (nI (9 * i))], h2)) ∧ Inv h2 := lc_i (pb_plan (xs (9 * i + 1)) (xs (9 * i + 2))) (fun _ _ _ e => fit_boo (sem_fit e)) (ar_s (c := 2) (xs := xs) hL hi (by decide) (ar_s (c := 1) (xs := xs) hL hi (by decide) (ar_0 (L := L) (i := i) (xs := xs)).1)) (ar_s (c := 2) (xs := xs) hL hi (by decide) (ar_s (c := 1) (xs := xs) hL hi (by decide) (ar_0 (L := L) (i := i) (xs := xs)).2)) I
theorem lk_9 {L i : Nat} {xs : Nat → Int32} {h : gz_H} (hL : L ≤ 4608) (hi : 9 * i + 9 ≤ L) (I : Inv h) : ∃ h2, lc_9 L xs [.float 0, .ref 0, .ref 15, .int (nI (9 * i))] h = some (.inl (1215, [.float 0, .ref 0, .ref 15, .int (nI (9 * i))], h2)) ∧ Inv h2 := lc_i (pb_stage (xs (9 * i + 1)) (xs (9 * i + 2)) (xs (9 * i + 3))) (fun _ _ _ e => fit_int (sem_fit e)) (ar_s (c := 3) (xs := xs) hL hi (by decide) (ar_s (c := 2) (xs := xs) hL hi (by decide) (ar_s (c := 1) (xs := xs) hL hi (by decide) (ar_0 (L := L) (i := i) (xs := xs)).1))) (ar_s (c := 3) (xs := xs) hL hi (by decide) (ar_s (c := 2) (xs := xs) hL hi (by decide) (ar_s (c := 1) (xs := xs) hL hi (by decide) (ar_0 (L := L) (i := i) (xs := xs)).2))) I
theorem lk_10 {L i : Nat} {xs : Nat → Int32} {h : gz_H} (hL : L ≤ 4608) (hi : 9 * i + 9 ≤ L) (I : Inv h) : ∃ h2, lc_10 L xs [.float 0, .ref 0, .ref 15, .int (nI (9 * i))] h = some (.inl (1215, [.float 0, .ref 0, .ref 15, .int (nI (9 * i))], h2)) ∧ Inv h2 := lc_i (pb_take (xs (9 * i + 1)) (xs (9 * i + 2))) (fun _ _ _ e => fit_int (sem_fit e)) (ar_s (c := 2) (xs := xs) hL hi (by decide) (ar_s (c := 1) (xs := xs) hL hi (by decide) (ar_0 (L := L) (i := i) (xs := xs)).1)) (ar_s (c := 2) (xs := xs) hL hi (by decide) (ar_s (c := 1) (xs := xs) hL hi (by decide) (ar_0 (L := L) (i := i) (xs := xs)).2)) I
theorem lk_11 {L i : Nat} {xs : Nat → Int32} {h : gz_H} (hL : L ≤ 4608) (hi : 9 * i + 9 ≤ L) (I : Inv h) : ∃ h2, lc_11 L xs [.float 0, .ref 0, .ref 15, .int (nI (9 * i))] h = some (.inl (1215, [.float 0, .ref 0, .ref 15, .int (nI (9 * i))], h2)) ∧ Inv h2 := lc_i (pb_why (xs (9 * i + 1))) (fun _ _ _ e => fit_int (sem_fit e)) (ar_s (c := 1) (xs := xs) hL hi (by decide) (ar_0 (L := L) (i := i) (xs := xs)).1) (ar_s (c := 1) (xs := xs) hL hi (by decide) (ar_0 (L := L) (i := i) (xs := xs)).2) I
theorem lk_12 {L i : Nat} {xs : Nat → Int32} {h : gz_H} (hL : L ≤ 4608) (hi : 9 * i + 9 ≤ L) (I : Inv h) : ∃ h2, lc_12 L xs [.float 0, .ref 0, .ref 15, .int (nI (9 * i))] h = some (.inl (1215, [.float 0, .ref 0, .ref 15, .int (nI (9 * i))], h2)) ∧ Inv h2 := lc_i (pb_told (xs (9 * i + 1)) (xs (9 * i + 2))) (fun _ _ _ e => fit_int (sem_fit e)) (ar_s (c := 2) (xs := xs) hL hi (by decide) (ar_s (c := 1) (xs := xs) hL hi (by decide) (ar_0 (L := L) (i := i) (xs := xs)).1)) (ar_s (c := 2) (xs := xs) hL hi (by decide) (ar_s (c := 1) (xs := xs) hL hi (by decide) (ar_0 (L := L) (i := i) (xs := xs)).2)) I
theorem lk_13 {L i : Nat} {xs : Nat → Int32} {h : gz_H} (hL : L ≤ 4608) (hi : 9 * i + 9 ≤ L) (I : Inv h) : ∃ h2, lc_13 L xs [.float 0, .ref 0, .ref 15, .int (nI (9 * i))] h = some (.inl (1215, [.float 0, .ref 0, .ref 15, .int (nI (9 * i))], h2)) ∧ Inv h2 := lc_i (pb_offset (xs (9 * i + 1)) (xs (9 * i + 2))) (fun _ _ _ e => fit_boo (sem_fit e)) (ar_s (c := 2) (xs := xs) hL hi (by decide) (ar_s (c := 1) (xs := xs) hL hi (by decide) (ar_0 (L := L) (i := i) (xs := xs)).1)) (ar_s (c := 2) (xs := xs) hL hi (by decide) (ar_s (c := 1) (xs := xs) hL hi (by decide) (ar_0 (L := L) (i := i) (xs := xs)).2)) I
theorem lk_14 {L i : Nat} {xs : Nat → Int32} {h : gz_H} (hL : L ≤ 4608) (hi : 9 * i + 9 ≤ L) (I : Inv h) : ∃ h2, lc_14 L xs [.float 0, .ref 0, .ref 15, .int (nI (9 * i))] h = some (.inl (1215, [.float 0, .ref 0, .ref 15, .int (nI (9 * i))], h2)) ∧ Inv h2 := lc_i (pb_tear (xs (9 * i + 1)) (xs (9 * i + 2))) (fun _ _ _ e => fit_boo (sem_fit e)) (ar_s (c := 2) (xs := xs) hL hi (by decide) (ar_s (c := 1) (xs := xs) hL hi (by decide) (ar_0 (L := L) (i := i) (xs := xs)).1)) (ar_s (c := 2) (xs := xs) hL hi (by decide) (ar_s (c := 1) (xs := xs) hL hi (by decide) (ar_0 (L := L) (i := i) (xs := xs)).2)) I
theorem lk_15 {L i : Nat} {xs : Nat → Int32} {h : gz_H} (hL : L ≤ 4608) (hi : 9 * i + 9 ≤ L) (I : Inv h) : ∃ h2, lc_15 L xs [.float 0, .ref 0, .ref 15, .int (nI (9 * i))] h = some (.inl (1215, [.float 0, .ref 0, .ref 15, .int (nI (9 * i))], h2)) ∧ Inv h2 := lc_i (pb_share (xs (9 * i + 1))) (fun _ _ _ e => fit_int (sem_fit e)) (ar_s (c := 1) (xs := xs) hL hi (by decide) (ar_0 (L := L) (i := i) (xs := xs)).1) (ar_s (c := 1) (xs := xs) hL hi (by decide) (ar_0 (L := L) (i := i) (xs := xs)).2) I
theorem lk_16 {L i : Nat} {xs : Nat → Int32} {h : gz_H} (hL : L ≤ 4608) (hi : 9 * i + 9 ≤ L) (I : Inv h) : ∃ h2, lc_16 L xs [.float 0, .ref 0, .ref 15, .int (nI (9 * i))] h = some (.inl (1215, [.float 0, .ref 0, .ref 15, .int (nI (9 * i))], h2)) ∧ Inv h2 := lc_i (pb_fit (xs (9 * i + 1)) (xs (9 * i + 2))) (fun _ _ _ e => fit_boo (sem_fit e)) (ar_s (c := 2) (xs := xs) hL hi (by decide) (ar_s (c := 1) (xs := xs) hL hi (by decide) (ar_0 (L := L) (i := i) (xs := xs)).1)) (ar_s (c := 2) (xs := xs) hL hi (by decide) (ar_s (c := 1) (xs := xs) hL hi (by decide) (ar_0 (L := L) (i := i) (xs := xs)).2)) I
theorem lk_17 {L i : Nat} {xs : Nat → Int32} {h : gz_H} (hL : L ≤ 4608) (hi : 9 * i + 9 ≤ L) (I : Inv h) : ∃ h2, lc_17 L xs [.float 0, .ref 0, .ref 15, .int (nI (9 * i))] h = some (.inl (1215, [.float 0, .ref 0, .ref 15, .int (nI (9 * i))], h2)) ∧ Inv h2 := lc_i (pb_green (xs (9 * i + 1)) (xs (9 * i + 2))) (fun _ _ _ e => fit_int (sem_fit e)) (ar_s (c := 2) (xs := xs) hL hi (by decide) (ar_s (c := 1) (xs := xs) hL hi (by decide) (ar_0 (L := L) (i := i) (xs := xs)).1)) (ar_s (c := 2) (xs := xs) hL hi (by decide) (ar_s (c := 1) (xs := xs) hL hi (by decide) (ar_0 (L := L) (i := i) (xs := xs)).2)) I
theorem lk_18 {L i : Nat} {xs : Nat → Int32} {h : gz_H} (hL : L ≤ 4608) (hi : 9 * i + 9 ≤ L) (I : Inv h) : ∃ h2, lc_18 L xs [.float 0, .ref 0, .ref 15, .int (nI (9 * i))] h = some (.inl (1215, [.float 0, .ref 0, .ref 15, .int (nI (9 * i))], h2)) ∧ Inv h2 := lc_i (pb_lamp (xs (9 * i + 1)) (xs (9 * i + 2)) (xs (9 * i + 3))) (fun _ _ _ e => fit_int (sem_fit e)) (ar_s (c := 3) (xs := xs) hL hi (by decide) (ar_s (c := 2) (xs := xs) hL hi (by decide) (ar_s (c := 1) (xs := xs) hL hi (by decide) (ar_0 (L := L) (i := i) (xs := xs)).1))) (ar_s (c := 3) (xs := xs) hL hi (by decide) (ar_s (c := 2) (xs := xs) hL hi (by decide) (ar_s (c := 1) (xs := xs) hL hi (by decide) (ar_0 (L := L) (i := i) (xs := xs)).2))) I
theorem lk_19 {L i : Nat} {xs : Nat → Int32} {h : gz_H} (hL : L ≤ 4608) (hi : 9 * i + 9 ≤ L) (I : Inv h) : ∃ h2, lc_19 L xs [.float 0, .ref 0, .ref 15, .int (nI (9 * i))] h = some (.inl (1215, [.float 0, .ref 0, .ref 15, .int (nI (9 * i))], h2)) ∧ Inv h2 := lc_i (pb_run (xs (9 * i + 1))) (fun _ _ _ e => fit_int (sem_fit e)) (ar_s (c := 1) (xs := xs) hL hi (by decide) (ar_0 (L := L) (i := i) (xs := xs)).1) (ar_s (c := 1) (xs := xs) hL hi (by decide) (ar_0 (L := L) (i := i) (xs := xs)).2) I
theorem lk_20 {L i : Nat} {xs : Nat → Int32} {h : gz_H} (hL : L ≤ 4608) (hi : 9 * i + 9 ≤ L) (I : Inv h) : ∃ h2, lc_20 L xs [.float 0, .ref 0, .ref 15, .int (nI (9 * i))] h = some (.inl (1215, [.float 0, .ref 0, .ref 15, .int (nI (9 * i))], h2)) ∧ Inv h2 := lc_j (pb_queue (xs (9 * i + 1)) (xs (9 * i + 2)) (xs (9 * i + 3))) (fun _ _ _ e => fit_lon (sem_fit e)) (ar_s (c := 3) (xs := xs) hL hi (by decide) (ar_s (c := 2) (xs := xs) hL hi (by decide) (ar_s (c := 1) (xs := xs) hL hi (by decide) (ar_0 (L := L) (i := i) (xs := xs)).1))) (ar_s (c := 3) (xs := xs) hL hi (by decide) (ar_s (c := 2) (xs := xs) hL hi (by decide) (ar_s (c := 1) (xs := xs) hL hi (by decide) (ar_0 (L := L) (i := i) (xs := xs)).2))) I
theorem lk_21 {L i : Nat} {xs : Nat → Int32} {h : gz_H} (hL : L ≤ 4608) (hi : 9 * i + 9 ≤ L) (I : Inv h) : ∃ h2, lc_21 L xs [.float 0, .ref 0, .ref 15, .int (nI (9 * i))] h = some (.inl (1215, [.float 0, .ref 0, .ref 15, .int (nI (9 * i))], h2)) ∧ Inv h2 := lc_i (pb_count (xs (9 * i + 1))) (fun _ _ _ e => fit_int (sem_fit e)) (ar_s (c := 1) (xs := xs) hL hi (by decide) (ar_0 (L := L) (i := i) (xs := xs)).1) (ar_s (c := 1) (xs := xs) hL hi (by decide) (ar_0 (L := L) (i := i) (xs := xs)).2) I
theorem lk_22 {L i : Nat} {xs : Nat → Int32} {h : gz_H} (hL : L ≤ 4608) (hi : 9 * i + 9 ≤ L) (I : Inv h) : ∃ h2, lc_22 L xs [.float 0, .ref 0, .ref 15, .int (nI (9 * i))] h = some (.inl (1215, [.float 0, .ref 0, .ref 15, .int (nI (9 * i))], h2)) ∧ Inv h2 := lc_i (pb_flashes (xs (9 * i + 1))) (fun _ _ _ e => fit_boo (sem_fit e)) (ar_s (c := 1) (xs := xs) hL hi (by decide) (ar_0 (L := L) (i := i) (xs := xs)).1) (ar_s (c := 1) (xs := xs) hL hi (by decide) (ar_0 (L := L) (i := i) (xs := xs)).2) I
theorem lk_23 {L i : Nat} {xs : Nat → Int32} {h : gz_H} (hL : L ≤ 4608) (hi : 9 * i + 9 ≤ L) (I : Inv h) : ∃ h2, lc_23 L xs [.float 0, .ref 0, .ref 15, .int (nI (9 * i))] h = some (.inl (1215, [.float 0, .ref 0, .ref 15, .int (nI (9 * i))], h2)) ∧ Inv h2 := lc_i (pb_width (xs (9 * i + 1)) (xs (9 * i + 2)) (xs (9 * i + 3)) (xs (9 * i + 4)) (xs (9 * i + 5)) (xs (9 * i + 6)) (xs (9 * i + 7)) (xs (9 * i + 8))) (fun _ _ _ e => fit_int (sem_fit e)) (ar_s (c := 8) (xs := xs) hL hi (by decide) (ar_s (c := 7) (xs := xs) hL hi (by decide) (ar_s (c := 6) (xs := xs) hL hi (by decide) (ar_s (c := 5) (xs := xs) hL hi (by decide) (ar_s (c := 4) (xs := xs) hL hi (by decide) (ar_s (c := 3) (xs := xs) hL hi (by decide) (ar_s (c := 2) (xs := xs) hL hi (by decide) (ar_s (c := 1) (xs := xs) hL hi (by decide) (ar_0 (L := L) (i := i) (xs := xs)).1)))))))) (ar_s (c := 8) (xs := xs) hL hi (by decide) (ar_s (c := 7) (xs := xs) hL hi (by decide) (ar_s (c := 6) (xs := xs) hL hi (by decide) (ar_s (c := 5) (xs := xs) hL hi (by decide) (ar_s (c := 4) (xs := xs) hL hi (by decide) (ar_s (c := 3) (xs := xs) hL hi (by decide) (ar_s (c := 2) (xs := xs) hL hi (by decide) (ar_s (c := 1) (xs := xs) hL hi (by decide) (ar_0 (L := L) (i := i) (xs := xs)).2)))))))) I
theorem lk_24 {L i : Nat} {xs : Nat → Int32} {h : gz_H} (hL : L ≤ 4608) (hi : 9 * i + 9 ≤ L) (I : Inv h) : ∃ h2, lc_24 L xs [.float 0, .ref 0, .ref 15, .int (nI (9 * i))] h = some (.inl (1215, [.float 0, .ref 0, .ref 15, .int (nI (9 * i))], h2)) ∧ Inv h2 := lc_i (pb_wave (xs (9 * i + 1)) (xs (9 * i + 2)) (xs (9 * i + 3)) (xs (9 * i + 4)) (xs (9 * i + 5)) (xs (9 * i + 6)) (xs (9 * i + 7)) (xs (9 * i + 8))) (fun _ _ _ e => fit_int (sem_fit e)) (ar_s (c := 8) (xs := xs) hL hi (by decide) (ar_s (c := 7) (xs := xs) hL hi (by decide) (ar_s (c := 6) (xs := xs) hL hi (by decide) (ar_s (c := 5) (xs := xs) hL hi (by decide) (ar_s (c := 4) (xs := xs) hL hi (by decide) (ar_s (c := 3) (xs := xs) hL hi (by decide) (ar_s (c := 2) (xs := xs) hL hi (by decide) (ar_s (c := 1) (xs := xs) hL hi (by decide) (ar_0 (L := L) (i := i) (xs := xs)).1)))))))) (ar_s (c := 8) (xs := xs) hL hi (by decide) (ar_s (c := 7) (xs := xs) hL hi (by decide) (ar_s (c := 6) (xs := xs) hL hi (by decide) (ar_s (c := 5) (xs := xs) hL hi (by decide) (ar_s (c := 4) (xs := xs) hL hi (by decide) (ar_s (c := 3) (xs := xs) hL hi (by decide) (ar_s (c := 2) (xs := xs) hL hi (by decide) (ar_s (c := 1) (xs := xs) hL hi (by decide) (ar_0 (L := L) (i := i) (xs := xs)).2)))))))) I
theorem lk_25 {L i : Nat} {xs : Nat → Int32} {h : gz_H} (hL : L ≤ 4608) (hi : 9 * i + 9 ≤ L) (I : Inv h) : ∃ h2, lc_25 L xs [.float 0, .ref 0, .ref 15, .int (nI (9 * i))] h = some (.inl (1215, [.float 0, .ref 0, .ref 15, .int (nI (9 * i))], h2)) ∧ Inv h2 := lc_i (pb_check (xs (9 * i + 1)) (xs (9 * i + 2)) (xs (9 * i + 3))) (fun _ _ _ e => fit_int (sem_fit e)) (ar_s (c := 3) (xs := xs) hL hi (by decide) (ar_s (c := 2) (xs := xs) hL hi (by decide) (ar_s (c := 1) (xs := xs) hL hi (by decide) (ar_0 (L := L) (i := i) (xs := xs)).1))) (ar_s (c := 3) (xs := xs) hL hi (by decide) (ar_s (c := 2) (xs := xs) hL hi (by decide) (ar_s (c := 1) (xs := xs) hL hi (by decide) (ar_0 (L := L) (i := i) (xs := xs)).2))) I
theorem lk_all {L i : Nat} {xs : Nat → Int32} {h : gz_H} (hL : L ≤ 4608) (hi : 9 * i + 9 ≤ L) (I : Inv h) (k : Nat) (hk : k < 26) : ∃ s, [lc_0 L xs, lc_1 L xs, lc_2 L xs, lc_3 L xs, lc_4 L xs, lc_5 L xs, lc_6 L xs, lc_7 L xs, lc_8 L xs, lc_9 L xs, lc_10 L xs, lc_11 L xs, lc_12 L xs, lc_13 L xs, lc_14 L xs, lc_15 L xs, lc_16 L xs, lc_17 L xs, lc_18 L xs, lc_19 L xs, lc_20 L xs, lc_21 L xs, lc_22 L xs, lc_23 L xs, lc_24 L xs, lc_25 L xs][k]? = some s ∧ ∃ h2, s [.float 0, .ref 0, .ref 15, .int (nI (9 * i))] h = some (.inl (1215, [.float 0, .ref 0, .ref 15, .int (nI (9 * i))], h2)) ∧ Inv h2 := by
  match k, hk with
  | 0, _ => exact ⟨_, rfl, lk_0 hL hi I⟩
  | 1, _ => exact ⟨_, rfl, lk_1 hL hi I⟩
  | 2, _ => exact ⟨_, rfl, lk_2 hL hi I⟩
  | 3, _ => exact ⟨_, rfl, lk_3 hL hi I⟩
  | 4, _ => exact ⟨_, rfl, lk_4 hL hi I⟩
  | 5, _ => exact ⟨_, rfl, lk_5 hL hi I⟩
  | 6, _ => exact ⟨_, rfl, lk_6 hL hi I⟩
  | 7, _ => exact ⟨_, rfl, lk_7 hL hi I⟩
  | 8, _ => exact ⟨_, rfl, lk_8 hL hi I⟩
  | 9, _ => exact ⟨_, rfl, lk_9 hL hi I⟩
  | 10, _ => exact ⟨_, rfl, lk_10 hL hi I⟩
  | 11, _ => exact ⟨_, rfl, lk_11 hL hi I⟩
  | 12, _ => exact ⟨_, rfl, lk_12 hL hi I⟩
  | 13, _ => exact ⟨_, rfl, lk_13 hL hi I⟩
  | 14, _ => exact ⟨_, rfl, lk_14 hL hi I⟩
  | 15, _ => exact ⟨_, rfl, lk_15 hL hi I⟩
  | 16, _ => exact ⟨_, rfl, lk_16 hL hi I⟩
  | 17, _ => exact ⟨_, rfl, lk_17 hL hi I⟩
  | 18, _ => exact ⟨_, rfl, lk_18 hL hi I⟩
  | 19, _ => exact ⟨_, rfl, lk_19 hL hi I⟩
  | 20, _ => exact ⟨_, rfl, lk_20 hL hi I⟩
  | 21, _ => exact ⟨_, rfl, lk_21 hL hi I⟩
  | 22, _ => exact ⟨_, rfl, lk_22 hL hi I⟩
  | 23, _ => exact ⟨_, rfl, lk_23 hL hi I⟩
  | 24, _ => exact ⟨_, rfl, lk_24 hL hi I⟩
  | 25, _ => exact ⟨_, rfl, lk_25 hL hi I⟩
  | k + 26, hk => exact absurd hk (by omega)
theorem lb_step (L : Nat) (xs : Nat → Int32) (i : Nat) (h : gz_H) (I : Inv h) (hi : 9 * i + 9 ≤ L) (hL : L ≤ 4608) : ∃ h', lb_L L xs [.float 0, .ref 0, .ref 15, .int (nI (9 * i))] h = some (.inl (18, [.float 0, .ref 0, .ref 15, .int (nI (9 * (i + 1)))], h')) ∧ Inv h' := by
  have t : ¬ (Int32.ofNat L - 9 < nI (9 * i)) := fun z => by
    have := (lz_cmp hL (by omega)).mp z
    omega
  have b : ¬ nI (9 * i) < 0 := nI_pos (by omega)
  have d : (nI (9 * i)).toNatClampNeg = 9 * i := nI_clamp (by omega)
  have l : 9 * i < L := by omega
  have e9 : nI (9 * i) + 9 = nI (9 * (i + 1)) := nI_add (9 * i) 9
  obtain ⟨j, j1, j2⟩ := pk_andE (xs (9 * i)) (m := 31) 5 rfl
  have key : ∃ h', gz_sw (gz_ib (fun x y => x &&& y) (gz_sld L xs (gz_la 0) (gz_li 3)) (gz_i (31))) 0 [lc_0 L xs, lc_1 L xs, lc_2 L xs, lc_3 L xs, lc_4 L xs, lc_5 L xs, lc_6 L xs, lc_7 L xs, lc_8 L xs, lc_9 L xs, lc_10 L xs, lc_11 L xs, lc_12 L xs, lc_13 L xs, lc_14 L xs, lc_15 L xs, lc_16 L xs, lc_17 L xs, lc_18 L xs, lc_19 L xs, lc_20 L xs, lc_21 L xs, lc_22 L xs, lc_23 L xs, lc_24 L xs, lc_25 L xs] (gz_sat 1215) [.float 0, .ref 0, .ref 15, .int (nI (9 * i))] h = some (.inl (1215, [.float 0, .ref 0, .ref 15, .int (nI (9 * i))], h')) ∧ Inv h' := by
    have ev : gz_ib (fun x y => x &&& y) (gz_sld L xs (gz_la 0) (gz_li 3)) (gz_i (31)) [.float 0, .ref 0, .ref 15, .int (nI (9 * i))] [] h = some (.int (nI j), h) := by
      simp only [gz_ib, gz_sld, gz_la, gz_li, gz_i, List.getElem?_cons_zero, List.getElem?_cons_succ, b, d, l, not_false_iff, and_self, if_true, if_pos, j2]
    have tj : (nI j).toInt = (j : Int) := nI_toInt (by omega)
    by_cases q : j < 26
    · obtain ⟨s, s1, h', s2, s3⟩ := lk_all (xs := xs) hL hi I j q
      have sw := sw_in (x := nI j) (n := 26) q (by decide) rfl
      refine ⟨h', ?_, s3⟩
      unfold gz_sw
      rw [ev]
      show (if (nI j).toInt < 0 ∨ (0 : Int) + ((26 : Nat) : Int) ≤ (nI j).toInt then _ else _) = _
      rw [if_neg sw.1, sw.2, s1]
      exact s2
    · refine ⟨h, ?_, I⟩
      unfold gz_sw
      rw [ev]
      show (if (nI j).toInt < 0 ∨ (0 : Int) + ((26 : Nat) : Int) ≤ (nI j).toInt then _ else _) = _
      rw [if_pos (by omega)]
      rfl
  obtain ⟨h', k1, k2⟩ := key
  refine ⟨h', ?_, k2⟩
  have lt : gz_j2 (fun x y => decide (y < x)) (gz_li 3) (gz_ib (fun x y => x - y) (gz_sln L (gz_la 0)) (gz_i (9))) [.float 0, .ref 0, .ref 15, .int (nI (9 * i))] [] h = some (false, h) := by
    simp only [gz_j2, gz_li, gz_ib, gz_sln, gz_la, gz_i, List.getElem?_cons_zero, List.getElem?_cons_succ, t, decide_false]
  unfold lb_L gz_if
  rw [lt]
  show gz_seq 1215 4 _ _ _ _ = _
  unfold gz_seq
  rw [k1]
  simp only [gz_inc, gz_sat, gz_st, Value.category, List.take_succ_cons, List.take_zero, List.getElem?_cons_zero, List.getElem?_cons_succ, e9, if_true, Nat.reduceEqDiff, reduceIte, and_false, false_and, if_false, Nat.reduceAdd]
