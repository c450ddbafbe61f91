theorem hx_ext {h h' : gz_H} (n : h.1 = h'.1) (k : h.2.1 = h'.2.1) (v : ∀ b i, gz_v h b i = gz_v h' b i) : h = h' := Prod.ext n (Prod.ext k (funext (fun b => funext (fun i => v b i))))
def sw7 (h : gz_H) (x a c w m l p q : Nat) (t : Int64) : gz_H := (h.1, h.2.1, fun b i => if b = x ∧ 6 ≤ i ∧ i ≤ 13 then (if i = 6 then .int (nI a) else if i = 7 then .int (nI c) else if i = 8 then .int (nI w) else if i = 9 then .int (nI m) else if i = 10 then .int (nI l) else if i = 11 then .int (nI p) else if i = 12 then .int (nI q) else .long t) else h.2.2 b i)
def sw8 (h : gz_H) (s a c w m l p q : Nat) (t : Int64) : gz_H := (h.1, h.2.1, fun b i => if i = s ∧ 43 ≤ b ∧ b ≤ 50 then (if b = 43 then .int (nI a) else if b = 44 then .int (nI c) else if b = 45 then .long (lN w) else if b = 46 then .long (lN m) else if b = 47 then .long (lN l) else if b = 48 then .long t else if b = 49 then .long (lN p) else .long (lN q)) else h.2.2 b i)
section
variable (h : gz_H) (x a c w m l p q : Nat) (t : Int64)
theorem sw7_v (b i : Nat) : gz_v (sw7 h x a c w m l p q t) b i = if b = x ∧ 6 ≤ i ∧ i ≤ 13 then (if i = 6 then .int (nI a) else if i = 7 then .int (nI c) else if i = 8 then .int (nI w) else if i = 9 then .int (nI m) else if i = 10 then .int (nI l) else if i = 11 then .int (nI p) else if i = 12 then .int (nI q) else .long t) else gz_v h b i := rfl
theorem sw8_v (b i : Nat) : gz_v (sw8 h x a c w m l p q t) b i = if i = x ∧ 43 ≤ b ∧ b ≤ 50 then (if b = 43 then .int (nI a) else if b = 44 then .int (nI c) else if b = 45 then .long (lN w) else if b = 46 then .long (lN m) else if b = 47 then .long (lN l) else if b = 48 then .long t else if b = 49 then .long (lN p) else .long (lN q)) else gz_v h b i := rfl
theorem sw7_n : (sw7 h x a c w m l p q t).1 = h.1 := rfl
theorem sw7_k (b : Nat) : gz_k (sw7 h x a c w m l p q t) b = gz_k h b := rfl
theorem sw8_n : (sw8 h x a c w m l p q t).1 = h.1 := rfl
theorem sw8_k (b : Nat) : gz_k (sw8 h x a c w m l p q t) b = gz_k h b := rfl
theorem sw7_o {b i : Nat} (n : b ≠ x ∨ i < 6) : gz_v (sw7 h x a c w m l p q t) b i = gz_v h b i := by rw [sw7_v, if_neg (by omega)]
theorem sw8_o {b i : Nat} (n : i ≠ x ∨ b < 43 ∨ 50 < b) : gz_v (sw8 h x a c w m l p q t) b i = gz_v h b i := by rw [sw8_v, if_neg (by omega)]
theorem sw7_x : gz_v (sw7 h x a c w m l p q t) x 6 = .int (nI a) ∧ gz_v (sw7 h x a c w m l p q t) x 7 = .int (nI c) ∧ gz_v (sw7 h x a c w m l p q t) x 8 = .int (nI w) ∧ gz_v (sw7 h x a c w m l p q t) x 9 = .int (nI m) ∧ gz_v (sw7 h x a c w m l p q t) x 10 = .int (nI l) ∧ gz_v (sw7 h x a c w m l p q t) x 11 = .int (nI p) ∧ gz_v (sw7 h x a c w m l p q t) x 12 = .int (nI q) ∧ gz_v (sw7 h x a c w m l p q t) x 13 = .long t := by
  refine ⟨?_, ?_, ?_, ?_, ?_, ?_, ?_, ?_⟩ <;> simp [sw7_v]
theorem sw8_x : gz_I (sw8 h x a c w m l p q t) 43 x = nI a ∧ gz_I (sw8 h x a c w m l p q t) 44 x = nI c ∧ gz_J (sw8 h x a c w m l p q t) 45 x = lN w ∧ gz_J (sw8 h x a c w m l p q t) 46 x = lN m ∧ gz_J (sw8 h x a c w m l p q t) 47 x = lN l ∧ gz_J (sw8 h x a c w m l p q t) 48 x = t ∧ gz_J (sw8 h x a c w m l p q t) 49 x = lN p ∧ gz_J (sw8 h x a c w m l p q t) 50 x = lN q := by
  refine ⟨?_, ?_, ?_, ?_, ?_, ?_, ?_, ?_⟩ <;> simp [gz_I, gz_J, sw8_v]
theorem sw7_set (b i : Nat) (v : Value) (n : b ≠ x) : gz_set (sw7 h x a c w m l p q t) b i v = sw7 (gz_set h b i v) x a c w m l p q t := by
  refine hx_ext rfl rfl (fun y j => ?_)
  rw [gz_v_set, sw7_v, sw7_v, gz_v_set]
  by_cases q1 : y = b ∧ j = i
  · rw [if_pos q1, if_neg (by omega), if_pos q1]
  · rw [if_neg q1, if_neg q1]
theorem sw8_set (b i : Nat) (v : Value) (n : i ≠ x ∨ b < 43 ∨ 50 < b) : gz_set (sw8 h x a c w m l p q t) b i v = sw8 (gz_set h b i v) x a c w m l p q t := by
  refine hx_ext rfl rfl (fun y j => ?_)
  rw [gz_v_set, sw8_v, sw8_v, gz_v_set]
  by_cases q1 : y = b ∧ j = i
  · rw [if_pos q1, if_neg (by omega), if_pos q1]
  · rw [if_neg q1, if_neg q1]
theorem sw8_wr (b lo hi : Nat) (f : Nat → Int32) (n : b < 43 ∨ 50 < b) : gz_wr (sw8 h x a c w m l p q t) b lo hi f = sw8 (gz_wr h b lo hi f) x a c w m l p q t := by
  refine hx_ext rfl rfl (fun y j => ?_)
  rw [wr_v, sw8_v, sw8_v, wr_v]
  by_cases q1 : y = b ∧ lo ≤ j ∧ j < hi
  · rw [if_pos q1, if_neg (by omega), if_pos q1]
  · rw [if_neg q1, if_neg q1]
theorem sw7_w (f : Nat) (v : Value) {a' c' w' m' l' p' q' : Nat} {t' : Int64} (e : ∀ i, 6 ≤ i → i ≤ 13 → (if i = f then v else gz_v (sw7 h x a c w m l p q t) x i) = gz_v (sw7 h x a' c' w' m' l' p' q' t') x i) (h6 : 6 ≤ f) (h13 : f ≤ 13) : gz_set (sw7 h x a c w m l p q t) x f v = sw7 h x a' c' w' m' l' p' q' t' := by
  refine hx_ext rfl rfl (fun b i => ?_)
  rw [gz_v_set]
  by_cases q1 : b = x
  · subst q1
    by_cases q2 : 6 ≤ i ∧ i ≤ 13
    · rw [← e i q2.1 q2.2]
      by_cases q3 : i = f
      · rw [if_pos ⟨rfl, q3⟩, if_pos q3]
      · rw [if_neg (fun z => q3 z.2), if_neg q3]
    · rw [if_neg (by omega), sw7_v, sw7_v, if_neg (by omega), if_neg (by omega)]
  · rw [if_neg (fun z => q1 z.1), sw7_o _ _ _ _ _ _ _ _ _ _ (Or.inl q1), sw7_o _ _ _ _ _ _ _ _ _ _ (Or.inl q1)]
theorem sw8_w (f : Nat) (v : Value) {a' c' w' m' l' p' q' : Nat} {t' : Int64} (e : ∀ i, 43 ≤ i → i ≤ 50 → (if i = f then v else gz_v (sw8 h x a c w m l p q t) i x) = gz_v (sw8 h x a' c' w' m' l' p' q' t') i x) (h6 : 43 ≤ f) (h13 : f ≤ 50) : gz_set (sw8 h x a c w m l p q t) f x v = sw8 h x a' c' w' m' l' p' q' t' := by
  refine hx_ext rfl rfl (fun b i => ?_)
  rw [gz_v_set]
  by_cases q1 : i = x
  · subst q1
    by_cases q2 : 43 ≤ b ∧ b ≤ 50
    · rw [← e b q2.1 q2.2]
      by_cases q3 : b = f
      · rw [if_pos ⟨q3, rfl⟩, if_pos q3]
      · rw [if_neg (fun z => q3 z.1), if_neg q3]
    · rw [if_neg (by omega), sw8_v, sw8_v, if_neg (by omega), if_neg (by omega)]
  · rw [if_neg (fun z => q1 z.2), sw8_o _ _ _ _ _ _ _ _ _ _ (Or.inl q1), sw8_o _ _ _ _ _ _ _ _ _ _ (Or.inl q1)]
end
theorem i613 {i : Nat} (h1 : 6 ≤ i) (h2 : i ≤ 13) : i = 6 ∨ i = 7 ∨ i = 8 ∨ i = 9 ∨ i = 10 ∨ i = 11 ∨ i = 12 ∨ i = 13 := by omega
theorem i4350 {i : Nat} (h1 : 43 ≤ i) (h2 : i ≤ 50) : i = 43 ∨ i = 44 ∨ i = 45 ∨ i = 46 ∨ i = 47 ∨ i = 48 ∨ i = 49 ∨ i = 50 := by omega
section
variable (h : gz_H) (x a c w m l p q : Nat) (t : Int64) (n : Nat) (u : Int64)
theorem sw7_6 : gz_set (sw7 h x a c w m l p q t) x 6 (.int (nI n)) = sw7 h x n c w m l p q t := sw7_w _ _ _ _ _ _ _ _ _ _ _ _ (fun i h1 h2 => by rcases i613 h1 h2 with rfl | rfl | rfl | rfl | rfl | rfl | rfl | rfl <;> simp [sw7_v]) (by omega) (by omega)
theorem sw7_7 : gz_set (sw7 h x a c w m l p q t) x 7 (.int (nI n)) = sw7 h x a n w m l p q t := sw7_w _ _ _ _ _ _ _ _ _ _ _ _ (fun i h1 h2 => by rcases i613 h1 h2 with rfl | rfl | rfl | rfl | rfl | rfl | rfl | rfl <;> simp [sw7_v]) (by omega) (by omega)
theorem sw7_8 : gz_set (sw7 h x a c w m l p q t) x 8 (.int (nI n)) = sw7 h x a c n m l p q t := sw7_w _ _ _ _ _ _ _ _ _ _ _ _ (fun i h1 h2 => by rcases i613 h1 h2 with rfl | rfl | rfl | rfl | rfl | rfl | rfl | rfl <;> simp [sw7_v]) (by omega) (by omega)
theorem sw7_9 : gz_set (sw7 h x a c w m l p q t) x 9 (.int (nI n)) = sw7 h x a c w n l p q t := sw7_w _ _ _ _ _ _ _ _ _ _ _ _ (fun i h1 h2 => by rcases i613 h1 h2 with rfl | rfl | rfl | rfl | rfl | rfl | rfl | rfl <;> simp [sw7_v]) (by omega) (by omega)
theorem sw7_10 : gz_set (sw7 h x a c w m l p q t) x 10 (.int (nI n)) = sw7 h x a c w m n p q t := sw7_w _ _ _ _ _ _ _ _ _ _ _ _ (fun i h1 h2 => by rcases i613 h1 h2 with rfl | rfl | rfl | rfl | rfl | rfl | rfl | rfl <;> simp [sw7_v]) (by omega) (by omega)
theorem sw7_11 : gz_set (sw7 h x a c w m l p q t) x 11 (.int (nI n)) = sw7 h x a c w m l n q t := sw7_w _ _ _ _ _ _ _ _ _ _ _ _ (fun i h1 h2 => by rcases i613 h1 h2 with rfl | rfl | rfl | rfl | rfl | rfl | rfl | rfl <;> simp [sw7_v]) (by omega) (by omega)
theorem sw7_12 : gz_set (sw7 h x a c w m l p q t) x 12 (.int (nI n)) = sw7 h x a c w m l p n t := sw7_w _ _ _ _ _ _ _ _ _ _ _ _ (fun i h1 h2 => by rcases i613 h1 h2 with rfl | rfl | rfl | rfl | rfl | rfl | rfl | rfl <;> simp [sw7_v]) (by omega) (by omega)
theorem sw7_13 : gz_set (sw7 h x a c w m l p q t) x 13 (.long u) = sw7 h x a c w m l p q u := sw7_w _ _ _ _ _ _ _ _ _ _ _ _ (fun i h1 h2 => by rcases i613 h1 h2 with rfl | rfl | rfl | rfl | rfl | rfl | rfl | rfl <;> simp [sw7_v]) (by omega) (by omega)
theorem sw8_43 : gz_set (sw8 h x a c w m l p q t) 43 x (.int (nI n)) = sw8 h x n c w m l p q t := sw8_w _ _ _ _ _ _ _ _ _ _ _ _ (fun i h1 h2 => by rcases i4350 h1 h2 with rfl | rfl | rfl | rfl | rfl | rfl | rfl | rfl <;> simp [sw8_v]) (by omega) (by omega)
theorem sw8_44 : gz_set (sw8 h x a c w m l p q t) 44 x (.int (nI n)) = sw8 h x a n w m l p q t := sw8_w _ _ _ _ _ _ _ _ _ _ _ _ (fun i h1 h2 => by rcases i4350 h1 h2 with rfl | rfl | rfl | rfl | rfl | rfl | rfl | rfl <;> simp [sw8_v]) (by omega) (by omega)
theorem sw8_45 : gz_set (sw8 h x a c w m l p q t) 45 x (.long (lN n)) = sw8 h x a c n m l p q t := sw8_w _ _ _ _ _ _ _ _ _ _ _ _ (fun i h1 h2 => by rcases i4350 h1 h2 with rfl | rfl | rfl | rfl | rfl | rfl | rfl | rfl <;> simp [sw8_v]) (by omega) (by omega)
theorem sw8_46 : gz_set (sw8 h x a c w m l p q t) 46 x (.long (lN n)) = sw8 h x a c w n l p q t := sw8_w _ _ _ _ _ _ _ _ _ _ _ _ (fun i h1 h2 => by rcases i4350 h1 h2 with rfl | rfl | rfl | rfl | rfl | rfl | rfl | rfl <;> simp [sw8_v]) (by omega) (by omega)
theorem sw8_47 : gz_set (sw8 h x a c w m l p q t) 47 x (.long (lN n)) = sw8 h x a c w m n p q t := sw8_w _ _ _ _ _ _ _ _ _ _ _ _ (fun i h1 h2 => by rcases i4350 h1 h2 with rfl | rfl | rfl | rfl | rfl | rfl | rfl | rfl <;> simp [sw8_v]) (by omega) (by omega)
theorem sw8_48 : gz_set (sw8 h x a c w m l p q t) 48 x (.long u) = sw8 h x a c w m l p q u := sw8_w _ _ _ _ _ _ _ _ _ _ _ _ (fun i h1 h2 => by rcases i4350 h1 h2 with rfl | rfl | rfl | rfl | rfl | rfl | rfl | rfl <;> simp [sw8_v]) (by omega) (by omega)
theorem sw8_49 : gz_set (sw8 h x a c w m l p q t) 49 x (.long (lN n)) = sw8 h x a c w m l n q t := sw8_w _ _ _ _ _ _ _ _ _ _ _ _ (fun i h1 h2 => by rcases i4350 h1 h2 with rfl | rfl | rfl | rfl | rfl | rfl | rfl | rfl <;> simp [sw8_v]) (by omega) (by omega)
theorem sw8_50 : gz_set (sw8 h x a c w m l p q t) 50 x (.long (lN n)) = sw8 h x a c w m l p n t := sw8_w _ _ _ _ _ _ _ _ _ _ _ _ (fun i h1 h2 => by rcases i4350 h1 h2 with rfl | rfl | rfl | rfl | rfl | rfl | rfl | rfl <;> simp [sw8_v]) (by omega) (by omega)
theorem sw7_sc (k : sc h x) : sc (sw7 h x a c w m l p q t) x := by
  obtain ⟨k1, k2, k3, k4, k5⟩ := k
  obtain ⟨v6, v7, v8, v9, v10, v11, v12, v13⟩ := sw7_x h x a c w m l p q t
  refine ⟨k1, k2, fun f hf => ?_, fun f h1 h2 => ?_, ?_⟩
  · rw [vI (sw7_o h x a c w m l p q t (Or.inr (by omega))), sw7_o h x a c w m l p q t (Or.inr (by omega))]; exact k3 f hf
  · have : f = 6 ∨ f = 7 ∨ f = 8 ∨ f = 9 ∨ f = 10 ∨ f = 11 ∨ f = 12 := by omega
    rcases this with rfl | rfl | rfl | rfl | rfl | rfl | rfl
    · rw [gz_I_of v6]; exact v6
    · rw [gz_I_of v7]; exact v7
    · rw [gz_I_of v8]; exact v8
    · rw [gz_I_of v9]; exact v9
    · rw [gz_I_of v10]; exact v10
    · rw [gz_I_of v11]; exact v11
    · rw [gz_I_of v12]; exact v12
  · have : gz_J (sw7 h x a c w m l p q t) x 13 = t := by unfold gz_J; rw [v13]
    rw [this]; exact v13
theorem sw8_md (k : md h) : md (sw8 h x a c w m l p q t) := by
  obtain ⟨m1, m2, m3, m4, m5, m6, m7, m8, m9, m10, m11, m12⟩ := k
  have o15 : ∀ i, gz_v (sw8 h x a c w m l p q t) 15 i = gz_v h 15 i := fun i => sw8_o h x a c w m l p q t (by omega)
  refine ⟨m1, m2, fun q h1 h2 => by rw [o15]; exact m3 q h1 h2, fun q h1 h2 => by rw [o15]; exact m4 q h1 h2, fun q h1 h2 => by rw [o15]; exact m5 q h1 h2, fun b i h1 h2 => ?_, fun b i h1 h2 => ?_, fun b i h1 h2 => ?_, fun q h1 => by rw [vI (o15 q), o15]; exact m9 q h1, fun q h1 h2 => by rw [vI (o15 q), o15]; exact m10 q h1 h2, fun q h1 h2 => by rw [vJ (o15 q), o15]; exact m11 q h1 h2, by rw [vI (o15 47), o15]; exact m12⟩
  · by_cases z : i = x ∧ 43 ≤ b
    · obtain ⟨rfl, z⟩ := z
      have : b = 43 ∨ b = 44 := by omega
      rcases this with rfl | rfl <;> simp [gz_I, sw8_v]
    · rw [vI (sw8_o h x a c w m l p q t (by omega)), sw8_o h x a c w m l p q t (by omega)]; exact m6 b i h1 h2
  · by_cases z : i = x
    · subst z
      have : b = 45 ∨ b = 46 ∨ b = 47 ∨ b = 48 ∨ b = 49 ∨ b = 50 := by omega
      rcases this with rfl | rfl | rfl | rfl | rfl | rfl <;> simp [gz_J, sw8_v]
    · rw [vJ (sw8_o h x a c w m l p q t (by omega)), sw8_o h x a c w m l p q t (by omega)]; exact m7 b i h1 h2
  · rw [vI (sw8_o h x a c w m l p q t (by omega)), sw8_o h x a c w m l p q t (by omega)]; exact m8 b i h1 h2
theorem sw7_eta (k : sc h x) (e6 : gz_I h x 6 = nI a) (e7 : gz_I h x 7 = nI c) (e8 : gz_I h x 8 = nI w) (e9 : gz_I h x 9 = nI m) (e10 : gz_I h x 10 = nI l) (e11 : gz_I h x 11 = nI p) (e12 : gz_I h x 12 = nI q) (e13 : gz_J h x 13 = t) : h = sw7 h x a c w m l p q t := by
  obtain ⟨k1, k2, k3, k4, k5⟩ := k
  refine hx_ext rfl rfl (fun b i => ?_)
  rw [sw7_v]
  by_cases z : b = x ∧ 6 ≤ i ∧ i ≤ 13
  · rw [if_pos z]
    obtain ⟨rfl, h1, h2⟩ := z
    rcases i613 h1 h2 with rfl | rfl | rfl | rfl | rfl | rfl | rfl | rfl
    · rw [k4 6 (by omega) (by omega), e6]; rfl
    · rw [k4 7 (by omega) (by omega), e7]; rfl
    · rw [k4 8 (by omega) (by omega), e8]; rfl
    · rw [k4 9 (by omega) (by omega), e9]; rfl
    · rw [k4 10 (by omega) (by omega), e10]; rfl
    · rw [k4 11 (by omega) (by omega), e11]; rfl
    · rw [k4 12 (by omega) (by omega), e12]; rfl
    · rw [k5, e13]; rfl
  · rw [if_neg z]
theorem sw8_eta (k : md h) (e43 : gz_I h 43 x = nI a) (e44 : gz_I h 44 x = nI c) (e45 : gz_J h 45 x = lN w) (e46 : gz_J h 46 x = lN m) (e47 : gz_J h 47 x = lN l) (e49 : gz_J h 49 x = lN p) (e50 : gz_J h 50 x = lN q) (e48 : gz_J h 48 x = t) : h = sw8 h x a c w m l p q t := by
  obtain ⟨m1, m2, m3, m4, m5, m6, m7, m8, m9, m10, m11, m12⟩ := k
  refine hx_ext rfl rfl (fun b i => ?_)
  rw [sw8_v]
  by_cases z : i = x ∧ 43 ≤ b ∧ b ≤ 50
  · rw [if_pos z]
    obtain ⟨rfl, h1, h2⟩ := z
    rcases i4350 h1 h2 with rfl | rfl | rfl | rfl | rfl | rfl | rfl | rfl
    · rw [m6 43 i (by omega) (by omega), e43]; rfl
    · rw [m6 44 i (by omega) (by omega), e44]; rfl
    · rw [m7 45 i (by omega) (by omega), e45]; rfl
    · rw [m7 46 i (by omega) (by omega), e46]; rfl
    · rw [m7 47 i (by omega) (by omega), e47]; rfl
    · rw [m7 48 i (by omega) (by omega), e48]; rfl
    · rw [m7 49 i (by omega) (by omega), e49]; rfl
    · rw [m7 50 i (by omega) (by omega), e50]; rfl
  · rw [if_neg z]
end
/-- stops behind k that come -/
def cq (g : Int32) (w p : Nat) : Nat → Nat
  | 0 => p
  | k + 1 => if ¬ g = 0 ∧ w + k = 0 then cq g w p k else cq g w p k + 1
theorem cq_b (g : Int32) (w p : Nat) : ∀ k, cq g w p k ≤ p + k := by
  intro k
  induction k with
  | zero => exact Nat.le_refl _
  | succ k ih =>
    unfold cq
    by_cases z : ¬ g = 0 ∧ w + k = 0
    · rw [if_pos z]; omega
    · rw [if_neg z]; omega
theorem cq_1 (g : Int32) (w p k : Nat) : cq g (w + k) (cq g w p k) 1 = cq g w p (k + 1) := rfl
