/-- what a new array holds -/
def dv (ct : Nat) : Value := if ct = 102 then .long 0 else if ct < 102 then .int 0 else .null
/-- rows that a constructor makes, one behind the other -/
def mkA (a : Nat) : gz_H → List (Nat × FieldType × Nat × Nat) → gz_H
  | h, [] => h
  | h, (f, _, ct, n) :: L => mkA a (gz_set (gz_new h (ct, n) (fun _ => dv ct)) a f (.ref h.1)) L
def puts (ci N : Nat) : List (Nat × FieldType × Nat × Nat) → gz_Sx → gz_Sx
  | [], R => R
  | (f, t, ct, n) :: L, R => gz_put ci N f (.array t) (gz_la 0) (gz_nar ct (dv ct) (gz_i (Int32.ofNat n)) n) (puts ci N L R)
theorem pn {ci N f ct n : Nat} {t : FieldType} {d : Value} {R : gz_Sx} {a : Nat} {h : gz_H} (ha : a < h.1) (hk : gz_k h a = (ci, N)) : gz_put ci N f (.array t) (gz_la 0) (gz_nar ct d (gz_i (Int32.ofNat n)) n) R [.ref a] h = R [.ref a] (gz_set (gz_new h (ct, n) (fun _ => d)) a f (.ref h.1)) := by
  have k : gz_k (gz_new h (ct, n) (fun _ => d)) a = (ci, N) := by rw [gz_k_new, if_neg (by omega)]; exact hk
  have l : a < (gz_new h (ct, n) (fun _ => d)).1 := by rw [gz_n_new]; omega
  simp only [gz_put, gz_nar, gz_la, gz_i, List.getElem?_cons_zero, if_true, k, l, fit_aR, and_self, if_pos]
theorem pint {ci N f : Nat} {c : Int32} {R : gz_Sx} {a : Nat} {h : gz_H} (ha : a < h.1) (hk : gz_k h a = (ci, N)) : gz_put ci N f .int (gz_la 0) (gz_i c) R [.ref a] h = R [.ref a] (gz_set h a f (.int c)) := by
  simp only [gz_put, gz_la, gz_i, List.getElem?_cons_zero, if_true, ha, hk, fit_I, and_self, if_pos]
theorem pm {ci N f ci2 N2 : Nat} {C : String} {d : Nat → Value} {sem : gz_Me} {R : gz_Sx} {a x : Nat} {h h2 : gz_H} (hx : h.1 = x) (e : sem [.ref x] (gz_new h (ci2, N2) d) = some (none, h2)) (ha : a < h2.1) (hk : gz_k h2 a = (ci, N)) : gz_put ci N f (.object C) (gz_la 0) (gz_mk ci2 N2 d sem gz_a0) R [.ref a] h = R [.ref a] (gz_set h2 a f (.ref x)) := by
  subst hx
  simp only [gz_put, gz_la, gz_mk, gz_a0, List.getElem?_cons_zero, if_true, e, ha, hk, fit_R, and_self, if_pos]
theorem mkA_n (a : Nat) : ∀ L h, (mkA a h L).1 = h.1 + L.length
  | [], _ => rfl
  | (f, t, ct, n) :: L, h => by
    show (mkA a (gz_set (gz_new h (ct, n) (fun _ => dv ct)) a f (.ref h.1)) L).1 = _
    rw [mkA_n a L, gz_n_set, gz_n_new, List.length_cons]
    omega
theorem mkA_k (a : Nat) : ∀ L h x, x < h.1 → gz_k (mkA a h L) x = gz_k h x
  | [], _, _, _ => rfl
  | (f, t, ct, n) :: L, h, x, hx => by
    show gz_k (mkA a (gz_set (gz_new h (ct, n) (fun _ => dv ct)) a f (.ref h.1)) L) x = _
    rw [mkA_k a L _ x (by rw [gz_n_set, gz_n_new]; omega), gz_k_set, gz_k_new, if_neg (by omega)]
theorem puts_ok {ci N a : Nat} {R : gz_Sx} : ∀ L h, a < h.1 → gz_k h a = (ci, N) → puts ci N L R [.ref a] h = R [.ref a] (mkA a h L)
  | [], _, _, _ => rfl
  | (f, t, ct, n) :: L, h, ha, hk => by
    show gz_put ci N f (.array t) (gz_la 0) (gz_nar ct (dv ct) (gz_i (Int32.ofNat n)) n) (puts ci N L R) [.ref a] h = _
    rw [pn ha hk, puts_ok L _ (by rw [gz_n_set, gz_n_new]; omega) (by rw [gz_k_set, gz_k_new, if_neg (by omega)]; exact hk)]
    rfl
theorem sem1 {maxL : Nat} {t : gz_Sx} {a : Nat} {h h' : gz_H} (hm : 1 ≤ maxL) (e : t [.ref a] h = some (.inr (none, h'))) : gz_sem none maxL t [.ref a] h = some (none, h') := by
  have ae : gz_ae [Value.ref a] = [.ref a] := rfl
  simp only [gz_sem, ae, List.length_cons, List.length_nil, Nat.zero_add, hm, if_pos, e, rok_V, if_true]
theorem sup1 {a : Nat} {h : gz_H} {R : gz_Sx} : gz_sup (gz_la 0) R [.ref a] h = R [.ref a] h := rfl
/-- every array holds its first values -/
def UN (h : gz_H) (x : Nat) : Prop := ∀ i, gz_v h x i = dv (gz_k h x).1
def AR (h : gz_H) : Prop := ∀ x, x < h.1 → x ≠ 0 → x ≠ 2 → x ≠ 4 → x ≠ 9 → x ≠ 15 → UN h x
theorem AR_set {h : gz_H} (w : AR h) {a : Nat} (ha : a = 0 ∨ a = 2 ∨ a = 4 ∨ a = 9 ∨ a = 15) (i : Nat) (v : Value) : AR (gz_set h a i v) := fun x hx h0 h2 h4 h9 h15 j => by
  rw [gz_v_set, if_neg (by omega), gz_k_set]
  exact w x hx h0 h2 h4 h9 h15 j
theorem AR_obj {h : gz_H} (w : AR h) (hn : h.1 = 0 ∨ h.1 = 2 ∨ h.1 = 4 ∨ h.1 = 9 ∨ h.1 = 15) (k : Nat × Nat) (d : Nat → Value) : AR (gz_new h k d) := fun x hx h0 h2 h4 h9 h15 j => by
  rw [gz_n_new] at hx
  rw [gz_v_new, if_neg (by omega), gz_k_new, if_neg (by omega)]
  exact w x (by omega) h0 h2 h4 h9 h15 j
theorem AR_mk {a : Nat} (ha : a = 0 ∨ a = 2 ∨ a = 4 ∨ a = 9 ∨ a = 15) : ∀ L h, AR h → AR (mkA a h L)
  | [], _, w => w
  | (f, t, ct, n) :: L, h, w => by
    show AR (mkA a (gz_set (gz_new h (ct, n) (fun _ => dv ct)) a f (.ref h.1)) L)
    refine AR_mk ha L _ (AR_set (fun x hx h0 h2 h4 h9 h15 j => ?_) ha f _)
    rw [gz_n_new] at hx
    rw [gz_v_new, gz_k_new]
    by_cases q : x = h.1
    · rw [if_pos q, if_pos q]
    · rw [if_neg q, if_neg q]
      exact w x (by omega) h0 h2 h4 h9 h15 j
def L5 : List (Nat × FieldType × Nat × Nat) := [(0, .int, 100, 8)]
def L0 : List (Nat × FieldType × Nat × Nat) := [(0, .int, 100, 16), (1, .int, 100, 4), (2, .int, 100, 4), (3, .int, 100, 4)]
def L6 : List (Nat × FieldType × Nat × Nat) := [(0, .object "GreenDesk$Plan", 105, 3), (1, .int, 100, 6), (2, .int, 100, 6), (3, .long, 102, 540), (4, .long, 102, 540)]
def L7 : List (Nat × FieldType × Nat × Nat) := [(0, .object "GreenDesk$Junction", 104, 8)]
def L8a : List (Nat × FieldType × Nat × Nat) := [(2, .int, 100, 8), (3, .int, 100, 64), (4, .int, 100, 64), (5, .int, 100, 64), (6, .int, 100, 64), (7, .int, 100, 512), (8, .boolean, 101, 512), (9, .boolean, 101, 16), (10, .int, 100, 16), (11, .int, 100, 16), (12, .int, 100, 64), (13, .int, 100, 64), (14, .int, 100, 16), (15, .int, 100, 8), (16, .int, 100, 8), (17, .boolean, 101, 8)]
def L8b : List (Nat × FieldType × Nat × Nat) := [(22, .int, 100, 1440), (23, .int, 100, 1440), (24, .int, 100, 16), (25, .int, 100, 4), (26, .int, 100, 4), (29, .boolean, 101, 64), (30, .int, 100, 64), (31, .int, 100, 64), (32, .int, 100, 64), (33, .int, 100, 64), (34, .int, 100, 3840), (35, .int, 100, 64), (36, .int, 100, 64), (37, .long, 102, 64), (38, .long, 102, 64), (39, .long, 102, 64), (40, .long, 102, 64), (41, .long, 102, 64), (42, .long, 102, 64), (43, .boolean, 101, 64), (44, .int, 100, 1600), (45, .int, 100, 3), (46, .int, 100, 3)]
theorem X0_is : sm_X0_init = gz_sup (gz_la 0) (puts 0 6 L0 gz_rv) := rfl
theorem X5_is : sm_X5_init = gz_sup (gz_la 0) (puts 5 3 L5 (gz_put 5 3 1 .int (gz_la 0) (gz_i (-1)) (gz_put 5 3 2 .int (gz_la 0) (gz_i (-1)) gz_rv))) := rfl
theorem X6_is : sm_X6_init = gz_sup (gz_la 0) (puts 6 10 L6 gz_rv) := rfl
theorem X7_is : sm_X7_init = gz_sup (gz_la 0) (puts 7 9 L7 (gz_put 7 9 1 (.object "GreenDesk$Watch") (gz_la 0) (gz_mk 5 3 (fun j => defaultValue (tyX5 j)) se_X5_init gz_a0) (gz_put 7 9 2 (.object "GreenDesk$Apportioner") (gz_la 0) (gz_mk 0 6 (fun j => defaultValue (tyX0 j)) se_X0_init gz_a0) (gz_put 7 9 3 (.object "GreenDesk$Way") (gz_la 0) (gz_mk 6 10 (fun j => defaultValue (tyX6 j)) se_X6_init gz_a0) (gz_put 7 9 6 .int (gz_la 0) (gz_i (-1)) (gz_put 7 9 7 .int (gz_la 0) (gz_i (-1)) (gz_put 7 9 8 .int (gz_la 0) (gz_i (-1)) gz_rv))))))) := rfl
theorem X8_is : sm_X8_init = gz_sup (gz_la 0) (puts 8 48 L8a (gz_put 8 48 19 .int (gz_la 0) (gz_i (-1)) (gz_put 8 48 20 .int (gz_la 0) (gz_i (-1)) (gz_put 8 48 21 .int (gz_la 0) (gz_i (-1)) (puts 8 48 L8b gz_rv))))) := rfl
def i0 (h : gz_H) (a : Nat) : gz_H := mkA a h L0
def i5 (h : gz_H) (a : Nat) : gz_H := gz_set (gz_set (mkA a h L5) a 1 (.int (-1))) a 2 (.int (-1))
def i6 (h : gz_H) (a : Nat) : gz_H := mkA a h L6
theorem ini_0 {h : gz_H} {a : Nat} (ha : a < h.1) (hk : gz_k h a = (0, 6)) : se_X0_init [.ref a] h = some (none, i0 h a) := by
  refine sem1 (Nat.le_refl _) ?_
  rw [X0_is, sup1, puts_ok L0 h ha hk]
  rfl
theorem ini_6 {h : gz_H} {a : Nat} (ha : a < h.1) (hk : gz_k h a = (6, 10)) : se_X6_init [.ref a] h = some (none, i6 h a) := by
  refine sem1 (Nat.le_refl _) ?_
  rw [X6_is, sup1, puts_ok L6 h ha hk]
  rfl
theorem ini_5 {h : gz_H} {a : Nat} (ha : a < h.1) (hk : gz_k h a = (5, 3)) : se_X5_init [.ref a] h = some (none, i5 h a) := by
  refine sem1 (Nat.le_refl _) ?_
  have l : a < (mkA a h L5).1 := by rw [mkA_n]; omega
  have k : gz_k (mkA a h L5) a = (5, 3) := by rw [mkA_k a L5 h a ha]; exact hk
  rw [X5_is, sup1, puts_ok L5 h ha hk, pint l k, pint (by rw [gz_n_set]; exact l) (by rw [gz_k_set]; exact k)]
  rfl
