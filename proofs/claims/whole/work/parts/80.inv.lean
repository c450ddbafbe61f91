abbrev gz_G := Nat → Nat → Nat
/-- a stream that is there -/
def EX (g : gz_G) (s : Nat) : Prop := s < 64 ∧ s % 8 < g 6 (s / 8)
/-- the cells of the apportioner, of the way -/
abbrev ac (h : gz_H) : Prop := gz_v h 4 0 = .ref 5 ∧ gz_v h 4 1 = .ref 6 ∧ gz_v h 4 2 = .ref 7 ∧ gz_v h 4 3 = .ref 8 ∧ gz_v h 4 4 = .long (gz_J h 4 4) ∧ gz_v h 4 5 = .long (gz_J h 4 5) ∧ (∀ x i, 5 ≤ x → x ≤ 8 → gz_v h x i = .int (gz_I h x i))
abbrev yc (h : gz_H) : Prop := gz_v h 9 0 = .ref 10 ∧ gz_v h 9 1 = .ref 11 ∧ gz_v h 9 2 = .ref 12 ∧ gz_v h 9 3 = .ref 13 ∧ gz_v h 9 4 = .ref 14 ∧ (∀ f, 5 ≤ f → f ≤ 9 → gz_v h 9 f = .int (gz_I h 9 f)) ∧ (∀ x i, 11 ≤ x → x ≤ 12 → gz_v h x i = .int (gz_I h x i)) ∧ (∀ x i, 13 ≤ x → x ≤ 14 → gz_v h x i = .long (gz_J h x i))
/-- the fixed cells -/
def FV (g : gz_G) (T : Nat) (hc hr : gz_H) : Prop := md hr ∧ cs hc (g 7 0) ∧ wc hc 2 ∧ ac hc ∧ yc hc ∧ g 7 0 ≤ 8 ∧ gz_I hr 15 0 = nI (g 7 0) ∧ gz_v hc 0 5 = .int (nI T) ∧ gz_I hr 15 1 = nI T ∧ T ≤ 100000 ∧ (∀ j, j < 8 → gz_I hr 16 j = nI (g 6 j)) ∧ (∀ j, g 6 j ≤ 8) ∧ (∀ j, g 7 0 ≤ j → g 6 j = 0) ∧ 55 ≤ hc.1 ∧ (∀ x, x < 15 → g 5 x = 50) ∧ (∀ x, 15 ≤ x → x < 55 → g 5 x = 0)
/-- what why tells -/
def WV (hc hr : gz_H) : Prop := (gz_I hr 15 18 = 0 ∧ gz_v hc 0 6 = .int (-1) ∧ gz_v hc 0 7 = .int (-1) ∧ gz_v hc 0 8 = .int (-1)) ∨ (¬ gz_I hr 15 18 = 0 ∧ gz_v hc 0 6 = .int (gz_I hr 15 19) ∧ gz_v hc 0 7 = .int (gz_I hr 15 20) ∧ gz_v hc 0 8 = .int (gz_I hr 15 21))
/-- a junction's cells and streams -/
def J1 (g : gz_G) (hc : gz_H) (j : Nat) : Prop := 55 ≤ g 0 j ∧ jc hc (g 0 j) (g 6 j) ∧ gz_v hc 1 j = .ref (g 0 j) ∧ (∀ k, k ≤ 5 → g 5 (g 0 j + k) = 1 + j) ∧ ∀ i, i < g 6 j → gz_v hc (g 0 j + 1) i = .ref (g 1 (8 * j + i))
/-- a junction's gaps -/
def J2 (hc hr : gz_H) (a j : Nat) : Prop := (∀ i k, i < 8 → k < 8 → gz_I hc (a + 2) (8 * i + k) = gz_I hr 21 (64 * j + 8 * i + k)) ∧ (∀ i k, i < 8 → k < 8 → ∃ n, n ≤ 20 ∧ gz_I hr 21 (64 * j + 8 * i + k) = nI n) ∧ (∀ i k, i < 8 → k < 8 → gz_I hr 21 (64 * j + 8 * i + k) = 0 → gz_I hr 21 (64 * j + 8 * k + i) = 0) ∧ (∀ i, i < 8 → gz_I hr 21 (64 * j + 8 * i + i) = 0) ∧ (∀ i k, i < 8 → k < 8 → (bt (gz_I hc (a + 3) i) k = true ↔ ¬ gz_I hr 22 (64 * j + 8 * i + k) = 0)) ∧ rb hc hr j a
def bw (hr : gz_H) (p n s : Nat) : Int32 := md_bw hr (p % 8) (gz_I hr 26 (4 * p + s) &&& (gz_I hr 26 (4 * p + (s + 1) % n) ^^^ -1)) (gz_I hr 26 (4 * p + (s + 1) % n) &&& (gz_I hr 26 (4 * p + s) ^^^ -1))
/-- a plan: at q in the class, p in the reference -/
def PV (hc hr : gz_H) (S q p n c : Nat) : Prop := n ≤ 4 ∧ 20 ≤ c ∧ c ≤ 90 ∧ pc hc q n ∧ gz_I hc q 0 = nI c ∧ gz_I hr 24 p = nI c ∧ gz_I hr 25 p = nI n ∧ (∀ s, s < n → gz_I hc (q + 1) s = gz_I hr 26 (4 * p + s) ∧ ¬ gz_I hr 26 (4 * p + s) < 0 ∧ gz_I hr 26 (4 * p + s) < nI (2 ^ S) ∧ gz_I hc (q + 2) s = gz_I hr 27 (4 * p + s) ∧ (∃ m, m ≤ 90 ∧ gz_I hr 27 (4 * p + s) = nI m) ∧ gz_I hc (q + 3) s = bw hr p n s)
/-- a plan that was taken -/
def TK (hc hr : gz_H) (q j n c : Nat) : Prop := 2 ≤ n ∧ (∃ o, o < c ∧ gz_I hc q 1 = nI o ∧ gz_I hr 28 (8 + j) = nI o) ∧ (∃ w, w ≤ n ∧ gz_I hc q 3 = nI w ∧ gz_I hr 29 j = nI w) ∧ (∀ t, t < c → gz_I hc (q + 5) t = gz_I hr 32 (90 * (8 + j) + t)) ∧ ∃ E : Nat → Nat, E 0 = 0 ∧ E n = c ∧ ∀ s, s < n → E s < E (s + 1) ∧ gz_I hc (q + 4) s = nI (E (s + 1)) ∧ ∀ t, E s ≤ t → t < E (s + 1) → gz_I hr 33 (90 * (8 + j) + t) = nI s
def PO (g : gz_G) (p : Nat) : Prop := 55 ≤ g 3 p ∧ ∀ k, k ≤ 5 → g 5 (g 3 p + k) = 300 + p
def J3 (g : gz_G) (hc hr : gz_H) (j : Nat) : Prop := (gz_I hr 23 j = 0 ∧ gz_v hc (g 0 j) 6 = .null) ∨ (gz_I hr 23 j = 1 ∧ gz_v hc (g 0 j) 6 = .ref (g 3 j) ∧ PO g j ∧ ∃ n c, PV hc hr (g 6 j) (g 3 j) j n c)
def J4 (g : gz_G) (hc hr : gz_H) (j : Nat) : Prop := (gz_I hr 23 (8 + j) = 0 ∧ gz_v hc (g 0 j) 7 = .null) ∨ (gz_I hr 23 (8 + j) = 1 ∧ gz_v hc (g 0 j) 7 = .ref (g 3 (8 + j)) ∧ PO g (8 + j) ∧ ∃ n c, PV hc hr (g 6 j) (g 3 (8 + j)) (8 + j) n c ∧ TK hc hr (g 3 (8 + j)) j n c)
def J5 (hc hr : gz_H) (a j : Nat) : Prop := gz_v hc a 8 = .int (gz_I hr 31 j) ∧ (gz_I hr 31 j = 0 ∨ gz_I hr 31 j = 1) ∧ gz_v hc a 9 = .int (gz_I hr 30 j) ∧ gz_v hc a 10 = .int (gz_I hc a 10) ∧ ∀ u, u < 200 → gz_I hc (a + 5) u = gz_I hr 52 (200 * j + u)
def JV (g : gz_G) (hc hr : gz_H) (j : Nat) : Prop := J1 g hc j ∧ J2 hc hr (g 0 j) j ∧ J3 g hc hr j ∧ J4 g hc hr j ∧ J5 hc hr (g 0 j) j
/-- the lamps that were lit last -/
def WG (g : gz_G) (T : Nat) (hc hr : gz_H) (j : Nat) : Prop := (∀ i, i < g 6 j → gz_I hr 51 (8 * j + i) = if bt (gz_I hc (g 0 j) 10) i = true then 1 else 0) ∧ (T = 0 → gz_I hc (g 0 j) 10 = 0)
/-- a stream -/
def SV (B : Nat) (hc hr : gz_H) (x s : Nat) : Prop := sc hc x ∧ (gz_I hc x 0 = gz_I hr 17 s ∧ ∃ k, k ≤ 3 ∧ gz_I hr 17 s = nI k) ∧ (gz_I hc x 1 = gz_I hr 18 s ∧ ∃ k, k ≤ 3600 ∧ gz_I hr 18 s = nI k) ∧ (gz_I hc x 2 = gz_I hr 19 s ∧ ∃ k, 600 ≤ k ∧ k ≤ 3600 ∧ gz_I hr 19 s = nI k) ∧ (gz_I hc x 3 = gz_I hr 20 s ∧ ∃ k, 4 ≤ k ∧ k ≤ 30 ∧ gz_I hr 20 s = nI k) ∧ (gz_I hc x 6 = gz_I hr 43 s ∧ ∃ k, k < 3600 ∧ gz_I hr 43 s = nI k) ∧ (gz_I hc x 7 = gz_I hr 44 s ∧ ∃ k, k ≤ 3600 ∧ gz_I hr 44 s = nI k) ∧ (∃ k, k ≤ B ∧ gz_I hc x 8 = nI k ∧ gz_J hr 45 s = lN k) ∧ (∃ k, k ≤ B ∧ gz_I hc x 9 = nI k ∧ gz_J hr 46 s = lN k) ∧ (∃ k, k ≤ B ∧ gz_I hc x 10 = nI k ∧ gz_J hr 47 s = lN k) ∧ (∃ k, k ≤ B ∧ gz_I hc x 11 = nI k ∧ gz_J hr 49 s = lN k) ∧ (∃ k, k ≤ B ∧ gz_I hc x 12 = nI k ∧ gz_J hr 50 s = lN k) ∧ gz_J hc x 13 = gz_J hr 48 s
def SO (g : gz_G) (s : Nat) : Prop := 55 ≤ g 1 s ∧ g 5 (g 1 s) = 100 + s
def OV (g : gz_G) (hc hr : gz_H) (s : Nat) : Prop := (gz_I hr 37 s = 0 ∧ gz_v hc (g 1 s) 4 = .null) ∨ (gz_I hr 37 s = 1 ∧ gz_v hc (g 1 s) 4 = .ref (g 2 s))
/-- the streets that end at a stream -/
def inl (g : gz_G) (hc : gz_H) : Value → List Nat → Prop
  | v, [] => v = .null
  | v, o :: l => v = .ref (g 2 o) ∧ inl g hc (gz_v hc (g 2 o) 1) l
def IL (g : gz_G) (hc hr : gz_H) (s : Nat) : Prop := ∃ l : List Nat, inl g hc (gz_v hc (g 1 s) 5) l ∧ l.Nodup ∧ ∀ o, o ∈ l ↔ (o < 64 ∧ gz_I hr 37 o = 1 ∧ gz_I hr 38 o = nI s)
/-- a street -/
def TV (g : gz_G) (T : Nat) (P : Nat → Nat) (hc hr : gz_H) (o : Nat) : Prop := 55 ≤ g 2 o ∧ g 5 (g 2 o) = 200 + o ∧ g 5 (g 2 o + 1) = 200 + o ∧ tc hc (g 2 o) ∧ ∃ e tm rm n, ∃ D : Nat → Nat, EX g e ∧ e / 8 ≠ o / 8 ∧ gz_v hc (g 2 o) 0 = .ref (g 1 e) ∧ gz_I hr 38 o = nI e ∧ gz_I hc (g 2 o) 2 = nI tm ∧ gz_I hr 39 o = nI tm ∧ 1 ≤ tm ∧ tm ≤ 60 ∧ gz_I hc (g 2 o) 3 = nI rm ∧ gz_I hr 40 o = nI rm ∧ 1 ≤ rm ∧ rm ≤ 60 ∧ gz_I hc (g 2 o) 5 = nI n ∧ gz_I hr 41 o = nI n ∧ n ≤ 60 ∧ (∀ k, k < n → gz_I hr 42 (60 * o + k) = nI (D k) ∧ T + P e ≤ D k ∧ D k < T + tm + P o) ∧ (∀ k, k + 1 < n → D k < D (k + 1)) ∧ ∀ y, y < 61 → (¬ gz_I hc (g 2 o + 1) y = 0 ↔ ∃ k, k < n ∧ D k % 61 = y)
/-- what is not there has nothing -/
def ZV (g : gz_G) (hr : gz_H) : Prop := (∀ j, g 7 0 ≤ j → j < 8 → gz_I hr 23 j = 0 ∧ gz_I hr 23 (8 + j) = 0 ∧ gz_I hr 30 j = 0 ∧ gz_I hr 31 j = 0 ∧ (∀ i, i < 64 → gz_I hr 21 (64 * j + i) = 0 ∧ gz_I hr 22 (64 * j + i) = 0) ∧ ∀ u, u < 200 → gz_I hr 52 (200 * j + u) = 0) ∧ (∀ s, s < 64 → ¬ EX g s → gz_I hr 37 s = 0 ∧ gz_I hr 43 s = 0 ∧ gz_I hr 44 s = 0 ∧ gz_I hr 51 s = 0 ∧ ∀ b, 45 ≤ b → b ≤ 50 → gz_J hr b s = 0) ∧ ∀ s, s < 64 → gz_I hr 37 s = 0 → gz_I hr 41 s = 0
def BV (g : gz_G) (T : Nat) (P : Nat → Nat) (hc hr : gz_H) : Prop := (∀ s, EX g s → SO g s ∧ SV (65 * (T + P s)) hc hr (g 1 s) s ∧ OV g hc hr s ∧ IL g hc hr s) ∧ ∀ o, o < 64 → gz_I hr 37 o = 1 → TV g T P hc hr o
def IV (g : gz_G) (T : Nat) (P : Nat → Nat) (hc hr : gz_H) : Prop := FV g T hc hr ∧ WV hc hr ∧ (∀ j, j < g 7 0 → JV g hc hr j) ∧ (∀ j, j < g 7 0 → WG g T hc hr j) ∧ BV g T P hc hr ∧ ZV g hr
