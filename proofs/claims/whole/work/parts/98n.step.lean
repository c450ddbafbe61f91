theorem ctl_len (l : List Nat) : ctl (fun _ => True) l = l.length := by
  induction l with
  | nil => rfl
  | cons a l ih => unfold ctl; rw [if_pos trivial, ih, List.length_cons]; omega
theorem len_64 {l : List Nat} (nd : l.Nodup) (h : ∀ o, o ∈ l → o < 64) : l.length ≤ 64 := by
  rw [← ctl_len, ctl_n _ 64 l nd h]
  exact ctn_b _ _
theorem tc_mk {h h' : gz_H} {r : Nat} (c : tc h r) (n : h'.1 = h.1) (k : ∀ y, gz_k h' y = gz_k h y) (v : ∀ f, f ≠ 5 → gz_v h' r f = gz_v h r f) (v5 : ∃ x, gz_v h' r 5 = .int x) (u : ∀ y, gz_v h' (r + 1) y = gz_v h (r + 1) y ∨ ∃ x, gz_v h' (r + 1) y = .int x) : tc h' r := by
  obtain ⟨c1, c2, c3, c4, c5, c6, c7, c8, c9⟩ := c
  refine ⟨by omega, by omega, (k _).trans c3, (k _).trans c4, ?_, ?_, ?_, ?_, fun y => ?_⟩
  · rw [vI (v 2 (by omega)), v 2 (by omega)]; exact c5
  · rw [vI (v 3 (by omega)), v 3 (by omega)]; exact c6
  · rw [v 4 (by omega)]; exact c7
  · obtain ⟨x, e⟩ := v5; rw [gz_I_of e]; exact e
  · rcases u y with e | ⟨x, e⟩
    · rw [vI e, e]; exact c9 y
    · rw [gz_I_of e]; exact e
set_option maxHeartbeats 16000000 in
theorem st_step {g : gz_G} {T : Nat} {P : Nat → Nat} {hc hr : gz_H} (H : IC g T P hc hr) (hT : T < 100000) (hP : ∀ u, P u ≤ 1) {s : Nat} (xs : EX g s) (ps : P s = 0) (gb : Int32) (hg : gb = 0 ∨ gb = 1) : ∃ hc' hr', se_X3_pass [.ref (g 1 s), .int (nI T), .int gb] hc = some (none, hc') ∧ se_X8_runStream [.ref 15, .int (nI s), .int gb] hr = some (none, hr') ∧ IC g T (fun u => if u = s then 1 else P u) hc' hr' ∧ hc'.1 = hc.1 ∧ (∀ y, (g 5 y < 100 ∨ 300 ≤ g 5 y) → sm hc hc' y) ∧ fr7 hr hr' ∧ (∀ b i, (b < 41 ∨ 51 < b) → gz_v hr' b i = gz_v hr b i) ∧ (∀ u, u ≠ s → gz_v hr' 51 u = gz_v hr 51 u) ∧ gz_I hr' 51 s = gb := by
  have H0 := H
  obtain ⟨F, HW, HJ, HB, HZ⟩ := H
  have m := F.1
  have h15 : gz_I hr 15 1 = nI T := F.2.2.2.2.2.2.2.2.1
  have f15 := F.2.2.2.2.2.2.2.2.2.2.2.2.2.2.1
  have f16 := F.2.2.2.2.2.2.2.2.2.2.2.2.2.2.2
  obtain ⟨so, sv, ov, il⟩ := HB.1 s xs
  have s64 := xs.1
  rw [ps, Nat.add_zero] at sv
  have sv0 := sv
  obtain ⟨sk, -, ⟨e1, ho, ho1, ho2⟩, ⟨e2, rt, rt1, rt2, rt3⟩, -, ⟨e6, a, a1, a2⟩, ⟨e7, c, c1, c2⟩, ⟨w, w1, w2, w3⟩, ⟨m', m1, m2, m3⟩, ⟨l, l1, l2, l3⟩, ⟨p, p1, p2, p3⟩, ⟨q, q1, q2, q3⟩, e13⟩ := sv
  have hcE : hc = sw7 hc (g 1 s) a c w m' l p q (gz_J hr 48 s) := sw7_eta hc (g 1 s) a c w m' l p q _ sk (by rw [e6, a2]) (by rw [e7, c2]) w2 m2 l2 p2 q2 e13
  have hrE : hr = sw8 hr s a c w m' l p q (gz_J hr 48 s) := sw8_eta hr s a c w m' l p q _ m a2 c2 w3 m3 l3 p3 q3 rfl
  generalize htt : gz_J hr 48 s = t at hcE hrE
  -- the streets
  have h37 : ∀ o, o < 64 → gz_I hr 37 o = 0 ∨ gz_I hr 37 o = 1 := fun o h => by
    by_cases ex : EX g o
    · rcases (HB.1 o ex).2.2.1 with z | z
      · exact Or.inl z.1
      · exact Or.inr z.1
    · exact Or.inl (HZ.2.1 o h ex).1
  have tx : ∀ o, ∃ z : Nat × Nat × Nat × Nat × (Nat → Nat), o < 64 → gz_I hr 37 o = 1 → TX g T P hc hr o z.1 z.2.1 z.2.2.1 z.2.2.2.1 z.2.2.2.2 := fun o => by
    by_cases h : o < 64 ∧ gz_I hr 37 o = 1
    · obtain ⟨-, -, -, -, e, tm, rm, n, D, X⟩ := HB.2 o h.1 h.2
      exact ⟨(e, tm, rm, n, D), fun _ _ => X⟩
    · exact ⟨(0, 0, 0, 0, fun _ => 0), fun h1 h2 => absurd ⟨h1, h2⟩ h⟩
  have txf : ∃ (E TM RM N : Nat → Nat) (D : Nat → Nat → Nat), ∀ o, o < 64 → gz_I hr 37 o = 1 → TX g T P hc hr o (E o) (TM o) (RM o) (N o) (D o) := ⟨fun o => (tx o).choose.1, fun o => (tx o).choose.2.1, fun o => (tx o).choose.2.2.1, fun o => (tx o).choose.2.2.2.1, fun o => (tx o).choose.2.2.2.2, fun o => (tx o).choose_spec⟩
  obtain ⟨E, TM, RM, N, D, TXo⟩ := txf
  have tcs : ∀ o, o < 64 → gz_I hr 37 o = 1 → 55 ≤ g 2 o ∧ g 5 (g 2 o) = 200 + o ∧ g 5 (g 2 o + 1) = 200 + o ∧ tc hc (g 2 o) := fun o h1 h2 => by
    obtain ⟨b1, b2, b3, b4, -⟩ := HB.2 o h1 h2
    exact ⟨b1, b2, b3, b4⟩
  have Es : ∀ o, o < 64 → gz_I hr 37 o = 1 → (gz_I hr 38 o = nI s ↔ E o = s) := fun o h1 h2 => by
    have X := TXo o h1 h2
    rw [X.2.2.2.1]
    have := X.1.1
    exact nI_eq (by omega) (by omega)
  obtain ⟨d, hd⟩ : ∃ d : Nat → Prop, ∀ o, d o ↔ (o < 64 ∧ gz_I hr 37 o = 1 ∧ gz_I hr 38 o = nI s ∧ 0 < N o ∧ D o 0 = T) := ⟨fun o => o < 64 ∧ gz_I hr 37 o = 1 ∧ gz_I hr 38 o = nI s ∧ 0 < N o ∧ D o 0 = T, fun _ => Iff.rfl⟩
  obtain ⟨lst, i1, i2, i3⟩ := il
  have xne : ∀ o, o < 64 → gz_I hr 37 o = 1 → g 2 o ≠ g 1 s ∧ g 2 o + 1 ≠ g 1 s := fun o h1 h2 => by
    obtain ⟨-, b2, b3, -⟩ := tcs o h1 h2
    refine ⟨fun z => ?_, fun z => ?_⟩
    · rw [z, so.2] at b2; omega
    · rw [z, so.2] at b3; omega
  have bne : ∀ o o', o < 64 → gz_I hr 37 o = 1 → o' < 64 → gz_I hr 37 o' = 1 → o ≠ o' → g 2 o ≠ g 2 o' ∧ g 2 o ≠ g 2 o' + 1 ∧ g 2 o + 1 ≠ g 2 o' ∧ g 2 o + 1 ≠ g 2 o' + 1 := fun o o' h1 h2 h3 h4 h5 => by
    obtain ⟨-, b2, b3, -⟩ := tcs o h1 h2
    obtain ⟨-, c2', c3', -⟩ := tcs o' h3 h4
    refine ⟨fun z => ?_, fun z => ?_, fun z => ?_, fun z => ?_⟩
    · rw [z, c2'] at b2; omega
    · rw [z, c3'] at b2; omega
    · rw [z, c2'] at b3; omega
    · rw [z, c3'] at b3; omega
  have ap : apl g lst := fun o o' h1 h2 h3 => by
    obtain ⟨x1, x2, -⟩ := (i3 o).mp h1
    obtain ⟨y1, y2, -⟩ := (i3 o').mp h2
    have := bne o o' x1 x2 y1 y2 h3
    exact ⟨this.1, this.2.1, this.2.2.1⟩
  have dl : ∀ o, o ∈ lst → (d o ↔ ¬ gz_I hc (g 2 o + 1) (T % 61) = 0) := fun o h => by
    obtain ⟨x1, x2, x3⟩ := (i3 o).mp h
    rw [due_iff (TXo o x1 x2) (by rw [(Es o x1 x2).mp x3]; exact ps) (hP o), hd o]
    exact ⟨fun z => z.2.2.2, fun z => ⟨x1, x2, x3, z⟩⟩
  have len := len_64 i2 (fun o h => ((i3 o).mp h).1)
  have kct : ctl d lst = ctn d 64 := by
    rw [ctl_n d 64 lst i2 (fun o h => ((i3 o).mp h).1)]
    refine ctn_c 64 (fun o _ => ⟨fun z => z.2, fun z => ⟨(i3 o).mpr ?_, z⟩⟩)
    have := (hd o).mp z
    exact ⟨this.1, this.2.1, this.2.2.1⟩
  have k64 : ctn d 64 ≤ 64 := ctn_b d 64
  obtain ⟨kk, ekk⟩ : ∃ kk, kk = (if a + ho < 3600 then 0 else 1) + ctn d 64 := ⟨_, rfl⟩
  obtain ⟨an, ean⟩ : ∃ an, an = if a + ho < 3600 then a + ho else a + ho - 3600 := ⟨_, rfl⟩
  have kkb : kk ≤ 65 := by rw [ekk]; split <;> omega
  have anb : an < 3600 := by rw [ean]; split <;> omega
  -- after the streets
  have n2 := r7_n g d T lst hc
  have K2x : sm hc (r7 g d T lst hc) (g 1 s) := r7_o g d T (g 1 s) lst hc (fun o h => by
    obtain ⟨x1, x2, -⟩ := (i3 o).mp h
    have := xne o x1 x2
    exact ⟨Ne.symm this.1, Ne.symm this.2⟩)
  have K2o : ∀ y, (∀ o, o < 64 → gz_I hr 37 o = 1 → y ≠ g 2 o ∧ y ≠ g 2 o + 1) → sm hc (r7 g d T lst hc) y := fun y h => r7_o g d T y lst hc (fun o ho => by
    obtain ⟨x1, x2, -⟩ := (i3 o).mp ho
    exact h o x1 x2)
  have K2n : ∀ o, o < 64 → gz_I hr 37 o = 1 → o ∉ lst → sm hc (r7 g d T lst hc) (g 2 o) ∧ sm hc (r7 g d T lst hc) (g 2 o + 1) := fun o h1 h2 h3 => by
    refine ⟨r7_o g d T _ lst hc (fun o' ho => ?_), r7_o g d T _ lst hc (fun o' ho => ?_)⟩
    · obtain ⟨x1, x2, -⟩ := (i3 o').mp ho
      have := bne o o' h1 h2 x1 x2 (fun z => h3 (by rw [z]; exact ho))
      exact ⟨this.1, this.2.1⟩
    · obtain ⟨x1, x2, -⟩ := (i3 o').mp ho
      have := bne o o' h1 h2 x1 x2 (fun z => h3 (by rw [z]; exact ho))
      exact ⟨this.2.2.1, this.2.2.2⟩
  have K2i := fun o h => r7_i g d T lst hc i2 ap o h
  have m2' := r8_md (d := d) (N := N) m 64
  have rA2 : ∀ b i, b ≠ 41 → b ≠ 42 → gz_v (r8 d N hr 64) b i = gz_v hr b i := fun b i h1 h2 => r8_o h1 h2 64
  have hN : ∀ u, d u → N u ≤ 60 := fun u hu => by
    obtain ⟨x1, x2, -⟩ := (hd u).mp hu
    exact (TXo u x1 x2).2.2.2.2.2.2.2.2.2.2.2.2.2.2.1
  have r412 : ∀ u, ¬ d u → gz_v (r8 d N hr 64) 41 u = gz_v hr 41 u := fun u h => (r8_41 u 64).2 (fun z => h z.2)
  have r422 : ∀ u k, k < 60 → ¬ d u → gz_v (r8 d N hr 64) 42 (60 * u + k) = gz_v hr 42 (60 * u + k) := fun u k hk h => (r8_42 hN u k hk 64).2 (fun z => h z.2)
  have lp8 : ∀ a w m p, w < 2 ^ 29 → gz_loop 47 4 lb_X8_runStream_47 [.ref 15, .int (nI s), .int gb, .int 0] (sw8 hr s a c w m l p q t) = some (.inl (171, [.ref 15, .int (nI s), .int gb, .int (nI 64)], sw8 (r8 d N hr 64) s a c (w + ctn d 64) (m + ctn d 64) l (cq gb w p (ctn d 64)) q t)) := fun a w m' p hw => lp_X8_rs47 hr m s T a c w m' l p q t gb N D s64 (by omega) (by omega) h15 h37 (fun o x1 x2 x3 => by
    have X := TXo o x1 x2
    have es := (Es o x1 x2).mp x3
    obtain ⟨-, -, -, -, -, -, y7, y8, -, -, -, -, -, y14, y15, y16, y17, -⟩ := X
    refine ⟨y15, y14, fun k hk => ?_, y17⟩
    obtain ⟨z1, z2, z3⟩ := y16 k hk
    have := hP o
    exact ⟨z1, by omega, by omega⟩) d hd
  -- the streets at the end of it, but for the one that s sends on
  have TX2 : ∀ o, o < 64 → gz_I hr 37 o = 1 → ∃ n D', tc (r7 g d T lst hc) (g 2 o) ∧ TX g T (fun u => if u = s then 1 else P u) (r7 g d T lst hc) (r8 d N hr 64) o (E o) (TM o) (RM o) n D' := by
    intro o x1 x2
    have X := TXo o x1 x2
    have tk := (tcs o x1 x2).2.2.2
    by_cases ol : o ∈ lst
    · have x3 := ((i3 o).mp ol).2.2
      have es := (Es o x1 x2).mp x3
      have os : o ≠ s := fun z => X.2.1 (by rw [es, z])
      by_cases dz : d o
      · obtain ⟨j1, j2⟩ := (K2i o ol).2 dz
        have dd := (hd o).mp dz
        have n6 := hN o dz
        have n5 : gz_I (r7 g d T lst hc) (g 2 o) 5 = nI (N o - 1) := by
          have e5 := j1 5
          rw [if_pos rfl, X.2.2.2.2.2.2.2.2.2.2.2.2.1] at e5
          rw [gz_I_of e5]
          exact pk_sub (b := 1) (by omega)
        refine ⟨N o - 1, fun k => D o (k + 1), tc_mk tk n2.1 n2.2 (fun f hf => by rw [j1 f, if_neg hf]) ⟨_, by rw [j1 5, if_pos rfl]⟩ (fun y => by
          rw [j2 y]
          by_cases z : y = T % 61
          · rw [if_pos z]; exact Or.inr ⟨0, rfl⟩
          · rw [if_neg z]; exact Or.inl rfl), TX_in X (by rw [es]; exact ps) (by show (if E o = s then 1 else P (E o)) = 1; rw [if_pos es]) (hP o) (by show (if o = s then 1 else P o) = P o; rw [if_neg os]) dd.2.2.2.1 dd.2.2.2.2 (fun f hf => by rw [j1 f, if_neg hf]) n5 (fun y => ?_) (fun b b1 b2 => rA2 _ _ (by omega) (by omega)) ((r8_41 o 64).1 ⟨x1, dz⟩) (fun k hk => (r8_42 hN o k (by omega) 64).1 ⟨x1, dz, hk⟩)⟩
        by_cases z : y = T % 61
        · have e5 := j2 y
          rw [if_pos z] at e5
          rw [if_pos z]; exact gz_I_of e5
        · have e5 := j2 y
          rw [if_neg z] at e5
          rw [if_neg z]; exact vI e5
      · obtain ⟨j1, j2⟩ := (K2i o ol).1 dz
        refine ⟨N o, D o, tc_sm (h := hc) (by rw [n2.1]; exact Nat.le_refl _) j1 j2 tk, TX_no X (Or.inr ⟨by rw [es]; exact ps, by show (if E o = s then 1 else P (E o)) = 1; rw [if_pos es], fun z => dz ((hd o).mpr ⟨x1, x2, x3, z⟩)⟩) (by show P o ≤ if o = s then 1 else P o; rw [if_neg os]; exact Nat.le_refl _) j1 j2 (fun b b1 b2 => ?_) (fun k hk => r422 o k hk dz)⟩
        by_cases z : b = 41
        · rw [z]; exact r412 o dz
        · exact rA2 _ _ z (by omega)
    · have x3 : ¬ gz_I hr 38 o = nI s := fun z => ol ((i3 o).mpr ⟨x1, x2, z⟩)
      have es : E o ≠ s := fun z => x3 ((Es o x1 x2).mpr z)
      have dz : ¬ d o := fun z => x3 ((hd o).mp z).2.2.1
      obtain ⟨j1, j2⟩ := K2n o x1 x2 ol
      refine ⟨N o, D o, tc_sm (h := hc) (by rw [n2.1]; exact Nat.le_refl _) j1 j2 tk, TX_no X (Or.inl (by show (if E o = s then 1 else P (E o)) = P (E o); rw [if_neg es])) (by
        show P o ≤ if o = s then 1 else P o
        by_cases z : o = s
        · rw [if_pos z]; exact hP o
        · rw [if_neg z]; exact Nat.le_refl _) j1 j2 (fun b b1 b2 => ?_) (fun k hk => r422 o k hk dz)⟩
      by_cases z : b = 41
      · rw [z]; exact r412 o dz
      · exact rA2 _ _ z (by omega)
  -- to the end
  have fin : ∀ (K3 R3 : gz_H) (c3 w3 l3' : Nat), se_X3_leave [.ref (g 1 s), .int (nI T), .int gb] (sw7 (r7 g d T lst hc) (g 1 s) an c (w + kk) (m' + kk) l (cq gb w p kk) q t) = some (none, sw7 K3 (g 1 s) an c3 w3 (m' + kk) l3' (cq gb w p kk) q t) → se_X8_runStream [.ref 15, .int (nI s), .int gb] (sw8 hr s a c w m' l p q t) = some (none, gz_set (sw8 R3 s an c3 w3 (m' + kk) l3' (cq gb w p kk) (max q w3) (t + lN w3)) 51 s (.int gb)) → c3 ≤ 3600 → w3 ≤ w + kk → l3' ≤ l + 1 → K3.1 = hc.1 → (∀ y, gz_k K3 y = gz_k hc y) → (∀ y, (∀ o, o < 64 → gz_I hr 37 o = 1 → y ≠ g 2 o ∧ y ≠ g 2 o + 1) → sm hc K3 y) → (∀ o, o < 64 → gz_I hr 37 o = 1 → gz_v K3 (g 2 o) 1 = gz_v hc (g 2 o) 1) → md R3 → fr7 hr R3 → (∀ b i, b ≠ 41 → b ≠ 42 → gz_v R3 b i = gz_v hr b i) → (∀ u, u < 64 → gz_I hr 37 u = 0 → gz_v R3 41 u = gz_v hr 41 u) → (∀ o, o < 64 → gz_I hr 37 o = 1 → ∃ n D', tc K3 (g 2 o) ∧ TX g T (fun u => if u = s then 1 else P u) K3 R3 o (E o) (TM o) (RM o) n D') → ∃ hc' hr', se_X3_pass [.ref (g 1 s), .int (nI T), .int gb] hc = some (none, hc') ∧ se_X8_runStream [.ref 15, .int (nI s), .int gb] hr = some (none, hr') ∧ IC g T (fun u => if u = s then 1 else P u) hc' hr' ∧ hc'.1 = hc.1 ∧ (∀ y, (g 5 y < 100 ∨ 300 ≤ g 5 y) → sm hc hc' y) ∧ fr7 hr hr' ∧ (∀ b i, (b < 41 ∨ 51 < b) → gz_v hr' b i = gz_v hr b i) ∧ (∀ u, u ≠ s → gz_v hr' 51 u = gz_v hr 51 u) ∧ gz_I hr' 51 s = gb := by
    intro K3 R3 c3 w3 l3' h7 h8 c3b w3b l3b n3 k3 A3 T3 mR3 f7 rA3 r413 V3
    have xx : ∀ o, o < 64 → gz_I hr 37 o = 1 → g 1 s ≠ g 2 o ∧ g 1 s ≠ g 2 o + 1 := fun o h1 h2 => ⟨Ne.symm (xne o h1 h2).1, Ne.symm (xne o h1 h2).2⟩
    have sx3 := A3 (g 1 s) xx
    have ps' := ps7 g d hc (g 1 s) a c w m' l p q ho T t gb lst sk (by rw [e1, ho2]) a1 ho1 (by omega) (by omega) (by omega) (fun o h => by
      obtain ⟨x1, x2, -⟩ := (i3 o).mp h
      exact ⟨(tcs o x1 x2).2.2.2, (xne o x1 x2).1, (xne o x1 x2).2, dl o h⟩) i2 ap i1 K3 an kk c3 w3 l3' (by rw [kct]; exact ekk) ean (by omega) ⟨by rw [n3]; exact sk.1, by rw [k3]; exact sk.2.1⟩ h7
    rw [← hcE] at ps'
    rw [← hrE] at h8
    obtain ⟨v6, v7, v8, v9, v10, v11, v12, v13⟩ := sw7_x K3 (g 1 s) an c3 w3 (m' + kk) l3' (cq gb w p kk) (max q w3) (t + lN w3)
    obtain ⟨u43, u44, u45, u46, u47, u48, u49, u50⟩ := sw8_x R3 s an c3 w3 (m' + kk) l3' (cq gb w p kk) (max q w3) (t + lN w3)
    have cqb := cq_b gb w p kk
    have sm7 : ∀ y, y ≠ g 1 s → sm K3 (sw7 K3 (g 1 s) an c3 w3 (m' + kk) l3' (cq gb w p kk) (max q w3) (t + lN w3)) y := fun y hy => ⟨funext (fun i => sw7_o _ _ _ _ _ _ _ _ _ _ (Or.inl hy)), rfl⟩
    have v8o : ∀ b i, (i ≠ s ∨ b < 43 ∨ 51 < b) → gz_v (gz_set (sw8 R3 s an c3 w3 (m' + kk) l3' (cq gb w p kk) (max q w3) (t + lN w3)) 51 s (.int gb)) b i = gz_v R3 b i := fun b i h => by
      rw [gz_v_set, if_neg (by omega), sw8_o _ _ _ _ _ _ _ _ _ _ (by omega)]
    have v8s : ∀ b, 43 ≤ b → b ≤ 50 → gz_v (gz_set (sw8 R3 s an c3 w3 (m' + kk) l3' (cq gb w p kk) (max q w3) (t + lN w3)) 51 s (.int gb)) b s = gz_v (sw8 R3 s an c3 w3 (m' + kk) l3' (cq gb w p kk) (max q w3) (t + lN w3)) b s := fun b h1 h2 => by rw [gz_v_set, if_neg (by omega)]
    have A7 : ∀ y, (g 5 y < 100 ∨ 300 ≤ g 5 y) → sm hc (sw7 K3 (g 1 s) an c3 w3 (m' + kk) l3' (cq gb w p kk) (max q w3) (t + lN w3)) y := fun y hy => by
      have b1 := A3 y (fun o h1 h2 => by
        obtain ⟨-, b2, b3, -⟩ := tcs o h1 h2
        exact ⟨fun z => by rw [z, b2] at hy; omega, fun z => by rw [z, b3] at hy; omega⟩)
      have b2 := sm7 y (fun z => by rw [z, so.2] at hy; omega)
      exact ⟨b2.1.trans b1.1, b2.2.trans b1.2⟩
    have mm : md (gz_set (sw8 R3 s an c3 w3 (m' + kk) l3' (cq gb w p kk) (max q w3) (t + lN w3)) 51 s (.int gb)) := md_setI (sw8_md _ _ _ _ _ _ _ _ _ _ mR3) _ _ _ (by omega)
    have scn : sc K3 (g 1 s) := sc_sm (h := hc) (by omega) sx3 sk
    refine ⟨_, _, ps', h8, IC_asm H0 xs (fun u hu => by show (if u = s then 1 else P u) = P u; rw [if_neg hu]) n3 A7 (fun u hu us => ?_) (fun i hi => by rw [sw7_f _ _ _ _ _ _ _ _ _ _ _ _ hi, sx3.1]) (fun o h1 h2 => by rw [(sm7 _ (xne o h1 h2).1).1]; exact T3 o h1 h2) mm (fun b i hb => by rw [v8o b i (by omega)]; exact rA3 b i (by omega) (by omega)) (fun b u us h1 h2 => by rw [v8o b u (Or.inl us)]; exact rA3 b u (by omega) (by omega)) (fun u h1 h2 => by rw [v8o 41 u (by omega)]; exact r413 u h1 h2) ?_ (fun o h1 h2 => ?_), n3, A7, ?_, fun b i hb => by rw [v8o b i (by omega)]; exact rA3 b i (by omega) (by omega), fun u us => by rw [v8o 51 u (Or.inl us)]; exact rA3 51 u (by omega) (by omega), by rw [I_set, if_pos ⟨rfl, rfl⟩]⟩
    · obtain ⟨so', sv', -, -⟩ := HB.1 u hu
      have b1 := A3 (g 1 u) (fun o h1 h2 => by
        obtain ⟨-, b2, b3, -⟩ := tcs o h1 h2
        have := hu.1
        exact ⟨fun z => by have e := so'.2; rw [z, b2] at e; omega, fun z => by have e := so'.2; rw [z, b3] at e; omega⟩)
      have b2 := sm7 (g 1 u) (fun z => by have e := so'.2; rw [z, so.2] at e; omega)
      exact ⟨b2.1.trans b1.1, b2.2.trans b1.2⟩
    · show SV (65 * (T + if s = s then 1 else P s)) _ _ _ _
      rw [if_pos rfl]
      obtain ⟨-, y0, -, -, y3, -⟩ := sv0
      have i6 : ∀ i, i < 6 → gz_I (sw7 K3 (g 1 s) an c3 w3 (m' + kk) l3' (cq gb w p kk) (max q w3) (t + lN w3)) (g 1 s) i = gz_I hc (g 1 s) i := fun i hi => vI (by rw [sw7_f _ _ _ _ _ _ _ _ _ _ _ _ hi, sx3.1])
      have r17 : ∀ b, b ≤ 20 → gz_I (gz_set (sw8 R3 s an c3 w3 (m' + kk) l3' (cq gb w p kk) (max q w3) (t + lN w3)) 51 s (.int gb)) b s = gz_I hr b s := fun b hb => vI (by rw [v8o b s (by omega)]; exact rA3 b s (by omega) (by omega))
      refine ⟨sw7_sc _ _ _ _ _ _ _ _ _ _ scn, ?_, ?_, ?_, ?_, ⟨?_, an, anb, ?_⟩, ⟨?_, c3, c3b, ?_⟩, ⟨w3, by omega, gz_I_of v8, ?_⟩, ⟨m' + kk, by omega, gz_I_of v9, ?_⟩, ⟨l3', by omega, gz_I_of v10, ?_⟩, ⟨cq gb w p kk, by omega, gz_I_of v11, ?_⟩, ⟨max q w3, by omega, gz_I_of v12, ?_⟩, ?_⟩
      · rw [i6 0 (by omega), r17 17 (by omega)]; exact y0
      · rw [i6 1 (by omega), r17 18 (by omega)]; exact ⟨e1, ho, ho1, ho2⟩
      · rw [i6 2 (by omega), r17 19 (by omega)]; exact ⟨e2, rt, rt1, rt2, rt3⟩
      · rw [i6 3 (by omega), r17 20 (by omega)]; exact y3
      · rw [gz_I_of v6, vI (v8s 43 (by omega) (by omega)), u43]
      · rw [vI (v8s 43 (by omega) (by omega)), u43]
      · rw [gz_I_of v7, vI (v8s 44 (by omega) (by omega)), u44]
      · rw [vI (v8s 44 (by omega) (by omega)), u44]
      · rw [vJ (v8s 45 (by omega) (by omega)), u45]
      · rw [vJ (v8s 46 (by omega) (by omega)), u46]
      · rw [vJ (v8s 47 (by omega) (by omega)), u47]
      · rw [vJ (v8s 49 (by omega) (by omega)), u49]
      · rw [vJ (v8s 50 (by omega) (by omega)), u50]
      · rw [vJ (v8s 48 (by omega) (by omega)), u48]
        unfold gz_J; rw [v13]
    · obtain ⟨n, D', tk, X⟩ := V3 o h1 h2
      obtain ⟨b1, b2, b3, -⟩ := tcs o h1 h2
      have s0 := sm7 _ (xne o h1 h2).1
      have s1 := sm7 _ (xne o h1 h2).2
      have XX := TX_no (P' := fun u => if u = s then 1 else P u) X (Or.inl rfl) (Nat.le_refl _) s0 s1 (fun b _ _ => v8o b o (by omega)) (fun k _ => v8o 42 _ (by omega))
      exact ⟨b1, b2, b3, tc_sm (h := K3) (Nat.le_refl _) s0 s1 tk, E o, TM o, RM o, n, D', XX⟩
    · have fs : fr7 hr (sw8 R3 s an c3 w3 (m' + kk) l3' (cq gb w p kk) (max q w3) (t + lN w3)) := ⟨f7.1, fun y hy => ⟨by
        rw [← (f7.2 y hy).1]
        funext i
        exact sw8_o _ _ _ _ _ _ _ _ _ _ (by omega), (f7.2 y hy).2⟩⟩
      exact fr7_set fs (by omega)
  -- the leave
  have c1b : (if gb = 0 then 0 else c + rt) ≤ 7200 := by split <;> omega
  have sk2 : sc (r7 g d T lst hc) (g 1 s) := sc_sm (h := hc) (by rw [n2.1]; exact Nat.le_refl _) K2x sk
  have r2f : gz_I (r7 g d T lst hc) (g 1 s) 2 = nI rt := by rw [sm_I K2x, e2, rt3]
  have r19 : gz_I (r8 d N hr 64) 19 s = nI rt := by rw [vI (rA2 _ _ (by decide) (by decide))]; exact rt3
  have r15 : gz_I (r8 d N hr 64) 15 1 = nI T := by rw [vI (rA2 _ _ (by decide) (by decide))]; exact h15
  have T2 : ∀ o, o < 64 → gz_I hr 37 o = 1 → gz_v (r7 g d T lst hc) (g 2 o) 1 = gz_v hc (g 2 o) 1 := fun o h1 h2 => by
    by_cases ol : o ∈ lst
    · by_cases dz : d o
      · rw [((K2i o ol).2 dz).1 1, if_neg (by omega)]
      · rw [((K2i o ol).1 dz).1.1]
    · rw [(K2n o h1 h2 ol).1.1]
  have r413 : ∀ u, u < 64 → gz_I hr 37 u = 0 → gz_v (r8 d N hr 64) 41 u = gz_v hr 41 u := fun u _ h => r412 u (fun z => by
    have := ((hd u).mp z).2.1
    rw [h] at this
    exact absurd this (by decide))
  rcases ov with ⟨o1, o2⟩ | ⟨o1, o2⟩
  · -- no street
    have o37 : gz_I (r8 d N hr 64) 37 s = 0 := by rw [vI (rA2 _ _ (by decide) (by decide))]; exact o1
    obtain ⟨lv0, lv1⟩ := lv7n (r7 g d T lst hc) (g 1 s) an c (w + kk) (m' + kk) l (cq gb w p kk) q rt T t gb sk2 r2f c1 rt2 (by omega) (by rw [K2x.1]; exact o2)
    obtain ⟨rs0, rs1⟩ := rs8 hr (r8 d N hr 64) m m2' s a c w m' l p q ho rt T t gb s64 ho2 r19 a1 ho1 c1 rt2 (by omega) (by omega) hg (by omega) (ctn d 64) an kk k64 ekk ean lp8 (3600 ≤ (if gb = 0 then 0 else c + rt) ∧ 0 < w + kk) r15 (Or.inl ⟨o37, Iff.rfl⟩)
    by_cases can : 3600 ≤ (if gb = 0 then 0 else c + rt) ∧ 0 < w + kk
    · exact fin _ _ _ _ _ (lv1 can) ((rs1 can).1 o37) (by omega) (by omega) (by omega) n2.1 n2.2 K2o T2 m2' (r8_n 64) rA2 r413 TX2
    · exact fin _ _ _ _ _ (lv0 can) (rs0 can) (by omega) (by omega) (by omega) n2.1 n2.2 K2o T2 m2' (r8_n 64) rA2 r413 TX2
  · -- a street
    have X := TXo s s64 o1
    have X' := X
    obtain ⟨x1, x2, x3, x4, x5, x6, t1, t60, x9, x10, r1', r60, x13, x14, n6, hD, hm, hrg⟩ := X'
    have esn : E s ≠ s := fun z => x2 (by rw [z])
    have sl : s ∉ lst := fun z => esn ((Es s s64 o1).mp ((i3 s).mp z).2.2)
    have dz : ¬ d s := fun z => sl ((i3 s).mpr ⟨s64, o1, ((hd s).mp z).2.2.1⟩)
    obtain ⟨j1, j2⟩ := K2n s s64 o1 sl
    obtain ⟨soe, sve, -, -⟩ := HB.1 (E s) x1
    have pe := hP (E s)
    obtain ⟨eke, -, -, -, -, -, -, ⟨we, we1, we2, we3⟩, -⟩ := sve
    have K2e : sm hc (r7 g d T lst hc) (g 1 (E s)) := K2o _ (fun o h1 h2 => by
      obtain ⟨-, b2, b3, -⟩ := tcs o h1 h2
      have := x1.1
      exact ⟨fun z => by have e := soe.2; rw [z, b2] at e; omega, fun z => by have e := soe.2; rw [z, b3] at e; omega⟩)
    have ex' : g 1 (E s) ≠ g 1 s := fun z => by have e := soe.2; rw [z, so.2] at e; omega
    obtain ⟨-, cd2, cd3, tks⟩ := tcs s s64 o1
    obtain ⟨xn1, xn2⟩ := xne s s64 o1
    obtain ⟨lv0, lv1⟩ := lv7s (r7 g d T lst hc) (g 1 s) an c (w + kk) (m' + kk) l (cq gb w p kk) q rt T t gb sk2 r2f c1 rt2 (by omega) (g 2 s) (g 1 (E s)) (N s) we (RM s) (TM s) (by rw [K2x.1]; exact o2) (tc_sm (h := hc) (by rw [n2.1]; exact Nat.le_refl _) j1 j2 tks) xn1 xn2 (by rw [j1.1]; exact x3) (sc_sm (h := hc) (by rw [n2.1]; exact Nat.le_refl _) K2e eke) ex' (by rw [sm_I j1]; exact x13) (by rw [sm_I K2e]; exact we2) (by rw [sm_I j1]; exact x9) (by rw [sm_I j1]; exact x5) n6 (by omega) r60 t60 (by omega)
    have o37 : gz_I (r8 d N hr 64) 37 s = 1 := by rw [vI (rA2 _ _ (by decide) (by decide))]; exact o1
    have o41 : gz_I (r8 d N hr 64) 41 s = nI (N s) := by rw [vI (r412 s dz)]; exact x14
    have o39 : gz_I (r8 d N hr 64) 39 s = nI (TM s) := by rw [vI (rA2 _ _ (by decide) (by decide))]; exact x6
    obtain ⟨rs0, rs1⟩ := rs8 hr (r8 d N hr 64) m m2' s a c w m' l p q ho rt T t gb s64 ho2 r19 a1 ho1 c1 rt2 (by omega) (by omega) hg (by omega) (ctn d 64) an kk k64 ekk ean lp8 (3600 ≤ (if gb = 0 then 0 else c + rt) ∧ 0 < w + kk ∧ N s + we < RM s) r15 (Or.inr ⟨E s, N s, we, RM s, x1.1, esn, o37, by rw [vI (rA2 _ _ (by decide) (by decide))]; exact x4, o41, by rw [vJ (rA2 _ _ (by decide) (by decide))]; exact we3, by rw [vI (rA2 _ _ (by decide) (by decide))]; exact x10, n6, by omega, r60, Iff.rfl⟩)
    by_cases can : 3600 ≤ (if gb = 0 then 0 else c + rt) ∧ 0 < w + kk ∧ N s + we < RM s
    · have nlt : N s < 60 := by omega
      have sdsm : ∀ y, y ≠ g 2 s → y ≠ g 2 s + 1 → sm (r7 g d T lst hc) (sd7 (r7 g d T lst hc) (g 2 s) T (TM s) (N s)) y := fun y h1 h2 => sm_set (sm_set (sm_rf _ _) h2) h1
      have sd8o : ∀ b i, ¬ (b = 41 ∧ i = s) → ¬ (b = 42 ∧ i = 60 * s + N s) → gz_v (sd8 (r8 d N hr 64) s T (TM s) (N s)) b i = gz_v (r8 d N hr 64) b i := fun b i h1 h2 => by
        unfold sd8; rw [gz_v_set, if_neg h1, gz_v_set, if_neg h2]
      have sf5 : ∀ f, f ≠ 5 → gz_v (sd7 (r7 g d T lst hc) (g 2 s) T (TM s) (N s)) (g 2 s) f = gz_v hc (g 2 s) f := fun f hf => by
        unfold sd7; rw [gz_v_set, if_neg (fun z => hf z.2), gz_v_set, if_neg (by omega), j1.1]
      have s5 : gz_v (sd7 (r7 g d T lst hc) (g 2 s) T (TM s) (N s)) (g 2 s) 5 = .int (nI (N s + 1)) := by
        unfold sd7; rw [gz_v_set, if_pos ⟨rfl, rfl⟩]
      have srg : ∀ y, gz_v (sd7 (r7 g d T lst hc) (g 2 s) T (TM s) (N s)) (g 2 s + 1) y = if y = (T + TM s) % 61 then .int 1 else gz_v hc (g 2 s + 1) y := fun y => by
        unfold sd7; rw [gz_v_set, if_neg (by omega), gz_v_set]
        by_cases z : y = (T + TM s) % 61
        · rw [if_pos ⟨rfl, z⟩, if_pos z]
        · rw [if_neg (fun u => z u.2), if_neg z, j2.1]
      refine fin (sd7 (r7 g d T lst hc) (g 2 s) T (TM s) (N s)) (sd8 (r8 d N hr 64) s T (TM s) (N s)) _ _ _ (lv1 can) ((rs1 can).2 (N s) (TM s) o37 o41 o39 nlt t60) (by omega) (by omega) (by omega) n2.1 n2.2 (fun y hy => ?_) (fun o h1 h2 => ?_) (md_setI (md_setI m2' _ _ _ (by omega)) _ _ _ (by omega)) (fr7_set (fr7_set (r8_n 64) (by omega)) (by omega)) (fun b i h1 h2 => by rw [sd8o b i (by omega) (by omega)]; exact rA2 b i h1 h2) (fun u h1 h2 => ?_) (fun o h1 h2 => ?_)
      · have b1 := K2o y hy
        have b2 := sdsm y (hy s s64 o1).1 (hy s s64 o1).2
        exact ⟨b2.1.trans b1.1, b2.2.trans b1.2⟩
      · by_cases z : o = s
        · rw [z]; exact sf5 1 (by omega)
        · have bb := bne o s h1 h2 s64 o1 z
          rw [(sdsm _ bb.1 bb.2.1).1]; exact T2 o h1 h2
      · have us : u ≠ s := fun z => by rw [z, o1] at h2; exact absurd h2 (by decide)
        rw [sd8o 41 u (fun z => us z.2) (by omega)]; exact r413 u h1 h2
      · by_cases z : o = s
        · subst z
          refine ⟨N o + 1, fun k => if k = N o then T + TM o else D o k, tc_mk tks n2.1 n2.2 sf5 ⟨_, s5⟩ (fun y => ?_), TX_out X (by show (if E o = o then 1 else P (E o)) = P (E o); rw [if_neg esn]) (hP _) ps (by show (if o = o then 1 else P o) = 1; rw [if_pos rfl]) nlt sf5 (gz_I_of s5) (fun y => ?_) (fun b b1 b2 => by rw [sd8o b o (by omega) (by omega)]; exact rA2 _ _ (by omega) (by omega)) ?_ (fun k hk => ?_)⟩
          · rw [srg y]
            by_cases zz : y = (T + TM o) % 61
            · rw [if_pos zz]; exact Or.inr ⟨1, rfl⟩
            · rw [if_neg zz]; exact Or.inl rfl
          · by_cases zz : y = (T + TM o) % 61
            · have e5 := srg y
              rw [if_pos zz] at e5
              rw [if_pos zz]; exact gz_I_of e5
            · have e5 := srg y
              rw [if_neg zz] at e5
              rw [if_neg zz]; exact vI e5
          · unfold sd8; rw [I_set, if_pos ⟨rfl, rfl⟩]
          · by_cases zz : k = N o
            · rw [if_pos zz, zz]
              unfold sd8; rw [I_seto _ _ _ _ _ _ (by omega), I_set, if_pos ⟨rfl, rfl⟩]
            · rw [if_neg zz, vI (sd8o 42 _ (by omega) (by omega))]
              exact vI (r422 o k hk dz)
        · have bb := bne o s h1 h2 s64 o1 z
          obtain ⟨n, D', tk, XX⟩ := TX2 o h1 h2
          have b0 := sdsm _ bb.1 bb.2.1
          have b1 := sdsm _ bb.2.2.1 bb.2.2.2
          exact ⟨n, D', tc_sm (h := r7 g d T lst hc) (Nat.le_refl _) b0 b1 tk, TX_no XX (Or.inl rfl) (Nat.le_refl _) b0 b1 (fun b _ _ => sd8o b o (by omega) (by omega)) (fun k hk => sd8o 42 _ (by omega) (by omega))⟩
    · exact fin _ _ _ _ _ (lv0 can) (rs0 can) (by omega) (by omega) (by omega) n2.1 n2.2 K2o T2 m2' (r8_n 64) rA2 r413 TX2
