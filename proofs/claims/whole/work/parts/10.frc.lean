theorem gz_ci {ci N : Nat} {C : String} {T : u_T} (hc : vwCl[ci]? = some (C, T, N)) : ci < 100 := by
  have h : ci < 9 := (List.getElem?_eq_some_iff.mp hc).1
  omega
theorem gw_get {X : gz_Cx} {M : gz_Mi} {cells slots pc : Nat} {env st : List Value} {h : gz_H} (hok : gz_ok X M) {x ci N k idx : Nat} {C : String} {T : u_T} (hc : vwCl[ci]? = some (C, T, N)) (hk0 : k < N) (hin : ∀ w ∈ u_ws C T N, w ∈ gz_tb) (hl : Cond.fieldLink M.2.2.1 idx (T k).1 (T k).2.1 (T k).2.2.1 ∈ gz_tb) (hd : decode M.1 pc = .ok (.getfield idx, 3)) (hx0 : x < h.1) (hkd : gz_k h x = (ci, N)) (hk : gz_W X M.2.1 cells slots (pc + 3) env (gz_v h x k :: st) h) : gz_W X M.2.1 cells slots pc env (.ref x :: st) h := by
  obtain ⟨p, l, e, R, s, m, args, below, meth, c, Q, D, cA, base, b⟩ := X
  obtain ⟨cc, nL, own, fr, lo, mn, sc⟩ := M
  obtain ⟨hx, hb, hml, hown, hts, hK, hbs, hlk, hfr, hlo, hmn, hsc⟩ := hok
  intro H locs ls hR hS hL
  have ho := (hR.2 x hx0).1 (by rw [hkd]; exact gz_ci hc)
  rw [hkd] at ho
  obtain ⟨cell, q1, q2, q3, q4⟩ := ho
  obtain ⟨hSl, hfc, kC, hkC, hkind⟩ := hK.1.1 ci _ hc
  obtain ⟨cf, kf, fi, f, hi, hsl⟩ := hSl k hk0
  refine W.getf hx hb hown (hts _ hl) hi (u_facts hfc hkC (u_lays hts hin hk0) hi).1 q1 (by rw [q3]; exact fun h => by cases h) (v := gz_c base b (gz_v h x k)) ?_ rfl rfl hd (hk H locs ls hR hS hL)
  rw [hsl, q4 k hk0]
/-- what a field of a type takes -/
def gz_fit (ty : FieldType) (v : Value) : Bool := match ty, v with
  | .int, .int _ => true
  | .boolean, .int x => x == 0 || x == 1
  | .long, .long _ => true
  | .object _, .ref _ => true
  | .object _, .null => true
  | .array _, .ref _ => true
  | .array _, .null => true
  | _, _ => false
theorem gz_fit_ok (base b : Nat) {ty : FieldType} {v : Value} (h : gz_fit ty v = true) : narrow ty (gz_c base b v) = gz_c base b v ∧ fits ty (gz_c base b v) = true := by
  cases ty <;> cases v <;> first | (exact ⟨rfl, rfl⟩) | (simp [gz_fit] at h; done) | skip
  rename_i x
  simp only [gz_fit, Bool.or_eq_true, beq_iff_eq] at h
  rcases h with rfl | rfl
  · exact ⟨(by decide : narrow .boolean (.int 0) = .int 0), (by decide : fits .boolean (.int 0) = true)⟩
  · exact ⟨(by decide : narrow .boolean (.int 1) = .int 1), (by decide : fits .boolean (.int 1) = true)⟩
theorem gw_put {X : gz_Cx} {M : gz_Mi} {cells slots pc : Nat} {env st : List Value} {h : gz_H} (hok : gz_ok X M) {x ci N k idx : Nat} {C : String} {T : u_T} (hc : vwCl[ci]? = some (C, T, N)) (hk0 : k < N) (hin : ∀ w ∈ u_ws C T N, w ∈ gz_tb) (hl : Cond.fieldLink M.2.2.1 idx (T k).1 (T k).2.1 (T k).2.2.1 ∈ gz_tb) (ty0 : Nat → FieldType) (hty : ∀ k, k < N → parseFieldDescriptor (T k).2.2.1 = some (ty0 k)) (hnm : ∀ a, a < N → ∀ b, b < N → a ≠ b → (T a).2.1 ≠ (T b).2.1) (hfin : (T k).2.2.2 = false) {v : Value} (hf : gz_fit (ty0 k) v = true) (hd : decode M.1 pc = .ok (.putfield idx, 3)) (hx0 : x < h.1) (hkd : gz_k h x = (ci, N)) (hk : gz_W X M.2.1 cells slots (pc + 3) env st (gz_set h x k v)) : gz_W X M.2.1 cells slots pc env (v :: .ref x :: st) h := by
  obtain ⟨p, l, e, R, s, m, args, below, meth, c, Q, D, cA, base, b⟩ := X
  obtain ⟨cc, nL, own, fr, lo, mn, sc⟩ := M
  obtain ⟨hx, hb, hml, hown, hts, hK, hbs, hlk, hfr, hlo, hmn, hsc⟩ := hok
  intro H locs ls hR hS hL
  have hap := va_apart (own := own) hts hin ty0 hty hnm hK.1 hc
  have ho := (hR.2 x hx0).1 (by rw [hkd]; exact gz_ci hc)
  rw [hkd] at ho
  obtain ⟨cell, q1, q2, q3, q4⟩ := ho
  obtain ⟨hSl, hfc, kC, hkC, hkind⟩ := hK.1.1 ci _ hc
  obtain ⟨cf, kf, fi, f, hi, hsl⟩ := hSl k hk0
  have hlay := hts _ (hin _ (u_in_lay hk0))
  unfold u_lay at hlay
  rw [if_neg (by rw [hfin]; decide)] at hlay
  have hst := (u_facts hfc hkC (u_lays hts hin hk0) hi).1
  have h6 := u_store hfc hkC hkind hlay hi (hty k hk0) (gz_fit_ok base b hf).1 (gz_fit_ok base b hf).2
  refine W.putK hx hb (f := f) ⟨hown, hts _ hl, ⟨_, _, _, hi⟩, hst⟩ (by rw [q2]; exact h6) q1 q3 (by rw [hsl]; exact k2_hasslot (q4 k hk0)) rfl rfl hd fun H' e1 e2 e3 => ?_
  rw [hsl] at e1 ⊢
  exact hk H' _ ls (hR.setO (by rw [hkd]; exact gz_ci hc) (by rw [hkd]; exact ⟨_, e1, q2, q3, t_set q4 hap hk0 _⟩) e2 e3) (hS.put e2 e3 (Nat.le_add_right base x)) hL
theorem gw_putF {X : gz_Cx} {M : gz_Mi} {cells slots pc : Nat} {env st : List Value} {h : gz_H} (hok : gz_ok X M) {x ci N k idx : Nat} {C : String} {T : u_T} (hc : vwCl[ci]? = some (C, T, N)) (hk0 : k < N) (hin : ∀ w ∈ u_ws C T N, w ∈ gz_tb) (hl : Cond.fieldLink M.2.2.1 idx (T k).1 (T k).2.1 (T k).2.2.1 ∈ gz_tb) (ty0 : Nat → FieldType) (hty : ∀ k, k < N → parseFieldDescriptor (T k).2.2.1 = some (ty0 k)) (hnm : ∀ a, a < N → ∀ b, b < N → a ≠ b → (T a).2.1 ≠ (T b).2.1) (hfin : (T k).2.2.2 = true) (hini : M.2.2.2.2.2.1 = "<init>") (hdecl : (T k).1 = M.2.2.1) {v : Value} (hf : gz_fit (ty0 k) v = true) (hd : decode M.1 pc = .ok (.putfield idx, 3)) (hx0 : x < h.1) (hkd : gz_k h x = (ci, N)) (hk : gz_W X M.2.1 cells slots (pc + 3) env st (gz_set h x k v)) : gz_W X M.2.1 cells slots pc env (v :: .ref x :: st) h := by
  obtain ⟨p, l, e, R, s, m, args, below, meth, c, Q, D, cA, base, b⟩ := X
  obtain ⟨cc, nL, own, fr, lo, mn, sc⟩ := M
  obtain ⟨hx, hb, hml, hown, hts, hK, hbs, hlk, hfr, hlo, hmn, hsc⟩ := hok
  intro H locs ls hR hS hL
  have hap := va_apart (own := own) hts hin ty0 hty hnm hK.1 hc
  have ho := (hR.2 x hx0).1 (by rw [hkd]; exact gz_ci hc)
  rw [hkd] at ho
  obtain ⟨cell, q1, q2, q3, q4⟩ := ho
  obtain ⟨hSl, hfc, kC, hkC, hkind⟩ := hK.1.1 ci _ hc
  obtain ⟨cf, kf, fi, f, hi, hsl⟩ := hSl k hk0
  have hlay := hts _ (hin _ (u_in_lay hk0))
  unfold u_lay at hlay
  rw [if_pos hfin] at hlay
  have hst := (u_facts hfc hkC (u_lays hts hin hk0) hi).1
  have hcf : m.cls = cf := by
    obtain ⟨_, _, c', _, _, _, -, -, hf', -, -, -, hown2, -⟩ := Cond.laysFinal_spec hlay
    have e1 : c' = cf := by have := hi.symm.trans hf'; simp at this; exact this.1.symm
    have hdecl' : (T k).1 = own := hdecl
    rw [hdecl'] at hown2
    rw [← e1]; exact Option.some.inj (hown.symm.trans hown2)
  have h6 := u_fits hfc hkC hkind (Or.inr hlay) hi (hty k hk0) (gz_fit_ok base b hf).1 (gz_fit_ok base b hf).2
  refine W.putFinK hx hb hown (hts _ hl) hi hst hcf (hmn.trans hini) (by rw [q2]; exact h6) q1 q3 (by rw [hsl]; exact k2_hasslot (q4 k hk0)) rfl rfl hd fun H' e1 e2 e3 => ?_
  rw [hsl] at e1 ⊢
  exact hk H' _ ls (hR.setO (by rw [hkd]; exact gz_ci hc) (by rw [hkd]; exact ⟨_, e1, q2, q3, t_set q4 hap hk0 _⟩) e2 e3) (hS.put e2 e3 (Nat.le_add_right base x)) hL
/-- a place of an array of a kind -/
abbrev gz_ix (h : gz_H) (ct x : Nat) (j : Int32) : Prop := x < h.1 ∧ (gz_k h x).1 = ct ∧ ¬ j < 0 ∧ j.toNatClampNeg < (gz_k h x).2
theorem gw_iald {X : gz_Cx} {M : gz_Mi} {cells slots pc : Nat} {env st : List Value} {h : gz_H} (hok : gz_ok X M) {x : Nat} {j : Int32} (hd : decode M.1 pc = .ok (.iaload, 1)) (hi : gz_ix h 100 x j) (hk : gz_W X M.2.1 cells slots (pc + 1) env (gz_v h x j.toNatClampNeg :: st) h) : gz_W X M.2.1 cells slots pc env (.int j :: .ref x :: st) h := by
  obtain ⟨p, l, e, R, s, m, args, below, meth, c, Q, D, cA, base, b⟩ := X
  obtain ⟨cc, nL, own, fr, lo, mn, sc⟩ := M
  obtain ⟨hx, hb, hml, hown, hts, hK, hbs, hlk, hfr, hlo, hmn, hsc⟩ := hok
  intro H locs ls hR hS hL
  obtain ⟨h1, h2, h3, h4⟩ := hi
  have ho := (hR.2 x h1).2 (by rw [h2]; decide)
  have ht := (hK.1.2 0 (cA 100, .int) rfl).1
  rw [h2] at ho
  exact W.iald hx hb ho (ht _ _) (fun q => by cases q) (by rw [arrV_size]; rintro (q | q); exact h3 q; omega) (by rw [arrV_read _ _ h4]) rfl rfl hd (hk H locs ls hR hS hL)
theorem gw_zald {X : gz_Cx} {M : gz_Mi} {cells slots pc : Nat} {env st : List Value} {h : gz_H} (hok : gz_ok X M) {x : Nat} {j : Int32} (hd : decode M.1 pc = .ok (.baload, 1)) (hi : gz_ix h 101 x j) (hk : gz_W X M.2.1 cells slots (pc + 1) env (gz_v h x j.toNatClampNeg :: st) h) : gz_W X M.2.1 cells slots pc env (.int j :: .ref x :: st) h := by
  obtain ⟨p, l, e, R, s, m, args, below, meth, c, Q, D, cA, base, b⟩ := X
  obtain ⟨cc, nL, own, fr, lo, mn, sc⟩ := M
  obtain ⟨hx, hb, hml, hown, hts, hK, hbs, hlk, hfr, hlo, hmn, hsc⟩ := hok
  intro H locs ls hR hS hL
  obtain ⟨h1, h2, h3, h4⟩ := hi
  have ho := (hR.2 x h1).2 (by rw [h2]; decide)
  have ht := (hK.1.2 1 (cA 101, .boolean) rfl).1
  rw [h2] at ho
  exact W.zald hx hb ho (ht _ _) (fun q => by cases q) (by rw [arrV_size]; rintro (q | q); exact h3 q; omega) (by rw [arrV_read _ _ h4]) rfl rfl hd (hk H locs ls hR hS hL)
theorem gw_lald {X : gz_Cx} {M : gz_Mi} {cells slots pc : Nat} {env st : List Value} {h : gz_H} (hok : gz_ok X M) {x : Nat} {j : Int32} (hd : decode M.1 pc = .ok (.laload, 1)) (hi : gz_ix h 102 x j) (hk : gz_W X M.2.1 cells slots (pc + 1) env (gz_v h x j.toNatClampNeg :: st) h) : gz_W X M.2.1 cells slots pc env (.int j :: .ref x :: st) h := by
  obtain ⟨p, l, e, R, s, m, args, below, meth, c, Q, D, cA, base, b⟩ := X
  obtain ⟨cc, nL, own, fr, lo, mn, sc⟩ := M
  obtain ⟨hx, hb, hml, hown, hts, hK, hbs, hlk, hfr, hlo, hmn, hsc⟩ := hok
  intro H locs ls hR hS hL
  obtain ⟨h1, h2, h3, h4⟩ := hi
  have ho := (hR.2 x h1).2 (by rw [h2]; decide)
  have ht := (hK.1.2 2 (cA 102, .long) rfl).1
  rw [h2] at ho
  exact W.lald hx hb ho (ht _ _) (fun q => by cases q) (by rw [arrV_size]; rintro (q | q); exact h3 q; omega) (by rw [arrV_read _ _ h4]) rfl rfl hd (hk H locs ls hR hS hL)
theorem gw_aald103 {X : gz_Cx} {M : gz_Mi} {cells slots pc : Nat} {env st : List Value} {h : gz_H} (hok : gz_ok X M) {x : Nat} {j : Int32} (hd : decode M.1 pc = .ok (.aaload, 1)) (hi : gz_ix h 103 x j) (hk : gz_W X M.2.1 cells slots (pc + 1) env (gz_v h x j.toNatClampNeg :: st) h) : gz_W X M.2.1 cells slots pc env (.int j :: .ref x :: st) h := by
  obtain ⟨p, l, e, R, s, m, args, below, meth, c, Q, D, cA, base, b⟩ := X
  obtain ⟨cc, nL, own, fr, lo, mn, sc⟩ := M
  obtain ⟨hx, hb, hml, hown, hts, hK, hbs, hlk, hfr, hlo, hmn, hsc⟩ := hok
  intro H locs ls hR hS hL
  obtain ⟨h1, h2, h3, h4⟩ := hi
  have ho := (hR.2 x h1).2 (by rw [h2]; decide)
  have ht := (hK.1.2 3 (cA 103, .object RX3) rfl).1
  rw [h2] at ho
  exact W.aald hx hb ho (ht _ _) rfl (fun q => by cases q) (by rw [arrV_size]; rintro (q | q); exact h3 q; omega) (by rw [arrV_read _ _ h4]) rfl rfl hd (hk H locs ls hR hS hL)
theorem gw_aald104 {X : gz_Cx} {M : gz_Mi} {cells slots pc : Nat} {env st : List Value} {h : gz_H} (hok : gz_ok X M) {x : Nat} {j : Int32} (hd : decode M.1 pc = .ok (.aaload, 1)) (hi : gz_ix h 104 x j) (hk : gz_W X M.2.1 cells slots (pc + 1) env (gz_v h x j.toNatClampNeg :: st) h) : gz_W X M.2.1 cells slots pc env (.int j :: .ref x :: st) h := by
  obtain ⟨p, l, e, R, s, m, args, below, meth, c, Q, D, cA, base, b⟩ := X
  obtain ⟨cc, nL, own, fr, lo, mn, sc⟩ := M
  obtain ⟨hx, hb, hml, hown, hts, hK, hbs, hlk, hfr, hlo, hmn, hsc⟩ := hok
  intro H locs ls hR hS hL
  obtain ⟨h1, h2, h3, h4⟩ := hi
  have ho := (hR.2 x h1).2 (by rw [h2]; decide)
  have ht := (hK.1.2 4 (cA 104, .object RX1) rfl).1
  rw [h2] at ho
  exact W.aald hx hb ho (ht _ _) rfl (fun q => by cases q) (by rw [arrV_size]; rintro (q | q); exact h3 q; omega) (by rw [arrV_read _ _ h4]) rfl rfl hd (hk H locs ls hR hS hL)
theorem gw_aald105 {X : gz_Cx} {M : gz_Mi} {cells slots pc : Nat} {env st : List Value} {h : gz_H} (hok : gz_ok X M) {x : Nat} {j : Int32} (hd : decode M.1 pc = .ok (.aaload, 1)) (hi : gz_ix h 105 x j) (hk : gz_W X M.2.1 cells slots (pc + 1) env (gz_v h x j.toNatClampNeg :: st) h) : gz_W X M.2.1 cells slots pc env (.int j :: .ref x :: st) h := by
  obtain ⟨p, l, e, R, s, m, args, below, meth, c, Q, D, cA, base, b⟩ := X
  obtain ⟨cc, nL, own, fr, lo, mn, sc⟩ := M
  obtain ⟨hx, hb, hml, hown, hts, hK, hbs, hlk, hfr, hlo, hmn, hsc⟩ := hok
  intro H locs ls hR hS hL
  obtain ⟨h1, h2, h3, h4⟩ := hi
  have ho := (hR.2 x h1).2 (by rw [h2]; decide)
  have ht := (hK.1.2 5 (cA 105, .object RX2) rfl).1
  rw [h2] at ho
  exact W.aald hx hb ho (ht _ _) rfl (fun q => by cases q) (by rw [arrV_size]; rintro (q | q); exact h3 q; omega) (by rw [arrV_read _ _ h4]) rfl rfl hd (hk H locs ls hR hS hL)
theorem gw_iast {X : gz_Cx} {M : gz_Mi} {cells slots pc : Nat} {env st : List Value} {h : gz_H} (hok : gz_ok X M) {x : Nat} {j : Int32} {y : Int32} (hd : decode M.1 pc = .ok (.iastore, 1)) (hi : gz_ix h 100 x j) (hk : gz_W X M.2.1 cells slots (pc + 1) env st (gz_set h x j.toNatClampNeg (.int y))) : gz_W X M.2.1 cells slots pc env (.int y :: .int j :: .ref x :: st) h := by
  obtain ⟨p, l, e, R, s, m, args, below, meth, c, Q, D, cA, base, b⟩ := X
  obtain ⟨cc, nL, own, fr, lo, mn, sc⟩ := M
  obtain ⟨hx, hb, hml, hown, hts, hK, hbs, hlk, hfr, hlo, hmn, hsc⟩ := hok
  intro H locs ls hR hS hL
  obtain ⟨h1, h2, h3, h4⟩ := hi
  have ho := (hR.2 x h1).2 (by rw [h2]; decide)
  have ht := (hK.1.2 0 (cA 100, .int) rfl).1
  have ho' := ho
  rw [h2] at ho
  refine W.iast hx hb ho (ht _ _) (fun q => by cases q) (by rw [arrV_size]; rintro (q | q); exact h3 q; omega) rfl rfl hd fun H1 e1 z oq => ?_
  exact hk H1 _ ls (hR.setA (v := .int y) (by rw [h2]; decide) (by rw [h2]; exact e1) z oq) (hS.put z oq (Nat.le_add_right base x)) hL
theorem gw_last {X : gz_Cx} {M : gz_Mi} {cells slots pc : Nat} {env st : List Value} {h : gz_H} (hok : gz_ok X M) {x : Nat} {j : Int32} {y : Int64} (hd : decode M.1 pc = .ok (.lastore, 1)) (hi : gz_ix h 102 x j) (hk : gz_W X M.2.1 cells slots (pc + 1) env st (gz_set h x j.toNatClampNeg (.long y))) : gz_W X M.2.1 cells slots pc env (.long y :: .int j :: .ref x :: st) h := by
  obtain ⟨p, l, e, R, s, m, args, below, meth, c, Q, D, cA, base, b⟩ := X
  obtain ⟨cc, nL, own, fr, lo, mn, sc⟩ := M
  obtain ⟨hx, hb, hml, hown, hts, hK, hbs, hlk, hfr, hlo, hmn, hsc⟩ := hok
  intro H locs ls hR hS hL
  obtain ⟨h1, h2, h3, h4⟩ := hi
  have ho := (hR.2 x h1).2 (by rw [h2]; decide)
  have ht := (hK.1.2 2 (cA 102, .long) rfl).1
  have ho' := ho
  rw [h2] at ho
  refine W.last hx hb ho (ht _ _) (fun q => by cases q) (by rw [arrV_size]; rintro (q | q); exact h3 q; omega) rfl rfl hd fun H1 e1 z oq => ?_
  exact hk H1 _ ls (hR.setA (v := .long y) (by rw [h2]; decide) (by rw [h2]; exact e1) z oq) (hS.put z oq (Nat.le_add_right base x)) hL
theorem gw_zast {X : gz_Cx} {M : gz_Mi} {cells slots pc : Nat} {env st : List Value} {h : gz_H} (hok : gz_ok X M) {x : Nat} {j y : Int32} (hd : decode M.1 pc = .ok (.bastore, 1)) (hy : y = 0 ∨ y = 1) (hi : gz_ix h 101 x j) (hk : gz_W X M.2.1 cells slots (pc + 1) env st (gz_set h x j.toNatClampNeg (.int y))) : gz_W X M.2.1 cells slots pc env (.int y :: .int j :: .ref x :: st) h := by
  obtain ⟨p, l, e, R, s, m, args, below, meth, c, Q, D, cA, base, b⟩ := X
  obtain ⟨cc, nL, own, fr, lo, mn, sc⟩ := M
  obtain ⟨hx, hb, hml, hown, hts, hK, hbs, hlk, hfr, hlo, hmn, hsc⟩ := hok
  intro H locs ls hR hS hL
  obtain ⟨h1, h2, h3, h4⟩ := hi
  have ho := (hR.2 x h1).2 (by rw [h2]; decide)
  have ht := (hK.1.2 1 (cA 101, .boolean) rfl).1
  rw [h2] at ho
  have hn : narrow .boolean (.int y) = gz_c base b (.int y) := by rcases hy with rfl | rfl <;> rfl
  refine W.zast hx hb ho (ht _ _) (fun q => by cases q) (by rw [arrV_size]; rintro (q | q); exact h3 q; omega) rfl rfl hd fun H1 e1 z oq => ?_
  rw [hn] at e1
  exact hk H1 _ ls (hR.setA (v := .int y) (by rw [h2]; decide) (by rw [h2]; exact e1) z oq) (hS.put z oq (Nat.le_add_right base x)) hL
theorem gw_aast103 {X : gz_Cx} {M : gz_Mi} {cells slots pc : Nat} {env st : List Value} {h : gz_H} (hok : gz_ok X M) {x y : Nat} {j : Int32} (hd : decode M.1 pc = .ok (.aastore, 1)) (hy0 : y < h.1) (hyk : (gz_k h y).1 = 3) (hi : gz_ix h 103 x j) (hk : gz_W X M.2.1 cells slots (pc + 1) env st (gz_set h x j.toNatClampNeg (.ref y))) : gz_W X M.2.1 cells slots pc env (.ref y :: .int j :: .ref x :: st) h := by
  obtain ⟨p, l, e, R, s, m, args, below, meth, c, Q, D, cA, base, b⟩ := X
  obtain ⟨cc, nL, own, fr, lo, mn, sc⟩ := M
  obtain ⟨hx, hb, hml, hown, hts, hK, hbs, hlk, hfr, hlo, hmn, hsc⟩ := hok
  intro H locs ls hR hS hL
  obtain ⟨h1, h2, h3, h4⟩ := hi
  have ho := (hR.2 x h1).2 (by rw [h2]; decide)
  rw [h2] at ho
  have hv := (hR.2 y hy0).1 (by rw [hyk]; decide)
  rw [hyk] at hv
  obtain ⟨cellV, g1, g2, g3, -⟩ := hv
  have hcls := (hK.1.1 3 (RX3, TX3, 14) rfl).2
  obtain ⟨kA, comp, k1, k2, k3, -⟩ := (hK.1.2 3 (cA 103, .object RX3) rfl).2
  have hcomp : comp = D.1 3 := Option.some.inj (k3.symm.trans hcls.1)
  subst hcomp
  obtain ⟨kC, hkC, -⟩ := hcls.2
  refine W.aast hx hb ho (fun q h => by cases h) (fun h => by cases h) k1 k2 rfl hkC ⟨h3, by rw [arrV_size]; exact h4⟩ g1 (fun q h => by rw [g3] at h; cases h) (by rw [g2]; exact hkC) (by rw [g2]; exact va_assign hcls) rfl rfl hd fun H1 e1 z oq => ?_
  exact hk H1 _ ls (hR.setA (v := .ref y) (by rw [h2]; decide) (by rw [h2]; exact e1) z oq) (hS.put z oq (Nat.le_add_right base x)) hL
theorem gw_aast104 {X : gz_Cx} {M : gz_Mi} {cells slots pc : Nat} {env st : List Value} {h : gz_H} (hok : gz_ok X M) {x y : Nat} {j : Int32} (hd : decode M.1 pc = .ok (.aastore, 1)) (hy0 : y < h.1) (hyk : (gz_k h y).1 = 1) (hi : gz_ix h 104 x j) (hk : gz_W X M.2.1 cells slots (pc + 1) env st (gz_set h x j.toNatClampNeg (.ref y))) : gz_W X M.2.1 cells slots pc env (.ref y :: .int j :: .ref x :: st) h := by
  obtain ⟨p, l, e, R, s, m, args, below, meth, c, Q, D, cA, base, b⟩ := X
  obtain ⟨cc, nL, own, fr, lo, mn, sc⟩ := M
  obtain ⟨hx, hb, hml, hown, hts, hK, hbs, hlk, hfr, hlo, hmn, hsc⟩ := hok
  intro H locs ls hR hS hL
  obtain ⟨h1, h2, h3, h4⟩ := hi
  have ho := (hR.2 x h1).2 (by rw [h2]; decide)
  rw [h2] at ho
  have hv := (hR.2 y hy0).1 (by rw [hyk]; decide)
  rw [hyk] at hv
  obtain ⟨cellV, g1, g2, g3, -⟩ := hv
  have hcls := (hK.1.1 1 (RX1, TX1, 11) rfl).2
  obtain ⟨kA, comp, k1, k2, k3, -⟩ := (hK.1.2 4 (cA 104, .object RX1) rfl).2
  have hcomp : comp = D.1 1 := Option.some.inj (k3.symm.trans hcls.1)
  subst hcomp
  obtain ⟨kC, hkC, -⟩ := hcls.2
  refine W.aast hx hb ho (fun q h => by cases h) (fun h => by cases h) k1 k2 rfl hkC ⟨h3, by rw [arrV_size]; exact h4⟩ g1 (fun q h => by rw [g3] at h; cases h) (by rw [g2]; exact hkC) (by rw [g2]; exact va_assign hcls) rfl rfl hd fun H1 e1 z oq => ?_
  exact hk H1 _ ls (hR.setA (v := .ref y) (by rw [h2]; decide) (by rw [h2]; exact e1) z oq) (hS.put z oq (Nat.le_add_right base x)) hL
theorem gw_aast105 {X : gz_Cx} {M : gz_Mi} {cells slots pc : Nat} {env st : List Value} {h : gz_H} (hok : gz_ok X M) {x y : Nat} {j : Int32} (hd : decode M.1 pc = .ok (.aastore, 1)) (hy0 : y < h.1) (hyk : (gz_k h y).1 = 2) (hi : gz_ix h 105 x j) (hk : gz_W X M.2.1 cells slots (pc + 1) env st (gz_set h x j.toNatClampNeg (.ref y))) : gz_W X M.2.1 cells slots pc env (.ref y :: .int j :: .ref x :: st) h := by
  obtain ⟨p, l, e, R, s, m, args, below, meth, c, Q, D, cA, base, b⟩ := X
  obtain ⟨cc, nL, own, fr, lo, mn, sc⟩ := M
  obtain ⟨hx, hb, hml, hown, hts, hK, hbs, hlk, hfr, hlo, hmn, hsc⟩ := hok
  intro H locs ls hR hS hL
  obtain ⟨h1, h2, h3, h4⟩ := hi
  have ho := (hR.2 x h1).2 (by rw [h2]; decide)
  rw [h2] at ho
  have hv := (hR.2 y hy0).1 (by rw [hyk]; decide)
  rw [hyk] at hv
  obtain ⟨cellV, g1, g2, g3, -⟩ := hv
  have hcls := (hK.1.1 2 (RX2, TX2, 9) rfl).2
  obtain ⟨kA, comp, k1, k2, k3, -⟩ := (hK.1.2 5 (cA 105, .object RX2) rfl).2
  have hcomp : comp = D.1 2 := Option.some.inj (k3.symm.trans hcls.1)
  subst hcomp
  obtain ⟨kC, hkC, -⟩ := hcls.2
  refine W.aast hx hb ho (fun q h => by cases h) (fun h => by cases h) k1 k2 rfl hkC ⟨h3, by rw [arrV_size]; exact h4⟩ g1 (fun q h => by rw [g3] at h; cases h) (by rw [g2]; exact hkC) (by rw [g2]; exact va_assign hcls) rfl rfl hd fun H1 e1 z oq => ?_
  exact hk H1 _ ls (hR.setA (v := .ref y) (by rw [h2]; decide) (by rw [h2]; exact e1) z oq) (hS.put z oq (Nat.le_add_right base x)) hL
theorem gw_alen {X : gz_Cx} {M : gz_Mi} {cells slots pc : Nat} {env st : List Value} {h : gz_H} (hok : gz_ok X M) {x : Nat} (hd : decode M.1 pc = .ok (.arraylength, 1)) (h1 : x < h.1) (h2 : (gz_k h x).1 = 100) (hk : gz_W X M.2.1 cells slots (pc + 1) env (.int (Int32.ofNat (gz_k h x).2) :: st) h) : gz_W X M.2.1 cells slots pc env (.ref x :: st) h := by
  obtain ⟨p, l, e, R, s, m, args, below, meth, c, Q, D, cA, base, b⟩ := X
  obtain ⟨cc, nL, own, fr, lo, mn, sc⟩ := M
  obtain ⟨hx, hb, hml, hown, hts, hK, hbs, hlk, hfr, hlo, hmn, hsc⟩ := hok
  intro H locs ls hR hS hL
  have ho := (hR.2 x h1).2 (by rw [h2]; decide)
  have ht := (hK.1.2 0 (cA 100, .int) rfl).1
  rw [h2] at ho
  exact W.alen hx hb ho (ht _ _) (by rw [arrV_size] <;> rfl) rfl rfl hd (hk H locs ls hR hS hL)
def gz_nf (v : Value) : Bool := match v with
  | .float _ => false
  | .ref _ => false
  | _ => true
theorem gz_nf_c {base b : Nat} {v : Value} (h : gz_nf v = true) : gz_c base b v = v := by cases v <;> first | rfl | (simp [gz_nf] at h)
theorem gw_new {X : gz_Cx} {M : gz_Mi} {cells slots pc : Nat} {env st : List Value} {h : gz_H} (hok : gz_ok X M) {ci N idx : Nat} {C : String} {T : u_T} (hc : vwCl[ci]? = some (C, T, N)) (hin : ∀ w ∈ u_ws C T N, w ∈ gz_tb) (ty0 : Nat → FieldType) (hty : ∀ k, k < N → parseFieldDescriptor (T k).2.2.1 = some (ty0 k)) (hnf : ∀ k, k < N → gz_nf (defaultValue (ty0 k)) = true) (hcl : Cond.classLink M.2.2.1 idx C ∈ gz_tb) (hins : Cond.instantiable C N ∈ gz_tb) (hini : Cond.initialized C ∈ gz_tb) (hd : decode M.1 pc = .ok (.new idx, 3)) (hce : cells + 1 ≤ gz_rc X) (hsl : slots + N ≤ gz_rs X) (hk : gz_W X M.2.1 (cells + 1) (slots + N) (pc + 3) env (.ref h.1 :: st) (gz_new h (ci, N) (fun j => defaultValue (ty0 j)))) : gz_W X M.2.1 cells slots pc env st h := by
  obtain ⟨p, l, e, R, s, m, args, below, meth, c, Q, D, cA, base, b⟩ := X
  obtain ⟨cc, nL, own, fr, lo, mn, sc⟩ := M
  obtain ⟨hx, hb, hml, hown, hts, hK, hbs, hlk, hfr, hlo, hmn, hsc⟩ := hok
  intro H locs ls hR hS hL
  have hKn := hK.1.1 ci _ hc
  refine W.newcK hx hb hown (hts _ hcl) (hts _ hins) (hts _ hini) rfl hd hce hsl hKn.2.1 hR.1 fun H1 kC hkC e1 z1 o1 => ?_
  have hb1 := u_born ty0 hts hin hKn hkC e1 hty
  refine hk H1 locs ls (hR.new z1 o1 ⟨fun _ => ?_, fun q => ?_⟩) ⟨Nat.le_trans hS.1 (by have := hR.1; omega), fun q h1 h2 => (o1 q (Nat.lt_of_lt_of_le h1 (by have := hS.1; have := hR.1; omega))).trans (hS.2.1 q h1 h2), hS.2.2⟩ hL
  · simp only [gz_k, gz_v, gz_new, if_true]
    exact hb1.to (fun j hj => (gz_nf_c (hnf j hj)).symm)
  · simp only [gz_k, gz_new, if_true] at q
    have := gz_ci hc
    omega
theorem gw_newI {X : gz_Cx} {M : gz_Mi} {cells slots pc : Nat} {env st : List Value} {h : gz_H} (hok : gz_ok X M) {n : Int32} (har : Cond.arrayClass .int ∈ gz_tb) (hd : decode M.1 pc = .ok (.newarray .int, 2)) (hn : ¬ n < 0) (hn2 : n.toNatClampNeg ≤ 10000) (hce : cells + 1 ≤ gz_rc X) (hsl : slots + n.toNatClampNeg ≤ gz_rs X) (hk : gz_W X M.2.1 (cells + 1) (slots + n.toNatClampNeg) (pc + 2) env (.ref h.1 :: st) (gz_new h (100, n.toNatClampNeg) (fun _ => defaultValue .int))) : gz_W X M.2.1 cells slots pc env (.int n :: st) h := by
  obtain ⟨p, l, e, R, s, m, args, below, meth, c, Q, D, cA, base, b⟩ := X
  obtain ⟨cc, nL, own, fr, lo, mn, sc⟩ := M
  obtain ⟨hx, hb, hml, hown, hts, hK, hbs, hlk, hfr, hlo, hmn, hsc⟩ := hok
  intro H locs ls hR hS hL
  refine va_newaK hx hb (atype := .int) (hts _ har) rfl hd rfl hn rfl (by show _ * 4 ≤ _; omega) hce hsl hR.1 fun H1 cA' e1 z1 o1 hAr hNm => ?_
  have hcA : cA' = cA 100 := Option.some.inj (hNm.symm.trans (hK.1.2 0 (cA 100, .int) rfl).2)
  subst hcA
  refine hk H1 locs ls (hR.new z1 o1 ⟨fun q => ?_, fun _ => ?_⟩) ⟨Nat.le_trans hS.1 (by have := hR.1; omega), fun q h1 h2 => (o1 q (Nat.lt_of_lt_of_le h1 (by have := hS.1; have := hR.1; omega))).trans (hS.2.1 q h1 h2), hS.2.2⟩ hL
  · simp only [gz_k, gz_new, if_true] at q
    omega
  · simp only [gz_k, gz_v, gz_new, if_true]
    exact e1
theorem gw_newZ {X : gz_Cx} {M : gz_Mi} {cells slots pc : Nat} {env st : List Value} {h : gz_H} (hok : gz_ok X M) {n : Int32} (har : Cond.arrayClass .boolean ∈ gz_tb) (hd : decode M.1 pc = .ok (.newarray .boolean, 2)) (hn : ¬ n < 0) (hn2 : n.toNatClampNeg ≤ 10000) (hce : cells + 1 ≤ gz_rc X) (hsl : slots + n.toNatClampNeg ≤ gz_rs X) (hk : gz_W X M.2.1 (cells + 1) (slots + n.toNatClampNeg) (pc + 2) env (.ref h.1 :: st) (gz_new h (101, n.toNatClampNeg) (fun _ => defaultValue .boolean))) : gz_W X M.2.1 cells slots pc env (.int n :: st) h := by
  obtain ⟨p, l, e, R, s, m, args, below, meth, c, Q, D, cA, base, b⟩ := X
  obtain ⟨cc, nL, own, fr, lo, mn, sc⟩ := M
  obtain ⟨hx, hb, hml, hown, hts, hK, hbs, hlk, hfr, hlo, hmn, hsc⟩ := hok
  intro H locs ls hR hS hL
  refine va_newaK hx hb (atype := .boolean) (hts _ har) rfl hd rfl hn rfl (by show _ * 1 ≤ _; omega) hce hsl hR.1 fun H1 cA' e1 z1 o1 hAr hNm => ?_
  have hcA : cA' = cA 101 := Option.some.inj (hNm.symm.trans (hK.1.2 1 (cA 101, .boolean) rfl).2)
  subst hcA
  refine hk H1 locs ls (hR.new z1 o1 ⟨fun q => ?_, fun _ => ?_⟩) ⟨Nat.le_trans hS.1 (by have := hR.1; omega), fun q h1 h2 => (o1 q (Nat.lt_of_lt_of_le h1 (by have := hS.1; have := hR.1; omega))).trans (hS.2.1 q h1 h2), hS.2.2⟩ hL
  · simp only [gz_k, gz_new, if_true] at q
    omega
  · simp only [gz_k, gz_v, gz_new, if_true]
    exact e1
theorem gw_newJ {X : gz_Cx} {M : gz_Mi} {cells slots pc : Nat} {env st : List Value} {h : gz_H} (hok : gz_ok X M) {n : Int32} (har : Cond.arrayClass .long ∈ gz_tb) (hd : decode M.1 pc = .ok (.newarray .long, 2)) (hn : ¬ n < 0) (hn2 : n.toNatClampNeg ≤ 10000) (hce : cells + 1 ≤ gz_rc X) (hsl : slots + n.toNatClampNeg ≤ gz_rs X) (hk : gz_W X M.2.1 (cells + 1) (slots + n.toNatClampNeg) (pc + 2) env (.ref h.1 :: st) (gz_new h (102, n.toNatClampNeg) (fun _ => defaultValue .long))) : gz_W X M.2.1 cells slots pc env (.int n :: st) h := by
  obtain ⟨p, l, e, R, s, m, args, below, meth, c, Q, D, cA, base, b⟩ := X
  obtain ⟨cc, nL, own, fr, lo, mn, sc⟩ := M
  obtain ⟨hx, hb, hml, hown, hts, hK, hbs, hlk, hfr, hlo, hmn, hsc⟩ := hok
  intro H locs ls hR hS hL
  refine va_newaK hx hb (atype := .long) (hts _ har) rfl hd rfl hn rfl (by show _ * 8 ≤ _; omega) hce hsl hR.1 fun H1 cA' e1 z1 o1 hAr hNm => ?_
  have hcA : cA' = cA 102 := Option.some.inj (hNm.symm.trans (hK.1.2 2 (cA 102, .long) rfl).2)
  subst hcA
  refine hk H1 locs ls (hR.new z1 o1 ⟨fun q => ?_, fun _ => ?_⟩) ⟨Nat.le_trans hS.1 (by have := hR.1; omega), fun q h1 h2 => (o1 q (Nat.lt_of_lt_of_le h1 (by have := hS.1; have := hR.1; omega))).trans (hS.2.1 q h1 h2), hS.2.2⟩ hL
  · simp only [gz_k, gz_new, if_true] at q
    omega
  · simp only [gz_k, gz_v, gz_new, if_true]
    exact e1
theorem gw_anew103 {X : gz_Cx} {M : gz_Mi} {cells slots pc : Nat} {env st : List Value} {h : gz_H} (hok : gz_ok X M) {n : Int32} {idx : Nat} (hcl : Cond.classLink M.2.2.1 idx RX3 ∈ gz_tb) (hd : decode M.1 pc = .ok (.anewarray idx, 3)) (hn : ¬ n < 0) (hn2 : n.toNatClampNeg ≤ 10000) (hce : cells + 1 ≤ gz_rc X) (hsl : slots + n.toNatClampNeg ≤ gz_rs X) (hk : gz_W X M.2.1 (cells + 1) (slots + n.toNatClampNeg) (pc + 3) env (.ref h.1 :: st) (gz_new h (103, n.toNatClampNeg) (fun _ => .null))) : gz_W X M.2.1 cells slots pc env (.int n :: st) h := by
  obtain ⟨p, l, e, R, s, m, args, below, meth, c, Q, D, cA, base, b⟩ := X
  obtain ⟨cc, nL, own, fr, lo, mn, sc⟩ := M
  obtain ⟨hx, hb, hml, hown, hts, hK, hbs, hlk, hfr, hlo, hmn, hsc⟩ := hok
  intro H locs ls hR hS hL
  refine W.anew hx hb hown (hts _ hcl) (va_AO.use hK.2.2.2.2.2.2.1) rfl hd rfl hn (by omega) hce hsl fun cA' kA comp f1 f2 f3 f4 => ?_
  obtain ⟨kA', comp', k1, k2, k3, k4⟩ := (hK.1.2 3 (cA 103, .object RX3) rfl).2
  have hcA : cA' = cA 103 := Option.some.inj (f1.symm.trans k4)
  subst hcA
  have hz : H.size = base + h.1 := hR.1
  have key := hk (H.push ({ cls := cA 103, slots := Array.replicate n.toNatClampNeg .null, vm := .none } : Cell)) locs ls (hR.new (by rw [Array.size_push, hz]) (fun q hq => by rw [Array.getElem?_push, if_neg (by omega)]) ⟨fun q => ?_, fun _ => ?_⟩) ⟨Nat.le_trans hS.1 (by rw [Array.size_push]; omega), fun q h1 h2 => (by rw [Array.getElem?_push, if_neg (by have := hS.1; omega)]; exact hS.2.1 q h1 h2), hS.2.2⟩ hL
  · simpa [gz_c, hz] using key
  · simp only [gz_k, gz_new, if_true] at q
    omega
  · simp only [gz_k, gz_v, gz_new, if_true]
    rw [← hz, Array.getElem?_push_size, arrV_new]
    rfl
theorem gw_anew104 {X : gz_Cx} {M : gz_Mi} {cells slots pc : Nat} {env st : List Value} {h : gz_H} (hok : gz_ok X M) {n : Int32} {idx : Nat} (hcl : Cond.classLink M.2.2.1 idx RX1 ∈ gz_tb) (hd : decode M.1 pc = .ok (.anewarray idx, 3)) (hn : ¬ n < 0) (hn2 : n.toNatClampNeg ≤ 10000) (hce : cells + 1 ≤ gz_rc X) (hsl : slots + n.toNatClampNeg ≤ gz_rs X) (hk : gz_W X M.2.1 (cells + 1) (slots + n.toNatClampNeg) (pc + 3) env (.ref h.1 :: st) (gz_new h (104, n.toNatClampNeg) (fun _ => .null))) : gz_W X M.2.1 cells slots pc env (.int n :: st) h := by
  obtain ⟨p, l, e, R, s, m, args, below, meth, c, Q, D, cA, base, b⟩ := X
  obtain ⟨cc, nL, own, fr, lo, mn, sc⟩ := M
  obtain ⟨hx, hb, hml, hown, hts, hK, hbs, hlk, hfr, hlo, hmn, hsc⟩ := hok
  intro H locs ls hR hS hL
  refine W.anew hx hb hown (hts _ hcl) (va_AO.use hK.2.2.2.2.2.2.2.1) rfl hd rfl hn (by omega) hce hsl fun cA' kA comp f1 f2 f3 f4 => ?_
  obtain ⟨kA', comp', k1, k2, k3, k4⟩ := (hK.1.2 4 (cA 104, .object RX1) rfl).2
  have hcA : cA' = cA 104 := Option.some.inj (f1.symm.trans k4)
  subst hcA
  have hz : H.size = base + h.1 := hR.1
  have key := hk (H.push ({ cls := cA 104, slots := Array.replicate n.toNatClampNeg .null, vm := .none } : Cell)) locs ls (hR.new (by rw [Array.size_push, hz]) (fun q hq => by rw [Array.getElem?_push, if_neg (by omega)]) ⟨fun q => ?_, fun _ => ?_⟩) ⟨Nat.le_trans hS.1 (by rw [Array.size_push]; omega), fun q h1 h2 => (by rw [Array.getElem?_push, if_neg (by have := hS.1; omega)]; exact hS.2.1 q h1 h2), hS.2.2⟩ hL
  · simpa [gz_c, hz] using key
  · simp only [gz_k, gz_new, if_true] at q
    omega
  · simp only [gz_k, gz_v, gz_new, if_true]
    rw [← hz, Array.getElem?_push_size, arrV_new]
    rfl
theorem gw_anew105 {X : gz_Cx} {M : gz_Mi} {cells slots pc : Nat} {env st : List Value} {h : gz_H} (hok : gz_ok X M) {n : Int32} {idx : Nat} (hcl : Cond.classLink M.2.2.1 idx RX2 ∈ gz_tb) (hd : decode M.1 pc = .ok (.anewarray idx, 3)) (hn : ¬ n < 0) (hn2 : n.toNatClampNeg ≤ 10000) (hce : cells + 1 ≤ gz_rc X) (hsl : slots + n.toNatClampNeg ≤ gz_rs X) (hk : gz_W X M.2.1 (cells + 1) (slots + n.toNatClampNeg) (pc + 3) env (.ref h.1 :: st) (gz_new h (105, n.toNatClampNeg) (fun _ => .null))) : gz_W X M.2.1 cells slots pc env (.int n :: st) h := by
  obtain ⟨p, l, e, R, s, m, args, below, meth, c, Q, D, cA, base, b⟩ := X
  obtain ⟨cc, nL, own, fr, lo, mn, sc⟩ := M
  obtain ⟨hx, hb, hml, hown, hts, hK, hbs, hlk, hfr, hlo, hmn, hsc⟩ := hok
  intro H locs ls hR hS hL
  refine W.anew hx hb hown (hts _ hcl) (va_AO.use hK.2.2.2.2.2.2.2.2) rfl hd rfl hn (by omega) hce hsl fun cA' kA comp f1 f2 f3 f4 => ?_
  obtain ⟨kA', comp', k1, k2, k3, k4⟩ := (hK.1.2 5 (cA 105, .object RX2) rfl).2
  have hcA : cA' = cA 105 := Option.some.inj (f1.symm.trans k4)
  subst hcA
  have hz : H.size = base + h.1 := hR.1
  have key := hk (H.push ({ cls := cA 105, slots := Array.replicate n.toNatClampNeg .null, vm := .none } : Cell)) locs ls (hR.new (by rw [Array.size_push, hz]) (fun q hq => by rw [Array.getElem?_push, if_neg (by omega)]) ⟨fun q => ?_, fun _ => ?_⟩) ⟨Nat.le_trans hS.1 (by rw [Array.size_push]; omega), fun q h1 h2 => (by rw [Array.getElem?_push, if_neg (by have := hS.1; omega)]; exact hS.2.1 q h1 h2), hS.2.2⟩ hL
  · simpa [gz_c, hz] using key
  · simp only [gz_k, gz_new, if_true] at q
    omega
  · simp only [gz_k, gz_v, gz_new, if_true]
    rw [← hz, Array.getElem?_push_size, arrV_new]
    rfl
