def nwX4 (h : gz_H) (e : Nat) (t r : Int32) : gz_H := gz_set (gz_set (gz_set (gz_set (gz_set (gz_new (gz_new h (4, 6) (fun j => defaultValue (tyX4 j))) (101, 61) (fun _ => .int 0)) h.1 4 (.ref (h.1 + 1))) h.1 0 (.ref e)) h.1 1 (gz_v h e 5)) h.1 2 (.int t)) h.1 3 (.int r)
set_option maxHeartbeats 4000000 in
theorem nw_X4 (h : gz_H) (e : Nat) (t r : Int32) (he : e < h.1) (hk : gz_k h e = (3, 14)) (h5 : gz_v h e 5 = .null ∨ ∃ o, gz_v h e 5 = .ref o) : se_X4_init [.ref h.1, .ref e, .int t, .int r] (gz_new h (4, 6) (fun j => defaultValue (tyX4 j))) = some (none, nwX4 h e t r) := by
  have l1 : h.1 < h.1 + 1 := by omega
  have l2 : h.1 < h.1 + 2 := by omega
  have n1 : ¬ h.1 = h.1 + 1 := by omega
  have a : ∀ a b : Nat, h.1 + a + b = h.1 + (a + b) := fun a b => by omega
  have e1 : e < h.1 + 2 := by omega
  have e2 : ¬ e = h.1 := by omega
  have e3 : ¬ e = h.1 + 1 := by omega
  have h50 : gz_v h e 5 = .null ∨ ∃ o, gz_v h e 5 = .ref o := h5
  have fit : gz_fit (.object "GreenDesk$Street") (gz_v h e 5) = true := by
    rcases h50 with q | ⟨o, q⟩ <;> rw [q] <;> rfl
  simp only [se_X4_init, sm_X4_init, gz_sem, gz_ae, Value.category, gz_i, gz_l, gz_nu, gz_li, gz_ll, gz_la, gz_ib, gz_iz, gz_lb, gz_lz, gz_ls, gz_lc, gz_i2l, gz_l2i, gz_get, gz_ald, gz_len, gz_dup, gz_d2, gz_nar, gz_a0, gz_a1, gz_cs, gz_cv, gz_mk, gz_te, gz_j1, gz_j2, gz_jn, gz_jk, gz_jo, gz_ja, gz_sat, gz_seti, gz_seta, gz_set2, gz_inc, gz_put, gz_ast, gz_pop, gz_vs, gz_vv, gz_sup, gz_rv, gz_ri, gz_rl, gz_ra, gz_if, gz_seq, gz_sw, gz_st, gz_st2, rok_I, rok_J, rok_V, rok_Z0, rok_Z1, rok_Zi, rok_R, rok_N, bi_rok, bi_0, bi_1, fit_I, fit_J, fit_Z0, fit_Z1, fit_Zi, fit_R, fit_N, fit_aR, aty_I, aty_Z0, aty_Z1, aty_Zi, aty_J, gz_ix, List.getElem?_cons_zero, List.getElem?_cons_succ, List.getElem?_nil, List.reverse_cons, List.reverse_nil, List.nil_append, List.cons_append, List.take_succ_cons, List.take_zero, List.take_nil, List.length_cons, List.length_nil, decide_true, decide_false, decide_not, Bool.not_true, Bool.not_false, gz_nle, if_true, if_false, and_true, true_and, and_self, and_false, false_and, or_true, true_or, or_false, false_or, Bool.false_eq_true, not_true, not_false_iff, Decidable.not_not, Nat.reduceLeDiff, Nat.reduceAdd, Nat.reduceEqDiff, Nat.reduceSub, Nat.reduceLT, Nat.zero_add, reduceCtorEq, reduceIte, eq_self, i32_10, i32_01, Nat.zero_le, Nat.one_ne_zero, gz_n_set, gz_n_new, gz_k_set, gz_k_new, gz_v_set, gz_v_new, in61, a, l1, l2, n1, e1, e2, e3, hk, fit, nwX4]
theorem nwX4_n (h : gz_H) (e : Nat) (t r : Int32) : (nwX4 h e t r).1 = h.1 + 2 := rfl
theorem nwX4_sm (h : gz_H) (e : Nat) (t r : Int32) {x : Nat} (hx : x < h.1) : sm h (nwX4 h e t r) x := by
  unfold nwX4
  refine sm_set (sm_set (sm_set (sm_set (sm_set (sm_new (sm_new (sm_rf _ _) ?_) ?_) ?_) ?_) ?_) ?_) ?_
  all_goals (first | omega | (simp only [gz_n_set, gz_n_new]; omega))
theorem nwX4_v (h : gz_H) (e : Nat) (t r : Int32) : gz_v (nwX4 h e t r) h.1 0 = .ref e ∧ gz_v (nwX4 h e t r) h.1 1 = gz_v h e 5 ∧ gz_v (nwX4 h e t r) h.1 2 = .int t ∧ gz_v (nwX4 h e t r) h.1 3 = .int r ∧ gz_v (nwX4 h e t r) h.1 4 = .ref (h.1 + 1) ∧ gz_v (nwX4 h e t r) h.1 5 = .int 0 ∧ (∀ i, gz_v (nwX4 h e t r) (h.1 + 1) i = .int 0) ∧ gz_k (nwX4 h e t r) h.1 = (4, 6) ∧ gz_k (nwX4 h e t r) (h.1 + 1) = (101, 61) := by
  have n1 : ¬ h.1 = h.1 + 1 := by omega
  refine ⟨?_, ?_, ?_, ?_, ?_, ?_, fun i => ?_, ?_, ?_⟩
  all_goals (simp [nwX4, gz_v_set, gz_v_new, gz_k_set, gz_k_new, gz_n_set, gz_n_new, n1] <;> rfl)
theorem SV_f {B : Nat} {hc hc' hr hr' : gz_H} {x s : Nat} (m : hc.1 ≤ hc'.1) (k : gz_k hc' x = gz_k hc x) (e : ∀ i, i ≠ 4 → i ≠ 5 → gz_v hc' x i = gz_v hc x i) (r : ∀ b, (17 ≤ b ∧ b ≤ 20) ∨ (43 ≤ b ∧ b ≤ 50) → gz_v hr' b s = gz_v hr b s) (H : SV B hc hr x s) : SV B hc' hr' x s := by
  have i1 : ∀ i, i ≠ 4 → i ≠ 5 → gz_I hc' x i = gz_I hc x i := fun i h1 h2 => vI (e i h1 h2)
  have a17 := vI (r 17 (by omega))
  have a18 := vI (r 18 (by omega))
  have a19 := vI (r 19 (by omega))
  have a20 := vI (r 20 (by omega))
  have a43 := vI (r 43 (by omega))
  have a44 := vI (r 44 (by omega))
  have a45 := vJ (r 45 (by omega))
  have a46 := vJ (r 46 (by omega))
  have a47 := vJ (r 47 (by omega))
  have a48 := vJ (r 48 (by omega))
  have a49 := vJ (r 49 (by omega))
  have a50 := vJ (r 50 (by omega))
  obtain ⟨⟨s1, s2, s3, s4, s5⟩, hr⟩ := H
  have j13 : gz_J hc' x 13 = gz_J hc x 13 := vJ (e 13 (by omega) (by omega))
  refine ⟨⟨by omega, k.trans s2, fun f hf => by rw [i1 f (by omega) (by omega), e f (by omega) (by omega)]; exact s3 f hf, fun f h1 h2 => by rw [i1 f (by omega) (by omega), e f (by omega) (by omega)]; exact s4 f h1 h2, by rw [j13, e 13 (by omega) (by omega)]; exact s5⟩, ?_⟩
  rw [i1 0 (by omega) (by omega), i1 1 (by omega) (by omega), i1 2 (by omega) (by omega), i1 3 (by omega) (by omega), i1 6 (by omega) (by omega), i1 7 (by omega) (by omega), i1 8 (by omega) (by omega), i1 9 (by omega) (by omega), i1 10 (by omega) (by omega), i1 11 (by omega) (by omega), i1 12 (by omega) (by omega), j13, a17, a18, a19, a20, a43, a44, a45, a46, a47, a48, a49, a50]
  exact hr
def gsr (g : gz_G) (f n : Nat) : gz_G := fun a b => if a = 2 ∧ b = f then n else if a = 5 ∧ n ≤ b ∧ b < n + 2 then 200 + f else g a b
def sr7 (hc : gz_H) (xf xe : Nat) (t r : Int32) : gz_H := gz_set (gz_set (nwX4 hc xe t r) xf 4 (.ref hc.1)) xe 5 (.ref hc.1)
def sr8 (hr : gz_H) (f : Nat) (e t r : Int32) : gz_H := gz_set (gz_set (gz_set (gz_set hr 37 f (.int 1)) 38 f (.int e)) 39 f (.int t)) 40 f (.int r)
set_option maxHeartbeats 8000000 in
theorem IV_sr {g : gz_G} {hc hr : gz_H} {f e t r : Nat} (H : IV g 0 (fun _ => 0) hc hr) (xf : EX g f) (xe : EX g e) (fe : e / 8 ≠ f / 8) (f37 : gz_I hr 37 f = 0) (t1 : 1 ≤ t) (t60 : t ≤ 60) (r1 : 1 ≤ r) (r60 : r ≤ 60) : IV (gsr g f hc.1) 0 (fun _ => 0) (sr7 hc (g 1 f) (g 1 e) (nI t) (nI r)) (sr8 hr f (nI e) (nI t) (nI r)) := by
  have m := IV_md H
  have h8 := IV_8 H
  have cc := IV_cs H
  obtain ⟨F, HW, HJ, HG, HB, HZ⟩ := H
  obtain ⟨f1, f2, f3, f4, f5, f6, f7, f8, f9, f10, f11, f12, f13, f14, f15, f16⟩ := F
  have ef : e ≠ f := fun z => fe (by rw [z])
  have f64 := xf.1
  have e64 := xe.1
  obtain ⟨of, sf, ovf, ilf⟩ := HB.1 f xf
  obtain ⟨oe, se, ove, ile⟩ := HB.1 e xe
  have gx : ∀ x, x < hc.1 → gsr g f hc.1 5 x = g 5 x := fun x hx => by unfold gsr; rw [if_neg (by omega), if_neg (by omega)]
  have gn : ∀ k, k < 2 → gsr g f hc.1 5 (hc.1 + k) = 200 + f := fun k hk => by unfold gsr; rw [if_neg (by omega), if_pos (by omega)]
  have gn0 := gn 0 (by omega)
  rw [Nat.add_zero] at gn0
  have go : ∀ a b, a ≠ 2 → a ≠ 5 → gsr g f hc.1 a b = g a b := fun a b h1 h2 => by unfold gsr; rw [if_neg (by omega), if_neg (by omega)]
  have g2 : ∀ o, o ≠ f → gsr g f hc.1 2 o = g 2 o := fun o h => by unfold gsr; rw [if_neg (by omega), if_neg (by omega)]
  have g2f : gsr g f hc.1 2 f = hc.1 := by unfold gsr; rw [if_pos ⟨rfl, rfl⟩]
  have X : ∀ s, EX (gsr g f hc.1) s ↔ EX g s := fun s => by unfold EX; rw [go 6 _ (by omega) (by omega)]
  have inj : ∀ s s', EX g s → EX g s' → g 1 s = g 1 s' → s = s' := fun s s' h1 h2 q => by
    have a1 := (HB.1 s h1).1.2
    have a2 := (HB.1 s' h2).1.2
    rw [q, a2] at a1
    omega
  have lf := sf.1.1
  have le := se.1.1
  have lt : ∀ x, x < hc.1 → sm hc (nwX4 hc (g 1 e) (nI t) (nI r)) x := fun x hx => nwX4_sm hc _ _ _ hx
  have nfe : g 1 f ≠ g 1 e := fun q => ef (inj e f xe xf q.symm)
  have sA : ∀ x, x < hc.1 → x ≠ g 1 f → x ≠ g 1 e → sm hc (sr7 hc (g 1 f) (g 1 e) (nI t) (nI r)) x := fun x h1 h2 h3 => sm_set (sm_set (lt x h1) h2) h3
  have vA : ∀ x i, x < hc.1 → ¬ (x = g 1 f ∧ i = 4) → ¬ (x = g 1 e ∧ i = 5) → gz_v (sr7 hc (g 1 f) (g 1 e) (nI t) (nI r)) x i = gz_v hc x i := fun x i h1 h2 h3 => by
    unfold sr7; rw [gz_v_set, if_neg h3, gz_v_set, if_neg h2, (lt x h1).1]
  have vf : gz_v (sr7 hc (g 1 f) (g 1 e) (nI t) (nI r)) (g 1 f) 4 = .ref hc.1 := by
    unfold sr7; rw [gz_v_set, if_neg (by omega), gz_v_set, if_pos ⟨rfl, rfl⟩]
  have ve : gz_v (sr7 hc (g 1 f) (g 1 e) (nI t) (nI r)) (g 1 e) 5 = .ref hc.1 := by
    unfold sr7; rw [gz_v_set, if_pos ⟨rfl, rfl⟩]
  have kk : ∀ x, x < hc.1 → gz_k (sr7 hc (g 1 f) (g 1 e) (nI t) (nI r)) x = gz_k hc x := fun x hx => by
    unfold sr7; rw [gz_k_set, gz_k_set, (lt x hx).2]
  have sN : ∀ k, sm (nwX4 hc (g 1 e) (nI t) (nI r)) (sr7 hc (g 1 f) (g 1 e) (nI t) (nI r)) (hc.1 + k) := fun k => sm_set (sm_set (sm_rf _ _) (by omega)) (by omega)
  have sN0 := sN 0
  rw [Nat.add_zero] at sN0
  obtain ⟨n0, n1, n2, n3, n4, n5, nr, nk, nk1⟩ := nwX4_v hc (g 1 e) (nI t) (nI r)
  have nn : (sr7 hc (g 1 f) (g 1 e) (nI t) (nI r)).1 = hc.1 + 2 := rfl
  have ec : ∀ x, x < hc.1 → g 5 x ≠ 100 + f → g 5 x ≠ 100 + e → sm hc (sr7 hc (g 1 f) (g 1 e) (nI t) (nI r)) x := fun x h1 h2 h3 => sA x h1 (fun z => h2 (by rw [z]; exact of.2)) (fun z => h3 (by rw [z]; exact oe.2))
  generalize hH : sr7 hc (g 1 f) (g 1 e) (nI t) (nI r) = h2 at *
  have M : md (sr8 hr f (nI e) (nI t) (nI r)) := md_setI (md_setI (md_setI (md_setI m _ _ _ (by omega)) _ _ _ (by omega)) _ _ _ (by omega)) _ _ _ (by omega)
  have rr : ∀ b i, (b < 37 ∨ 40 < b) ∨ i ≠ f → gz_v (sr8 hr f (nI e) (nI t) (nI r)) b i = gz_v hr b i := fun b i h => by
    unfold sr8
    rw [gz_v_set, if_neg (by omega), gz_v_set, if_neg (by omega), gz_v_set, if_neg (by omega), gz_v_set, if_neg (by omega)]
  have r37 : gz_I (sr8 hr f (nI e) (nI t) (nI r)) 37 f = 1 := by
    unfold sr8
    rw [I_seto _ _ _ _ _ _ (by omega), I_seto _ _ _ _ _ _ (by omega), I_seto _ _ _ _ _ _ (by omega), I_set, if_pos ⟨rfl, rfl⟩]
  have r38 : gz_I (sr8 hr f (nI e) (nI t) (nI r)) 38 f = nI e := by
    unfold sr8
    rw [I_seto _ _ _ _ _ _ (by omega), I_seto _ _ _ _ _ _ (by omega), I_set, if_pos ⟨rfl, rfl⟩]
  have r39 : gz_I (sr8 hr f (nI e) (nI t) (nI r)) 39 f = nI t := by
    unfold sr8
    rw [I_seto _ _ _ _ _ _ (by omega), I_set, if_pos ⟨rfl, rfl⟩]
  have r40 : gz_I (sr8 hr f (nI e) (nI t) (nI r)) 40 f = nI r := by
    unfold sr8
    rw [I_set, if_pos ⟨rfl, rfl⟩]
  have R : ∀ i, i < 8 → ro hr (sr8 hr f (nI e) (nI t) (nI r)) i := fun i h1 => ro_set (ro_set (ro_set (ro_set (ro_rf _ _) (by simp [rj] <;> omega)) (by simp [rj] <;> omega)) (by simp [rj] <;> omega)) (by simp [rj] <;> omega)
  have RS : ∀ s, s ≠ f → so hr (sr8 hr f (nI e) (nI t) (nI r)) s := fun s h2 => so_set (so_set (so_set (so_set (so_rf _ _) (by simp [rt] <;> omega)) (by simp [rt] <;> omega)) (by simp [rt] <;> omega)) (by simp [rt] <;> omega)
  generalize hR : sr8 hr f (nI e) (nI t) (nI r) = h3 at *
  have mm : hc.1 ≤ h2.1 := by omega
  have e15 : ∀ x, x < 15 → sm hc h2 x := fun x hx => ec x (by omega) (by rw [f15 x hx]; omega) (by rw [f15 x hx]; omega)
  have g7 := go 7 0 (by omega) (by omega)
  have g6 : ∀ i, gsr g f hc.1 6 i = g 6 i := fun i => go 6 i (by omega) (by omega)
  have g0 : ∀ i, gsr g f hc.1 0 i = g 0 i := fun i => go 0 i (by omega) (by omega)
  have g1 : ∀ i, gsr g f hc.1 1 i = g 1 i := fun i => go 1 i (by omega) (by omega)
  have g3 : ∀ i, gsr g f hc.1 3 i = g 3 i := fun i => go 3 i (by omega) (by omega)
  have HZ' := HZ
  obtain ⟨z1, z2, z3⟩ := HZ
  have st : ∀ o, o < 64 → gz_I hr 37 o = 1 → gsr g f hc.1 2 o = g 2 o ∧ gz_v h2 (g 2 o) 1 = gz_v hc (g 2 o) 1 := fun o ho h => by
    have tt := HB.2 o ho h
    refine ⟨g2 o (fun z => ?_), by rw [(ec _ tt.2.2.2.1.1 (by rw [tt.2.1]; omega) (by rw [tt.2.1]; omega)).1]⟩
    rw [z, f37] at h
    exact absurd h (by decide)
  refine ⟨⟨M, ?_, wc_sm mm (fun x _ hx => e15 x hx) f3, ac_sm (fun x _ hx => e15 x hx) f4, yc_sm (fun x _ hx => e15 x hx) f5, by rw [g7]; exact f6, by rw [g7, vI (rr _ _ (by omega))]; exact f7, by rw [(e15 0 (by omega)).1]; exact f8, by rw [vI (rr _ _ (by omega))]; exact f9, f10, fun i hi => by rw [vI (rr _ _ (by omega)), g6]; exact f11 i hi, fun i => by rw [g6]; exact f12 i, fun i hi => by rw [g6]; exact f13 i (by omega), by omega, fun x hx => by rw [gx x (by omega)]; exact f15 x hx, fun x q1 q2 => by rw [gx x (by omega)]; exact f16 x q1 q2⟩, ?_, fun i hi => ?_, fun i hi => ?_, ⟨fun s hs => ?_, fun o ho h => ?_⟩, ⟨fun i q1 q2 => ?_, fun s q1 q2 => ?_, fun s q1 q2 => ?_⟩⟩
  · rw [g7]
    exact cs_fr mm (fun x hx => (e15 x hx).2) (fun f _ => by rw [(e15 0 (by omega)).1]) (fun f q1 q2 => by rw [sm_I (e15 0 (by omega)), (e15 0 (by omega)).1]; exact cc.2.2.2.2.2.2.2.2.2.2.2.2.2.2.2.2.2.2.2.2.2.1 f q1 q2) (fun i _ => by rw [(e15 1 (by omega)).1]) cc
  · unfold WV at *
    rw [(e15 0 (by omega)).1, vI (rr 15 18 (by omega)), vI (rr 15 19 (by omega)), vI (rr 15 20 (by omega)), vI (rr 15 21 (by omega))]
    exact HW
  · exact JV_fr (by omega) mm ⟨g0 i, g6 i, fun u hu => g1 _, g3 _, g3 _⟩ (fun x hx hg => ⟨gx x hx, ec x hx (by omega) (by omega)⟩) (by rw [(e15 1 (by omega)).1]) (R i (by omega)) (HJ i (by omega))
  · have V' := HJ i (by omega)
    have a1 := JV_lt V' 0 (by omega)
    have a2 := V'.1.2.2.2.1 0 (by omega)
    rw [Nat.add_zero] at a1 a2
    exact WG_fr (g0 i) (g6 i) (by rw [(ec _ a1 (by omega) (by omega)).1]) (fun u hu => rr _ _ (by omega)) (HG i (by omega))
  · have hs := (X s).mp hs
    obtain ⟨b1, b2, b3, b4⟩ := HB.1 s hs
    have bl := b2.1.1
    refine ⟨?_, ?_, ?_, ?_⟩
    · unfold SO; rw [g1, gx _ bl]; exact b1
    · rw [g1]
      exact SV_f mm (kk _ bl) (fun i q1 q2 => vA _ i bl (by omega) (by omega)) (fun b hb => rr _ _ (by omega)) b2
    · by_cases q : s = f
      · subst q
        exact Or.inr ⟨r37, by rw [g1, g2f]; exact vf⟩
      · exact OV_fr (g1 s) (fun _ => g2 s q) (vA _ 4 bl (fun z => q (inj s f hs xf z.1)) (by omega)) (rr _ _ (Or.inr q)) b3
    · by_cases q : s = e
      · subst q
        obtain ⟨l, l1, l2, l3⟩ := b4
        refine ⟨f :: l, ⟨?_, ?_⟩, ?_, fun o => ?_⟩
        · rw [g1, g2f]; exact ve
        · rw [g2f, sN0.1, n1]
          exact inl_fr l _ (fun o ho => st o ((l3 o).mp ho).1 ((l3 o).mp ho).2.1) l1
        · refine List.nodup_cons.mpr ⟨fun z => ?_, l2⟩
          have := ((l3 f).mp z).2.1
          rw [f37] at this
          exact absurd this (by decide)
        · rw [List.mem_cons, l3 o]
          by_cases w : o = f
          · subst w
            exact ⟨fun _ => ⟨f64, r37, r38⟩, fun _ => Or.inl rfl⟩
          · rw [vI (rr 37 o (Or.inr w)), vI (rr 38 o (Or.inr w))]
            exact ⟨fun z => z.resolve_left w, Or.inr⟩
      · obtain ⟨l, l1, l2, l3⟩ := b4
        refine ⟨l, ?_, l2, fun o => ?_⟩
        · rw [g1, vA _ 5 bl (by omega) (fun z => q (inj s e hs xe z.1))]
          exact inl_fr l _ (fun o ho => st o ((l3 o).mp ho).1 ((l3 o).mp ho).2.1) l1
        · rw [l3 o]
          by_cases w : o = f
          · subst w
            rw [f37, r37, r38]
            refine ⟨fun z => absurd z.2.1 (by decide), fun z => absurd ((nI_eq (by omega) (by have := hs.1; omega)).mp z.2.2) (Ne.symm q)⟩
          · rw [vI (rr 37 o (Or.inr w)), vI (rr 38 o (Or.inr w))]
  · by_cases q : o = f
    · subst q
      have i0 : ∀ i x, gz_v (nwX4 hc (g 1 e) (nI t) (nI r)) hc.1 i = .int x → gz_I h2 hc.1 i = x := fun i x w => by rw [sm_I sN0]; exact gz_I_of w
      have i1 : ∀ i, gz_I h2 (hc.1 + 1) i = 0 := fun i => by rw [sm_I (sN 1)]; exact gz_I_of (nr i)
      have t0 : ∀ i x, gz_v (nwX4 hc (g 1 e) (nI t) (nI r)) hc.1 i = .int x → gz_v h2 hc.1 i = .int (gz_I h2 hc.1 i) := fun i x w => by rw [i0 i x w, sN0.1]; exact w
      refine ⟨by rw [g2f]; omega, by rw [g2f]; exact gn0, by rw [g2f]; exact gn 1 (by omega), ?_, e, t, r, 0, fun _ => 0, (X e).mpr xe, fe, by rw [g2f, g1, sN0.1]; exact n0, r38, by rw [g2f]; exact i0 _ _ n2, r39, t1, t60, by rw [g2f]; exact i0 _ _ n3, r40, r1, r60, by rw [g2f]; exact i0 _ _ n5, ?_, by omega, fun k hk => by omega, fun k hk => by omega, fun y hy => ?_⟩
      · rw [g2f]
        refine ⟨by omega, by omega, by rw [sN0.2]; exact nk, by rw [(sN 1).2]; exact nk1, t0 _ _ n2, t0 _ _ n3, by rw [sN0.1]; exact n4, t0 _ _ n5, fun i => by rw [i1 i, (sN 1).1]; exact nr i⟩
      · rw [vI (rr 41 o (by omega))]
        exact z3 o ho f37
      · rw [g2f, i1 y]
        exact ⟨fun z => absurd rfl z, fun ⟨k, hk, _⟩ => by omega⟩
    · rw [vI (rr 37 o (Or.inr q))] at h
      exact TV_fr ho mm (g2 o q) (fun u hu => ⟨(X u).mpr hu, g1 u⟩) (fun x hx hg => ⟨(gx x hx).trans hg, ec x hx (by omega) (by omega)⟩) (RS o q) (HB.2 o ho h)
  · rw [g7] at q1
    obtain ⟨a1, a2, a3, a4, a5, a6⟩ := z1 i q1 q2
    rw [vI (rr 23 i (by omega)), vI (rr 23 (8 + i) (by omega)), vI (rr 30 i (by omega)), vI (rr 31 i (by omega))]
    exact ⟨a1, a2, a3, a4, fun u hu => by rw [vI (rr 21 _ (by omega)), vI (rr 22 _ (by omega))]; exact a5 u hu, fun u hu => by rw [vI (rr 52 _ (by omega))]; exact a6 u hu⟩
  · have nx : ¬ EX g s := fun z => q2 ((X s).mpr z)
    have sf' : s ≠ f := fun z => nx (by rw [z]; exact xf)
    obtain ⟨a1, a2, a3, a4, a5⟩ := z2 s q1 nx
    rw [vI (rr 37 s (Or.inr sf')), vI (rr 43 s (by omega)), vI (rr 44 s (by omega)), vI (rr 51 s (by omega))]
    exact ⟨a1, a2, a3, a4, fun b w1 w2 => by rw [vJ (rr b s (by omega))]; exact a5 b w1 w2⟩
  · by_cases w : s = f
    · rw [w, r37] at q2; exact absurd q2 (by decide)
    · rw [vI (rr 37 s (Or.inr w))] at q2
      rw [vI (rr 41 s (by omega))]
      exact z3 s q1 q2
