def gst (g : gz_G) (j n : Nat) : gz_G := fun a b => if a = 1 ∧ b = 8 * j + g 6 j then n else if a = 6 ∧ b = j then g 6 j + 1 else if a = 5 ∧ b = n then 100 + (8 * j + g 6 j) else g a b
def st7 (hc : gz_H) (a S : Nat) (k c r l : Int32) : gz_H := gz_set (gz_set (nwX3 hc k c r l) (a + 1) S (.ref hc.1)) a 5 (.int (nI (S + 1)))
def st8 (hr : gz_H) (j S : Nat) (k c r l : Int32) : gz_H := gz_set (gz_set (gz_set (gz_set (gz_set hr 16 j (.int (nI (S + 1)))) 17 (8 * j + S) (.int k)) 18 (8 * j + S) (.int c)) 19 (8 * j + S) (.int r)) 20 (8 * j + S) (.int l)
set_option maxHeartbeats 8000000 in
theorem IV_st {g : gz_G} {P : Nat → Nat} {hc hr : gz_H} {j k c r l : Nat} (H : IV g 0 P hc hr) (hP : P = fun _ => 0) (hj : j < g 7 0) (hS : g 6 j < 8) (p3 : gz_I hr 23 j = 0) (p4 : gz_I hr 23 (8 + j) = 0) (p5 : gz_v hc (g 0 j) 6 = .null) (p6 : gz_v hc (g 0 j) 7 = .null) (k3 : k ≤ 3) (c36 : c ≤ 3600) (r6 : 600 ≤ r) (r36 : r ≤ 3600) (l4 : 4 ≤ l) (l30 : l ≤ 30) : IV (gst g j hc.1) 0 P (st7 hc (g 0 j) (g 6 j) (nI k) (nI c) (nI r) (nI l)) (st8 hr j (g 6 j) (nI k) (nI c) (nI r) (nI l)) := by
  have m := IV_md H
  have h8 := IV_8 H
  have cc := IV_cs H
  obtain ⟨F, HW, HJ, HG, HB, HZ⟩ := H
  obtain ⟨f1, f2, f3, f4, f5, f6, f7, f8, f9, f10, f11, f12, f13, f14, f15, f16⟩ := F
  have V := HJ j hj
  have al := JV_lt V
  obtain ⟨V1, V2, V3, V4, V5⟩ := V
  have a55 := V1.1
  have al1 := al 1 (by omega)
  have al0 := al 0 (by omega)
  rw [Nat.add_zero] at al0
  have co := V1.2.2.2.1
  have co0 := co 0 (by omega)
  rw [Nat.add_zero] at co0
  have co1 := co 1 (by omega)
  -- the ghost
  have gx : ∀ x, x < hc.1 → gst g j hc.1 5 x = g 5 x := fun x hx => by unfold gst; rw [if_neg (by omega), if_neg (by omega), if_neg (by omega)]
  have gn : gst g j hc.1 5 hc.1 = 100 + (8 * j + g 6 j) := by unfold gst; rw [if_neg (by omega), if_neg (by omega), if_pos ⟨rfl, rfl⟩]
  have go : ∀ a b, a ≠ 1 → a ≠ 5 → a ≠ 6 → gst g j hc.1 a b = g a b := fun a b h1 h2 h3 => by unfold gst; rw [if_neg (by omega), if_neg (by omega), if_neg (by omega)]
  have g1 : ∀ s, s ≠ 8 * j + g 6 j → gst g j hc.1 1 s = g 1 s := fun s h => by unfold gst; rw [if_neg (by omega), if_neg (by omega), if_neg (by omega)]
  have g1s : gst g j hc.1 1 (8 * j + g 6 j) = hc.1 := by unfold gst; rw [if_pos ⟨rfl, rfl⟩]
  have g6 : ∀ i, i ≠ j → gst g j hc.1 6 i = g 6 i := fun i h => by unfold gst; rw [if_neg (by omega), if_neg (by omega), if_neg (by omega)]
  have g6j : gst g j hc.1 6 j = g 6 j + 1 := by unfold gst; rw [if_neg (by omega), if_pos ⟨rfl, rfl⟩]
  have exn : ¬ EX g (8 * j + g 6 j) := fun z => by
    have := z.2
    rw [show (8 * j + g 6 j) % 8 = g 6 j by omega, show (8 * j + g 6 j) / 8 = j by omega] at this
    omega
  have X : ∀ s, EX (gst g j hc.1) s ↔ (EX g s ∨ s = 8 * j + g 6 j) := fun s => by
    unfold EX
    by_cases q : s / 8 = j
    · rw [q, g6j]
      constructor
      · intro w
        by_cases z : s % 8 < g 6 j
        · exact Or.inl ⟨w.1, z⟩
        · exact Or.inr (by omega)
      · intro w
        rcases w with w | w
        · exact ⟨w.1, by omega⟩
        · exact ⟨by omega, by omega⟩
    · rw [g6 _ q]
      constructor
      · intro w; exact Or.inl w
      · intro w
        rcases w with w | w
        · exact w
        · omega
  -- the class's heap
  have lt : ∀ x, x < hc.1 → sm hc (nwX3 hc (nI k) (nI c) (nI r) (nI l)) x := fun x hx => nwX3_sm hc _ _ _ _ hx
  have sA : ∀ x, x < hc.1 → x ≠ g 0 j → x ≠ g 0 j + 1 → sm hc (st7 hc (g 0 j) (g 6 j) (nI k) (nI c) (nI r) (nI l)) x := fun x h1 h2 h3 => sm_set (sm_set (lt x h1) h3) h2
  have sN : sm (nwX3 hc (nI k) (nI c) (nI r) (nI l)) (st7 hc (g 0 j) (g 6 j) (nI k) (nI c) (nI r) (nI l)) hc.1 := sm_set (sm_set (sm_rf _ _) (by omega)) (by omega)
  have vA : ∀ f, f ≠ 5 → gz_v (st7 hc (g 0 j) (g 6 j) (nI k) (nI c) (nI r) (nI l)) (g 0 j) f = gz_v hc (g 0 j) f := fun f hf => by
    unfold st7; rw [gz_v_set, if_neg (fun z => hf z.2), gz_v_set, if_neg (by omega), (lt _ al0).1]
  have vB : ∀ i, i ≠ g 6 j → gz_v (st7 hc (g 0 j) (g 6 j) (nI k) (nI c) (nI r) (nI l)) (g 0 j + 1) i = gz_v hc (g 0 j + 1) i := fun i hi => by
    unfold st7; rw [gz_v_set, if_neg (by omega), gz_v_set, if_neg (fun z => hi z.2), (lt _ al1).1]
  have vBs : gz_v (st7 hc (g 0 j) (g 6 j) (nI k) (nI c) (nI r) (nI l)) (g 0 j + 1) (g 6 j) = .ref hc.1 := by
    unfold st7; rw [gz_v_set, if_neg (by omega), gz_v_set, if_pos ⟨rfl, rfl⟩]
  have jk : jc (st7 hc (g 0 j) (g 6 j) (nI k) (nI c) (nI r) (nI l)) (g 0 j) (g 6 j + 1) := jc_add (jc_sm (by rw [nwX3_n]; omega) (fun u hu => lt _ (al u hu)) V1.2.1)
  have nn : (st7 hc (g 0 j) (g 6 j) (nI k) (nI c) (nI r) (nI l)).1 = hc.1 + 1 := rfl
  obtain ⟨n0, n1, n2, n3, n4, n5, n6, n13, nk⟩ := nwX3_v hc (nI k) (nI c) (nI r) (nI l)
  have nsc := nwX3_sc hc (nI k) (nI c) (nI r) (nI l)
  have ec : ∀ x, x < hc.1 → g 5 x ≠ 1 + j → sm hc (st7 hc (g 0 j) (g 6 j) (nI k) (nI c) (nI r) (nI l)) x := fun x h1 h2 => sA x h1 (fun z => h2 (by rw [z]; exact co0)) (fun z => h2 (by rw [z]; exact co1))
  generalize hH : st7 hc (g 0 j) (g 6 j) (nI k) (nI c) (nI r) (nI l) = h2 at *
  -- the reference's heap
  have M : md (st8 hr j (g 6 j) (nI k) (nI c) (nI r) (nI l)) := md_setI (md_setI (md_setI (md_setI (md_setI m _ _ _ (by omega)) _ _ _ (by omega)) _ _ _ (by omega)) _ _ _ (by omega)) _ _ _ (by omega)
  have rr : ∀ b i, b < 16 ∨ 20 < b → gz_v (st8 hr j (g 6 j) (nI k) (nI c) (nI r) (nI l)) b i = gz_v hr b i := fun b i h => by
    unfold st8
    rw [gz_v_set, if_neg (by omega), gz_v_set, if_neg (by omega), gz_v_set, if_neg (by omega), gz_v_set, if_neg (by omega), gz_v_set, if_neg (by omega)]
  have r16 : ∀ i, gz_I (st8 hr j (g 6 j) (nI k) (nI c) (nI r) (nI l)) 16 i = if i = j then nI (g 6 j + 1) else gz_I hr 16 i := fun i => by
    unfold st8
    rw [I_seto _ _ _ _ _ _ (by omega), I_seto _ _ _ _ _ _ (by omega), I_seto _ _ _ _ _ _ (by omega), I_seto _ _ _ _ _ _ (by omega), I_set]
    by_cases q : i = j
    · rw [if_pos ⟨rfl, q⟩, if_pos q]
    · rw [if_neg (fun z => q z.2), if_neg q]
  have r17 : gz_I (st8 hr j (g 6 j) (nI k) (nI c) (nI r) (nI l)) 17 (8 * j + g 6 j) = nI k := by
    unfold st8
    rw [I_seto _ _ _ _ _ _ (by omega), I_seto _ _ _ _ _ _ (by omega), I_seto _ _ _ _ _ _ (by omega), I_set, if_pos ⟨rfl, rfl⟩]
  have r18 : gz_I (st8 hr j (g 6 j) (nI k) (nI c) (nI r) (nI l)) 18 (8 * j + g 6 j) = nI c := by
    unfold st8
    rw [I_seto _ _ _ _ _ _ (by omega), I_seto _ _ _ _ _ _ (by omega), I_set, if_pos ⟨rfl, rfl⟩]
  have r19 : gz_I (st8 hr j (g 6 j) (nI k) (nI c) (nI r) (nI l)) 19 (8 * j + g 6 j) = nI r := by
    unfold st8
    rw [I_seto _ _ _ _ _ _ (by omega), I_set, if_pos ⟨rfl, rfl⟩]
  have r20 : gz_I (st8 hr j (g 6 j) (nI k) (nI c) (nI r) (nI l)) 20 (8 * j + g 6 j) = nI l := by
    unfold st8
    rw [I_set, if_pos ⟨rfl, rfl⟩]
  have R : ∀ i, i < 8 → i ≠ j → ro hr (st8 hr j (g 6 j) (nI k) (nI c) (nI r) (nI l)) i := fun i h1 h2 => ro_set (ro_set (ro_set (ro_set (ro_set (ro_rf _ _) (by simp [rj] <;> omega)) (by simp [rj] <;> omega)) (by simp [rj] <;> omega)) (by simp [rj] <;> omega)) (by simp [rj] <;> omega)
  have RS : ∀ s, s < 64 → s ≠ 8 * j + g 6 j → so hr (st8 hr j (g 6 j) (nI k) (nI c) (nI r) (nI l)) s := fun s h1 h2 => so_set (so_set (so_set (so_set (so_set (so_rf _ _) (by simp [rt] <;> omega)) (by simp [rt] <;> omega)) (by simp [rt] <;> omega)) (by simp [rt] <;> omega)) (by simp [rt] <;> omega)
  have RA : ∀ d, d ≠ 0 → ra hr (st8 hr j (g 6 j) (nI k) (nI c) (nI r) (nI l)) d := fun d h => ra_set (ra_set (ra_set (ra_set (ra_set (ra_rf _ _) (by simp [rq] <;> omega)) (by simp [rq] <;> omega)) (by simp [rq] <;> omega)) (by simp [rq] <;> omega)) (by simp [rq] <;> omega)
  generalize hR : st8 hr j (g 6 j) (nI k) (nI c) (nI r) (nI l) = h3 at *
  have mm : hc.1 ≤ h2.1 := by omega
  have e15 : ∀ x, x < 15 → sm hc h2 x := fun x hx => ec x (by omega) (by rw [f15 x hx]; omega)
  have g7 := go 7 0 (by omega) (by omega) (by omega)
  have ga0 : ∀ i, gst g j hc.1 0 i = g 0 i := fun i => go 0 i (by omega) (by omega) (by omega)
  have ga2 : ∀ i, gst g j hc.1 2 i = g 2 i := fun i => go 2 i (by omega) (by omega) (by omega)
  have ga3 : ∀ i, gst g j hc.1 3 i = g 3 i := fun i => go 3 i (by omega) (by omega) (by omega)
  obtain ⟨z1, z2, z3⟩ := HZ
  obtain ⟨y1, y2, y3, y4, y5⟩ := z2 (8 * j + g 6 j) (by omega) exn
  refine ⟨⟨M, ?_, wc_sm mm (fun x _ hx => e15 x hx) f3, ac_sm (fun x _ hx => e15 x hx) f4, yc_sm (fun x _ hx => e15 x hx) f5, by rw [g7]; exact f6, by rw [g7, vI (rr _ _ (by omega))]; exact f7, by rw [(e15 0 (by omega)).1]; exact f8, by rw [vI (rr _ _ (by omega))]; exact f9, f10, fun i hi => ?_, fun i => ?_, fun i hi => ?_, by omega, fun x hx => by rw [gx x (by omega)]; exact f15 x hx, fun x q1 q2 => by rw [gx x (by omega)]; exact f16 x q1 q2⟩, ?_, fun i hi => ?_, fun i hi => ?_, ⟨fun s hs => ?_, fun o ho h => ?_⟩, ⟨fun i q1 q2 => ?_, fun s q1 q2 => ?_, fun s q1 q2 => ?_⟩⟩
  · rw [g7]
    exact cs_fr mm (fun x hx => (e15 x hx).2) (fun f _ => by rw [(e15 0 (by omega)).1]) (fun f q1 q2 => by rw [sm_I (e15 0 (by omega)), (e15 0 (by omega)).1]; exact cc.2.2.2.2.2.2.2.2.2.2.2.2.2.2.2.2.2.2.2.2.2.1 f q1 q2) (fun i _ => by rw [(e15 1 (by omega)).1]) cc
  · rw [r16 i]
    by_cases q : i = j
    · rw [if_pos q, q, g6j]
    · rw [if_neg q, g6 i q]; exact f11 i hi
  · by_cases q : i = j
    · rw [q, g6j]; omega
    · rw [g6 i q]; exact f12 i
  · rw [g7] at hi
    rw [g6 i (by omega)]; exact f13 i hi
  · unfold WV at *
    rw [(e15 0 (by omega)).1, vI (rr 15 18 (by omega)), vI (rr 15 19 (by omega)), vI (rr 15 20 (by omega)), vI (rr 15 21 (by omega))]
    exact HW
  · rw [g7] at hi
    by_cases q : i = j
    · subst q
      unfold JV
      rw [ga0]
      refine ⟨⟨by rw [ga0]; exact a55, by rw [ga0, g6j]; exact jk, by rw [ga0, (e15 1 (by omega)).1]; exact V1.2.2.1, fun u hu => by rw [ga0, gx _ (al u hu)]; exact co u hu, fun u hu => ?_⟩, J2_fr (sA _ (al 2 (by omega)) (by omega) (by omega)) (sA _ (al 3 (by omega)) (by omega) (by omega)) (sA _ (al 4 (by omega)) (by omega) (by omega)) (RA _ (by omega)) V2, Or.inl ⟨by rw [vI (rr _ _ (by omega))]; exact p3, by rw [ga0, vA 6 (by omega)]; exact p5⟩, Or.inl ⟨by rw [vI (rr _ _ (by omega))]; exact p4, by rw [ga0, vA 7 (by omega)]; exact p6⟩, J5_fr (fun f q1 q2 => vA f (by omega)) (sA _ (al 5 (by omega)) (by omega) (by omega)) (RA _ (by omega)) V5⟩
      rw [g6j] at hu
      rw [ga0]
      by_cases w : u = g 6 i
      · rw [w, g1s]; exact vBs
      · rw [g1 _ (by omega), vB u w]; exact V1.2.2.2.2 u (by omega)
    · exact JV_fr (by omega) mm ⟨ga0 i, g6 i q, fun u hu => g1 _ (by have := f12 i; omega), ga3 _, ga3 _⟩ (fun x hx hg => ⟨gx x hx, ec x hx (by omega)⟩) (by rw [(e15 1 (by omega)).1]) (R i (by omega) q) (HJ i hi)
  · rw [g7] at hi
    by_cases q : i = j
    · subst q
      have W := HG i hi
      refine ⟨fun u hu => ?_, fun z => ?_⟩
      · rw [g6j] at hu
        rw [ga0, vI (vA 10 (by omega)), vI (rr _ _ (by omega))]
        by_cases w : u = g 6 i
        · rw [w, y4, W.2 rfl, b_0]; rfl
        · exact W.1 u (by omega)
      · rw [ga0, vI (vA 10 (by omega))]; exact W.2 z
    · have V' := HJ i hi
      have a1 := JV_lt V' 0 (by omega)
      have a2 := V'.1.2.2.2.1 0 (by omega)
      rw [Nat.add_zero] at a1 a2
      exact WG_fr (ga0 i) (g6 i q) (by rw [(ec _ a1 (by omega)).1]) (fun u hu => rr _ _ (by omega)) (HG i hi)
  · have st : ∀ o, o < 64 → gz_I hr 37 o = 1 → gst g j hc.1 2 o = g 2 o ∧ gz_v h2 (g 2 o) 1 = gz_v hc (g 2 o) 1 := fun o ho h => by
      have t := HB.2 o ho h
      exact ⟨ga2 o, by rw [(ec _ t.2.2.2.1.1 (by rw [t.2.1]; omega)).1]⟩
    by_cases q : s = 8 * j + g 6 j
    · subst q
      have i0 : ∀ f x, gz_v (nwX3 hc (nI k) (nI c) (nI r) (nI l)) hc.1 f = .int x → gz_I h2 hc.1 f = x := fun f x e => by rw [sm_I sN]; exact gz_I_of e
      have j0 : gz_J h2 hc.1 13 = 0 := by rw [sm_J sN]; unfold gz_J; rw [n13]
      rw [hP]
      refine ⟨⟨by rw [g1s]; omega, by rw [g1s]; exact gn⟩, ?_, Or.inl ⟨?_, ?_⟩, [], ?_, List.nodup_nil, fun o => ?_⟩
      · rw [g1s]
        refine ⟨sc_sm (by rw [nwX3_n]; omega) sN nsc, ⟨by rw [i0 _ _ n0, r17], k, k3, r17⟩, ⟨by rw [i0 _ _ n1, r18], c, c36, r18⟩, ⟨by rw [i0 _ _ n2, r19], r, r6, r36, r19⟩, ⟨by rw [i0 _ _ n3, r20], l, l4, l30, r20⟩, ⟨?_, 0, by omega, ?_⟩, ⟨?_, 0, by omega, ?_⟩, ⟨0, by omega, ?_, ?_⟩, ⟨0, by omega, ?_, ?_⟩, ⟨0, by omega, ?_, ?_⟩, ⟨0, by omega, ?_, ?_⟩, ⟨0, by omega, ?_, ?_⟩, ?_⟩
        · rw [i0 _ _ (n6 6 (by omega) (by omega)), vI (rr _ _ (by omega)), y2]
        · rw [vI (rr _ _ (by omega)), y2]; rfl
        · rw [i0 _ _ (n6 7 (by omega) (by omega)), vI (rr _ _ (by omega)), y3]
        · rw [vI (rr _ _ (by omega)), y3]; rfl
        · rw [i0 _ _ (n6 8 (by omega) (by omega))]; rfl
        · rw [vJ (rr _ _ (by omega)), y5 _ (by omega) (by omega)]; rfl
        · rw [i0 _ _ (n6 9 (by omega) (by omega))]; rfl
        · rw [vJ (rr _ _ (by omega)), y5 _ (by omega) (by omega)]; rfl
        · rw [i0 _ _ (n6 10 (by omega) (by omega))]; rfl
        · rw [vJ (rr _ _ (by omega)), y5 _ (by omega) (by omega)]; rfl
        · rw [i0 _ _ (n6 11 (by omega) (by omega))]; rfl
        · rw [vJ (rr _ _ (by omega)), y5 _ (by omega) (by omega)]; rfl
        · rw [i0 _ _ (n6 12 (by omega) (by omega))]; rfl
        · rw [vJ (rr _ _ (by omega)), y5 _ (by omega) (by omega)]; rfl
        · rw [j0, vJ (rr _ _ (by omega)), y5 _ (by omega) (by omega)]
      · rw [vI (rr _ _ (by omega))]; exact y1
      · rw [g1s, sN.1]; exact n4
      · show gz_v h2 (gst g j hc.1 1 (8 * j + g 6 j)) 5 = .null
        rw [g1s, sN.1]; exact n5
      · constructor
        · intro w; cases w
        · rintro ⟨w1, w2, w3⟩
          rw [vI (rr _ _ (by omega))] at w2 w3
          obtain ⟨-, -, -, -, e, tm, rm, nq, D, d1, d2, d3, d4, -⟩ := HB.2 o w1 w2
          rw [d4] at w3
          have : e = 8 * j + g 6 j := (nI_eq (by have := d1.1; omega) (by omega)).mp w3
          rw [this] at d1
          exact absurd d1 exn
    · have hs := ((X s).mp hs).resolve_right q
      obtain ⟨b1, b2, b3, b4⟩ := HB.1 s hs
      have cs := ec _ b2.1.1 (by rw [b1.2]; omega)
      refine ⟨?_, ?_, OV_fr (g1 s q) (fun _ => ga2 s) (by rw [cs.1]) (rr _ _ (by omega)) b3, IL_fr (g1 s q) (by rw [cs.1]) st (fun o ho => ⟨rr _ _ (by omega), rr _ _ (by omega)⟩) b4⟩
      · unfold SO; rw [g1 s q, gx _ b2.1.1]; exact b1
      · rw [g1 s q]; exact SV_fr mm cs (RS s hs.1 q) b2
  · rw [vI (rr _ _ (by omega))] at h
    have t := HB.2 o ho h
    have oq : o ≠ 8 * j + g 6 j := fun z => by
      rw [z, y1] at h
      exact absurd h (by decide)
    exact TV_fr ho mm (ga2 o) (fun e he => ⟨(X e).mpr (Or.inl he), g1 e (fun z => exn (by rw [← z]; exact he))⟩) (fun x hx hg => ⟨(gx x hx).trans hg, ec x hx (by omega)⟩) (RS o ho oq) t
  · rw [g7] at q1
    obtain ⟨a1, a2, a3, a4, a5, a6⟩ := z1 i q1 q2
    rw [vI (rr 23 i (by omega)), vI (rr 23 (8 + i) (by omega)), vI (rr 30 i (by omega)), vI (rr 31 i (by omega))]
    exact ⟨a1, a2, a3, a4, fun u hu => by rw [vI (rr 21 _ (by omega)), vI (rr 22 _ (by omega))]; exact a5 u hu, fun u hu => by rw [vI (rr 52 _ (by omega))]; exact a6 u hu⟩
  · obtain ⟨a1, a2, a3, a4, a5⟩ := z2 s q1 (fun z => q2 ((X s).mpr (Or.inl z)))
    rw [vI (rr 37 s (by omega)), vI (rr 43 s (by omega)), vI (rr 44 s (by omega)), vI (rr 51 s (by omega))]
    exact ⟨a1, a2, a3, a4, fun b w1 w2 => by rw [vJ (rr b s (by omega))]; exact a5 b w1 w2⟩
  · rw [vI (rr 37 s (by omega))] at q2
    rw [vI (rr 41 s (by omega))]
    exact z3 s q1 q2
