def R_law : String := "GreenDeskLaw"
def lw_P (b : Addr) (xs : List Int32) (args : Array Value) (s : State) : Prop := args = #[.ref b] ∧ s.IntsAt b xs ∧ xs.length ≤ 4608 ∧ (Jvm.Cond.and given_1 narrow_1).before args s = true
def lw_Q (_ : Array Value) (s : State) (o : Outcome) (t : State) : Prop := o = .returned (some (.int 1)) ∧ Framed s o t [] 600000 7302250
def lw_Z (below : List Frame) (a : Array Value) (s : State) : State → Prop := fun t => ∃ o, t.status = .running ∧ Ended t below o ∧ lw_Q a s o t
/-- the law's own end, with 1 on the stack, nothing written that was there before, its room as the claim has it -/
theorem lw_ret {p : Program} {l : Launch} {e : Env} {s : State} {m : MethodId} {below : List Frame} {meth : Method} {c : Code} {b : Nat} (hx : p.tables.exec = Jvm.exec) (hb : c.code = code) (hr : meth.sig.returnType = ret) (hlocks : meth.locks = false) {pc : Nat} {H : Heap} {ls : Array Slot} (hdg : decode code pc = .ok (.ireturn, 1)) : W p l e room_1 s m #[Value.ref b] below meth c H [] 600000 7302250 (lw_Z below #[Value.ref b] s) (F0 m pc ls [.int 1]) := by
  intro T hT X
  obtain ⟨fs, hret, hrun, hended, hW, hframe⟩ := X.leave (v := some (.int 1)) (hlocks := hlocks) (fun h => by rw [hr] at h; cases h)
  have hmeth' : T.vm.method? m = some meth := X.method'
  refine ⟨T.setFrames fs, ?_, .returned (some (.int 1)), hrun, hended, rfl, ⟨_, rfl⟩, hW, hframe⟩
  jvm_step X.here [X.here.top, hx, hb, hdg, hmeth', hr, ret, narrow_b1]
  (try refine ⟨rfl, ?_⟩); (try refine ⟨rfl, ?_⟩)
  first | (intro acts; rw [hret _ acts rfl rfl rfl]) | rw [hret _ _ rfl rfl rfl]
  exact Steps.refl _
/-- what holds at the law's entry: the machine, the code, the tables' words (any of lw_tbl by 'hts w (by decide +kernel)'), the script of L ints xs at the cell b, what the Statement gives of the start (any of its parts by flat_of_before) -/
def lw_At (p : Program) (s : State) (m : MethodId) (meth : Method) (c : Code) (b L : Nat) (xs : Nat → Int32) : Prop :=
  p.tables.exec = Jvm.exec ∧ c.code = code ∧ meth.sig.returnType = ret ∧ c.maxLocals = 4 ∧ s.vm.findClass R_law = some m.cls ∧ (∀ w ∈ lw_tbl, w.before #[Value.ref b] s = true) ∧ va_X b L xs s s.heap ∧ b < s.heap.size ∧ meth.locks = false ∧ (Jvm.Cond.and given_1 narrow_1).before #[Value.ref b] s = true
def gz_h0 : gz_H := (0, fun _ => (0, 0), fun _ _ => .null)
theorem lz_prim {s : State} {args : Array Value} {ty : FieldType} (h : (Cond.arrayClass ty).before args s = true) : ∃ c, ArrOfT s c ty ∧ s.vm.findClass ("[" ++ ty.toString) = some c := by
  obtain ⟨c, k, comp, h1, h2, h3⟩ := Cond.arrayClass_spec h
  exact ⟨c, fun n z => ⟨fun q hq => (by cases hq), k, h2, comp, h3⟩, h1⟩
theorem lz_over {s : State} {args : Array Value} {C : String} (h : (Cond.arrayOver (.object C)).before args s = true) : ∃ c, ArrOfT s c (.object C) ∧ va_RA s c (.object C) := by
  obtain ⟨comp, c, k, h1, -, h3, h4, h5⟩ := Cond.arrayOver_spec h
  exact ⟨c, fun n z => ⟨fun q hq => (by cases hq), k, h3, comp, h4⟩, k, comp, h3, h4, h1, h5⟩
theorem lz_cmp {i L : Nat} (hL : L ≤ 4608) (hi : i ≤ 512) : (Int32.ofNat L - 9 < nI (9 * i)) ↔ L < 9 * i + 9 := by
  have h1 : (nI L - nI 9).toInt = (L : Int) - 9 := pk_sub_toInt (by omega) (by omega)
  have h2 : (nI (9 * i)).toInt = ((9 * i : Nat) : Int) := nI_toInt (by omega)
  have h3 : (Int32.ofNat L - 9 : Int32) = nI L - nI 9 := rfl
  rw [h3, Int32.lt_iff_toInt_lt, h1, h2]
  omega
theorem lz_exit {L i : Nat} {xs : Nat → Int32} {h : gz_H} (hL : L ≤ 4608) (hi : i ≤ 512) (hx : ¬ 9 * i + 9 ≤ L) : lb_L L xs [.float 0, .ref 0, .ref 15, .int (nI (9 * i))] h = some (.inl (1221, [.float 0, .ref 0, .ref 15, .int (nI (9 * i))], h)) := by
  have hc : (Int32.ofNat L - 9 < nI (9 * i)) := (lz_cmp hL hi).mpr (by omega)
  have hd : decide (Int32.ofNat L - 9 < nI (9 * i)) = true := decide_eq_true hc
  simp only [lb_L, gz_if, gz_j2, gz_li, gz_ib, gz_sln, gz_la, gz_i, gz_sat, List.getElem?_cons_zero, List.getElem?_cons_succ, hd]
set_option maxHeartbeats 4000000 in
set_option maxRecDepth 100000 in
/-- the law, out of what its pieces do: an invariant, kept by each turn -/
theorem lz_start (Inv : gz_H → Prop) (hA : gz_H) (hp0 : lp_L [.float 0] gz_h0 = some (.inl (18, [.float 0, .ref 0, .ref 15, .int 0], hA))) (hi0 : Inv hA)
    (step : ∀ (L : Nat) (xs : Nat → Int32) (i : Nat) (h : gz_H), Inv h → 9 * i + 9 ≤ L → L ≤ 4608 → ∃ h', lb_L L xs [.float 0, .ref 0, .ref 15, .int (nI (9 * i))] h = some (.inl (18, [.float 0, .ref 0, .ref 15, .int (nI (9 * (i + 1)))], h')) ∧ Inv h')
    {p : Program} {e : Env} {s : State} {m : MethodId} {below : List Frame} {meth : Method} {c : Code} (l : Launch) {b L : Nat} {xs : Nat → Int32} (hL : L ≤ 4608) (C0 : lw_At p s m meth c b L xs) : W p l e room_1 s m #[Value.ref b] below meth c s.heap [] 0 0 (lw_Z below #[Value.ref b] s) (entryFrame m ([Value.ref b] : List Value).toArray 4) := by
  obtain ⟨hx, hb, hr, hml, hown, hts, hX, hbl, hlocks, hgv⟩ := C0
  have htb : ∀ w ∈ gz_tb, w.before #[Value.ref b] s = true := fun w h => hts w (gz_gd h).1
  have hex : ∀ k : Nat, ∃ (cC : ClassId) (iS : Nat → Nat), ∀ q : vw_C, vwCl[k]? = some q → u_Kn s q.1 q.2.1 q.2.2 cC iS := by
    intro k
    match k with
    | 0 =>
      obtain ⟨cC, iS, hq0⟩ := u_known (C := RX0) (T := TX0) (N := 6) (n := 6) htb in_0 (hts (.instantiable RX0 6) (by decide +kernel))
      exact ⟨cC, iS, fun q hq => by cases hq; exact hq0⟩
    | 1 =>
      obtain ⟨cC, iS, hq0⟩ := u_known (C := RX1) (T := TX1) (N := 11) (n := 11) htb in_1 (hts (.instantiable RX1 11) (by decide +kernel))
      exact ⟨cC, iS, fun q hq => by cases hq; exact hq0⟩
    | 2 =>
      obtain ⟨cC, iS, hq0⟩ := u_known (C := RX2) (T := TX2) (N := 9) (n := 9) htb in_2 (hts (.instantiable RX2 9) (by decide +kernel))
      exact ⟨cC, iS, fun q hq => by cases hq; exact hq0⟩
    | 3 =>
      obtain ⟨cC, iS, hq0⟩ := u_known (C := RX3) (T := TX3) (N := 14) (n := 14) htb in_3 (hts (.instantiable RX3 14) (by decide +kernel))
      exact ⟨cC, iS, fun q hq => by cases hq; exact hq0⟩
    | 4 =>
      obtain ⟨cC, iS, hq0⟩ := u_known (C := RX4) (T := TX4) (N := 6) (n := 6) htb in_4 (hts (.instantiable RX4 6) (by decide +kernel))
      exact ⟨cC, iS, fun q hq => by cases hq; exact hq0⟩
    | 5 =>
      obtain ⟨cC, iS, hq0⟩ := u_known (C := RX5) (T := TX5) (N := 3) (n := 3) htb in_5 (hts (.instantiable RX5 3) (by decide +kernel))
      exact ⟨cC, iS, fun q hq => by cases hq; exact hq0⟩
    | 6 =>
      obtain ⟨cC, iS, hq0⟩ := u_known (C := RX6) (T := TX6) (N := 10) (n := 10) htb in_6 (hts (.instantiable RX6 10) (by decide +kernel))
      exact ⟨cC, iS, fun q hq => by cases hq; exact hq0⟩
    | 7 =>
      obtain ⟨cC, iS, hq0⟩ := u_known (C := RX7) (T := TX7) (N := 9) (n := 9) htb in_7 (hts (.instantiable RX7 9) (by decide +kernel))
      exact ⟨cC, iS, fun q hq => by cases hq; exact hq0⟩
    | 8 =>
      obtain ⟨cC, iS, hq0⟩ := u_known (C := RX8) (T := TX8) (N := 48) (n := 48) htb in_8 (hts (.instantiable RX8 48) (by decide +kernel))
      exact ⟨cC, iS, fun q hq => by cases hq; exact hq0⟩
    | k + 9 => exact ⟨default, fun _ => 0, fun q hq => by simp [vwCl] at hq⟩
  obtain ⟨cI, aI, fI⟩ := lz_prim (hts (.arrayClass .int) (by decide +kernel))
  obtain ⟨cZ, aZ, fZ⟩ := lz_prim (hts (.arrayClass .boolean) (by decide +kernel))
  obtain ⟨cJ, aJ, fJ⟩ := lz_prim (hts (.arrayClass .long) (by decide +kernel))
  obtain ⟨c3, a3, f3⟩ := lz_over (hts (.arrayOver (.object RX3)) (by decide +kernel))
  obtain ⟨c1, a1, f1⟩ := lz_over (hts (.arrayOver (.object RX1)) (by decide +kernel))
  obtain ⟨c2, a2, f2⟩ := lz_over (hts (.arrayOver (.object RX2)) (by decide +kernel))
  have hnest : gz_nest s := ⟨va_Nw.of rfl (hts (.methodLinkNest RX7 17 yX5_init RX7) (by decide +kernel)), va_Nw.of rfl (hts (.methodLinkNest RX7 24 yX0_init RX7) (by decide +kernel)), va_Nw.of rfl (hts (.methodLinkNest RX7 31 yX6_init RX7) (by decide +kernel)), va_Nw.of rfl (hts (.methodLinkNest RX7 52 yX1_init RX7) (by decide +kernel)), va_Nw.of rfl (hts (.methodLinkNest RX7 126 yX2_init RX7) (by decide +kernel)), va_AO.of (hts (.arrayOver (.object RX3)) (by decide +kernel)), va_AO.of (hts (.arrayOver (.object RX1)) (by decide +kernel)), va_AO.of (hts (.arrayOver (.object RX2)) (by decide +kernel))⟩
  obtain ⟨D, hD⟩ : ∃ D : va_G, ∀ (k : Nat) (q : vw_C), vwCl[k]? = some q → u_Kn s q.1 q.2.1 q.2.2 (D.1 k) (D.2 k) := ⟨(fun k => Classical.choose (hex k), fun k => Classical.choose (Classical.choose_spec (hex k))), fun k q hq => Classical.choose_spec (Classical.choose_spec (hex k)) q hq⟩
  obtain ⟨cA, hcA⟩ : ∃ cA : Nat → ClassId, cA 100 = cI ∧ cA 101 = cZ ∧ cA 102 = cJ ∧ cA 103 = c3 ∧ cA 104 = c1 ∧ cA 105 = c2 := ⟨fun t => if t = 100 then cI else if t = 101 then cZ else if t = 102 then cJ else if t = 103 then c3 else if t = 104 then c1 else c2, rfl, rfl, rfl, rfl, rfl, rfl⟩
  have hK : gz_K D cA s := by
    refine ⟨⟨hD, fun k q hq => ?_⟩, hnest⟩
    obtain ⟨e0, e1, e2, e3, e4, e5⟩ := hcA
    unfold gz_tys at hq
    rw [e0, e1, e2, e3, e4, e5] at hq
    match k, hq with
    | 0, hq => cases hq; exact ⟨aI, fI⟩
    | 1, hq => cases hq; exact ⟨aZ, fZ⟩
    | 2, hq => cases hq; exact ⟨aJ, fJ⟩
    | 3, hq => cases hq; exact ⟨a3, f3⟩
    | 4, hq => cases hq; exact ⟨a1, f1⟩
    | 5, hq => cases hq; exact ⟨a2, f2⟩
    | k + 6, hq => simp at hq
  have hok : gz_ok (p, l, e, room_1, s, m, #[Value.ref b], below, meth, c, lw_Z below #[Value.ref b] s, D, cA, s.heap.size, b) (M_L_law L xs meth.name) := ⟨hx, hb, hml, hown, htb, hK, Nat.le_refl _, hlocks, by decide, by decide, rfl, fun q hq => by cases hq; exact ⟨hX, hbl⟩⟩
  have loop : ∀ (n i : Nat) (h : gz_H), Inv h → 513 ≤ i + n → i ≤ 512 → gz_W (p, l, e, room_1, s, m, #[Value.ref b], below, meth, c, lw_Z below #[Value.ref b] s, D, cA, s.heap.size, b) 4 (55 + 6 * i) (11965 + 299 * i) 18 [.float 0, .ref 0, .ref 15, .int (nI (9 * i))] [] h := by
    intro n
    induction n with
    | zero => intro i h _ h1 h2; omega
    | succ n ih =>
      intro i h hI h1 h2
      by_cases hlt : 9 * i + 9 ≤ L
      · obtain ⟨h', e1, hI'⟩ := step L xs i h hI hlt hL
        refine ok_L_18 L xs meth.name _ hok _ h _ (55 + 6 * i) (11965 + 299 * i) (by show _ ≤ 600000; omega) (by show _ ≤ 7302250; omega) e1 ?_
        exact ih (i + 1) h' hI' (by omega) (by omega)
      · refine ok_L_18 L xs meth.name _ hok _ h _ (55 + 6 * i) (11965 + 299 * i) (by show _ ≤ 600000; omega) (by show _ ≤ 7302250; omega) (lz_exit hL h2 hlt) ?_
        refine ok_L_1221 L xs meth.name _ hok _ h _ (55 + 6 * i + 6) (11965 + 299 * i + 299) (by show _ ≤ 600000; omega) (by show _ ≤ 7302250; omega) rfl ?_
        intro pc env hd H locs ls hR hS hLs
        refine va_forget (fun q hq => hS.2.2 q hq) ?_
        refine W.widen (k := 600000) (n := 7302250) (by omega) (by omega) ?_
        exact lw_ret hx hb hr hlocks hd
  rw [lg_entry_eq]
  have hl := lv_entry ([.ref b]) (n := 4) (Nat.le_of_ble_eq_true rfl)
  generalize (lg_sl ([.ref b]) ++ List.replicate (4 - (lg_sl ([.ref b])).length) Slot.unset).toArray = ls at hl ⊢
  have k0 := ok_L_0 L xs meth.name _ hok [.float 0] gz_h0 _ 0 0 (by show 0 + 55 ≤ 600000; decide) (by show 0 + 11965 ≤ 7302250; decide) hp0 (loop 513 0 hA hi0 (by omega) (by omega))
  exact k0 s.heap [] ls ⟨by simp [gz_h0], fun a ha => absurd ha (Nat.not_lt_zero a)⟩ va_S.rf (gz_L.args (av := [.float 0]) hl)
