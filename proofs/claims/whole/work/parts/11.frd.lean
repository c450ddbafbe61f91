def gz_Pc (D : va_G) (cA : Nat → ClassId) (base b : Nat) (av : List Value) (h : gz_H) : Array Value → State → Prop := fun v U => v = (av.map (gz_c base b)).toArray ∧ gz_R D cA base b h U.heap ∧ gz_K D cA U
def gz_Qc (D : va_G) (cA : Nat → ClassId) (base b : Nat) (r : Option Value) (h' : gz_H) : Array Value → State → Outcome → State → Prop := fun _ st o t => o = .returned (r.map (gz_c base b)) ∧ gz_R D cA base b h' t.heap ∧ st.heap.size ≤ t.heap.size ∧ ∀ q : Nat, q < base → t.heap[q]? = st.heap[q]?
/-- a method does what 'sem' says -/
def gz_Mt (y : MethodName) (cc : ByteArray) (maxL : Nat) (ret : Option FieldType) (rm : Room) (sem : gz_Me) : Prop := ∀ (l : Launch) (D : va_G) (cA : Nat → ClassId) (base b : Nat) (av : List Value) (h : gz_H) (r : Option Value) (h' : gz_H), sem av h = some (r, h') → Met l y (Cond.code y cc maxL ret :: gz_tb) rm (gz_Pc D cA base b av h) (gz_Qc D cA base b r h') rm.cells rm.slots (fun q => base ≤ q)
theorem gz_blind {D : va_G} {cA : Nat → ClassId} {base b : Nat} {av : List Value} {h : gz_H} : FrameBlind (gz_Pc D cA base b av h) := fun a U g mk q => ⟨q.1, q.2.1, gz_K.same (s := U) (U := U.calling g mk a) rfl q.2.2⟩
section GZA
variable {p : Program} {l : Launch} {e : Env} {R : Room} {s : State} {m : MethodId} {args : Array Value} {below : List Frame} {meth : Method} {c : Code} {H : Heap} {locs : List Loc} {cells slots : Nat} {Q : State → Prop}
theorem gz_after {D : va_G} {cA : Nat → ClassId} {base b pc mc ms : Nat} {ls : Array Slot} {st0 rest : List Value} {r : Option Value} {h' : gz_H} {a : Array Value} (hr : va_Run p l e R s m args below meth c H locs cells slots mc ms (F0 m pc ls st0) rest (gz_Qc D cA base b r h' a) (fun q => base ≤ q)) (hbs : base ≤ s.heap.size) (hS : va_S (fun q : Nat => base ≤ q) s.heap H locs)
    (kk : ∀ (H1 : Heap) (locs1 : List Loc), gz_R D cA base b h' H1 → va_S (fun q : Nat => base ≤ q) s.heap H1 locs1 → W p l e R s m args below meth c H1 locs1 (cells + mc) (slots + ms) Q (F0 m (pc + 3) ls ((r.map (gz_c base b)).toList ++ rest))) : W p l e R s m args below meth c H locs cells slots Q (F0 m pc ls st0) := by
  intro T hT X
  obtain ⟨v, st₀, t, T', L, h0, X', hL, e1, e2, ⟨hv, hR', hz, hk⟩, st⟩ := hr T hT X
  cases hv
  rw [h0] at hz hk
  obtain ⟨t2, a1, b1⟩ := kk T'.heap (locs ++ L) (by rw [e1]; exact hR')
    ⟨Nat.le_trans hS.1 (by rw [e1]; exact hz), fun q h1 h2 => by rw [e1, hk q (by omega)]; exact hS.2.1 q h1 h2, fun q hq => by
      rcases List.mem_append.mp hq with h | h
      · exact hS.2.2 q h
      · exact hL q h⟩ T' rfl X'
  exact ⟨t2, st t2 a1, b1⟩
end GZA
theorem gz_tl (base b : Nat) (r : Option Value) (st : List Value) : (r.toList ++ st).map (gz_c base b) = (r.map (gz_c base b)).toList ++ st.map (gz_c base b) := by cases r <;> rfl
theorem gw_callV {X : gz_Cx} {M : gz_Mi} {cells slots pc : Nat} {env st : List Value} {h : gz_H} (hok : gz_ok X M) {y : MethodName} {cc' : ByteArray} {maxL : Nat} {ret : Option FieldType} {rm : Room} {sem : gz_Me} (hM : gz_Mt y cc' maxL ret rm sem) {x idx n ci N : Nat} {C : String} {T : u_T} {As : List Value} {r : Option Value} {h' : gz_H} (hs : sem (.ref x :: As) h = some (r, h')) (hc : vwCl[ci]? = some (C, T, N)) (hcode : Cond.code y cc' maxL ret ∈ gz_tb) (hini : Cond.initialized y.cls ∈ gz_tb) (hdesc : y.cls ≠ "java/lang/invoke/MethodHandle" ∧ y.cls ≠ "java/lang/invoke/VarHandle" ∧ (parseMethodDescriptor y.desc).map (fun d => d.parameters.length) = some n) (hn : As.length = n) (hrf : rm.frames + 1 ≤ M.2.2.2.1) (hrl : 8 + (maxL + 11) + rm.locals ≤ M.2.2.2.2.1) (hl : Cond.methodLink M.2.2.1 idx y ∈ gz_tb) (hin : Cond.instanceMethod y ∈ gz_tb) (hse : Cond.selects C y y ∈ gz_tb) (hd : decode M.1 pc = .ok (.invokevirtual idx, 3)) (hx0 : x < h.1) (hkd : gz_k h x = (ci, N)) (hsm : gz_sm st ≤ 8) (hce : cells + rm.cells ≤ gz_rc X) (hsl : slots + rm.slots ≤ gz_rs X) (hk : gz_W X M.2.1 (cells + rm.cells) (slots + rm.slots) (pc + 3) env (r.toList ++ st) h') : gz_W X M.2.1 cells slots pc env (As.reverse ++ .ref x :: st) h := by
  obtain ⟨p, l, e, R, s, m, args, below, meth, c, Q, D, cA, base, b⟩ := X
  obtain ⟨cc, nL, own, fr, lo, mn, sc⟩ := M
  obtain ⟨hx, hb, hml, hown, hts, hK, hbs, hlk, hfr, hlo, hmn, hsc⟩ := hok
  intro H locs ls hR hS hL
  have hMM := hM l D cA base b _ h r h' hs
  have ho := (hR.2 x hx0).1 (by rw [hkd]; exact gz_ci hc)
  rw [hkd] at ho
  obtain ⟨cell, q1, q2, q3, -⟩ := ho
  have hcl := (hK.1.1 ci _ hc).2.1
  refine gz_after (va_runV (As := As.map (gz_c base b)) (rest := st.map (gz_c base b)) (b := base + x) (C := C) ⟨hx, hb, hml, hown, hts⟩ hMM ⟨callB_of n hts (gz_goodIn hcode) rfl rfl rfl (hts _ hini) (hts _ hl) hdesc ⟨Nat.le_trans hrf hfr, Nat.le_trans hrl hlo⟩, hts _ hin, hts _ hse⟩ ⟨gz_blind, ⟨cell, q1, by rw [q3]; rfl, by rw [q2]; exact hcl⟩, fun U hU hW => ⟨rfl, by rw [hU]; exact hR, hK.warm hW⟩⟩ rfl (by rw [List.length_map]; exact hn) hL.1 (by simp [gz_c]) (lv_room (by rw [gz_c_sum]; exact hsm)) hd ⟨hce, hsl⟩) hbs hS (fun H1 locs1 hR1 hS1 => ?_)
  have k1 := hk H1 locs1 ls hR1 hS1 hL
  rw [gz_tl] at k1
  exact k1
theorem gw_callS {X : gz_Cx} {M : gz_Mi} {cells slots pc : Nat} {env st : List Value} {h : gz_H} (hok : gz_ok X M) {y : MethodName} {cc' : ByteArray} {maxL : Nat} {ret : Option FieldType} {rm : Room} {sem : gz_Me} (hM : gz_Mt y cc' maxL ret rm sem) {idx n : Nat} {As : List Value} {r : Option Value} {h' : gz_H} (hs : sem As h = some (r, h')) (hcode : Cond.code y cc' maxL ret ∈ gz_tb) (hini : Cond.initialized y.cls ∈ gz_tb) (hdesc : y.cls ≠ "java/lang/invoke/MethodHandle" ∧ y.cls ≠ "java/lang/invoke/VarHandle" ∧ (parseMethodDescriptor y.desc).map (fun d => d.parameters.length) = some n) (hn : As.length = n) (hrf : rm.frames + 1 ≤ M.2.2.2.1) (hrl : 8 + (maxL + 11) + rm.locals ≤ M.2.2.2.2.1) (hl : Cond.methodLink M.2.2.1 idx y ∈ gz_tb) (hstt : Cond.static y ∈ gz_tb) (hd : decode M.1 pc = .ok (.invokestatic idx, 3)) (hsm : gz_sm st ≤ 8) (hce : cells + rm.cells ≤ gz_rc X) (hsl : slots + rm.slots ≤ gz_rs X) (hk : gz_W X M.2.1 (cells + rm.cells) (slots + rm.slots) (pc + 3) env (r.toList ++ st) h') : gz_W X M.2.1 cells slots pc env (As.reverse ++ st) h := by
  obtain ⟨p, l, e, R, s, m, args, below, meth, c, Q, D, cA, base, b⟩ := X
  obtain ⟨cc, nL, own, fr, lo, mn, sc⟩ := M
  obtain ⟨hx, hb, hml, hown, hts, hK, hbs, hlk, hfr, hlo, hmn, hsc⟩ := hok
  intro H locs ls hR hS hL
  have hMM := hM l D cA base b _ h r h' hs
  refine gz_after (va_runS (As := As.map (gz_c base b)) (rest := st.map (gz_c base b)) ⟨hx, hb, hml, hown, hts⟩ hMM ⟨callB_of n hts (gz_goodIn hcode) rfl rfl rfl (hts _ hini) (hts _ hl) hdesc ⟨Nat.le_trans hrf hfr, Nat.le_trans hrl hlo⟩, hts _ hstt⟩ ⟨gz_blind, fun U hU hW => ⟨rfl, by rw [hU]; exact hR, hK.warm hW⟩⟩ rfl (by rw [List.length_map]; exact hn) hL.1 (by simp) (lv_room (by rw [gz_c_sum]; exact hsm)) hd ⟨hce, hsl⟩) hbs hS (fun H1 locs1 hR1 hS1 => ?_)
  have k1 := hk H1 locs1 ls hR1 hS1 hL
  rw [gz_tl] at k1
  exact k1
theorem gw_callI {X : gz_Cx} {M : gz_Mi} {cells slots pc : Nat} {env st : List Value} {h : gz_H} (hok : gz_ok X M) {y : MethodName} {cc' : ByteArray} {maxL : Nat} {rm : Room} {sem : gz_Me} (hM : gz_Mt y cc' maxL none rm sem) {x idx n : Nat} {As : List Value} {r : Option Value} {h' : gz_H} (hs : sem (.ref x :: As) h = some (r, h')) (hcode : Cond.code y cc' maxL none ∈ gz_tb) (hini : Cond.initialized y.cls ∈ gz_tb) (hdesc : y.cls ≠ "java/lang/invoke/MethodHandle" ∧ y.cls ≠ "java/lang/invoke/VarHandle" ∧ (parseMethodDescriptor y.desc).map (fun d => d.parameters.length) = some n) (hn : As.length = n) (hrf : rm.frames + 1 ≤ M.2.2.2.1) (hrl : 8 + (maxL + 11) + rm.locals ≤ M.2.2.2.2.1) (hl : Cond.methodLink M.2.2.1 idx y ∈ gz_tb) (hin : Cond.instanceMethod y ∈ gz_tb) (hy1 : y.name = "<init>") (hd : decode M.1 pc = .ok (.invokespecial idx, 3)) (hsm : gz_sm st ≤ 8) (hce : cells + rm.cells ≤ gz_rc X) (hsl : slots + rm.slots ≤ gz_rs X) (hk : gz_W X M.2.1 (cells + rm.cells) (slots + rm.slots) (pc + 3) env (r.toList ++ st) h') : gz_W X M.2.1 cells slots pc env (As.reverse ++ .ref x :: st) h := by
  obtain ⟨p, l, e, R, s, m, args, below, meth, c, Q, D, cA, base, b⟩ := X
  obtain ⟨cc, nL, own, fr, lo, mn, sc⟩ := M
  obtain ⟨hx, hb, hml, hown, hts, hK, hbs, hlk, hfr, hlo, hmn, hsc⟩ := hok
  intro H locs ls hR hS hL
  have hMM := hM l D cA base b _ h r h' hs
  refine gz_after (va_runI (As := As.map (gz_c base b)) (rest := st.map (gz_c base b)) (b := base + x) ⟨hx, hb, hml, hown, hts⟩ hMM ⟨callB_of n hts (gz_goodIn hcode) rfl rfl rfl (hts _ hini) (hts _ hl) hdesc ⟨Nat.le_trans hrf hfr, Nat.le_trans hrl hlo⟩, hy1, hts _ hin⟩ ⟨gz_blind, fun U hU hW => ⟨rfl, by rw [hU]; exact hR, hK.warm hW⟩⟩ rfl (by rw [List.length_map]; exact hn) hL.1 (by simp [gz_c]) (lv_room (by rw [gz_c_sum]; exact hsm)) hd ⟨hce, hsl⟩) hbs hS (fun H1 locs1 hR1 hS1 => ?_)
  have k1 := hk H1 locs1 ls hR1 hS1 hL
  rw [gz_tl] at k1
  exact k1
theorem gw_callN {X : gz_Cx} {M : gz_Mi} {cells slots pc : Nat} {env st : List Value} {h : gz_H} (hok : gz_ok X M) {y : MethodName} {cc' : ByteArray} {maxL : Nat} {rm : Room} {sem : gz_Me} (hM : gz_Mt y cc' maxL none rm sem) {x idx n : Nat} {host : String} {As : List Value} {r : Option Value} {h' : gz_H} (hs : sem (.ref x :: As) h = some (r, h')) (hcode : Cond.code y cc' maxL none ∈ gz_tb) (hini : Cond.initialized y.cls ∈ gz_tb) (hdesc : y.cls ≠ "java/lang/invoke/MethodHandle" ∧ y.cls ≠ "java/lang/invoke/VarHandle" ∧ (parseMethodDescriptor y.desc).map (fun d => d.parameters.length) = some n) (hn : As.length = n) (hrf : rm.frames + 1 ≤ M.2.2.2.1) (hrl : 8 + (maxL + 11) + rm.locals ≤ M.2.2.2.2.1) (hl : ∀ U : State, gz_nest U → va_Nw (.methodLinkNest M.2.2.1 idx y host) U) (hin : Cond.instanceMethod y ∈ gz_tb) (hy1 : y.name = "<init>") (hd : decode M.1 pc = .ok (.invokespecial idx, 3)) (hsm : gz_sm st ≤ 8) (hce : cells + rm.cells ≤ gz_rc X) (hsl : slots + rm.slots ≤ gz_rs X) (hk : gz_W X M.2.1 (cells + rm.cells) (slots + rm.slots) (pc + 3) env (r.toList ++ st) h') : gz_W X M.2.1 cells slots pc env (As.reverse ++ .ref x :: st) h := by
  obtain ⟨p, l, e, R, s, m, args, below, meth, c, Q, D, cA, base, b⟩ := X
  obtain ⟨cc, nL, own, fr, lo, mn, sc⟩ := M
  obtain ⟨hx, hb, hml, hown, hts, hK, hbs, hlk, hfr, hlo, hmn, hsc⟩ := hok
  intro H locs ls hR hS hL
  have hMM := hM l D cA base b _ h r h' hs
  refine gz_after (va_runIN (As := As.map (gz_c base b)) (rest := st.map (gz_c base b)) (b := base + x) ⟨hx, hb, hml, hown, hts⟩ hMM ⟨va_cnB n hts (gz_goodIn hcode) rfl rfl rfl (hl s hK.2) (hts _ hini) hdesc ⟨Nat.le_trans hrf hfr, Nat.le_trans hrl hlo⟩, hy1, hts _ hin⟩ ⟨gz_blind, fun U hU hW => ⟨rfl, by rw [hU]; exact hR, hK.warm hW⟩⟩ rfl (by rw [List.length_map]; exact hn) hL.1 (by simp [gz_c]) (lv_room (by rw [gz_c_sum]; exact hsm)) hd ⟨hce, hsl⟩) hbs hS (fun H1 locs1 hR1 hS1 => ?_)
  have k1 := hk H1 locs1 ls hR1 hS1 hL
  rw [gz_tl] at k1
  exact k1
theorem gw_obj {X : gz_Cx} {M : gz_Mi} {cells slots pc : Nat} {env st : List Value} {h : gz_H} (hok : gz_ok X M) {x idx : Nat} (hl : Cond.methodLink M.2.2.1 idx Lib.objectInit ∈ gz_tb) (hin : Cond.instanceMethod Lib.objectInit ∈ gz_tb) (hcode : Cond.code Lib.objectInit ⟨#[0xb1]⟩ 1 none ∈ gz_tb) (hrf : 1 ≤ M.2.2.2.1) (hrl : 12 ≤ M.2.2.2.2.1) (hd : decode M.1 pc = .ok (.invokespecial idx, 3)) (hk : gz_W X M.2.1 cells slots (pc + 3) env [] h) : gz_W X M.2.1 cells slots pc env [.ref x] h := by
  obtain ⟨p, l, e, R, s, m, args, below, meth, c, Q, D, cA, base, b⟩ := X
  obtain ⟨cc, nL, own, fr, lo, mn, sc⟩ := M
  obtain ⟨hx, hb, hml, hown, hts, hK, hbs, hlk, hfr, hlo, hmn, hsc⟩ := hok
  intro H locs ls hR hS hL
  exact W.objInit hx hb hown (hts _ hl) (hts _ hin) (hts _ hcode) rfl (hL.1.trans hml.symm) rfl hd (Nat.le_trans hrf hfr) (by have h8 := lv_room (m := m) (pc := pc) (ls := ls) (rest := [.ref (base + x)]) (st := []) (by decide); have h9 : 2 * (F0 m pc ls [.ref (base + x)]).monitorRoom = 0 := rfl; simp only [List.map_nil, List.sum_nil]; have : lo ≤ R.locals := hlo; have : 12 ≤ lo := hrl; omega) (hk H locs ls hR hS hL)
def gz_rok (ret : Option FieldType) (r : Option Value) : Bool := match ret, r with
  | none, none => true
  | some ty, some v => gz_fit ty v
  | _, _ => false
/-- a method out of its body -/
def gz_sem (ret : Option FieldType) (maxL : Nat) (t : gz_Sx) : gz_Me := fun av h => if (gz_ae av).length ≤ maxL then (match t (gz_ae av) h with
  | some (.inr (r, h')) => if gz_rok ret r = true then some (r, h') else none
  | _ => none) else none
theorem gz_ae_len (base b : Nat) (av : List Value) : (lg_sl (av.map (gz_c base b))).length = (gz_ae av).length := by
  induction av with
  | nil => rfl
  | cons v t ih =>
    simp only [List.map_cons, lg_sl, List.flatMap_cons, List.length_append, gz_ae]
    have ih' : (List.flatMap (fun v : Value => if v.category = 2 then [Slot.val v, Slot.second] else [Slot.val v]) (List.map (gz_c base b) t)).length = (gz_ae t).length := ih
    rw [ih', gz_c_cat]
    by_cases hc : v.category = 2
    · simp [hc]; omega
    · simp [hc]; omega
theorem gz_ofW {l : Launch} {y : MethodName} {ws ws' : List Cond} {rm : Room} {Pc : Array Value → State → Prop} {Qc : Array Value → State → Outcome → State → Prop} {mc ms : Nat} {free : Addr → Prop} {cc : ByteArray} {maxL : Nat} {ret : Option FieldType}
    (hy : plainFor y = true) (hw : ws = Cond.code y cc maxL ret :: ws')
    (body : ∀ p e s m args below meth c s₁, BodyLoose p l y (headSpec ws rm) cc maxL ret e s m args below meth c s₁ → c.maxLocals = maxL → Pc args s →
      W p l e (headSpec ws rm).room s m args below meth c s.heap [] 0 0 (MQ below Qc args s mc ms free) (entryFrame m args maxL)) : Met l y ws rm Pc Qc mc ms free := by
  refine MetFree.of_bodySF (code := cc) (maxLocals := maxL) (ret := ret) hy ?_ ?_
  · intro args s m h hn
    obtain ⟨meth, c, h1, h2, h3, h4, h5, h6, -, -⟩ := Cond.code_spec hn (atoms_spec (ws := ws) h _ (by rw [hw]; exact List.mem_cons_self))
    exact ⟨meth, c, h1, h2, h3, h4, h5, h6⟩
  · intro p e s m args below meth c s₁ B hml hP _
    have hh0 : s₁.heap = s.heap := by rw [B.state]; rfl
    obtain ⟨t, a1, o, b1, b2, b3⟩ := body p e s m args below meth c s₁ B hml hP s₁ hh0 (Stand.of_body B)
    exact ⟨t, o, a1, b1, b2, ⟨b3.1, b3.2⟩⟩
theorem gz_met {y : MethodName} {cc : ByteArray} {maxL : Nat} {ret : Option FieldType} {rm : Room} {t : gz_Sx} {dc ds : Nat} (hy : plainFor y = true) (hb : gz_OkS (cc, maxL, y.cls, rm.frames, rm.locals, y.name, none) dc ds 0 t) (hdc : dc ≤ rm.cells) (hds : ds ≤ rm.slots) : gz_Mt y cc maxL ret rm (gz_sem ret maxL t) := by
  intro l D cA base b av h r h' hs
  unfold gz_sem at hs
  by_cases hae : (gz_ae av).length ≤ maxL
  case neg => rw [if_neg hae] at hs; cases hs
  rw [if_pos hae] at hs
  have ht : t (gz_ae av) h = some (.inr (r, h')) ∧ gz_rok ret r = true := by
    cases hq : t (gz_ae av) h with
    | none => rw [hq] at hs; cases hs
    | some o =>
      rw [hq] at hs
      cases o with
      | inl q => cases hs
      | inr q =>
        obtain ⟨r2, h2⟩ := q
        by_cases hro : gz_rok ret r2 = true
        · simp only [hro, if_true, Option.some.injEq, Prod.mk.injEq] at hs
          obtain ⟨rfl, rfl⟩ := hs
          exact ⟨rfl, hro⟩
        · simp only [hro] at hs
          cases hs
  obtain ⟨ht, hro⟩ := ht
  refine gz_ofW (cc := cc) (maxL := maxL) (ret := ret) hy rfl ?_
  intro p e s m args below meth c s₁ B hml hv
  obtain ⟨rfl, hR, hK⟩ := hv
  have hts := atoms_spec (ws := Cond.code y cc maxL ret :: gz_tb) B.pre
  have hlk := B.notSynchronized
  rw [lg_entry_eq]
  have hl := lv_entry (av.map (gz_c base b)) (n := maxL) (by rw [gz_ae_len]; exact hae)
  generalize (lg_sl (av.map (gz_c base b)) ++ List.replicate (maxL - (lg_sl (av.map (gz_c base b))).length) Slot.unset).toArray = ls at hl ⊢
  have key := hb (p, l, e, rm, s, m, (av.map (gz_c base b)).toArray, below, meth, c, MQ below (gz_Qc D cA base b r h') (av.map (gz_c base b)).toArray s rm.cells rm.slots (fun q => base ≤ q), D, cA, base, b) ⟨B.exec, B.bytes, hml, findClass_of_methodNamed B.named, fun w hw => hts w (List.mem_cons_of_mem _ hw), hK, by rw [hR.1]; omega, hlk, Nat.le_refl _, Nat.le_refl _, (name_of_methodNamed B.named B.method).1, fun q hq => by cases hq⟩ (gz_ae av) h _ 0 0 (by rw [Nat.zero_add]; exact hdc) (by rw [Nat.zero_add]; exact hds) ht ?_
  · exact key s.heap [] ls hR va_S.rf (gz_L.args hl)
  · show gz_Rt _ _ (0 + dc) (0 + ds) r h'
    rw [Nat.zero_add, Nat.zero_add]
    refine gz_Rt.widen hdc hds ?_
    intro pc env
    have fin : ∀ (H : Heap) (locs : List Loc), gz_R D cA base b h' H → va_S (fun q : Nat => base ≤ q) s.heap H locs → ∀ t : State, t.heap = H → s.WarmedH t.vm → gz_Qc D cA base b r h' (av.map (gz_c base b)).toArray s (.returned (r.map (gz_c base b))) t := fun H locs hR' hS' t ht _ => ⟨rfl, by rw [ht]; exact hR', by rw [ht]; exact hS'.1, fun q hq => by rw [ht]; exact hS'.2.1 q (Nat.lt_of_lt_of_le hq (by rw [hR.1]; omega)) (by omega)⟩
    have hr := B.returns
    match ret, r, hro, hr, fin with
    | none, none, _, hr, fin => exact fun hd H locs ls' hR' hS' hL' => W.vret B.exec B.bytes hr (fin H locs hR' hS') hS'.2.2 hd
    | some .int, some (.int v), _, hr, fin => exact fun hd H locs ls' hR' hS' hL' => W.iret B.exec B.bytes hr (fin H locs hR' hS') hS'.2.2 hd
    | some .long, some (.long v), _, hr, fin => exact fun hd H locs ls' hR' hS' hL' => W.lret B.exec B.bytes hr (fin H locs hR' hS') hS'.2.2 hd
    | some .boolean, some (.int v), ho, hr, fin => exact fun hd H locs ls' hR' hS' hL' => W.zret B.exec B.bytes hr (gz_fit_ok base b (ty := .boolean) (v := .int v) ho).1 (fin H locs hR' hS') hS'.2.2 hd
    | some (.object n), some (.ref v), _, hr, fin => exact fun hd H locs ls' hR' hS' hL' => W.aret B.exec B.bytes hr (Or.inl ⟨_, rfl⟩) (Or.inr ⟨_, rfl⟩) (fin H locs hR' hS') hS'.2.2 hd
    | some (.object n), some .null, _, hr, fin => exact fun hd H locs ls' hR' hS' hL' => W.aret B.exec B.bytes hr (Or.inl ⟨_, rfl⟩) (Or.inl rfl) (fin H locs hR' hS') hS'.2.2 hd
    | some (.array n), some (.ref v), _, hr, fin => exact fun hd H locs ls' hR' hS' hL' => W.aret B.exec B.bytes hr (Or.inr ⟨_, rfl⟩) (Or.inr ⟨_, rfl⟩) (fin H locs hR' hS') hS'.2.2 hd
    | some (.array n), some .null, _, hr, fin => exact fun hd H locs ls' hR' hS' hL' => W.aret B.exec B.bytes hr (Or.inr ⟨_, rfl⟩) (Or.inl rfl) (fin H locs hR' hS') hS'.2.2 hd
