abbrev gz_Cx : Type := Program × Launch × Env × Room × State × MethodId × Array Value × List Frame × Method × Code × (State → Prop) × va_G × (Nat → ClassId) × Nat × Nat
/-- a method: its code, how many locals, its class, frames and local words that it asks of the room, its name -/
abbrev gz_Mi : Type := ByteArray × Nat × String × Nat × Nat × String × Option (Nat × (Nat → Int32))
def gz_ok (X : gz_Cx) (M : gz_Mi) : Prop := match X, M with
  | (p, _, _, R, s, m, args, _, meth, c, _, D, cA, base, b), (cc, nL, own, fr, lo, mn, sc) => p.tables.exec = Jvm.exec ∧ c.code = cc ∧ c.maxLocals = nL ∧ s.vm.findClass own = some m.cls ∧ (∀ w ∈ gz_tb, w.before args s = true) ∧ gz_K D cA s ∧ base ≤ s.heap.size ∧ meth.locks = false ∧ fr ≤ R.frames ∧ lo ≤ R.locals ∧ meth.name = mn ∧ ∀ q, sc = some q → va_X b q.1 q.2 s s.heap ∧ b < base
def gz_W (X : gz_Cx) (nL cells slots pc : Nat) (env st : List Value) (h : gz_H) : Prop := match X with
  | (p, l, e, R, s, m, args, below, meth, c, Q, D, cA, base, b) => ∀ (H : Heap) (locs : List Loc) (ls : Array Slot), gz_R D cA base b h H → va_S (fun q : Nat => base ≤ q) s.heap H locs → gz_L base b nL env ls → W p l e R s m args below meth c H locs cells slots Q (F0 m pc ls (st.map (gz_c base b)))
def gz_rc (X : gz_Cx) : Nat := X.2.2.2.1.cells
def gz_rs (X : gz_Cx) : Nat := X.2.2.2.1.slots
theorem gz_W.widen {X : gz_Cx} {nL c0 s0 c1 s1 pc : Nat} {env st : List Value} {h : gz_H} (hc : c0 ≤ c1) (hs : s0 ≤ s1) (hk : gz_W X nL c1 s1 pc env st h) : gz_W X nL c0 s0 pc env st h := by
  obtain ⟨p, l, e, R, s, m, args, below, meth, c, Q, D, cA, base, b⟩ := X
  intro H locs ls hR hS hL
  exact W.widen hc hs (hk H locs ls hR hS hL)
theorem gz_W.take {X : gz_Cx} {nL c0 s0 pc : Nat} {env st : List Value} {h : gz_H} (n : Nat) (hk : gz_W X nL c0 s0 pc (env.take n) st h) : gz_W X nL c0 s0 pc env st h := by
  obtain ⟨p, l, e, R, s, m, args, below, meth, c, Q, D, cA, base, b⟩ := X
  intro H locs ls hR hS hL
  exact hk H locs ls hR hS (hL.take n)
abbrev gz_Ex : Type := List Value → List Value → gz_H → Option (Value × gz_H)
abbrev gz_Jx : Type := List Value → List Value → gz_H → Option (Bool × gz_H)
abbrev gz_Ax : Type := List Value → List Value → gz_H → Option (List Value × gz_H)
abbrev gz_O : Type := (Nat × List Value × gz_H) ⊕ (Option Value × gz_H)
abbrev gz_Sx : Type := List Value → gz_H → Option gz_O
abbrev gz_Me : Type := List Value → gz_H → Option (Option Value × gz_H)
def gz_sm (st : List Value) : Nat := (st.map fun v => v.category).sum
theorem gz_sm_cons (v : Value) (st : List Value) : gz_sm (v :: st) = v.category + gz_sm st := rfl
theorem gz_cat_le (v : Value) : v.category ≤ 2 := by cases v <;> simp [Value.category]
def gz_OkE (M : gz_Mi) (d dc ds pc pc' : Nat) (t : gz_Ex) : Prop := ∀ X : gz_Cx, gz_ok X M → ∀ (env st : List Value) (h : gz_H) (v : Value) (h' : gz_H) (cells slots : Nat), gz_sm st ≤ d → cells + dc ≤ gz_rc X → slots + ds ≤ gz_rs X → t env st h = some (v, h') → gz_W X M.2.1 (cells + dc) (slots + ds) pc' env (v :: st) h' → gz_W X M.2.1 cells slots pc env st h
def gz_OkJ (M : gz_Mi) (d dc ds pc tgt nxt : Nat) (t : gz_Jx) : Prop := ∀ X : gz_Cx, gz_ok X M → ∀ (env st : List Value) (h : gz_H) (v : Bool) (h' : gz_H) (cells slots : Nat), gz_sm st ≤ d → cells + dc ≤ gz_rc X → slots + ds ≤ gz_rs X → t env st h = some (v, h') → (v = true → gz_W X M.2.1 (cells + dc) (slots + ds) tgt env st h') → (v = false → gz_W X M.2.1 (cells + dc) (slots + ds) nxt env st h') → gz_W X M.2.1 cells slots pc env st h
def gz_OkA (M : gz_Mi) (d dc ds pc pc' n : Nat) (t : gz_Ax) : Prop := ∀ X : gz_Cx, gz_ok X M → ∀ (env st : List Value) (h : gz_H) (vs : List Value) (h' : gz_H) (cells slots : Nat), gz_sm st ≤ d → cells + dc ≤ gz_rc X → slots + ds ≤ gz_rs X → t env st h = some (vs, h') → vs.length = n ∧ (gz_W X M.2.1 (cells + dc) (slots + ds) pc' env (vs.reverse ++ st) h' → gz_W X M.2.1 cells slots pc env st h)
/-- a return: at any place where the instruction that fits stands -/
def gz_Rt (X : gz_Cx) (M : gz_Mi) (cells slots : Nat) (r : Option Value) (h : gz_H) : Prop := ∀ (pc : Nat) (env : List Value), match r with
  | none => decode M.1 pc = .ok (.return_, 1) → gz_W X M.2.1 cells slots pc env [] h
  | some (.int v) => decode M.1 pc = .ok (.ireturn, 1) → gz_W X M.2.1 cells slots pc env [.int v] h
  | some (.long v) => decode M.1 pc = .ok (.lreturn, 1) → gz_W X M.2.1 cells slots pc env [.long v] h
  | some v => decode M.1 pc = .ok (.areturn, 1) → gz_W X M.2.1 cells slots pc env [v] h
def gz_post (X : gz_Cx) (M : gz_Mi) (cells slots : Nat) (o : gz_O) : Prop := match o with
  | .inl q => gz_W X M.2.1 cells slots q.1 q.2.1 [] q.2.2
  | .inr q => gz_Rt X M cells slots q.1 q.2
theorem gz_Rt.widen {X : gz_Cx} {M : gz_Mi} {c0 s0 c1 s1 : Nat} {r : Option Value} {h : gz_H} (hc : c0 ≤ c1) (hs : s0 ≤ s1) (g : gz_Rt X M c1 s1 r h) : gz_Rt X M c0 s0 r h := by
  intro pc env
  have g := g pc env
  match r, g with
  | none, g => exact fun hd => (g hd).widen hc hs
  | some (.int v), g => exact fun hd => gz_W.widen hc hs (g hd)
  | some (.long v), g => exact fun hd => gz_W.widen hc hs (g hd)
  | some (.float v), g => exact fun hd => gz_W.widen hc hs (g hd)
  | some (.double v), g => exact fun hd => gz_W.widen hc hs (g hd)
  | some .null, g => exact fun hd => gz_W.widen hc hs (g hd)
  | some (.ref v), g => exact fun hd => gz_W.widen hc hs (g hd)
  | some (.retAddr v), g => exact fun hd => gz_W.widen hc hs (g hd)
theorem gz_post.widen {X : gz_Cx} {M : gz_Mi} {c0 s0 c1 s1 : Nat} {o : gz_O} (hc : c0 ≤ c1) (hs : s0 ≤ s1) (g : gz_post X M c1 s1 o) : gz_post X M c0 s0 o := by
  match o, g with
  | .inl q, g => exact gz_W.widen hc hs g
  | .inr q, g => exact gz_Rt.widen hc hs g
def gz_OkS (M : gz_Mi) (dc ds pc : Nat) (t : gz_Sx) : Prop := ∀ X : gz_Cx, gz_ok X M → ∀ (env : List Value) (h : gz_H) (o : gz_O) (cells slots : Nat), cells + dc ≤ gz_rc X → slots + ds ≤ gz_rs X → t env h = some o → gz_post X M (cells + dc) (slots + ds) o → gz_W X M.2.1 cells slots pc env [] h

theorem gw_iconst {X : gz_Cx} {M : gz_Mi} {cells slots pc : Nat} {env st : List Value} {h : gz_H} (hok : gz_ok X M) {n : Int} {v : Int32} (hd : decode M.1 pc = .ok (.iconst n, 1)) (hv : Int32.ofInt n = v) (hk : gz_W X M.2.1 cells slots (pc + 1) env (.int v :: st) h) : gz_W X M.2.1 cells slots pc env (st) h := by
  obtain ⟨p, l, e, R, s, m, args, below, meth, c, Q, D, cA, base, b⟩ := X
  obtain ⟨cc, nL, own, fr, lo, mn, sc⟩ := M
  obtain ⟨hx, hb, hml, hown, hts, hK, hbs, hlk, hfr, hlo, hmn, hsc⟩ := hok
  intro H locs ls hR hS hL
  exact lv_iconst hx hb hd hv (hk H locs ls hR hS hL)
theorem gw_bipush {X : gz_Cx} {M : gz_Mi} {cells slots pc : Nat} {env st : List Value} {h : gz_H} (hok : gz_ok X M) {n : Int} {v : Int32} (hd : decode M.1 pc = .ok (.bipush n, 2)) (hv : (Int8.ofInt n).toInt32 = v) (hk : gz_W X M.2.1 cells slots (pc + 2) env (.int v :: st) h) : gz_W X M.2.1 cells slots pc env (st) h := by
  obtain ⟨p, l, e, R, s, m, args, below, meth, c, Q, D, cA, base, b⟩ := X
  obtain ⟨cc, nL, own, fr, lo, mn, sc⟩ := M
  obtain ⟨hx, hb, hml, hown, hts, hK, hbs, hlk, hfr, hlo, hmn, hsc⟩ := hok
  intro H locs ls hR hS hL
  exact lv_bipush hx hb hd hv (hk H locs ls hR hS hL)
theorem gw_sipush {X : gz_Cx} {M : gz_Mi} {cells slots pc : Nat} {env st : List Value} {h : gz_H} (hok : gz_ok X M) {n : Int} {v : Int32} (hd : decode M.1 pc = .ok (.sipush n, 3)) (hv : (Int16.ofInt n).toInt32 = v) (hk : gz_W X M.2.1 cells slots (pc + 3) env (.int v :: st) h) : gz_W X M.2.1 cells slots pc env (st) h := by
  obtain ⟨p, l, e, R, s, m, args, below, meth, c, Q, D, cA, base, b⟩ := X
  obtain ⟨cc, nL, own, fr, lo, mn, sc⟩ := M
  obtain ⟨hx, hb, hml, hown, hts, hK, hbs, hlk, hfr, hlo, hmn, hsc⟩ := hok
  intro H locs ls hR hS hL
  exact lv_sipush hx hb hd hv (hk H locs ls hR hS hL)
theorem gw_lconst {X : gz_Cx} {M : gz_Mi} {cells slots pc : Nat} {env st : List Value} {h : gz_H} (hok : gz_ok X M) {n : Fin 2} {v : Int64} (hd : decode M.1 pc = .ok (.lconst n, 1)) (hv : Int64.ofNat (n : Nat) = v) (hk : gz_W X M.2.1 cells slots (pc + 1) env (.long v :: st) h) : gz_W X M.2.1 cells slots pc env (st) h := by
  obtain ⟨p, l, e, R, s, m, args, below, meth, c, Q, D, cA, base, b⟩ := X
  obtain ⟨cc, nL, own, fr, lo, mn, sc⟩ := M
  obtain ⟨hx, hb, hml, hown, hts, hK, hbs, hlk, hfr, hlo, hmn, hsc⟩ := hok
  intro H locs ls hR hS hL
  exact lv_lconst hx hb hd hv (hk H locs ls hR hS hL)
theorem gw_ldc {X : gz_Cx} {M : gz_Mi} {cells slots pc : Nat} {env st : List Value} {h : gz_H} (hok : gz_ok X M) {i : Nat} {v : Int32} (hc : Cond.constant M.2.2.1 i v ∈ gz_tb) (hd : decode M.1 pc = .ok (.ldc i, 2)) (hk : gz_W X M.2.1 cells slots (pc + 2) env (.int v :: st) h) : gz_W X M.2.1 cells slots pc env (st) h := by
  obtain ⟨p, l, e, R, s, m, args, below, meth, c, Q, D, cA, base, b⟩ := X
  obtain ⟨cc, nL, own, fr, lo, mn, sc⟩ := M
  obtain ⟨hx, hb, hml, hown, hts, hK, hbs, hlk, hfr, hlo, hmn, hsc⟩ := hok
  intro H locs ls hR hS hL
  exact lv_ldc hx hb hown (hts _ hc) hd (hk H locs ls hR hS hL)
theorem gw_ldc2 {X : gz_Cx} {M : gz_Mi} {cells slots pc : Nat} {env st : List Value} {h : gz_H} (hok : gz_ok X M) {i : Nat} {v : Int64} (hc : Cond.constantLong M.2.2.1 i v ∈ gz_tb) (hd : decode M.1 pc = .ok (.ldc2_w i, 3)) (hk : gz_W X M.2.1 cells slots (pc + 3) env (.long v :: st) h) : gz_W X M.2.1 cells slots pc env (st) h := by
  obtain ⟨p, l, e, R, s, m, args, below, meth, c, Q, D, cA, base, b⟩ := X
  obtain ⟨cc, nL, own, fr, lo, mn, sc⟩ := M
  obtain ⟨hx, hb, hml, hown, hts, hK, hbs, hlk, hfr, hlo, hmn, hsc⟩ := hok
  intro H locs ls hR hS hL
  exact lv_ldc2 hx hb hown (hts _ hc) hd (hk H locs ls hR hS hL)
theorem gw_null {X : gz_Cx} {M : gz_Mi} {cells slots pc : Nat} {env st : List Value} {h : gz_H} (hok : gz_ok X M) (hd : decode M.1 pc = .ok (.aconst_null, 1)) (hk : gz_W X M.2.1 cells slots (pc + 1) env (.null :: st) h) : gz_W X M.2.1 cells slots pc env (st) h := by
  obtain ⟨p, l, e, R, s, m, args, below, meth, c, Q, D, cA, base, b⟩ := X
  obtain ⟨cc, nL, own, fr, lo, mn, sc⟩ := M
  obtain ⟨hx, hb, hml, hown, hts, hK, hbs, hlk, hfr, hlo, hmn, hsc⟩ := hok
  intro H locs ls hR hS hL
  exact lv_null hx hb hd (hk H locs ls hR hS hL)
theorem gw_iload_n {X : gz_Cx} {M : gz_Mi} {cells slots pc : Nat} {env st : List Value} {h : gz_H} (hok : gz_ok X M) {k : Fin 4} {i : Nat} {x : Int32} (hd : decode M.1 pc = .ok (.iload_n k, 1)) (hi : (k : Nat) = i) (hv : env[i]? = some (.int x)) (hk : gz_W X M.2.1 cells slots (pc + 1) env (.int x :: st) h) : gz_W X M.2.1 cells slots pc env (st) h := by
  obtain ⟨p, l, e, R, s, m, args, below, meth, c, Q, D, cA, base, b⟩ := X
  obtain ⟨cc, nL, own, fr, lo, mn, sc⟩ := M
  obtain ⟨hx, hb, hml, hown, hts, hK, hbs, hlk, hfr, hlo, hmn, hsc⟩ := hok
  intro H locs ls hR hS hL
  exact lv_iload_n hx hb hd hi (hL.at hv rfl) (hk H locs ls hR hS hL)
theorem gw_iload {X : gz_Cx} {M : gz_Mi} {cells slots pc : Nat} {env st : List Value} {h : gz_H} (hok : gz_ok X M) {i : Nat} {x : Int32} (hd : decode M.1 pc = .ok (.iload i, 2)) (hv : env[i]? = some (.int x)) (hk : gz_W X M.2.1 cells slots (pc + 2) env (.int x :: st) h) : gz_W X M.2.1 cells slots pc env (st) h := by
  obtain ⟨p, l, e, R, s, m, args, below, meth, c, Q, D, cA, base, b⟩ := X
  obtain ⟨cc, nL, own, fr, lo, mn, sc⟩ := M
  obtain ⟨hx, hb, hml, hown, hts, hK, hbs, hlk, hfr, hlo, hmn, hsc⟩ := hok
  intro H locs ls hR hS hL
  exact lv_iload hx hb hd (hL.at hv rfl) (hk H locs ls hR hS hL)
theorem gw_lload_n {X : gz_Cx} {M : gz_Mi} {cells slots pc : Nat} {env st : List Value} {h : gz_H} (hok : gz_ok X M) {k : Fin 4} {i : Nat} {x : Int64} (hd : decode M.1 pc = .ok (.lload_n k, 1)) (hi : (k : Nat) = i) (hv : env[i]? = some (.long x)) (hk : gz_W X M.2.1 cells slots (pc + 1) env (.long x :: st) h) : gz_W X M.2.1 cells slots pc env (st) h := by
  obtain ⟨p, l, e, R, s, m, args, below, meth, c, Q, D, cA, base, b⟩ := X
  obtain ⟨cc, nL, own, fr, lo, mn, sc⟩ := M
  obtain ⟨hx, hb, hml, hown, hts, hK, hbs, hlk, hfr, hlo, hmn, hsc⟩ := hok
  intro H locs ls hR hS hL
  exact lv_lload_n hx hb hd hi (hL.at hv rfl) (hk H locs ls hR hS hL)
theorem gw_lload {X : gz_Cx} {M : gz_Mi} {cells slots pc : Nat} {env st : List Value} {h : gz_H} (hok : gz_ok X M) {i : Nat} {x : Int64} (hd : decode M.1 pc = .ok (.lload i, 2)) (hv : env[i]? = some (.long x)) (hk : gz_W X M.2.1 cells slots (pc + 2) env (.long x :: st) h) : gz_W X M.2.1 cells slots pc env (st) h := by
  obtain ⟨p, l, e, R, s, m, args, below, meth, c, Q, D, cA, base, b⟩ := X
  obtain ⟨cc, nL, own, fr, lo, mn, sc⟩ := M
  obtain ⟨hx, hb, hml, hown, hts, hK, hbs, hlk, hfr, hlo, hmn, hsc⟩ := hok
  intro H locs ls hR hS hL
  exact lv_lload hx hb hd (hL.at hv rfl) (hk H locs ls hR hS hL)
theorem gw_aload_nr {X : gz_Cx} {M : gz_Mi} {cells slots pc : Nat} {env st : List Value} {h : gz_H} (hok : gz_ok X M) {k : Fin 4} {i : Nat} {x : Nat} (hd : decode M.1 pc = .ok (.aload_n k, 1)) (hi : (k : Nat) = i) (hv : env[i]? = some (.ref x)) (hk : gz_W X M.2.1 cells slots (pc + 1) env (.ref x :: st) h) : gz_W X M.2.1 cells slots pc env (st) h := by
  obtain ⟨p, l, e, R, s, m, args, below, meth, c, Q, D, cA, base, b⟩ := X
  obtain ⟨cc, nL, own, fr, lo, mn, sc⟩ := M
  obtain ⟨hx, hb, hml, hown, hts, hK, hbs, hlk, hfr, hlo, hmn, hsc⟩ := hok
  intro H locs ls hR hS hL
  exact lv_aload_n hx hb hd hi (hL.at hv rfl) (hk H locs ls hR hS hL)
theorem gw_aloadr {X : gz_Cx} {M : gz_Mi} {cells slots pc : Nat} {env st : List Value} {h : gz_H} (hok : gz_ok X M) {i : Nat} {x : Nat} (hd : decode M.1 pc = .ok (.aload i, 2)) (hv : env[i]? = some (.ref x)) (hk : gz_W X M.2.1 cells slots (pc + 2) env (.ref x :: st) h) : gz_W X M.2.1 cells slots pc env (st) h := by
  obtain ⟨p, l, e, R, s, m, args, below, meth, c, Q, D, cA, base, b⟩ := X
  obtain ⟨cc, nL, own, fr, lo, mn, sc⟩ := M
  obtain ⟨hx, hb, hml, hown, hts, hK, hbs, hlk, hfr, hlo, hmn, hsc⟩ := hok
  intro H locs ls hR hS hL
  exact lv_aload hx hb hd (hL.at hv rfl) (hk H locs ls hR hS hL)
theorem gw_aload_nz {X : gz_Cx} {M : gz_Mi} {cells slots pc : Nat} {env st : List Value} {h : gz_H} (hok : gz_ok X M) {k : Fin 4} {i : Nat}  (hd : decode M.1 pc = .ok (.aload_n k, 1)) (hi : (k : Nat) = i) (hv : env[i]? = some (.null)) (hk : gz_W X M.2.1 cells slots (pc + 1) env (.null :: st) h) : gz_W X M.2.1 cells slots pc env (st) h := by
  obtain ⟨p, l, e, R, s, m, args, below, meth, c, Q, D, cA, base, b⟩ := X
  obtain ⟨cc, nL, own, fr, lo, mn, sc⟩ := M
  obtain ⟨hx, hb, hml, hown, hts, hK, hbs, hlk, hfr, hlo, hmn, hsc⟩ := hok
  intro H locs ls hR hS hL
  exact lv_aload_nN hx hb hd hi (hL.at hv rfl) (hk H locs ls hR hS hL)
theorem gw_aloadz {X : gz_Cx} {M : gz_Mi} {cells slots pc : Nat} {env st : List Value} {h : gz_H} (hok : gz_ok X M) {i : Nat}  (hd : decode M.1 pc = .ok (.aload i, 2)) (hv : env[i]? = some (.null)) (hk : gz_W X M.2.1 cells slots (pc + 2) env (.null :: st) h) : gz_W X M.2.1 cells slots pc env (st) h := by
  obtain ⟨p, l, e, R, s, m, args, below, meth, c, Q, D, cA, base, b⟩ := X
  obtain ⟨cc, nL, own, fr, lo, mn, sc⟩ := M
  obtain ⟨hx, hb, hml, hown, hts, hK, hbs, hlk, hfr, hlo, hmn, hsc⟩ := hok
  intro H locs ls hR hS hL
  exact lv_aloadN hx hb hd (hL.at hv rfl) (hk H locs ls hR hS hL)
theorem gw_aload_nf {X : gz_Cx} {M : gz_Mi} {cells slots pc : Nat} {env st : List Value} {h : gz_H} (hok : gz_ok X M) {k : Fin 4} {i : Nat} {x : UInt32} (hd : decode M.1 pc = .ok (.aload_n k, 1)) (hi : (k : Nat) = i) (hv : env[i]? = some (.float x)) (hk : gz_W X M.2.1 cells slots (pc + 1) env (.float x :: st) h) : gz_W X M.2.1 cells slots pc env (st) h := by
  obtain ⟨p, l, e, R, s, m, args, below, meth, c, Q, D, cA, base, b⟩ := X
  obtain ⟨cc, nL, own, fr, lo, mn, sc⟩ := M
  obtain ⟨hx, hb, hml, hown, hts, hK, hbs, hlk, hfr, hlo, hmn, hsc⟩ := hok
  intro H locs ls hR hS hL
  exact lv_aload_n hx hb hd hi (hL.at hv rfl) (hk H locs ls hR hS hL)
theorem gw_aloadf {X : gz_Cx} {M : gz_Mi} {cells slots pc : Nat} {env st : List Value} {h : gz_H} (hok : gz_ok X M) {i : Nat} {x : UInt32} (hd : decode M.1 pc = .ok (.aload i, 2)) (hv : env[i]? = some (.float x)) (hk : gz_W X M.2.1 cells slots (pc + 2) env (.float x :: st) h) : gz_W X M.2.1 cells slots pc env (st) h := by
  obtain ⟨p, l, e, R, s, m, args, below, meth, c, Q, D, cA, base, b⟩ := X
  obtain ⟨cc, nL, own, fr, lo, mn, sc⟩ := M
  obtain ⟨hx, hb, hml, hown, hts, hK, hbs, hlk, hfr, hlo, hmn, hsc⟩ := hok
  intro H locs ls hR hS hL
  exact lv_aload hx hb hd (hL.at hv rfl) (hk H locs ls hR hS hL)
theorem gw_iadd {X : gz_Cx} {M : gz_Mi} {cells slots pc : Nat} {env st : List Value} {h : gz_H} (hok : gz_ok X M) {x y : Int32} (hd : decode M.1 pc = .ok (.iadd, 1)) (hk : gz_W X M.2.1 cells slots (pc + 1) env (.int (x + y) :: st) h) : gz_W X M.2.1 cells slots pc env (.int y :: .int x :: st) h := by
  obtain ⟨p, l, e, R, s, m, args, below, meth, c, Q, D, cA, base, b⟩ := X
  obtain ⟨cc, nL, own, fr, lo, mn, sc⟩ := M
  obtain ⟨hx, hb, hml, hown, hts, hK, hbs, hlk, hfr, hlo, hmn, hsc⟩ := hok
  intro H locs ls hR hS hL
  exact lv_iadd hx hb hd (hk H locs ls hR hS hL)
theorem gw_isub {X : gz_Cx} {M : gz_Mi} {cells slots pc : Nat} {env st : List Value} {h : gz_H} (hok : gz_ok X M) {x y : Int32} (hd : decode M.1 pc = .ok (.isub, 1)) (hk : gz_W X M.2.1 cells slots (pc + 1) env (.int (x - y) :: st) h) : gz_W X M.2.1 cells slots pc env (.int y :: .int x :: st) h := by
  obtain ⟨p, l, e, R, s, m, args, below, meth, c, Q, D, cA, base, b⟩ := X
  obtain ⟨cc, nL, own, fr, lo, mn, sc⟩ := M
  obtain ⟨hx, hb, hml, hown, hts, hK, hbs, hlk, hfr, hlo, hmn, hsc⟩ := hok
  intro H locs ls hR hS hL
  exact lv_isub hx hb hd (hk H locs ls hR hS hL)
theorem gw_imul {X : gz_Cx} {M : gz_Mi} {cells slots pc : Nat} {env st : List Value} {h : gz_H} (hok : gz_ok X M) {x y : Int32} (hd : decode M.1 pc = .ok (.imul, 1)) (hk : gz_W X M.2.1 cells slots (pc + 1) env (.int (x * y) :: st) h) : gz_W X M.2.1 cells slots pc env (.int y :: .int x :: st) h := by
  obtain ⟨p, l, e, R, s, m, args, below, meth, c, Q, D, cA, base, b⟩ := X
  obtain ⟨cc, nL, own, fr, lo, mn, sc⟩ := M
  obtain ⟨hx, hb, hml, hown, hts, hK, hbs, hlk, hfr, hlo, hmn, hsc⟩ := hok
  intro H locs ls hR hS hL
  exact lv_imul hx hb hd (hk H locs ls hR hS hL)
theorem gw_iand {X : gz_Cx} {M : gz_Mi} {cells slots pc : Nat} {env st : List Value} {h : gz_H} (hok : gz_ok X M) {x y : Int32} (hd : decode M.1 pc = .ok (.iand, 1)) (hk : gz_W X M.2.1 cells slots (pc + 1) env (.int (x &&& y) :: st) h) : gz_W X M.2.1 cells slots pc env (.int y :: .int x :: st) h := by
  obtain ⟨p, l, e, R, s, m, args, below, meth, c, Q, D, cA, base, b⟩ := X
  obtain ⟨cc, nL, own, fr, lo, mn, sc⟩ := M
  obtain ⟨hx, hb, hml, hown, hts, hK, hbs, hlk, hfr, hlo, hmn, hsc⟩ := hok
  intro H locs ls hR hS hL
  exact lv_iand hx hb hd (hk H locs ls hR hS hL)
theorem gw_ior {X : gz_Cx} {M : gz_Mi} {cells slots pc : Nat} {env st : List Value} {h : gz_H} (hok : gz_ok X M) {x y : Int32} (hd : decode M.1 pc = .ok (.ior, 1)) (hk : gz_W X M.2.1 cells slots (pc + 1) env (.int (x ||| y) :: st) h) : gz_W X M.2.1 cells slots pc env (.int y :: .int x :: st) h := by
  obtain ⟨p, l, e, R, s, m, args, below, meth, c, Q, D, cA, base, b⟩ := X
  obtain ⟨cc, nL, own, fr, lo, mn, sc⟩ := M
  obtain ⟨hx, hb, hml, hown, hts, hK, hbs, hlk, hfr, hlo, hmn, hsc⟩ := hok
  intro H locs ls hR hS hL
  exact lv_ior hx hb hd (hk H locs ls hR hS hL)
theorem gw_ixor {X : gz_Cx} {M : gz_Mi} {cells slots pc : Nat} {env st : List Value} {h : gz_H} (hok : gz_ok X M) {x y : Int32} (hd : decode M.1 pc = .ok (.ixor, 1)) (hk : gz_W X M.2.1 cells slots (pc + 1) env (.int (x ^^^ y) :: st) h) : gz_W X M.2.1 cells slots pc env (.int y :: .int x :: st) h := by
  obtain ⟨p, l, e, R, s, m, args, below, meth, c, Q, D, cA, base, b⟩ := X
  obtain ⟨cc, nL, own, fr, lo, mn, sc⟩ := M
  obtain ⟨hx, hb, hml, hown, hts, hK, hbs, hlk, hfr, hlo, hmn, hsc⟩ := hok
  intro H locs ls hR hS hL
  exact lv_ixor hx hb hd (hk H locs ls hR hS hL)
theorem gw_ishl {X : gz_Cx} {M : gz_Mi} {cells slots pc : Nat} {env st : List Value} {h : gz_H} (hok : gz_ok X M) {x y : Int32} (hd : decode M.1 pc = .ok (.ishl, 1)) (hk : gz_W X M.2.1 cells slots (pc + 1) env (.int (x <<< (y &&& 31)) :: st) h) : gz_W X M.2.1 cells slots pc env (.int y :: .int x :: st) h := by
  obtain ⟨p, l, e, R, s, m, args, below, meth, c, Q, D, cA, base, b⟩ := X
  obtain ⟨cc, nL, own, fr, lo, mn, sc⟩ := M
  obtain ⟨hx, hb, hml, hown, hts, hK, hbs, hlk, hfr, hlo, hmn, hsc⟩ := hok
  intro H locs ls hR hS hL
  exact lv_ishl hx hb hd (hk H locs ls hR hS hL)
theorem gw_ishr {X : gz_Cx} {M : gz_Mi} {cells slots pc : Nat} {env st : List Value} {h : gz_H} (hok : gz_ok X M) {x y : Int32} (hd : decode M.1 pc = .ok (.ishr, 1)) (hk : gz_W X M.2.1 cells slots (pc + 1) env (.int (x >>> (y &&& 31)) :: st) h) : gz_W X M.2.1 cells slots pc env (.int y :: .int x :: st) h := by
  obtain ⟨p, l, e, R, s, m, args, below, meth, c, Q, D, cA, base, b⟩ := X
  obtain ⟨cc, nL, own, fr, lo, mn, sc⟩ := M
  obtain ⟨hx, hb, hml, hown, hts, hK, hbs, hlk, hfr, hlo, hmn, hsc⟩ := hok
  intro H locs ls hR hS hL
  exact lv_ishr hx hb hd (hk H locs ls hR hS hL)
theorem gw_idiv {X : gz_Cx} {M : gz_Mi} {cells slots pc : Nat} {env st : List Value} {h : gz_H} (hok : gz_ok X M) {x y : Int32} (hd : decode M.1 pc = .ok (.idiv, 1)) (hne : ¬ y = 0) (hk : gz_W X M.2.1 cells slots (pc + 1) env (.int (x / y) :: st) h) : gz_W X M.2.1 cells slots pc env (.int y :: .int x :: st) h := by
  obtain ⟨p, l, e, R, s, m, args, below, meth, c, Q, D, cA, base, b⟩ := X
  obtain ⟨cc, nL, own, fr, lo, mn, sc⟩ := M
  obtain ⟨hx, hb, hml, hown, hts, hK, hbs, hlk, hfr, hlo, hmn, hsc⟩ := hok
  intro H locs ls hR hS hL
  exact lv_idiv hx hb hd hne (hk H locs ls hR hS hL)
theorem gw_irem {X : gz_Cx} {M : gz_Mi} {cells slots pc : Nat} {env st : List Value} {h : gz_H} (hok : gz_ok X M) {x y : Int32} (hd : decode M.1 pc = .ok (.irem, 1)) (hne : ¬ y = 0) (hk : gz_W X M.2.1 cells slots (pc + 1) env (.int (x - x / y * y) :: st) h) : gz_W X M.2.1 cells slots pc env (.int y :: .int x :: st) h := by
  obtain ⟨p, l, e, R, s, m, args, below, meth, c, Q, D, cA, base, b⟩ := X
  obtain ⟨cc, nL, own, fr, lo, mn, sc⟩ := M
  obtain ⟨hx, hb, hml, hown, hts, hK, hbs, hlk, hfr, hlo, hmn, hsc⟩ := hok
  intro H locs ls hR hS hL
  exact lv_irem hx hb hd hne (hk H locs ls hR hS hL)
theorem gw_ladd {X : gz_Cx} {M : gz_Mi} {cells slots pc : Nat} {env st : List Value} {h : gz_H} (hok : gz_ok X M) {x y : Int64} (hd : decode M.1 pc = .ok (.ladd, 1)) (hk : gz_W X M.2.1 cells slots (pc + 1) env (.long (x + y) :: st) h) : gz_W X M.2.1 cells slots pc env (.long y :: .long x :: st) h := by
  obtain ⟨p, l, e, R, s, m, args, below, meth, c, Q, D, cA, base, b⟩ := X
  obtain ⟨cc, nL, own, fr, lo, mn, sc⟩ := M
  obtain ⟨hx, hb, hml, hown, hts, hK, hbs, hlk, hfr, hlo, hmn, hsc⟩ := hok
  intro H locs ls hR hS hL
  exact lv_ladd hx hb hd (hk H locs ls hR hS hL)
theorem gw_lsub {X : gz_Cx} {M : gz_Mi} {cells slots pc : Nat} {env st : List Value} {h : gz_H} (hok : gz_ok X M) {x y : Int64} (hd : decode M.1 pc = .ok (.lsub, 1)) (hk : gz_W X M.2.1 cells slots (pc + 1) env (.long (x - y) :: st) h) : gz_W X M.2.1 cells slots pc env (.long y :: .long x :: st) h := by
  obtain ⟨p, l, e, R, s, m, args, below, meth, c, Q, D, cA, base, b⟩ := X
  obtain ⟨cc, nL, own, fr, lo, mn, sc⟩ := M
  obtain ⟨hx, hb, hml, hown, hts, hK, hbs, hlk, hfr, hlo, hmn, hsc⟩ := hok
  intro H locs ls hR hS hL
  exact lv_lsub hx hb hd (hk H locs ls hR hS hL)
theorem gw_lmul {X : gz_Cx} {M : gz_Mi} {cells slots pc : Nat} {env st : List Value} {h : gz_H} (hok : gz_ok X M) {x y : Int64} (hd : decode M.1 pc = .ok (.lmul, 1)) (hk : gz_W X M.2.1 cells slots (pc + 1) env (.long (x * y) :: st) h) : gz_W X M.2.1 cells slots pc env (.long y :: .long x :: st) h := by
  obtain ⟨p, l, e, R, s, m, args, below, meth, c, Q, D, cA, base, b⟩ := X
  obtain ⟨cc, nL, own, fr, lo, mn, sc⟩ := M
  obtain ⟨hx, hb, hml, hown, hts, hK, hbs, hlk, hfr, hlo, hmn, hsc⟩ := hok
  intro H locs ls hR hS hL
  exact lv_lmul hx hb hd (hk H locs ls hR hS hL)
theorem gw_land {X : gz_Cx} {M : gz_Mi} {cells slots pc : Nat} {env st : List Value} {h : gz_H} (hok : gz_ok X M) {x y : Int64} (hd : decode M.1 pc = .ok (.land, 1)) (hk : gz_W X M.2.1 cells slots (pc + 1) env (.long (x &&& y) :: st) h) : gz_W X M.2.1 cells slots pc env (.long y :: .long x :: st) h := by
  obtain ⟨p, l, e, R, s, m, args, below, meth, c, Q, D, cA, base, b⟩ := X
  obtain ⟨cc, nL, own, fr, lo, mn, sc⟩ := M
  obtain ⟨hx, hb, hml, hown, hts, hK, hbs, hlk, hfr, hlo, hmn, hsc⟩ := hok
  intro H locs ls hR hS hL
  exact lv_land hx hb hd (hk H locs ls hR hS hL)
theorem gw_lor {X : gz_Cx} {M : gz_Mi} {cells slots pc : Nat} {env st : List Value} {h : gz_H} (hok : gz_ok X M) {x y : Int64} (hd : decode M.1 pc = .ok (.lor, 1)) (hk : gz_W X M.2.1 cells slots (pc + 1) env (.long (x ||| y) :: st) h) : gz_W X M.2.1 cells slots pc env (.long y :: .long x :: st) h := by
  obtain ⟨p, l, e, R, s, m, args, below, meth, c, Q, D, cA, base, b⟩ := X
  obtain ⟨cc, nL, own, fr, lo, mn, sc⟩ := M
  obtain ⟨hx, hb, hml, hown, hts, hK, hbs, hlk, hfr, hlo, hmn, hsc⟩ := hok
  intro H locs ls hR hS hL
  exact lv_lor hx hb hd (hk H locs ls hR hS hL)
theorem gw_ldiv {X : gz_Cx} {M : gz_Mi} {cells slots pc : Nat} {env st : List Value} {h : gz_H} (hok : gz_ok X M) {x y : Int64} (hd : decode M.1 pc = .ok (.ldiv, 1)) (hne : ¬ y = 0) (hk : gz_W X M.2.1 cells slots (pc + 1) env (.long (x / y) :: st) h) : gz_W X M.2.1 cells slots pc env (.long y :: .long x :: st) h := by
  obtain ⟨p, l, e, R, s, m, args, below, meth, c, Q, D, cA, base, b⟩ := X
  obtain ⟨cc, nL, own, fr, lo, mn, sc⟩ := M
  obtain ⟨hx, hb, hml, hown, hts, hK, hbs, hlk, hfr, hlo, hmn, hsc⟩ := hok
  intro H locs ls hR hS hL
  exact lv_ldiv hx hb hd hne (hk H locs ls hR hS hL)
theorem gw_lushr {X : gz_Cx} {M : gz_Mi} {cells slots pc : Nat} {env st : List Value} {h : gz_H} (hok : gz_ok X M) {x : Int64} {y : Int32} (hd : decode M.1 pc = .ok (.lushr, 1)) (hk : gz_W X M.2.1 cells slots (pc + 1) env (.long ((x.toUInt64 >>> (y.toInt64.toUInt64 &&& Int64.toUInt64 63)).toInt64) :: st) h) : gz_W X M.2.1 cells slots pc env (.int y :: .long x :: st) h := by
  obtain ⟨p, l, e, R, s, m, args, below, meth, c, Q, D, cA, base, b⟩ := X
  obtain ⟨cc, nL, own, fr, lo, mn, sc⟩ := M
  obtain ⟨hx, hb, hml, hown, hts, hK, hbs, hlk, hfr, hlo, hmn, hsc⟩ := hok
  intro H locs ls hR hS hL
  exact lv_lushr hx hb hd rfl (hk H locs ls hR hS hL)
theorem gw_lshl {X : gz_Cx} {M : gz_Mi} {cells slots pc : Nat} {env st : List Value} {h : gz_H} (hok : gz_ok X M) {x : Int64} {y : Int32} (hd : decode M.1 pc = .ok (.lshl, 1)) (hk : gz_W X M.2.1 cells slots (pc + 1) env (.long (x <<< (y.toInt64 &&& 63)) :: st) h) : gz_W X M.2.1 cells slots pc env (.int y :: .long x :: st) h := by
  obtain ⟨p, l, e, R, s, m, args, below, meth, c, Q, D, cA, base, b⟩ := X
  obtain ⟨cc, nL, own, fr, lo, mn, sc⟩ := M
  obtain ⟨hx, hb, hml, hown, hts, hK, hbs, hlk, hfr, hlo, hmn, hsc⟩ := hok
  intro H locs ls hR hS hL
  exact lv_lshl hx hb hd rfl (hk H locs ls hR hS hL)
theorem gw_lcmp {X : gz_Cx} {M : gz_Mi} {cells slots pc : Nat} {env st : List Value} {h : gz_H} (hok : gz_ok X M) {x y : Int64} (hd : decode M.1 pc = .ok (.lcmp, 1)) (hk : gz_W X M.2.1 cells slots (pc + 1) env (.int (lg_cmp x y) :: st) h) : gz_W X M.2.1 cells slots pc env (.long y :: .long x :: st) h := by
  obtain ⟨p, l, e, R, s, m, args, below, meth, c, Q, D, cA, base, b⟩ := X
  obtain ⟨cc, nL, own, fr, lo, mn, sc⟩ := M
  obtain ⟨hx, hb, hml, hown, hts, hK, hbs, hlk, hfr, hlo, hmn, hsc⟩ := hok
  intro H locs ls hR hS hL
  exact W.lcmp hx hb hd (hk H locs ls hR hS hL)
theorem gw_i2l {X : gz_Cx} {M : gz_Mi} {cells slots pc : Nat} {env st : List Value} {h : gz_H} (hok : gz_ok X M) {x : Int32} (hd : decode M.1 pc = .ok (.i2l, 1)) (hk : gz_W X M.2.1 cells slots (pc + 1) env (.long x.toInt64 :: st) h) : gz_W X M.2.1 cells slots pc env (.int x :: st) h := by
  obtain ⟨p, l, e, R, s, m, args, below, meth, c, Q, D, cA, base, b⟩ := X
  obtain ⟨cc, nL, own, fr, lo, mn, sc⟩ := M
  obtain ⟨hx, hb, hml, hown, hts, hK, hbs, hlk, hfr, hlo, hmn, hsc⟩ := hok
  intro H locs ls hR hS hL
  exact lv_i2l hx hb hd rfl (hk H locs ls hR hS hL)
theorem gw_l2i {X : gz_Cx} {M : gz_Mi} {cells slots pc : Nat} {env st : List Value} {h : gz_H} (hok : gz_ok X M) {x : Int64} (hd : decode M.1 pc = .ok (.l2i, 1)) (hk : gz_W X M.2.1 cells slots (pc + 1) env (.int x.toInt32 :: st) h) : gz_W X M.2.1 cells slots pc env (.long x :: st) h := by
  obtain ⟨p, l, e, R, s, m, args, below, meth, c, Q, D, cA, base, b⟩ := X
  obtain ⟨cc, nL, own, fr, lo, mn, sc⟩ := M
  obtain ⟨hx, hb, hml, hown, hts, hK, hbs, hlk, hfr, hlo, hmn, hsc⟩ := hok
  intro H locs ls hR hS hL
  exact lv_l2i hx hb hd rfl (hk H locs ls hR hS hL)
theorem gw_dup {X : gz_Cx} {M : gz_Mi} {cells slots pc : Nat} {env st : List Value} {h : gz_H} (hok : gz_ok X M) {v : Value} (hd : decode M.1 pc = .ok (.dup, 1)) (hv : v.category = 1) (hk : gz_W X M.2.1 cells slots (pc + 1) env (v :: v :: st) h) : gz_W X M.2.1 cells slots pc env (v :: st) h := by
  obtain ⟨p, l, e, R, s, m, args, below, meth, c, Q, D, cA, base, b⟩ := X
  obtain ⟨cc, nL, own, fr, lo, mn, sc⟩ := M
  obtain ⟨hx, hb, hml, hown, hts, hK, hbs, hlk, hfr, hlo, hmn, hsc⟩ := hok
  intro H locs ls hR hS hL
  exact lv_dup hx hb hd ((gz_c_cat base b v).trans hv) (hk H locs ls hR hS hL)
theorem gw_dup2 {X : gz_Cx} {M : gz_Mi} {cells slots pc : Nat} {env st : List Value} {h : gz_H} (hok : gz_ok X M) {v u : Value} (hd : decode M.1 pc = .ok (.dup2, 1)) (hv : v.category = 1) (hu : u.category = 1) (hk : gz_W X M.2.1 cells slots (pc + 1) env (v :: u :: v :: u :: st) h) : gz_W X M.2.1 cells slots pc env (v :: u :: st) h := by
  obtain ⟨p, l, e, R, s, m, args, below, meth, c, Q, D, cA, base, b⟩ := X
  obtain ⟨cc, nL, own, fr, lo, mn, sc⟩ := M
  obtain ⟨hx, hb, hml, hown, hts, hK, hbs, hlk, hfr, hlo, hmn, hsc⟩ := hok
  intro H locs ls hR hS hL
  exact lv_dup2_11 hx hb hd ((gz_c_cat base b v).trans hv) ((gz_c_cat base b u).trans hu) (hk H locs ls hR hS hL)
theorem gw_pop {X : gz_Cx} {M : gz_Mi} {cells slots pc : Nat} {env st : List Value} {h : gz_H} (hok : gz_ok X M) {v : Value} (hd : decode M.1 pc = .ok (.pop, 1)) (hv : v.category = 1) (hk : gz_W X M.2.1 cells slots (pc + 1) env (st) h) : gz_W X M.2.1 cells slots pc env (v :: st) h := by
  obtain ⟨p, l, e, R, s, m, args, below, meth, c, Q, D, cA, base, b⟩ := X
  obtain ⟨cc, nL, own, fr, lo, mn, sc⟩ := M
  obtain ⟨hx, hb, hml, hown, hts, hK, hbs, hlk, hfr, hlo, hmn, hsc⟩ := hok
  intro H locs ls hR hS hL
  exact lv_pop hx hb hd ((gz_c_cat base b v).trans hv) (hk H locs ls hR hS hL)
theorem gw_goto {X : gz_Cx} {M : gz_Mi} {cells slots pc : Nat} {env st : List Value} {h : gz_H} (hok : gz_ok X M) {off : Int} {tgt : Nat} (hd : decode M.1 pc = .ok (.goto off, 3)) (ht : (pc : Int) + off = (tgt : Int)) (hk : gz_W X M.2.1 cells slots tgt env (st) h) : gz_W X M.2.1 cells slots pc env (st) h := by
  obtain ⟨p, l, e, R, s, m, args, below, meth, c, Q, D, cA, base, b⟩ := X
  obtain ⟨cc, nL, own, fr, lo, mn, sc⟩ := M
  obtain ⟨hx, hb, hml, hown, hts, hK, hbs, hlk, hfr, hlo, hmn, hsc⟩ := hok
  intro H locs ls hR hS hL
  exact lv_goto hx hb hd ht (hk H locs ls hR hS hL)
theorem gw_istore {X : gz_Cx} {M : gz_Mi} {cells slots pc : Nat} {env st : List Value} {h : gz_H} (hok : gz_ok X M) {k : Fin 4} {i : Nat} {x : Int32} (hd : decode M.1 pc = .ok (.istore_n k, 1)) (hi : (k : Nat) = i) (hn : i < M.2.1) (hk : gz_W X M.2.1 cells slots (pc + 1) (gz_st env i (.int x)) st h) : gz_W X M.2.1 cells slots pc env (.int x :: st) h := by
  obtain ⟨p, l, e, R, s, m, args, below, meth, c, Q, D, cA, base, b⟩ := X
  obtain ⟨cc, nL, own, fr, lo, mn, sc⟩ := M
  obtain ⟨hx, hb, hml, hown, hts, hK, hbs, hlk, hfr, hlo, hmn, hsc⟩ := hok
  intro H locs ls hR hS hL
  exact lv_istore_n hx hb hd hi hL hn rfl (fun ls' hl' => hk H locs ls' hR hS (gz_L.st1 (v := .int x) hl'))
theorem gw_istore' {X : gz_Cx} {M : gz_Mi} {cells slots pc : Nat} {env st : List Value} {h : gz_H} (hok : gz_ok X M) {i : Nat} {x : Int32} (hd : decode M.1 pc = .ok (.istore i, 2)) (hn : i < M.2.1) (hk : gz_W X M.2.1 cells slots (pc + 2) (gz_st env i (.int x)) st h) : gz_W X M.2.1 cells slots pc env (.int x :: st) h := by
  obtain ⟨p, l, e, R, s, m, args, below, meth, c, Q, D, cA, base, b⟩ := X
  obtain ⟨cc, nL, own, fr, lo, mn, sc⟩ := M
  obtain ⟨hx, hb, hml, hown, hts, hK, hbs, hlk, hfr, hlo, hmn, hsc⟩ := hok
  intro H locs ls hR hS hL
  exact lv_istore hx hb hd hL hn rfl (fun ls' hl' => hk H locs ls' hR hS (gz_L.st1 (v := .int x) hl'))
theorem gw_lstore {X : gz_Cx} {M : gz_Mi} {cells slots pc : Nat} {env st : List Value} {h : gz_H} (hok : gz_ok X M) {k : Fin 4} {i : Nat} {x : Int64} (hd : decode M.1 pc = .ok (.lstore_n k, 1)) (hi : (k : Nat) = i) (hn : i + 1 < M.2.1) (hk : gz_W X M.2.1 cells slots (pc + 1) (gz_st2 env i (.long x)) st h) : gz_W X M.2.1 cells slots pc env (.long x :: st) h := by
  obtain ⟨p, l, e, R, s, m, args, below, meth, c, Q, D, cA, base, b⟩ := X
  obtain ⟨cc, nL, own, fr, lo, mn, sc⟩ := M
  obtain ⟨hx, hb, hml, hown, hts, hK, hbs, hlk, hfr, hlo, hmn, hsc⟩ := hok
  intro H locs ls hR hS hL
  exact lv_lstore_n hx hb hd hi hL hn rfl (fun ls' hl' => hk H locs ls' hR hS (gz_L.st2 (v := .long x) hl'))
theorem gw_lstore' {X : gz_Cx} {M : gz_Mi} {cells slots pc : Nat} {env st : List Value} {h : gz_H} (hok : gz_ok X M) {i : Nat} {x : Int64} (hd : decode M.1 pc = .ok (.lstore i, 2)) (hn : i + 1 < M.2.1) (hk : gz_W X M.2.1 cells slots (pc + 2) (gz_st2 env i (.long x)) st h) : gz_W X M.2.1 cells slots pc env (.long x :: st) h := by
  obtain ⟨p, l, e, R, s, m, args, below, meth, c, Q, D, cA, base, b⟩ := X
  obtain ⟨cc, nL, own, fr, lo, mn, sc⟩ := M
  obtain ⟨hx, hb, hml, hown, hts, hK, hbs, hlk, hfr, hlo, hmn, hsc⟩ := hok
  intro H locs ls hR hS hL
  exact lv_lstore hx hb hd hL hn rfl (fun ls' hl' => hk H locs ls' hR hS (gz_L.st2 (v := .long x) hl'))
theorem gw_astorer {X : gz_Cx} {M : gz_Mi} {cells slots pc : Nat} {env st : List Value} {h : gz_H} (hok : gz_ok X M) {k : Fin 4} {i : Nat} {x : Nat} (hd : decode M.1 pc = .ok (.astore_n k, 1)) (hi : (k : Nat) = i) (hn : i < M.2.1) (hk : gz_W X M.2.1 cells slots (pc + 1) (gz_st env i (.ref x)) st h) : gz_W X M.2.1 cells slots pc env (.ref x :: st) h := by
  obtain ⟨p, l, e, R, s, m, args, below, meth, c, Q, D, cA, base, b⟩ := X
  obtain ⟨cc, nL, own, fr, lo, mn, sc⟩ := M
  obtain ⟨hx, hb, hml, hown, hts, hK, hbs, hlk, hfr, hlo, hmn, hsc⟩ := hok
  intro H locs ls hR hS hL
  exact lv_astore_n hx hb hd hi hL hn rfl (fun ls' hl' => hk H locs ls' hR hS (gz_L.st1 (v := .ref x) hl'))
theorem gw_astorer' {X : gz_Cx} {M : gz_Mi} {cells slots pc : Nat} {env st : List Value} {h : gz_H} (hok : gz_ok X M) {i : Nat} {x : Nat} (hd : decode M.1 pc = .ok (.astore i, 2)) (hn : i < M.2.1) (hk : gz_W X M.2.1 cells slots (pc + 2) (gz_st env i (.ref x)) st h) : gz_W X M.2.1 cells slots pc env (.ref x :: st) h := by
  obtain ⟨p, l, e, R, s, m, args, below, meth, c, Q, D, cA, base, b⟩ := X
  obtain ⟨cc, nL, own, fr, lo, mn, sc⟩ := M
  obtain ⟨hx, hb, hml, hown, hts, hK, hbs, hlk, hfr, hlo, hmn, hsc⟩ := hok
  intro H locs ls hR hS hL
  exact lv_astore hx hb hd hL hn rfl (fun ls' hl' => hk H locs ls' hR hS (gz_L.st1 (v := .ref x) hl'))
theorem gw_astorez {X : gz_Cx} {M : gz_Mi} {cells slots pc : Nat} {env st : List Value} {h : gz_H} (hok : gz_ok X M) {k : Fin 4} {i : Nat}  (hd : decode M.1 pc = .ok (.astore_n k, 1)) (hi : (k : Nat) = i) (hn : i < M.2.1) (hk : gz_W X M.2.1 cells slots (pc + 1) (gz_st env i (.null)) st h) : gz_W X M.2.1 cells slots pc env (.null :: st) h := by
  obtain ⟨p, l, e, R, s, m, args, below, meth, c, Q, D, cA, base, b⟩ := X
  obtain ⟨cc, nL, own, fr, lo, mn, sc⟩ := M
  obtain ⟨hx, hb, hml, hown, hts, hK, hbs, hlk, hfr, hlo, hmn, hsc⟩ := hok
  intro H locs ls hR hS hL
  exact lv_astore_nN hx hb hd hi hL hn rfl (fun ls' hl' => hk H locs ls' hR hS (gz_L.st1 (v := .null) hl'))
theorem gw_astorez' {X : gz_Cx} {M : gz_Mi} {cells slots pc : Nat} {env st : List Value} {h : gz_H} (hok : gz_ok X M) {i : Nat}  (hd : decode M.1 pc = .ok (.astore i, 2)) (hn : i < M.2.1) (hk : gz_W X M.2.1 cells slots (pc + 2) (gz_st env i (.null)) st h) : gz_W X M.2.1 cells slots pc env (.null :: st) h := by
  obtain ⟨p, l, e, R, s, m, args, below, meth, c, Q, D, cA, base, b⟩ := X
  obtain ⟨cc, nL, own, fr, lo, mn, sc⟩ := M
  obtain ⟨hx, hb, hml, hown, hts, hK, hbs, hlk, hfr, hlo, hmn, hsc⟩ := hok
  intro H locs ls hR hS hL
  exact lv_astoreN hx hb hd hL hn rfl (fun ls' hl' => hk H locs ls' hR hS (gz_L.st1 (v := .null) hl'))
theorem gw_iinc {X : gz_Cx} {M : gz_Mi} {cells slots pc : Nat} {env st : List Value} {h : gz_H} (hok : gz_ok X M) {i : Nat} {n : Int} {x : Int32} (hd : decode M.1 pc = .ok (.iinc i n, 3)) (hv : env[i]? = some (.int x)) (hn : i < M.2.1) (hk : gz_W X M.2.1 cells slots (pc + 3) (gz_st env i (.int (x + Int32.ofInt n))) st h) : gz_W X M.2.1 cells slots pc env st h := by
  obtain ⟨p, l, e, R, s, m, args, below, meth, c, Q, D, cA, base, b⟩ := X
  obtain ⟨cc, nL, own, fr, lo, mn, sc⟩ := M
  obtain ⟨hx, hb, hml, hown, hts, hK, hbs, hlk, hfr, hlo, hmn, hsc⟩ := hok
  intro H locs ls hR hS hL
  have hmem : (i, Value.int x) ∈ gz_lv base b env := (gz_lv_mem base b env _).mpr ⟨.int x, hv, rfl, rfl⟩
  obtain ⟨k, hk2⟩ := List.getElem?_of_mem hmem
  exact lv_iinc hx hb hd hL hk2 rfl hn rfl (fun ls' hl' => hk H locs ls' hR hS (gz_L.st1 (v := .int (x + Int32.ofInt n)) hl'))
theorem gw_if_eq {X : gz_Cx} {M : gz_Mi} {cells slots pc : Nat} {env st : List Value} {h : gz_H} (hok : gz_ok X M) {x : Int32} {off : Int} {tgt : Nat} (hd : decode M.1 pc = .ok (.ifCond .eq off, 3)) (ht : (pc : Int) + off = (tgt : Int)) (kt : x = 0 → gz_W X M.2.1 cells slots tgt env st h) (kf : ¬ x = 0 → gz_W X M.2.1 cells slots (pc + 3) env st h) : gz_W X M.2.1 cells slots pc env (.int x :: st) h := by
  obtain ⟨p, l, e, R, s, m, args, below, meth, c, Q, D, cA, base, b⟩ := X
  obtain ⟨cc, nL, own, fr, lo, mn, sc⟩ := M
  obtain ⟨hx, hb, hml, hown, hts, hK, hbs, hlk, hfr, hlo, hmn, hsc⟩ := hok
  intro H locs ls hR hS hL
  exact lv_if_eq hx hb hd ht (fun q => kt q H locs ls hR hS hL) (fun q => kf q H locs ls hR hS hL)
theorem gw_ic_eq {X : gz_Cx} {M : gz_Mi} {cells slots pc : Nat} {env st : List Value} {h : gz_H} (hok : gz_ok X M) {x y : Int32} {off : Int} {tgt : Nat} (hd : decode M.1 pc = .ok (.if_icmp .eq off, 3)) (ht : (pc : Int) + off = (tgt : Int)) (kt : x = y → gz_W X M.2.1 cells slots tgt env st h) (kf : ¬ x = y → gz_W X M.2.1 cells slots (pc + 3) env st h) : gz_W X M.2.1 cells slots pc env (.int y :: .int x :: st) h := by
  obtain ⟨p, l, e, R, s, m, args, below, meth, c, Q, D, cA, base, b⟩ := X
  obtain ⟨cc, nL, own, fr, lo, mn, sc⟩ := M
  obtain ⟨hx, hb, hml, hown, hts, hK, hbs, hlk, hfr, hlo, hmn, hsc⟩ := hok
  intro H locs ls hR hS hL
  exact lv_icmp_eq hx hb hd ht (fun q => kt q H locs ls hR hS hL) (fun q => kf q H locs ls hR hS hL)
theorem gw_if_ne {X : gz_Cx} {M : gz_Mi} {cells slots pc : Nat} {env st : List Value} {h : gz_H} (hok : gz_ok X M) {x : Int32} {off : Int} {tgt : Nat} (hd : decode M.1 pc = .ok (.ifCond .ne off, 3)) (ht : (pc : Int) + off = (tgt : Int)) (kt : ¬ x = 0 → gz_W X M.2.1 cells slots tgt env st h) (kf : x = 0 → gz_W X M.2.1 cells slots (pc + 3) env st h) : gz_W X M.2.1 cells slots pc env (.int x :: st) h := by
  obtain ⟨p, l, e, R, s, m, args, below, meth, c, Q, D, cA, base, b⟩ := X
  obtain ⟨cc, nL, own, fr, lo, mn, sc⟩ := M
  obtain ⟨hx, hb, hml, hown, hts, hK, hbs, hlk, hfr, hlo, hmn, hsc⟩ := hok
  intro H locs ls hR hS hL
  exact lv_if_ne hx hb hd ht (fun q => kt q H locs ls hR hS hL) (fun q => kf q H locs ls hR hS hL)
theorem gw_ic_ne {X : gz_Cx} {M : gz_Mi} {cells slots pc : Nat} {env st : List Value} {h : gz_H} (hok : gz_ok X M) {x y : Int32} {off : Int} {tgt : Nat} (hd : decode M.1 pc = .ok (.if_icmp .ne off, 3)) (ht : (pc : Int) + off = (tgt : Int)) (kt : ¬ x = y → gz_W X M.2.1 cells slots tgt env st h) (kf : x = y → gz_W X M.2.1 cells slots (pc + 3) env st h) : gz_W X M.2.1 cells slots pc env (.int y :: .int x :: st) h := by
  obtain ⟨p, l, e, R, s, m, args, below, meth, c, Q, D, cA, base, b⟩ := X
  obtain ⟨cc, nL, own, fr, lo, mn, sc⟩ := M
  obtain ⟨hx, hb, hml, hown, hts, hK, hbs, hlk, hfr, hlo, hmn, hsc⟩ := hok
  intro H locs ls hR hS hL
  exact lv_icmp_ne hx hb hd ht (fun q => kt q H locs ls hR hS hL) (fun q => kf q H locs ls hR hS hL)
theorem gw_if_lt {X : gz_Cx} {M : gz_Mi} {cells slots pc : Nat} {env st : List Value} {h : gz_H} (hok : gz_ok X M) {x : Int32} {off : Int} {tgt : Nat} (hd : decode M.1 pc = .ok (.ifCond .lt off, 3)) (ht : (pc : Int) + off = (tgt : Int)) (kt : x < 0 → gz_W X M.2.1 cells slots tgt env st h) (kf : ¬ x < 0 → gz_W X M.2.1 cells slots (pc + 3) env st h) : gz_W X M.2.1 cells slots pc env (.int x :: st) h := by
  obtain ⟨p, l, e, R, s, m, args, below, meth, c, Q, D, cA, base, b⟩ := X
  obtain ⟨cc, nL, own, fr, lo, mn, sc⟩ := M
  obtain ⟨hx, hb, hml, hown, hts, hK, hbs, hlk, hfr, hlo, hmn, hsc⟩ := hok
  intro H locs ls hR hS hL
  exact lv_if_lt hx hb hd ht (fun q => kt q H locs ls hR hS hL) (fun q => kf q H locs ls hR hS hL)
theorem gw_ic_lt {X : gz_Cx} {M : gz_Mi} {cells slots pc : Nat} {env st : List Value} {h : gz_H} (hok : gz_ok X M) {x y : Int32} {off : Int} {tgt : Nat} (hd : decode M.1 pc = .ok (.if_icmp .lt off, 3)) (ht : (pc : Int) + off = (tgt : Int)) (kt : x < y → gz_W X M.2.1 cells slots tgt env st h) (kf : ¬ x < y → gz_W X M.2.1 cells slots (pc + 3) env st h) : gz_W X M.2.1 cells slots pc env (.int y :: .int x :: st) h := by
  obtain ⟨p, l, e, R, s, m, args, below, meth, c, Q, D, cA, base, b⟩ := X
  obtain ⟨cc, nL, own, fr, lo, mn, sc⟩ := M
  obtain ⟨hx, hb, hml, hown, hts, hK, hbs, hlk, hfr, hlo, hmn, hsc⟩ := hok
  intro H locs ls hR hS hL
  exact lv_icmp_lt hx hb hd ht (fun q => kt q H locs ls hR hS hL) (fun q => kf q H locs ls hR hS hL)
theorem gw_if_ge {X : gz_Cx} {M : gz_Mi} {cells slots pc : Nat} {env st : List Value} {h : gz_H} (hok : gz_ok X M) {x : Int32} {off : Int} {tgt : Nat} (hd : decode M.1 pc = .ok (.ifCond .ge off, 3)) (ht : (pc : Int) + off = (tgt : Int)) (kt : 0 ≤ x → gz_W X M.2.1 cells slots tgt env st h) (kf : ¬ 0 ≤ x → gz_W X M.2.1 cells slots (pc + 3) env st h) : gz_W X M.2.1 cells slots pc env (.int x :: st) h := by
  obtain ⟨p, l, e, R, s, m, args, below, meth, c, Q, D, cA, base, b⟩ := X
  obtain ⟨cc, nL, own, fr, lo, mn, sc⟩ := M
  obtain ⟨hx, hb, hml, hown, hts, hK, hbs, hlk, hfr, hlo, hmn, hsc⟩ := hok
  intro H locs ls hR hS hL
  exact lv_if_ge hx hb hd ht (fun q => kt q H locs ls hR hS hL) (fun q => kf q H locs ls hR hS hL)
theorem gw_ic_ge {X : gz_Cx} {M : gz_Mi} {cells slots pc : Nat} {env st : List Value} {h : gz_H} (hok : gz_ok X M) {x y : Int32} {off : Int} {tgt : Nat} (hd : decode M.1 pc = .ok (.if_icmp .ge off, 3)) (ht : (pc : Int) + off = (tgt : Int)) (kt : y ≤ x → gz_W X M.2.1 cells slots tgt env st h) (kf : ¬ y ≤ x → gz_W X M.2.1 cells slots (pc + 3) env st h) : gz_W X M.2.1 cells slots pc env (.int y :: .int x :: st) h := by
  obtain ⟨p, l, e, R, s, m, args, below, meth, c, Q, D, cA, base, b⟩ := X
  obtain ⟨cc, nL, own, fr, lo, mn, sc⟩ := M
  obtain ⟨hx, hb, hml, hown, hts, hK, hbs, hlk, hfr, hlo, hmn, hsc⟩ := hok
  intro H locs ls hR hS hL
  exact lv_icmp_ge hx hb hd ht (fun q => kt q H locs ls hR hS hL) (fun q => kf q H locs ls hR hS hL)
theorem gw_if_gt {X : gz_Cx} {M : gz_Mi} {cells slots pc : Nat} {env st : List Value} {h : gz_H} (hok : gz_ok X M) {x : Int32} {off : Int} {tgt : Nat} (hd : decode M.1 pc = .ok (.ifCond .gt off, 3)) (ht : (pc : Int) + off = (tgt : Int)) (kt : 0 < x → gz_W X M.2.1 cells slots tgt env st h) (kf : ¬ 0 < x → gz_W X M.2.1 cells slots (pc + 3) env st h) : gz_W X M.2.1 cells slots pc env (.int x :: st) h := by
  obtain ⟨p, l, e, R, s, m, args, below, meth, c, Q, D, cA, base, b⟩ := X
  obtain ⟨cc, nL, own, fr, lo, mn, sc⟩ := M
  obtain ⟨hx, hb, hml, hown, hts, hK, hbs, hlk, hfr, hlo, hmn, hsc⟩ := hok
  intro H locs ls hR hS hL
  exact lv_if_gt hx hb hd ht (fun q => kt q H locs ls hR hS hL) (fun q => kf q H locs ls hR hS hL)
theorem gw_ic_gt {X : gz_Cx} {M : gz_Mi} {cells slots pc : Nat} {env st : List Value} {h : gz_H} (hok : gz_ok X M) {x y : Int32} {off : Int} {tgt : Nat} (hd : decode M.1 pc = .ok (.if_icmp .gt off, 3)) (ht : (pc : Int) + off = (tgt : Int)) (kt : y < x → gz_W X M.2.1 cells slots tgt env st h) (kf : ¬ y < x → gz_W X M.2.1 cells slots (pc + 3) env st h) : gz_W X M.2.1 cells slots pc env (.int y :: .int x :: st) h := by
  obtain ⟨p, l, e, R, s, m, args, below, meth, c, Q, D, cA, base, b⟩ := X
  obtain ⟨cc, nL, own, fr, lo, mn, sc⟩ := M
  obtain ⟨hx, hb, hml, hown, hts, hK, hbs, hlk, hfr, hlo, hmn, hsc⟩ := hok
  intro H locs ls hR hS hL
  exact lv_icmp_gt hx hb hd ht (fun q => kt q H locs ls hR hS hL) (fun q => kf q H locs ls hR hS hL)
theorem gw_if_le {X : gz_Cx} {M : gz_Mi} {cells slots pc : Nat} {env st : List Value} {h : gz_H} (hok : gz_ok X M) {x : Int32} {off : Int} {tgt : Nat} (hd : decode M.1 pc = .ok (.ifCond .le off, 3)) (ht : (pc : Int) + off = (tgt : Int)) (kt : x ≤ 0 → gz_W X M.2.1 cells slots tgt env st h) (kf : ¬ x ≤ 0 → gz_W X M.2.1 cells slots (pc + 3) env st h) : gz_W X M.2.1 cells slots pc env (.int x :: st) h := by
  obtain ⟨p, l, e, R, s, m, args, below, meth, c, Q, D, cA, base, b⟩ := X
  obtain ⟨cc, nL, own, fr, lo, mn, sc⟩ := M
  obtain ⟨hx, hb, hml, hown, hts, hK, hbs, hlk, hfr, hlo, hmn, hsc⟩ := hok
  intro H locs ls hR hS hL
  exact lv_if_le hx hb hd ht (fun q => kt q H locs ls hR hS hL) (fun q => kf q H locs ls hR hS hL)
theorem gw_ic_le {X : gz_Cx} {M : gz_Mi} {cells slots pc : Nat} {env st : List Value} {h : gz_H} (hok : gz_ok X M) {x y : Int32} {off : Int} {tgt : Nat} (hd : decode M.1 pc = .ok (.if_icmp .le off, 3)) (ht : (pc : Int) + off = (tgt : Int)) (kt : x ≤ y → gz_W X M.2.1 cells slots tgt env st h) (kf : ¬ x ≤ y → gz_W X M.2.1 cells slots (pc + 3) env st h) : gz_W X M.2.1 cells slots pc env (.int y :: .int x :: st) h := by
  obtain ⟨p, l, e, R, s, m, args, below, meth, c, Q, D, cA, base, b⟩ := X
  obtain ⟨cc, nL, own, fr, lo, mn, sc⟩ := M
  obtain ⟨hx, hb, hml, hown, hts, hK, hbs, hlk, hfr, hlo, hmn, hsc⟩ := hok
  intro H locs ls hR hS hL
  exact lv_icmp_le hx hb hd ht (fun q => kt q H locs ls hR hS hL) (fun q => kf q H locs ls hR hS hL)
theorem gw_nullr {X : gz_Cx} {M : gz_Mi} {cells slots pc : Nat} {env st : List Value} {h : gz_H} (hok : gz_ok X M) {x : Nat} {off : Int} (hd : decode M.1 pc = .ok (.ifnull off, 3)) (hk : gz_W X M.2.1 cells slots (pc + 3) env (st) h) : gz_W X M.2.1 cells slots pc env (.ref x :: st) h := by
  obtain ⟨p, l, e, R, s, m, args, below, meth, c, Q, D, cA, base, b⟩ := X
  obtain ⟨cc, nL, own, fr, lo, mn, sc⟩ := M
  obtain ⟨hx, hb, hml, hown, hts, hK, hbs, hlk, hfr, hlo, hmn, hsc⟩ := hok
  intro H locs ls hR hS hL
  exact lv_ifnull hx hb hd (hk H locs ls hR hS hL)
theorem gw_nullz {X : gz_Cx} {M : gz_Mi} {cells slots pc : Nat} {env st : List Value} {h : gz_H} (hok : gz_ok X M) {off : Int} {tgt : Nat} (hd : decode M.1 pc = .ok (.ifnull off, 3)) (ht : (pc : Int) + off = (tgt : Int)) (hk : gz_W X M.2.1 cells slots tgt env (st) h) : gz_W X M.2.1 cells slots pc env (.null :: st) h := by
  obtain ⟨p, l, e, R, s, m, args, below, meth, c, Q, D, cA, base, b⟩ := X
  obtain ⟨cc, nL, own, fr, lo, mn, sc⟩ := M
  obtain ⟨hx, hb, hml, hown, hts, hK, hbs, hlk, hfr, hlo, hmn, hsc⟩ := hok
  intro H locs ls hR hS hL
  exact lv_ifnullN hx hb hd ht (hk H locs ls hR hS hL)
theorem gw_nonr {X : gz_Cx} {M : gz_Mi} {cells slots pc : Nat} {env st : List Value} {h : gz_H} (hok : gz_ok X M) {x : Nat} {off : Int} {tgt : Nat} (hd : decode M.1 pc = .ok (.ifnonnull off, 3)) (ht : (pc : Int) + off = (tgt : Int)) (hk : gz_W X M.2.1 cells slots tgt env (st) h) : gz_W X M.2.1 cells slots pc env (.ref x :: st) h := by
  obtain ⟨p, l, e, R, s, m, args, below, meth, c, Q, D, cA, base, b⟩ := X
  obtain ⟨cc, nL, own, fr, lo, mn, sc⟩ := M
  obtain ⟨hx, hb, hml, hown, hts, hK, hbs, hlk, hfr, hlo, hmn, hsc⟩ := hok
  intro H locs ls hR hS hL
  exact lv_ifnonnull hx hb hd ht (hk H locs ls hR hS hL)
theorem gw_nonz {X : gz_Cx} {M : gz_Mi} {cells slots pc : Nat} {env st : List Value} {h : gz_H} (hok : gz_ok X M) {off : Int} (hd : decode M.1 pc = .ok (.ifnonnull off, 3)) (hk : gz_W X M.2.1 cells slots (pc + 3) env (st) h) : gz_W X M.2.1 cells slots pc env (.null :: st) h := by
  obtain ⟨p, l, e, R, s, m, args, below, meth, c, Q, D, cA, base, b⟩ := X
  obtain ⟨cc, nL, own, fr, lo, mn, sc⟩ := M
  obtain ⟨hx, hb, hml, hown, hts, hK, hbs, hlk, hfr, hlo, hmn, hsc⟩ := hok
  intro H locs ls hR hS hL
  exact lv_ifnonnullN hx hb hd (hk H locs ls hR hS hL)
theorem gw_slen {X : gz_Cx} {M : gz_Mi} {cells slots pc : Nat} {env st : List Value} {h : gz_H} (hok : gz_ok X M) {L : Nat} {xs : Nat → Int32} (hsc : M.2.2.2.2.2.2 = some (L, xs)) {f : UInt32} (hd : decode M.1 pc = .ok (.arraylength, 1)) (hk : gz_W X M.2.1 cells slots (pc + 1) env (.int (Int32.ofNat L) :: st) h) : gz_W X M.2.1 cells slots pc env (.float f :: st) h := by
  obtain ⟨p, l, e, R, s, m, args, below, meth, c, Q, D, cA, base, b⟩ := X
  obtain ⟨cc, nL, own, fr, lo, mn, sc⟩ := M
  obtain ⟨hx, hb, hml, hown, hts, hK, hbs, hlk, hfr, hlo, hmn, hsc2⟩ := hok
  intro H locs ls hR hS hL
  have hq := hsc2 (L, xs) hsc
  exact va_slen hx hb hq.1 (Nat.lt_of_lt_of_le hq.2 hbs) (Nat.not_le.mpr hq.2) hS hd (hk H locs ls hR hS hL)
theorem gw_sld {X : gz_Cx} {M : gz_Mi} {cells slots pc : Nat} {env st : List Value} {h : gz_H} (hok : gz_ok X M) {L : Nat} {xs : Nat → Int32} (hsc : M.2.2.2.2.2.2 = some (L, xs)) {f : UInt32} {j : Int32} (hj : ¬ j < 0 ∧ j.toNatClampNeg < L) (hd : decode M.1 pc = .ok (.iaload, 1)) (hk : gz_W X M.2.1 cells slots (pc + 1) env (.int (xs j.toNatClampNeg) :: st) h) : gz_W X M.2.1 cells slots pc env (.int j :: .float f :: st) h := by
  obtain ⟨p, l, e, R, s, m, args, below, meth, c, Q, D, cA, base, b⟩ := X
  obtain ⟨cc, nL, own, fr, lo, mn, sc⟩ := M
  obtain ⟨hx, hb, hml, hown, hts, hK, hbs, hlk, hfr, hlo, hmn, hsc2⟩ := hok
  intro H locs ls hR hS hL
  have hq := hsc2 (L, xs) hsc
  exact va_sld hx hb hq.1 (Nat.lt_of_lt_of_le hq.2 hbs) (Nat.not_le.mpr hq.2) hS (show vp_in j L from fun z => z.elim hj.1 (fun y => absurd hj.2 (Nat.not_lt.mpr y))) hd (hk H locs ls hR hS hL)
