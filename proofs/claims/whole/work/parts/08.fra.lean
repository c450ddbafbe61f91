/-! an own machine over the rows of the kit: heaps of cells by numbers, locals and stacks as lists; what its pieces do, and that the machine does it -/
abbrev gz_H : Type := Nat × (Nat → Nat × Nat) × (Nat → Nat → Value)
def gz_k (h : gz_H) (a : Nat) : Nat × Nat := h.2.1 a
def gz_v (h : gz_H) (a i : Nat) : Value := h.2.2 a i
def gz_set (h : gz_H) (a i : Nat) (v : Value) : gz_H := (h.1, h.2.1, fun x j => if x = a ∧ j = i then v else h.2.2 x j)
def gz_new (h : gz_H) (k : Nat × Nat) (d : Nat → Value) : gz_H := (h.1 + 1, fun x => if x = h.1 then k else h.2.1 x, fun x j => if x = h.1 then d j else h.2.2 x j)
def gz_c (base b : Nat) (v : Value) : Value := match v with
  | .ref k => .ref (base + k)
  | .float _ => .ref b
  | .int x => .int x
  | .long x => .long x
  | .double x => .double x
  | .null => .null
  | .retAddr x => .retAddr x
theorem gz_c_cat (base b : Nat) (v : Value) : (gz_c base b v).category = v.category := by cases v <;> rfl
theorem gz_c_sum (base b : Nat) (st : List Value) : ((st.map (gz_c base b)).map fun v => v.category).sum = (st.map fun v => v.category).sum := by
  induction st with
  | nil => rfl
  | cons v t ih => simp only [List.map_cons, List.sum_cons, ih, gz_c_cat]
/-- the locals -/
def gz_kn (v : Value) : Bool := match v with
  | .double _ => false
  | _ => true
def gz_st : List Value → Nat → Value → List Value
  | [], 0, v => [v]
  | [], k + 1, v => .double 0 :: gz_st [] k v
  | _ :: t, 0, v => v :: t
  | a :: t, k + 1, v => (if k = 0 ∧ a.category = 2 then .double 0 else a) :: gz_st t k v
def gz_st2 (env : List Value) (k : Nat) (v : Value) : List Value := gz_st (gz_st env (k + 1) (.double 0)) k v
theorem gz_st_at : ∀ (env : List Value) (i : Nat) (v : Value) (k : Nat) (w : Value), (gz_st env i v)[k]? = some w → gz_kn w = true → (k = i ∧ w = v) ∨ (k ≠ i ∧ env[k]? = some w ∧ ¬ (k + 1 = i ∧ w.category = 2)) := by
  intro env
  induction env with
  | nil =>
    intro i
    induction i with
    | zero =>
      intro v k w h hk
      cases k with
      | zero => simp only [gz_st, List.getElem?_cons_zero, Option.some.injEq] at h; exact Or.inl ⟨rfl, h.symm⟩
      | succ k => simp [gz_st] at h
    | succ i ih =>
      intro v k w h hk
      cases k with
      | zero => simp only [gz_st, List.getElem?_cons_zero, Option.some.injEq] at h; subst h; simp [gz_kn] at hk
      | succ k =>
        simp only [gz_st, List.getElem?_cons_succ] at h
        rcases ih v k w h hk with ⟨h1, h2⟩ | ⟨-, h2, -⟩
        · exact Or.inl ⟨by omega, h2⟩
        · simp at h2
  | cons a t ih =>
    intro i v k w h hk
    cases i with
    | zero =>
      cases k with
      | zero => simp only [gz_st, List.getElem?_cons_zero, Option.some.injEq] at h; exact Or.inl ⟨rfl, h.symm⟩
      | succ k =>
        simp only [gz_st, List.getElem?_cons_succ] at h
        exact Or.inr ⟨by omega, by simpa using h, by omega⟩
    | succ i =>
      cases k with
      | zero =>
        simp only [gz_st, List.getElem?_cons_zero, Option.some.injEq] at h
        by_cases hc : i = 0 ∧ a.category = 2
        · rw [if_pos hc] at h; subst h; simp [gz_kn] at hk
        · rw [if_neg hc] at h
          subst h
          exact Or.inr ⟨by omega, by simp, fun q => hc ⟨by omega, q.2⟩⟩
      | succ k =>
        simp only [gz_st, List.getElem?_cons_succ] at h
        rcases ih i v k w h hk with ⟨h1, h2⟩ | ⟨h1, h2, h3⟩
        · exact Or.inl ⟨by omega, h2⟩
        · exact Or.inr ⟨by omega, by simpa using h2, fun q => h3 ⟨by omega, q.2⟩⟩
theorem gz_st2_at (env : List Value) (i : Nat) (v : Value) (k : Nat) (w : Value) (h : (gz_st2 env i v)[k]? = some w) (hk : gz_kn w = true) : (k = i ∧ w = v) ∨ (k ≠ i ∧ k ≠ i + 1 ∧ env[k]? = some w ∧ ¬ (k + 1 = i ∧ w.category = 2)) := by
  rcases gz_st_at _ _ _ _ _ h hk with h1 | ⟨h1, h2, h3⟩
  · exact Or.inl h1
  · rcases gz_st_at _ _ _ _ _ h2 hk with ⟨-, g2⟩ | ⟨g1, g2, -⟩
    · subst g2; simp [gz_kn] at hk
    · exact Or.inr ⟨h1, g1, g2, h3⟩
def gz_lv (base b : Nat) (env : List Value) : List (Nat × Value) := (List.range env.length).filterMap (fun k => match env[k]? with
  | some v => if gz_kn v = true then some (k, gz_c base b v) else none
  | none => none)
theorem gz_lv_mem (base b : Nat) (env : List Value) (q : Nat × Value) : q ∈ gz_lv base b env ↔ ∃ v, env[q.1]? = some v ∧ gz_kn v = true ∧ q.2 = gz_c base b v := by
  unfold gz_lv
  rw [List.mem_filterMap]
  constructor
  · rintro ⟨k, -, h⟩
    cases hv : env[k]? with
    | none => rw [hv] at h; cases h
    | some v =>
      rw [hv] at h
      by_cases hk : gz_kn v = true
      · simp only [hk, if_true, Option.some.injEq] at h
        subst h
        exact ⟨v, hv, hk, rfl⟩
      · simp only [hk] at h
        cases h
  · rintro ⟨v, h1, h2, h3⟩
    refine ⟨q.1, List.mem_range.mpr ((List.getElem?_eq_some_iff.mp h1).1), ?_⟩
    rw [h1]
    simp only [h2, if_true, Option.some.injEq]
    rw [← h3]
def gz_L (base b nL : Nat) (env : List Value) (ls : Array Slot) : Prop := lv_has ls nL (gz_lv base b env)
theorem gz_L.at {base b nL : Nat} {env : List Value} {ls : Array Slot} (h : gz_L base b nL env ls) {k : Nat} {v : Value} (hv : env[k]? = some v) (hk : gz_kn v = true) : ls[k]? = some (.val (gz_c base b v)) :=
  h.2.2 (k, gz_c base b v) ((gz_lv_mem base b env _).mpr ⟨v, hv, hk, rfl⟩)
theorem gz_L.of {base b nL : Nat} {env : List Value} {ls : Array Slot} {lv : List (Nat × Value)} (h : lv_has ls nL lv) (hs : ∀ k v, env[k]? = some v → gz_kn v = true → (k, gz_c base b v) ∈ lv) : gz_L base b nL env ls := by
  refine ⟨h.1, h.2.1, fun q hq => ?_⟩
  obtain ⟨v, h1, h2, h3⟩ := (gz_lv_mem base b env q).mp hq
  have h4 := h.2.2 _ (hs q.1 v h1 h2)
  rw [h3]; exact h4
theorem gz_L.take {base b nL : Nat} {env : List Value} {ls : Array Slot} (h : gz_L base b nL env ls) (n : Nat) : gz_L base b nL (env.take n) ls := by
  refine gz_L.of h (fun k v hv hk => ?_)
  have hv2 : env[k]? = some v := by
    rw [List.getElem?_take] at hv
    by_cases hkn : k < n
    · rw [if_pos hkn] at hv; exact hv
    · rw [if_neg hkn] at hv; cases hv
  exact (gz_lv_mem base b env _).mpr ⟨v, hv2, hk, rfl⟩
theorem gz_L.st1 {base b nL : Nat} {env : List Value} {ls : Array Slot} {i : Nat} {v : Value} (h : lv_has ls nL ((i, gz_c base b v) :: (gz_lv base b env).filter (fun q => !(q.1 == i) && !(q.1 + 1 == i && q.2.category == 2)))) : gz_L base b nL (gz_st env i v) ls := by
  refine gz_L.of h (fun k w hw hk => ?_)
  rcases gz_st_at _ _ _ _ _ hw hk with ⟨rfl, rfl⟩ | ⟨h1, h2, h3⟩
  · exact List.mem_cons_self
  · refine List.mem_cons_of_mem _ (List.mem_filter.mpr ⟨(gz_lv_mem base b env _).mpr ⟨w, h2, hk, rfl⟩, ?_⟩)
    by_cases h4 : k + 1 = i
    · have h5 : ¬ w.category = 2 := fun q => h3 ⟨h4, q⟩
      simp [h1, h4, gz_c_cat, h5]
    · simp [h1, h4]
theorem gz_L.st2 {base b nL : Nat} {env : List Value} {ls : Array Slot} {i : Nat} {v : Value} (h : lv_has ls nL ((i, gz_c base b v) :: (gz_lv base b env).filter (fun q => !(q.1 == i) && (!(q.1 == i + 1) && !(q.1 + 1 == i && q.2.category == 2))))) : gz_L base b nL (gz_st2 env i v) ls := by
  refine gz_L.of h (fun k w hw hk => ?_)
  rcases gz_st2_at _ _ _ _ _ hw hk with ⟨rfl, rfl⟩ | ⟨h1, h1', h2, h3⟩
  · exact List.mem_cons_self
  · refine List.mem_cons_of_mem _ (List.mem_filter.mpr ⟨(gz_lv_mem base b env _).mpr ⟨w, h2, hk, rfl⟩, ?_⟩)
    by_cases h4 : k + 1 = i
    · have h5 : ¬ w.category = 2 := fun q => h3 ⟨h4, q⟩
      simp [h1, h1', h4, gz_c_cat, h5]
    · simp [h1, h1', h4]
def gz_ae : List Value → List Value
  | [] => []
  | v :: vs => if v.category = 2 then v :: .double 0 :: gz_ae vs else v :: gz_ae vs
theorem gz_ae_at (base b : Nat) : ∀ (av : List Value) (i k : Nat) (v : Value), (gz_ae av)[k]? = some v → gz_kn v = true → (i + k, gz_c base b v) ∈ lv_args i (av.map (gz_c base b)) := by
  intro av
  induction av with
  | nil => intro i k v h; simp [gz_ae] at h
  | cons a t ih =>
    intro i k v h hk
    rw [List.map_cons]
    show (i + k, gz_c base b v) ∈ (i, gz_c base b a) :: lv_args (if (gz_c base b a).category = 2 then i + 2 else i + 1) (t.map (gz_c base b))
    rw [gz_c_cat]
    by_cases hc : a.category = 2
    · simp only [gz_ae, hc, if_true] at h ⊢
      match k, h with
      | 0, h => simp only [List.getElem?_cons_zero, Option.some.injEq] at h; subst h; exact List.mem_cons_self
      | 1, h => simp only [List.getElem?_cons_succ, List.getElem?_cons_zero, Option.some.injEq] at h; subst h; simp [gz_kn] at hk
      | k + 2, h =>
        simp only [List.getElem?_cons_succ] at h
        have := ih (i + 2) k v h hk
        rw [show i + (k + 2) = i + 2 + k by omega]
        exact List.mem_cons_of_mem _ this
    · simp only [gz_ae, hc, if_false] at h ⊢
      match k, h with
      | 0, h => simp only [List.getElem?_cons_zero, Option.some.injEq] at h; subst h; exact List.mem_cons_self
      | k + 1, h =>
        simp only [List.getElem?_cons_succ] at h
        have := ih (i + 1) k v h hk
        rw [show i + (k + 1) = i + 1 + k by omega]
        exact List.mem_cons_of_mem _ this
theorem gz_L.args {base b nL : Nat} {av : List Value} {ls : Array Slot} (h : lv_has ls nL (lv_args 0 (av.map (gz_c base b)))) : gz_L base b nL (gz_ae av) ls :=
  gz_L.of h (fun k v hv hk => by have := gz_ae_at base b av 0 k v hv hk; rwa [Nat.zero_add] at this)
/-- the heap that the machine has, and ours -/
def gz_at (D : va_G) (cA : Nat → ClassId) (base b : Nat) (h : gz_H) (H : Heap) (a : Nat) : Prop :=
  ((gz_k h a).1 < 100 → t_OB (base + a) (D.1 (gz_k h a).1) (gz_k h a).2 (D.2 (gz_k h a).1) H (fun j => gz_c base b (gz_v h a j))) ∧
  (100 ≤ (gz_k h a).1 → H[base + a]? = some (arrV (cA (gz_k h a).1) (gz_k h a).2 (fun j => gz_c base b (gz_v h a j))))
def gz_R (D : va_G) (cA : Nat → ClassId) (base b : Nat) (h : gz_H) (H : Heap) : Prop := H.size = base + h.1 ∧ ∀ a, a < h.1 → gz_at D cA base b h H a
theorem gz_at.kept {D : va_G} {cA : Nat → ClassId} {base b : Nat} {h h' : gz_H} {H H1 : Heap} {a : Nat} (g : gz_at D cA base b h H a) (hk : gz_k h' a = gz_k h a) (hv : ∀ j, gz_v h' a j = gz_v h a j) (hq : H1[base + a]? = H[base + a]?) : gz_at D cA base b h' H1 a := by
  unfold gz_at
  rw [hk]
  simp only [hv]
  exact ⟨fun q => (g.1 q).kept hq, fun q => by rw [hq]; exact g.2 q⟩
theorem gz_R.setA {D : va_G} {cA : Nat → ClassId} {base b : Nat} {h : gz_H} {H H1 : Heap} {a i : Nat} {v : Value} (g : gz_R D cA base b h H) (hka : 100 ≤ (gz_k h a).1) (e : H1[base + a]? = some ((arrV (cA (gz_k h a).1) (gz_k h a).2 (fun j => gz_c base b (gz_v h a j))).setSlot i (gz_c base b v))) (z : H1.size = H.size) (o : ∀ q, q ≠ base + a → H1[q]? = H[q]?) : gz_R D cA base b (gz_set h a i v) H1 := by
  refine ⟨z.trans g.1, fun x hx => ?_⟩
  by_cases hxa : x = a
  · subst hxa
    refine ⟨fun q => absurd q (by show ¬ (gz_k h x).1 < 100; omega), fun _ => ?_⟩
    rw [e, arrV_store]
    congr 2
    funext j
    show updV _ i _ j = gz_c base b (if x = x ∧ j = i then v else h.2.2 x j)
    by_cases hj : j = i
    · subst hj; simp [updV]
    · simp [updV, hj, gz_v]
  · refine (g.2 x hx).kept rfl (fun j => ?_) (o _ (by omega))
    show (if x = a ∧ j = i then v else h.2.2 x j) = h.2.2 x j
    rw [if_neg (fun q => hxa q.1)]
theorem gz_R.setO {D : va_G} {cA : Nat → ClassId} {base b : Nat} {h : gz_H} {H H1 : Heap} {a i : Nat} {v : Value} (g : gz_R D cA base b h H) (hka : (gz_k h a).1 < 100) (e : t_OB (base + a) (D.1 (gz_k h a).1) (gz_k h a).2 (D.2 (gz_k h a).1) H1 (updV (fun j => gz_c base b (gz_v h a j)) i (gz_c base b v))) (z : H1.size = H.size) (o : ∀ q, q ≠ base + a → H1[q]? = H[q]?) : gz_R D cA base b (gz_set h a i v) H1 := by
  refine ⟨z.trans g.1, fun x hx => ?_⟩
  by_cases hxa : x = a
  · subst hxa
    refine ⟨fun _ => e.to (fun j _ => ?_), fun q => absurd q (by show ¬ 100 ≤ (gz_k h x).1; omega)⟩
    show updV _ i _ j = gz_c base b (if x = x ∧ j = i then v else h.2.2 x j)
    by_cases hj : j = i
    · subst hj; simp [updV]
    · simp [updV, hj, gz_v]
  · refine (g.2 x hx).kept rfl (fun j => ?_) (o _ (by omega))
    show (if x = a ∧ j = i then v else h.2.2 x j) = h.2.2 x j
    rw [if_neg (fun q => hxa q.1)]
theorem gz_R.new {D : va_G} {cA : Nat → ClassId} {base b : Nat} {h : gz_H} {H H1 : Heap} {k : Nat × Nat} {d : Nat → Value} (g : gz_R D cA base b h H) (z : H1.size = base + h.1 + 1) (o : ∀ q, q < base + h.1 → H1[q]? = H[q]?) (e : gz_at D cA base b (gz_new h k d) H1 h.1) : gz_R D cA base b (gz_new h k d) H1 := by
  refine ⟨z.trans (by show base + h.1 + 1 = base + (h.1 + 1); omega), fun x hx => ?_⟩
  have hx' : x < h.1 + 1 := hx
  by_cases hxa : x = h.1
  · subst hxa; exact e
  · refine (g.2 x (by omega)).kept (by show (if x = h.1 then k else h.2.1 x) = h.2.1 x; rw [if_neg hxa]) (fun j => by show (if x = h.1 then d j else h.2.2 x j) = h.2.2 x j; rw [if_neg hxa]) (o _ (by omega))
def gz_tb : List Cond := lw_tbl.filter goodWord
theorem gz_in {w : Cond} (h : w ∈ lw_tbl) (hg : goodWord w = true) : w ∈ gz_tb := List.mem_filter.mpr ⟨h, hg⟩
theorem gz_gd {w : Cond} (h : w ∈ gz_tb) : w ∈ lw_tbl ∧ goodWord w = true := List.mem_filter.mp h
theorem gz_goodIn {y : MethodName} {cc : ByteArray} {maxL : Nat} {ret : Option FieldType} (h : Cond.code y cc maxL ret ∈ gz_tb) : GoodIn gz_tb (Cond.code y cc maxL ret :: gz_tb) := by
  intro w hw
  rcases List.mem_cons.mp hw with rfl | hw
  · exact ⟨h, good_of_word (gz_gd h).2⟩
  · exact ⟨hw, good_of_word (gz_gd hw).2⟩
def gz_tys (cA : Nat → ClassId) : List (ClassId × FieldType) := [(cA 100, .int), (cA 101, .boolean), (cA 102, .long), (cA 103, .object RX3), (cA 104, .object RX1), (cA 105, .object RX2)]
def gz_nest (U : State) : Prop := va_Nw (.methodLinkNest RX7 17 yX5_init RX7) U ∧ va_Nw (.methodLinkNest RX7 24 yX0_init RX7) U ∧ va_Nw (.methodLinkNest RX7 31 yX6_init RX7) U ∧ va_Nw (.methodLinkNest RX7 52 yX1_init RX7) U ∧ va_Nw (.methodLinkNest RX7 126 yX2_init RX7) U ∧ va_AO RX3 U ∧ va_AO RX1 U ∧ va_AO RX2 U
theorem gz_nest.warm {s U : State} (hW : s.WarmedH U.vm) (h : gz_nest s) : gz_nest U := by
  obtain ⟨h1, h2, h3, h4, h5, h6, h7, h8⟩ := h
  exact ⟨h1.warmM hW, h2.warmM hW, h3.warmM hW, h4.warmM hW, h5.warmM hW, h6.moved hW.alike, h7.moved hW.alike, h8.moved hW.alike⟩
theorem gz_nest.same {s U : State} (hv : s.vm = U.vm) (h : gz_nest s) : gz_nest U := by
  obtain ⟨h1, h2, h3, h4, h5, h6, h7, h8⟩ := h
  have al : s.vm.Alike U.vm := by rw [hv]; exact Vm.Alike.refl _
  exact ⟨h1.same rfl hv, h2.same rfl hv, h3.same rfl hv, h4.same rfl hv, h5.same rfl hv, h6.moved al, h7.moved al, h8.moved al⟩
def gz_K (D : va_G) (cA : Nat → ClassId) (U : State) : Prop := va_K D vwCl (gz_tys cA) U ∧ gz_nest U
theorem gz_K.warm {D : va_G} {cA : Nat → ClassId} {s U : State} (hW : s.WarmedH U.vm) (h : gz_K D cA s) : gz_K D cA U := ⟨h.1.moved hW.alike, h.2.warm hW⟩
theorem gz_K.same {D : va_G} {cA : Nat → ClassId} {s U : State} (hv : s.vm = U.vm) (h : gz_K D cA s) : gz_K D cA U := ⟨h.1.moved (by rw [hv]; exact Vm.Alike.refl _), h.2.same hv⟩
