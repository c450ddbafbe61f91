def gz_sat (L : Nat) : gz_Sx := fun env h => some (.inl (L, env, h))
def gz_set1 (k : Nat) (e : gz_Ex) (r : gz_Sx) : gz_Sx := fun env h => match e env [] h with
  | some (.int x, h1) => r (gz_st env k (.int x)) h1
  | some (.ref x, h1) => r (gz_st env k (.ref x)) h1
  | some (.null, h1) => r (gz_st env k .null) h1
  | _ => none
def gz_set2 (k : Nat) (e : gz_Ex) (r : gz_Sx) : gz_Sx := fun env h => match e env [] h with
  | some (.long x, h1) => r (gz_st2 env k (.long x)) h1
  | _ => none
def gz_inc (k : Nat) (n : Int32) (r : gz_Sx) : gz_Sx := fun env h => match env[k]? with
  | some (.int x) => r (gz_st env k (.int (x + n))) h
  | _ => none
def gz_put (ci N k : Nat) (ty : FieldType) (a e : gz_Ex) (r : gz_Sx) : gz_Sx := fun env h => match a env [] h with
  | some (.ref x, h1) => (match e env [.ref x] h1 with
    | some (v, h2) => if (x < h2.1 ∧ gz_k h2 x = (ci, N)) ∧ gz_fit ty v = true then r env (gz_set h2 x k v) else none
    | none => none)
  | _ => none
def gz_aty (ct : Nat) (h : gz_H) (v : Value) : Bool := match ct, v with
  | 100, .int _ => true
  | 101, .int y => y == 0 || y == 1
  | 102, .long _ => true
  | 103, .ref y => decide (y < h.1 ∧ (gz_k h y).1 = 3)
  | 104, .ref y => decide (y < h.1 ∧ (gz_k h y).1 = 1)
  | 105, .ref y => decide (y < h.1 ∧ (gz_k h y).1 = 2)
  | _, _ => false
def gz_ast (ct : Nat) (a b e : gz_Ex) (r : gz_Sx) : gz_Sx := fun env h => match a env [] h with
  | some (.ref x, h1) => (match b env [.ref x] h1 with
    | some (.int j, h2) => (match e env [.int j, .ref x] h2 with
      | some (v, h3) => if gz_ix h3 ct x j ∧ gz_aty ct h3 v = true then r env (gz_set h3 x j.toNatClampNeg v) else none
      | none => none)
    | _ => none)
  | _ => none
def gz_pop (e : gz_Ex) (r : gz_Sx) : gz_Sx := fun env h => match e env [] h with
  | some (.int _, h1) => r env h1
  | _ => none
def gz_vs (sem : gz_Me) (as : gz_Ax) (r : gz_Sx) : gz_Sx := fun env h => match as env [] h with
  | some (vs, h1) => (match sem vs h1 with
    | some (none, h2) => r env h2
    | _ => none)
  | none => none
def gz_vv (ci N : Nat) (sem : gz_Me) (as : gz_Ax) (r : gz_Sx) : gz_Sx := fun env h => match as env [] h with
  | some (.ref x :: vs, h1) => if x < h1.1 ∧ gz_k h1 x = (ci, N) then (match sem (.ref x :: vs) h1 with
    | some (none, h2) => r env h2
    | _ => none) else none
  | _ => none
def gz_sup (e : gz_Ex) (r : gz_Sx) : gz_Sx := fun env h => match e env [] h with
  | some (.ref _, h1) => r env h1
  | _ => none
def gz_rv : gz_Sx := fun _ h => some (.inr (none, h))
def gz_ri (e : gz_Ex) : gz_Sx := fun env h => match e env [] h with
  | some (.int x, h1) => some (.inr (some (.int x), h1))
  | _ => none
def gz_rl (e : gz_Ex) : gz_Sx := fun env h => match e env [] h with
  | some (.long x, h1) => some (.inr (some (.long x), h1))
  | _ => none
def gz_ra (e : gz_Ex) : gz_Sx := fun env h => match e env [] h with
  | some (.ref x, h1) => some (.inr (some (.ref x), h1))
  | some (.null, h1) => some (.inr (some .null, h1))
  | _ => none
def gz_if (j : gz_Jx) (a b : gz_Sx) : gz_Sx := fun env h => match j env [] h with
  | some (true, h1) => a env h1
  | some (false, h1) => b env h1
  | none => none
/-- then: from the place L on, with k locals kept -/
def gz_seq (L k : Nat) (a b : gz_Sx) : gz_Sx := fun env h => match a env h with
  | some (.inl (l, env1, h1)) => if l = L then b (env1.take k) h1 else some (.inl (l, env1, h1))
  | some (.inr q) => some (.inr q)
  | none => none
def gz_it (L k : Nat) (a : gz_Sx) : Nat → gz_Sx
  | 0 => fun _ _ => none
  | n + 1 => gz_seq L k a (gz_it L k a n)
noncomputable def gz_loop (L k : Nat) (a : gz_Sx) : gz_Sx := fun env h => @dite (Option gz_O) (∃ n, gz_it L k a n (env.take k) h ≠ none) (Classical.propDecidable _) (fun q => gz_it L k a (Classical.choose q) (env.take k) h) (fun _ => none)
theorem gz_it_up (L k : Nat) (a : gz_Sx) : ∀ (n m : Nat) (env : List Value) (h : gz_H) (o : gz_O), gz_it L k a n env h = some o → n ≤ m → gz_it L k a m env h = some o := by
  intro n
  induction n with
  | zero => intro m env h o e; cases e
  | succ n ih =>
    intro m env h o e hm
    cases m with
    | zero => omega
    | succ m =>
      unfold gz_it gz_seq at e ⊢
      split at e
      · rename_i l env1 h1 e1
        by_cases hl : l = L
        · simp only [hl, if_true] at e ⊢
          exact ih m _ _ _ e (by omega)
        · simp only [hl, if_false] at e ⊢
          exact e
      · rename_i q e1
        exact e
      · cases e
theorem gz_it_same {L k : Nat} {a : gz_Sx} {n m : Nat} {env : List Value} {h : gz_H} {o o' : gz_O} (e : gz_it L k a n env h = some o) (e' : gz_it L k a m env h = some o') : o = o' := by
  have h1 := gz_it_up L k a n (n + m) env h o e (by omega)
  have h2 := gz_it_up L k a m (n + m) env h o' e' (by omega)
  exact Option.some.inj (h1.symm.trans h2)
theorem gz_loop_of {L k : Nat} {a : gz_Sx} {n : Nat} {env : List Value} {h : gz_H} {o : gz_O} (e : gz_it L k a n (env.take k) h = some o) : gz_loop L k a env h = some o := by
  have hq : ∃ n, gz_it L k a n (env.take k) h ≠ none := ⟨n, by rw [e]; exact fun q => by cases q⟩
  have hc : gz_loop L k a env h = gz_it L k a (Classical.choose hq) (env.take k) h := by
    unfold gz_loop
    rw [dif_pos hq]
  have hs := Classical.choose_spec hq
  cases hv : gz_it L k a (Classical.choose hq) (env.take k) h with
  | none => exact absurd hv hs
  | some o' => rw [hc, hv, gz_it_same hv e]
theorem gz_loop_inv {L k : Nat} {a : gz_Sx} {env : List Value} {h : gz_H} {o : gz_O} (e : gz_loop L k a env h = some o) : ∃ n, gz_it L k a n (env.take k) h = some o := by
  by_cases hq : ∃ n, gz_it L k a n (env.take k) h ≠ none
  · obtain ⟨n, hn⟩ := hq
    cases hv : gz_it L k a n (env.take k) h with
    | none => exact absurd hv hn
    | some o' =>
      rw [gz_loop_of hv] at e
      exact ⟨n, by rw [hv]; exact e⟩
  · have hc : gz_loop L k a env h = none := by
      unfold gz_loop
      rw [dif_neg hq]
    rw [hc] at e
    cases e
/-- a loop, by one turn -/
theorem gz_loop_next {L k : Nat} {a : gz_Sx} {env env1 : List Value} {h h1 : gz_H} {o : gz_O} (e : a (env.take k) h = some (.inl (L, env1, h1))) (e2 : gz_loop L k a env1 h1 = some o) : gz_loop L k a env h = some o := by
  obtain ⟨n, hn⟩ := gz_loop_inv e2
  refine gz_loop_of (n := n + 1) ?_
  unfold gz_it gz_seq
  rw [e]
  simp only [if_true]
  exact hn
theorem gz_loop_exit {L k : Nat} {a : gz_Sx} {env env1 : List Value} {h h1 : gz_H} {l : Nat} (e : a (env.take k) h = some (.inl (l, env1, h1))) (hl : l ≠ L) : gz_loop L k a env h = some (.inl (l, env1, h1)) := by
  refine gz_loop_of (n := 1) ?_
  unfold gz_it gz_seq
  rw [e]
  simp only [hl, if_false]
theorem gz_loop_ret {L k : Nat} {a : gz_Sx} {env : List Value} {h : gz_H} {q : Option Value × gz_H} (e : a (env.take k) h = some (.inr q)) : gz_loop L k a env h = some (.inr q) := by
  refine gz_loop_of (n := 1) ?_
  unfold gz_it gz_seq
  rw [e]
theorem ok_at {M : gz_Mi} {pc : Nat} : gz_OkS M 0 0 pc (gz_sat pc) := by
  intro X hok env h o cells slots hc hs ht hk
  simp only [gz_sat, Option.some.injEq] at ht
  subst ht
  exact hk
theorem ok_goto {M : gz_Mi} {pc L : Nat} {off : Int} (hd : decode M.1 pc = .ok (.goto off, 3)) (ht0 : (pc : Int) + off = (L : Int)) : gz_OkS M 0 0 pc (gz_sat L) := by
  intro X hok env h o cells slots hc hs ht hk
  simp only [gz_sat, Option.some.injEq] at ht
  subst ht
  exact gw_goto hok hd ht0 hk
def gz_seti (k : Nat) (e : gz_Ex) (r : gz_Sx) : gz_Sx := fun env h => match e env [] h with
  | some (.int x, h1) => r (gz_st env k (.int x)) h1
  | _ => none
def gz_seta (k : Nat) (e : gz_Ex) (r : gz_Sx) : gz_Sx := fun env h => match e env [] h with
  | some (.ref x, h1) => r (gz_st env k (.ref x)) h1
  | some (.null, h1) => r (gz_st env k .null) h1
  | _ => none
theorem ok_seti_n {M : gz_Mi} {pc p1 c1 s1 c2 s2 k : Nat} {kk : Fin 4} {e : gz_Ex} {r : gz_Sx} (he : gz_OkE M 0 c1 s1 pc p1 e) (hd : decode M.1 p1 = .ok (.istore_n kk, 1)) (hi : (kk : Nat) = k) (hn : k < M.2.1) (hr : gz_OkS M c2 s2 (p1 + 1) r) : gz_OkS M (c1 + c2) (s1 + s2) pc (gz_seti k e r) := by
  intro X hok env h o cells slots hc hs ht hk
  unfold gz_seti at ht
  split at ht
  · rename_i x h1 e1
    refine he X hok env [] h _ _ cells slots (Nat.zero_le _) (by omega) (by omega) e1 (gw_istore hok hd hi hn ?_)
    refine hr X hok _ h1 o _ _ (by omega) (by omega) ht ?_
    rw [Nat.add_assoc, Nat.add_assoc]
    exact hk
  · cases ht
theorem ok_seti {M : gz_Mi} {pc p1 c1 s1 c2 s2 k : Nat}  {e : gz_Ex} {r : gz_Sx} (he : gz_OkE M 0 c1 s1 pc p1 e) (hd : decode M.1 p1 = .ok (.istore k, 2))  (hn : k < M.2.1) (hr : gz_OkS M c2 s2 (p1 + 2) r) : gz_OkS M (c1 + c2) (s1 + s2) pc (gz_seti k e r) := by
  intro X hok env h o cells slots hc hs ht hk
  unfold gz_seti at ht
  split at ht
  · rename_i x h1 e1
    refine he X hok env [] h _ _ cells slots (Nat.zero_le _) (by omega) (by omega) e1 (gw_istore' hok hd hn ?_)
    refine hr X hok _ h1 o _ _ (by omega) (by omega) ht ?_
    rw [Nat.add_assoc, Nat.add_assoc]
    exact hk
  · cases ht
theorem ok_seta_n {M : gz_Mi} {pc p1 c1 s1 c2 s2 k : Nat} {kk : Fin 4} {e : gz_Ex} {r : gz_Sx} (he : gz_OkE M 0 c1 s1 pc p1 e) (hd : decode M.1 p1 = .ok (.astore_n kk, 1)) (hi : (kk : Nat) = k) (hn : k < M.2.1) (hr : gz_OkS M c2 s2 (p1 + 1) r) : gz_OkS M (c1 + c2) (s1 + s2) pc (gz_seta k e r) := by
  intro X hok env h o cells slots hc hs ht hk
  unfold gz_seta at ht
  split at ht
  · rename_i x h1 e1
    refine he X hok env [] h _ _ cells slots (Nat.zero_le _) (by omega) (by omega) e1 (gw_astorer hok hd hi hn ?_)
    refine hr X hok _ h1 o _ _ (by omega) (by omega) ht ?_
    rw [Nat.add_assoc, Nat.add_assoc]
    exact hk
  · rename_i h1 e1
    refine he X hok env [] h _ _ cells slots (Nat.zero_le _) (by omega) (by omega) e1 (gw_astorez hok hd hi hn ?_)
    refine hr X hok _ h1 o _ _ (by omega) (by omega) ht ?_
    rw [Nat.add_assoc, Nat.add_assoc]
    exact hk
  · cases ht
theorem ok_seta {M : gz_Mi} {pc p1 c1 s1 c2 s2 k : Nat}  {e : gz_Ex} {r : gz_Sx} (he : gz_OkE M 0 c1 s1 pc p1 e) (hd : decode M.1 p1 = .ok (.astore k, 2))  (hn : k < M.2.1) (hr : gz_OkS M c2 s2 (p1 + 2) r) : gz_OkS M (c1 + c2) (s1 + s2) pc (gz_seta k e r) := by
  intro X hok env h o cells slots hc hs ht hk
  unfold gz_seta at ht
  split at ht
  · rename_i x h1 e1
    refine he X hok env [] h _ _ cells slots (Nat.zero_le _) (by omega) (by omega) e1 (gw_astorer' hok hd hn ?_)
    refine hr X hok _ h1 o _ _ (by omega) (by omega) ht ?_
    rw [Nat.add_assoc, Nat.add_assoc]
    exact hk
  · rename_i h1 e1
    refine he X hok env [] h _ _ cells slots (Nat.zero_le _) (by omega) (by omega) e1 (gw_astorez' hok hd hn ?_)
    refine hr X hok _ h1 o _ _ (by omega) (by omega) ht ?_
    rw [Nat.add_assoc, Nat.add_assoc]
    exact hk
  · cases ht
theorem ok_setl_n {M : gz_Mi} {pc p1 c1 s1 c2 s2 k : Nat} {kk : Fin 4} {e : gz_Ex} {r : gz_Sx} (he : gz_OkE M 0 c1 s1 pc p1 e) (hd : decode M.1 p1 = .ok (.lstore_n kk, 1)) (hi : (kk : Nat) = k) (hn : k + 1 < M.2.1) (hr : gz_OkS M c2 s2 (p1 + 1) r) : gz_OkS M (c1 + c2) (s1 + s2) pc (gz_set2 k e r) := by
  intro X hok env h o cells slots hc hs ht hk
  unfold gz_set2 at ht
  split at ht
  · rename_i x h1 e1
    refine he X hok env [] h _ _ cells slots (Nat.zero_le _) (by omega) (by omega) e1 (gw_lstore hok hd hi hn ?_)
    refine hr X hok _ h1 o _ _ (by omega) (by omega) ht ?_
    rw [Nat.add_assoc, Nat.add_assoc]
    exact hk
  · cases ht
theorem ok_setl {M : gz_Mi} {pc p1 c1 s1 c2 s2 k : Nat}  {e : gz_Ex} {r : gz_Sx} (he : gz_OkE M 0 c1 s1 pc p1 e) (hd : decode M.1 p1 = .ok (.lstore k, 2))  (hn : k + 1 < M.2.1) (hr : gz_OkS M c2 s2 (p1 + 2) r) : gz_OkS M (c1 + c2) (s1 + s2) pc (gz_set2 k e r) := by
  intro X hok env h o cells slots hc hs ht hk
  unfold gz_set2 at ht
  split at ht
  · rename_i x h1 e1
    refine he X hok env [] h _ _ cells slots (Nat.zero_le _) (by omega) (by omega) e1 (gw_lstore' hok hd hn ?_)
    refine hr X hok _ h1 o _ _ (by omega) (by omega) ht ?_
    rw [Nat.add_assoc, Nat.add_assoc]
    exact hk
  · cases ht
theorem ok_inc {M : gz_Mi} {pc c2 s2 k : Nat} {n : Int} {v : Int32} {r : gz_Sx} (hd : decode M.1 pc = .ok (.iinc k n, 3)) (hv : Int32.ofInt n = v) (hn : k < M.2.1) (hr : gz_OkS M c2 s2 (pc + 3) r) : gz_OkS M c2 s2 pc (gz_inc k v r) := by
  intro X hok env h o cells slots hc hs ht hk
  unfold gz_inc at ht
  split at ht
  · rename_i x e1
    subst hv
    exact gw_iinc hok hd e1 hn (hr X hok _ h o _ _ hc hs ht hk)
  · cases ht
theorem ok_put {M : gz_Mi} {pc p1 p2 c1 s1 c2 s2 c3 s3 : Nat} {ty : FieldType} {a e : gz_Ex} {r : gz_Sx} (ha : gz_OkE M 0 c1 s1 pc p1 a) (he : gz_OkE M 1 c2 s2 p1 p2 e) {ci N k idx : Nat} {C : String} {T : u_T} (hcl : vwCl[ci]? = some (C, T, N)) (hk0 : k < N) (hin : ∀ w ∈ u_ws C T N, w ∈ gz_tb) (hl : Cond.fieldLink M.2.2.1 idx (T k).1 (T k).2.1 (T k).2.2.1 ∈ gz_tb) (ty0 : Nat → FieldType) (hty : ∀ k, k < N → parseFieldDescriptor (T k).2.2.1 = some (ty0 k)) (hnm : ∀ a, a < N → ∀ b, b < N → a ≠ b → (T a).2.1 ≠ (T b).2.1) (hfin : (T k).2.2.2 = false) (hte : ty0 k = ty) (hd : decode M.1 p2 = .ok (.putfield idx, 3)) (hr : gz_OkS M c3 s3 (p2 + 3) r) : gz_OkS M (c1 + c2 + c3) (s1 + s2 + s3) pc (gz_put ci N k ty a e r) := by
  intro X hok env h o cells slots hc hs ht hk
  unfold gz_put at ht
  split at ht
  · rename_i x h1 e1
    split at ht
    · rename_i v h2 e2
      split at ht
      · rename_i hq
        subst hte
        refine ha X hok env [] h _ _ cells slots (Nat.zero_le _) (by omega) (by omega) e1 ?_
        refine he X hok env _ _ _ _ _ _ (by rw [gz_sm_cons]; simp only [Value.category, gz_sm, List.map_nil, List.sum_nil]; omega) (by omega) (by omega) e2 ?_
        refine gw_put hok hcl hk0 hin hl ty0 hty hnm hfin hq.2 hd hq.1.1 hq.1.2 ?_
        refine hr X hok _ _ o _ _ (by omega) (by omega) ht ?_
        rw [show cells + c1 + c2 + c3 = cells + (c1 + c2 + c3) by omega, show slots + s1 + s2 + s3 = slots + (s1 + s2 + s3) by omega]
        exact hk
      · cases ht
    · cases ht
  · cases ht
theorem ok_putF {M : gz_Mi} {pc p1 p2 c1 s1 c2 s2 c3 s3 : Nat} {ty : FieldType} {a e : gz_Ex} {r : gz_Sx} (ha : gz_OkE M 0 c1 s1 pc p1 a) (he : gz_OkE M 1 c2 s2 p1 p2 e) {ci N k idx : Nat} {C : String} {T : u_T} (hcl : vwCl[ci]? = some (C, T, N)) (hk0 : k < N) (hin : ∀ w ∈ u_ws C T N, w ∈ gz_tb) (hl : Cond.fieldLink M.2.2.1 idx (T k).1 (T k).2.1 (T k).2.2.1 ∈ gz_tb) (ty0 : Nat → FieldType) (hty : ∀ k, k < N → parseFieldDescriptor (T k).2.2.1 = some (ty0 k)) (hnm : ∀ a, a < N → ∀ b, b < N → a ≠ b → (T a).2.1 ≠ (T b).2.1) (hfin : (T k).2.2.2 = true) (hini : M.2.2.2.2.2.1 = "<init>") (hdecl : (T k).1 = M.2.2.1) (hte : ty0 k = ty) (hd : decode M.1 p2 = .ok (.putfield idx, 3)) (hr : gz_OkS M c3 s3 (p2 + 3) r) : gz_OkS M (c1 + c2 + c3) (s1 + s2 + s3) pc (gz_put ci N k ty a e r) := by
  intro X hok env h o cells slots hc hs ht hk
  unfold gz_put at ht
  split at ht
  · rename_i x h1 e1
    split at ht
    · rename_i v h2 e2
      split at ht
      · rename_i hq
        subst hte
        refine ha X hok env [] h _ _ cells slots (Nat.zero_le _) (by omega) (by omega) e1 ?_
        refine he X hok env _ _ _ _ _ _ (by rw [gz_sm_cons]; simp only [Value.category, gz_sm, List.map_nil, List.sum_nil]; omega) (by omega) (by omega) e2 ?_
        refine gw_putF hok hcl hk0 hin hl ty0 hty hnm hfin hini hdecl hq.2 hd hq.1.1 hq.1.2 ?_
        refine hr X hok _ _ o _ _ (by omega) (by omega) ht ?_
        rw [show cells + c1 + c2 + c3 = cells + (c1 + c2 + c3) by omega, show slots + s1 + s2 + s3 = slots + (s1 + s2 + s3) by omega]
        exact hk
      · cases ht
    · cases ht
  · cases ht
theorem ok_iast {M : gz_Mi} {pc p1 p2 p3 c1 s1 c2 s2 c3 s3 c4 s4 : Nat} {a b e : gz_Ex} {r : gz_Sx} (ha : gz_OkE M 0 c1 s1 pc p1 a) (hb : gz_OkE M 1 c2 s2 p1 p2 b) (he : gz_OkE M 2 c3 s3 p2 p3 e) (hd : decode M.1 p3 = .ok (.iastore, 1)) (hr : gz_OkS M c4 s4 (p3 + 1) r) : gz_OkS M (c1 + c2 + c3 + c4) (s1 + s2 + s3 + s4) pc (gz_ast 100 a b e r) := by
  intro X hok env h o cells slots hc hs ht hk
  unfold gz_ast at ht
  split at ht
  · rename_i x h1 e1
    split at ht
    · rename_i j h2 e2
      split at ht
      · rename_i v h3 e3
        split at ht
        case isFalse => cases ht
        rename_i hq
        have hk2 : gz_post X M (cells + c1 + c2 + c3 + c4) (slots + s1 + s2 + s3 + s4) o := by
          rw [show cells + c1 + c2 + c3 + c4 = cells + (c1 + c2 + c3 + c4) by omega, show slots + s1 + s2 + s3 + s4 = slots + (s1 + s2 + s3 + s4) by omega]
          exact hk
        refine ha X hok env [] h _ _ cells slots (Nat.zero_le _) (by omega) (by omega) e1 ?_
        refine hb X hok env _ _ _ _ _ _ (by rw [gz_sm_cons]; simp only [Value.category, gz_sm, List.map_nil, List.sum_nil]; omega) (by omega) (by omega) e2 ?_
        refine he X hok env _ _ _ _ _ _ (by rw [gz_sm_cons, gz_sm_cons]; simp only [Value.category, gz_sm, List.map_nil, List.sum_nil]; omega) (by omega) (by omega) e3 ?_
        match v, hq.2 with
        | .int y, _ => exact gw_iast hok hd hq.1 (hr X hok _ _ o _ _ (by omega) (by omega) ht hk2)
      · cases ht
    · cases ht
  · cases ht
theorem ok_zast {M : gz_Mi} {pc p1 p2 p3 c1 s1 c2 s2 c3 s3 c4 s4 : Nat} {a b e : gz_Ex} {r : gz_Sx} (ha : gz_OkE M 0 c1 s1 pc p1 a) (hb : gz_OkE M 1 c2 s2 p1 p2 b) (he : gz_OkE M 2 c3 s3 p2 p3 e) (hd : decode M.1 p3 = .ok (.bastore, 1)) (hr : gz_OkS M c4 s4 (p3 + 1) r) : gz_OkS M (c1 + c2 + c3 + c4) (s1 + s2 + s3 + s4) pc (gz_ast 101 a b e r) := by
  intro X hok env h o cells slots hc hs ht hk
  unfold gz_ast at ht
  split at ht
  · rename_i x h1 e1
    split at ht
    · rename_i j h2 e2
      split at ht
      · rename_i v h3 e3
        split at ht
        case isFalse => cases ht
        rename_i hq
        have hk2 : gz_post X M (cells + c1 + c2 + c3 + c4) (slots + s1 + s2 + s3 + s4) o := by
          rw [show cells + c1 + c2 + c3 + c4 = cells + (c1 + c2 + c3 + c4) by omega, show slots + s1 + s2 + s3 + s4 = slots + (s1 + s2 + s3 + s4) by omega]
          exact hk
        refine ha X hok env [] h _ _ cells slots (Nat.zero_le _) (by omega) (by omega) e1 ?_
        refine hb X hok env _ _ _ _ _ _ (by rw [gz_sm_cons]; simp only [Value.category, gz_sm, List.map_nil, List.sum_nil]; omega) (by omega) (by omega) e2 ?_
        refine he X hok env _ _ _ _ _ _ (by rw [gz_sm_cons, gz_sm_cons]; simp only [Value.category, gz_sm, List.map_nil, List.sum_nil]; omega) (by omega) (by omega) e3 ?_
        match v, hq.2, ht with
        | .int y, hy, ht =>
          simp only [gz_aty, Bool.or_eq_true, beq_iff_eq] at hy
          exact gw_zast hok hd hy hq.1 (hr X hok _ _ o _ _ (by omega) (by omega) ht hk2)
      · cases ht
    · cases ht
  · cases ht
theorem ok_last {M : gz_Mi} {pc p1 p2 p3 c1 s1 c2 s2 c3 s3 c4 s4 : Nat} {a b e : gz_Ex} {r : gz_Sx} (ha : gz_OkE M 0 c1 s1 pc p1 a) (hb : gz_OkE M 1 c2 s2 p1 p2 b) (he : gz_OkE M 2 c3 s3 p2 p3 e) (hd : decode M.1 p3 = .ok (.lastore, 1)) (hr : gz_OkS M c4 s4 (p3 + 1) r) : gz_OkS M (c1 + c2 + c3 + c4) (s1 + s2 + s3 + s4) pc (gz_ast 102 a b e r) := by
  intro X hok env h o cells slots hc hs ht hk
  unfold gz_ast at ht
  split at ht
  · rename_i x h1 e1
    split at ht
    · rename_i j h2 e2
      split at ht
      · rename_i v h3 e3
        split at ht
        case isFalse => cases ht
        rename_i hq
        have hk2 : gz_post X M (cells + c1 + c2 + c3 + c4) (slots + s1 + s2 + s3 + s4) o := by
          rw [show cells + c1 + c2 + c3 + c4 = cells + (c1 + c2 + c3 + c4) by omega, show slots + s1 + s2 + s3 + s4 = slots + (s1 + s2 + s3 + s4) by omega]
          exact hk
        refine ha X hok env [] h _ _ cells slots (Nat.zero_le _) (by omega) (by omega) e1 ?_
        refine hb X hok env _ _ _ _ _ _ (by rw [gz_sm_cons]; simp only [Value.category, gz_sm, List.map_nil, List.sum_nil]; omega) (by omega) (by omega) e2 ?_
        refine he X hok env _ _ _ _ _ _ (by rw [gz_sm_cons, gz_sm_cons]; simp only [Value.category, gz_sm, List.map_nil, List.sum_nil]; omega) (by omega) (by omega) e3 ?_
        match v, hq.2 with
        | .long y, _ => exact gw_last hok hd hq.1 (hr X hok _ _ o _ _ (by omega) (by omega) ht hk2)
      · cases ht
    · cases ht
  · cases ht
theorem ok_aast103 {M : gz_Mi} {pc p1 p2 p3 c1 s1 c2 s2 c3 s3 c4 s4 : Nat} {a b e : gz_Ex} {r : gz_Sx} (ha : gz_OkE M 0 c1 s1 pc p1 a) (hb : gz_OkE M 1 c2 s2 p1 p2 b) (he : gz_OkE M 2 c3 s3 p2 p3 e) (hd : decode M.1 p3 = .ok (.aastore, 1)) (hr : gz_OkS M c4 s4 (p3 + 1) r) : gz_OkS M (c1 + c2 + c3 + c4) (s1 + s2 + s3 + s4) pc (gz_ast 103 a b e r) := by
  intro X hok env h o cells slots hc hs ht hk
  unfold gz_ast at ht
  split at ht
  · rename_i x h1 e1
    split at ht
    · rename_i j h2 e2
      split at ht
      · rename_i v h3 e3
        split at ht
        case isFalse => cases ht
        rename_i hq
        have hk2 : gz_post X M (cells + c1 + c2 + c3 + c4) (slots + s1 + s2 + s3 + s4) o := by
          rw [show cells + c1 + c2 + c3 + c4 = cells + (c1 + c2 + c3 + c4) by omega, show slots + s1 + s2 + s3 + s4 = slots + (s1 + s2 + s3 + s4) by omega]
          exact hk
        refine ha X hok env [] h _ _ cells slots (Nat.zero_le _) (by omega) (by omega) e1 ?_
        refine hb X hok env _ _ _ _ _ _ (by rw [gz_sm_cons]; simp only [Value.category, gz_sm, List.map_nil, List.sum_nil]; omega) (by omega) (by omega) e2 ?_
        refine he X hok env _ _ _ _ _ _ (by rw [gz_sm_cons, gz_sm_cons]; simp only [Value.category, gz_sm, List.map_nil, List.sum_nil]; omega) (by omega) (by omega) e3 ?_
        match v, hq.2, ht with
        | .ref y, hy, ht =>
          simp only [gz_aty, decide_eq_true_eq] at hy
          exact gw_aast103 hok hd hy.1 hy.2 hq.1 (hr X hok _ _ o _ _ (by omega) (by omega) ht hk2)
      · cases ht
    · cases ht
  · cases ht
theorem ok_aast104 {M : gz_Mi} {pc p1 p2 p3 c1 s1 c2 s2 c3 s3 c4 s4 : Nat} {a b e : gz_Ex} {r : gz_Sx} (ha : gz_OkE M 0 c1 s1 pc p1 a) (hb : gz_OkE M 1 c2 s2 p1 p2 b) (he : gz_OkE M 2 c3 s3 p2 p3 e) (hd : decode M.1 p3 = .ok (.aastore, 1)) (hr : gz_OkS M c4 s4 (p3 + 1) r) : gz_OkS M (c1 + c2 + c3 + c4) (s1 + s2 + s3 + s4) pc (gz_ast 104 a b e r) := by
  intro X hok env h o cells slots hc hs ht hk
  unfold gz_ast at ht
  split at ht
  · rename_i x h1 e1
    split at ht
    · rename_i j h2 e2
      split at ht
      · rename_i v h3 e3
        split at ht
        case isFalse => cases ht
        rename_i hq
        have hk2 : gz_post X M (cells + c1 + c2 + c3 + c4) (slots + s1 + s2 + s3 + s4) o := by
          rw [show cells + c1 + c2 + c3 + c4 = cells + (c1 + c2 + c3 + c4) by omega, show slots + s1 + s2 + s3 + s4 = slots + (s1 + s2 + s3 + s4) by omega]
          exact hk
        refine ha X hok env [] h _ _ cells slots (Nat.zero_le _) (by omega) (by omega) e1 ?_
        refine hb X hok env _ _ _ _ _ _ (by rw [gz_sm_cons]; simp only [Value.category, gz_sm, List.map_nil, List.sum_nil]; omega) (by omega) (by omega) e2 ?_
        refine he X hok env _ _ _ _ _ _ (by rw [gz_sm_cons, gz_sm_cons]; simp only [Value.category, gz_sm, List.map_nil, List.sum_nil]; omega) (by omega) (by omega) e3 ?_
        match v, hq.2, ht with
        | .ref y, hy, ht =>
          simp only [gz_aty, decide_eq_true_eq] at hy
          exact gw_aast104 hok hd hy.1 hy.2 hq.1 (hr X hok _ _ o _ _ (by omega) (by omega) ht hk2)
      · cases ht
    · cases ht
  · cases ht
theorem ok_aast105 {M : gz_Mi} {pc p1 p2 p3 c1 s1 c2 s2 c3 s3 c4 s4 : Nat} {a b e : gz_Ex} {r : gz_Sx} (ha : gz_OkE M 0 c1 s1 pc p1 a) (hb : gz_OkE M 1 c2 s2 p1 p2 b) (he : gz_OkE M 2 c3 s3 p2 p3 e) (hd : decode M.1 p3 = .ok (.aastore, 1)) (hr : gz_OkS M c4 s4 (p3 + 1) r) : gz_OkS M (c1 + c2 + c3 + c4) (s1 + s2 + s3 + s4) pc (gz_ast 105 a b e r) := by
  intro X hok env h o cells slots hc hs ht hk
  unfold gz_ast at ht
  split at ht
  · rename_i x h1 e1
    split at ht
    · rename_i j h2 e2
      split at ht
      · rename_i v h3 e3
        split at ht
        case isFalse => cases ht
        rename_i hq
        have hk2 : gz_post X M (cells + c1 + c2 + c3 + c4) (slots + s1 + s2 + s3 + s4) o := by
          rw [show cells + c1 + c2 + c3 + c4 = cells + (c1 + c2 + c3 + c4) by omega, show slots + s1 + s2 + s3 + s4 = slots + (s1 + s2 + s3 + s4) by omega]
          exact hk
        refine ha X hok env [] h _ _ cells slots (Nat.zero_le _) (by omega) (by omega) e1 ?_
        refine hb X hok env _ _ _ _ _ _ (by rw [gz_sm_cons]; simp only [Value.category, gz_sm, List.map_nil, List.sum_nil]; omega) (by omega) (by omega) e2 ?_
        refine he X hok env _ _ _ _ _ _ (by rw [gz_sm_cons, gz_sm_cons]; simp only [Value.category, gz_sm, List.map_nil, List.sum_nil]; omega) (by omega) (by omega) e3 ?_
        match v, hq.2, ht with
        | .ref y, hy, ht =>
          simp only [gz_aty, decide_eq_true_eq] at hy
          exact gw_aast105 hok hd hy.1 hy.2 hq.1 (hr X hok _ _ o _ _ (by omega) (by omega) ht hk2)
      · cases ht
    · cases ht
  · cases ht
theorem ok_pop {M : gz_Mi} {pc p1 c1 s1 c2 s2 : Nat} {e : gz_Ex} {r : gz_Sx} (he : gz_OkE M 0 c1 s1 pc p1 e) (hd : decode M.1 p1 = .ok (.pop, 1)) (hr : gz_OkS M c2 s2 (p1 + 1) r) : gz_OkS M (c1 + c2) (s1 + s2) pc (gz_pop e r) := by
  intro X hok env h o cells slots hc hs ht hk
  unfold gz_pop at ht
  split at ht
  · rename_i x h1 e1
    refine he X hok env [] h _ _ cells slots (Nat.zero_le _) (by omega) (by omega) e1 (gw_pop hok hd rfl ?_)
    refine hr X hok _ h1 o _ _ (by omega) (by omega) ht ?_
    rw [Nat.add_assoc, Nat.add_assoc]
    exact hk
  · cases ht
theorem ok_vs {M : gz_Mi} {pc p1 n c1 s1 c2 s2 idx : Nat} {as : gz_Ax} {r : gz_Sx} (ha : gz_OkA M 0 c1 s1 pc p1 n as) {y : MethodName} {cc' : ByteArray} {maxL : Nat} {ret : Option FieldType} {rm : Room} {sem : gz_Me} (hM : gz_Mt y cc' maxL ret rm sem) (hcode : Cond.code y cc' maxL ret ∈ gz_tb) (hini : Cond.initialized y.cls ∈ gz_tb) (hdesc : y.cls ≠ "java/lang/invoke/MethodHandle" ∧ y.cls ≠ "java/lang/invoke/VarHandle" ∧ (parseMethodDescriptor y.desc).map (fun d => d.parameters.length) = some n) (hrf : rm.frames + 1 ≤ M.2.2.2.1) (hrl : 8 + (maxL + 11) + rm.locals ≤ M.2.2.2.2.1) (hl : Cond.methodLink M.2.2.1 idx y ∈ gz_tb) (hstt : Cond.static y ∈ gz_tb) (hd : decode M.1 p1 = .ok (.invokestatic idx, 3)) (hr : gz_OkS M c2 s2 (p1 + 3) r) : gz_OkS M (c1 + rm.cells + c2) (s1 + rm.slots + s2) pc (gz_vs sem as r) := by
  intro X hok env h o cells slots hc hs ht hk
  unfold gz_vs at ht
  split at ht
  · rename_i us h1 e1
    split at ht
    · rename_i h2 e2
      obtain ⟨g1, g2⟩ := ha X hok env [] h us h1 cells slots (Nat.zero_le _) (by omega) (by omega) e1
      refine g2 (gw_callS hok hM e2 hcode hini hdesc g1 hrf hrl hl hstt hd (Nat.zero_le _) (by omega) (by omega) ?_)
      refine hr X hok _ h2 o _ _ (by omega) (by omega) ht ?_
      rw [show cells + c1 + rm.cells + c2 = cells + (c1 + rm.cells + c2) by omega, show slots + s1 + rm.slots + s2 = slots + (s1 + rm.slots + s2) by omega]
      exact hk
    · cases ht
  · cases ht
theorem ok_vv {M : gz_Mi} {pc p1 n c1 s1 c2 s2 idx ci N : Nat} {as : gz_Ax} {r : gz_Sx} (ha : gz_OkA M 0 c1 s1 pc p1 (n + 1) as) {y : MethodName} {cc' : ByteArray} {maxL : Nat} {ret : Option FieldType} {rm : Room} {sem : gz_Me} (hM : gz_Mt y cc' maxL ret rm sem) {C : String} {T : u_T} (hcl : vwCl[ci]? = some (C, T, N)) (hcode : Cond.code y cc' maxL ret ∈ gz_tb) (hini : Cond.initialized y.cls ∈ gz_tb) (hdesc : y.cls ≠ "java/lang/invoke/MethodHandle" ∧ y.cls ≠ "java/lang/invoke/VarHandle" ∧ (parseMethodDescriptor y.desc).map (fun d => d.parameters.length) = some n) (hrf : rm.frames + 1 ≤ M.2.2.2.1) (hrl : 8 + (maxL + 11) + rm.locals ≤ M.2.2.2.2.1) (hl : Cond.methodLink M.2.2.1 idx y ∈ gz_tb) (hin : Cond.instanceMethod y ∈ gz_tb) (hse : Cond.selects C y y ∈ gz_tb) (hd : decode M.1 p1 = .ok (.invokevirtual idx, 3)) (hr : gz_OkS M c2 s2 (p1 + 3) r) : gz_OkS M (c1 + rm.cells + c2) (s1 + rm.slots + s2) pc (gz_vv ci N sem as r) := by
  intro X hok env h o cells slots hc hs ht hk
  unfold gz_vv at ht
  split at ht
  · rename_i x us h1 e1
    split at ht
    · rename_i hq
      split at ht
      · rename_i h2 e2
        obtain ⟨g1, g2⟩ := ha X hok env [] h _ h1 cells slots (Nat.zero_le _) (by omega) (by omega) e1
        refine g2 ?_
        rw [List.reverse_cons, List.append_assoc, List.singleton_append]
        refine gw_callV hok hM e2 hcl hcode hini hdesc (Nat.succ.inj g1) hrf hrl hl hin hse hd hq.1 hq.2 (Nat.zero_le _) (by omega) (by omega) ?_
        refine hr X hok _ h2 o _ _ (by omega) (by omega) ht ?_
        rw [show cells + c1 + rm.cells + c2 = cells + (c1 + rm.cells + c2) by omega, show slots + s1 + rm.slots + s2 = slots + (s1 + rm.slots + s2) by omega]
        exact hk
      · cases ht
    · cases ht
  · cases ht
theorem ok_sup {M : gz_Mi} {pc p1 c1 s1 c2 s2 idx : Nat} {e : gz_Ex} {r : gz_Sx} (he : gz_OkE M 0 c1 s1 pc p1 e) (hl : Cond.methodLink M.2.2.1 idx Lib.objectInit ∈ gz_tb) (hin : Cond.instanceMethod Lib.objectInit ∈ gz_tb) (hcode : Cond.code Lib.objectInit ⟨#[0xb1]⟩ 1 none ∈ gz_tb) (hrf : 1 ≤ M.2.2.2.1) (hrl : 12 ≤ M.2.2.2.2.1) (hd : decode M.1 p1 = .ok (.invokespecial idx, 3)) (hr : gz_OkS M c2 s2 (p1 + 3) r) : gz_OkS M (c1 + c2) (s1 + s2) pc (gz_sup e r) := by
  intro X hok env h o cells slots hc hs ht hk
  unfold gz_sup at ht
  split at ht
  · rename_i x h1 e1
    refine he X hok env [] h _ _ cells slots (Nat.zero_le _) (by omega) (by omega) e1 (gw_obj (st := []) hok hl hin hcode hrf hrl hd ?_)
    refine hr X hok _ h1 o _ _ (by omega) (by omega) ht ?_
    rw [Nat.add_assoc, Nat.add_assoc]
    exact hk
  · cases ht
theorem ok_rv {M : gz_Mi} {pc : Nat} (hd : decode M.1 pc = .ok (.return_, 1)) : gz_OkS M 0 0 pc gz_rv := by
  intro X hok env h o cells slots hc hs ht hk
  simp only [gz_rv, Option.some.injEq] at ht
  subst ht
  exact hk pc env hd
theorem ok_ri {M : gz_Mi} {pc p1 c1 s1 : Nat} {e : gz_Ex} (he : gz_OkE M 0 c1 s1 pc p1 e) (hd : decode M.1 p1 = .ok (.ireturn, 1)) : gz_OkS M c1 s1 pc (gz_ri e) := by
  intro X hok env h o cells slots hc hs ht hk
  unfold gz_ri at ht
  split at ht
  · rename_i x h1 e1
    simp only [Option.some.injEq] at ht
    subst ht
    exact he X hok env [] h _ _ cells slots (Nat.zero_le _) (by omega) (by omega) e1 (hk p1 env hd)
  · cases ht
theorem ok_rl {M : gz_Mi} {pc p1 c1 s1 : Nat} {e : gz_Ex} (he : gz_OkE M 0 c1 s1 pc p1 e) (hd : decode M.1 p1 = .ok (.lreturn, 1)) : gz_OkS M c1 s1 pc (gz_rl e) := by
  intro X hok env h o cells slots hc hs ht hk
  unfold gz_rl at ht
  split at ht
  · rename_i x h1 e1
    simp only [Option.some.injEq] at ht
    subst ht
    exact he X hok env [] h _ _ cells slots (Nat.zero_le _) (by omega) (by omega) e1 (hk p1 env hd)
  · cases ht
theorem ok_ra {M : gz_Mi} {pc p1 c1 s1 : Nat} {e : gz_Ex} (he : gz_OkE M 0 c1 s1 pc p1 e) (hd : decode M.1 p1 = .ok (.areturn, 1)) : gz_OkS M c1 s1 pc (gz_ra e) := by
  intro X hok env h o cells slots hc hs ht hk
  unfold gz_ra at ht
  split at ht
  · rename_i x h1 e1
    simp only [Option.some.injEq] at ht
    subst ht
    exact he X hok env [] h _ _ cells slots (Nat.zero_le _) (by omega) (by omega) e1 (hk p1 env hd)
  · rename_i h1 e1
    simp only [Option.some.injEq] at ht
    subst ht
    exact he X hok env [] h _ _ cells slots (Nat.zero_le _) (by omega) (by omega) e1 (hk p1 env hd)
  · cases ht
theorem ok_if {M : gz_Mi} {pc X N c1 s1 c2 s2 c3 s3 : Nat} {j : gz_Jx} {a b : gz_Sx} (hj : gz_OkJ M 0 c1 s1 pc X N j) (ha : gz_OkS M c2 s2 X a) (hb : gz_OkS M c3 s3 N b) : gz_OkS M (c1 + c2 + c3) (s1 + s2 + s3) pc (gz_if j a b) := by
  intro X' hok env h o cells slots hc hs ht hk
  unfold gz_if at ht
  split at ht
  · rename_i h1 e1
    refine hj X' hok env [] h _ _ cells slots (Nat.zero_le _) (by omega) (by omega) e1 (fun _ => ?_) (fun q => by cases q)
    exact ha X' hok env h1 o _ _ (by omega) (by omega) ht (gz_post.widen (by omega) (by omega) hk)
  · rename_i h1 e1
    refine hj X' hok env [] h _ _ cells slots (Nat.zero_le _) (by omega) (by omega) e1 (fun q => by cases q) (fun _ => ?_)
    exact hb X' hok env h1 o _ _ (by omega) (by omega) ht (gz_post.widen (by omega) (by omega) hk)
  · cases ht
theorem ok_seq {M : gz_Mi} {pc L k c1 s1 c2 s2 : Nat} {a b : gz_Sx} (ha : gz_OkS M c1 s1 pc a) (hb : gz_OkS M c2 s2 L b) : gz_OkS M (c1 + c2) (s1 + s2) pc (gz_seq L k a b) := by
  intro X hok env h o cells slots hc hs ht hk
  unfold gz_seq at ht
  split at ht
  · rename_i l env1 h1 e1
    refine ha X hok env h _ cells slots (by omega) (by omega) e1 ?_
    split at ht
    · rename_i hl
      subst hl
      refine gz_W.take k (hb X hok _ h1 o _ _ (by omega) (by omega) ht ?_)
      rw [Nat.add_assoc, Nat.add_assoc]
      exact hk
    · simp only [Option.some.injEq] at ht
      subst ht
      exact gz_post.widen (by omega) (by omega) hk
  · rename_i q e1
    simp only [Option.some.injEq] at ht
    subst ht
    exact ha X hok env h _ cells slots (by omega) (by omega) e1 (gz_post.widen (by omega) (by omega) hk)
  · cases ht
theorem ok_it {M : gz_Mi} {L k : Nat} {a : gz_Sx} (ha : gz_OkS M 0 0 L a) : ∀ n, gz_OkS M 0 0 L (gz_it L k a n) := by
  intro n
  induction n with
  | zero => intro X hok env h o cells slots hc hs ht hk; cases ht
  | succ n ih => exact ok_seq (c1 := 0) (s1 := 0) (c2 := 0) (s2 := 0) ha ih
theorem ok_loop {M : gz_Mi} {L k c1 s1 : Nat} {a : gz_Sx} (ha : gz_OkS M c1 s1 L a) (hc1 : c1 = 0) (hs1 : s1 = 0) : gz_OkS M 0 0 L (gz_loop L k a) := by
  intro X hok env h o cells slots hc hs ht hk
  subst hc1
  subst hs1
  obtain ⟨n, hn⟩ := gz_loop_inv ht
  exact gz_W.take k (ok_it ha n X hok _ h o cells slots hc hs hn hk)
/-- a switch over a table -/
def gz_sw (e : gz_Ex) (lo : Int) (ss : List gz_Sx) (sd : gz_Sx) : gz_Sx := fun env h => match e env [] h with
  | some (.int x, h1) => if x.toInt < lo ∨ lo + (ss.length : Int) ≤ x.toInt then sd env h1 else (match ss[(x.toInt - lo).toNat]? with
    | some s => s env h1
    | none => none)
  | _ => none
theorem gw_tabO {X : gz_Cx} {M : gz_Mi} {cells slots pc : Nat} {env st : List Value} {h : gz_H} (hok : gz_ok X M) {dflt lo hi : Int} {offs : Array Int} {len : Nat} {x : Int32} {tgt : Nat} (hd : decode M.1 pc = .ok (.tableswitch dflt lo hi offs, len)) (hx : x.toInt < lo ∨ hi < x.toInt) (ht : (pc : Int) + dflt = (tgt : Int)) (hk : gz_W X M.2.1 cells slots tgt env st h) : gz_W X M.2.1 cells slots pc env (.int x :: st) h := by
  obtain ⟨p, l, e, R, s, m, args, below, meth, c, Q, D, cA, base, b⟩ := X
  obtain ⟨cc, nL, own, fr, lo2, mn, sc⟩ := M
  obtain ⟨hex, hb, hml, hown, hts, hK, hbs, hlk, hfr, hlo, hmn, hsc⟩ := hok
  intro H locs ls hR hS hL
  exact lv_tableOut hex hb hd hx ht (hk H locs ls hR hS hL)
theorem gw_tabI {X : gz_Cx} {M : gz_Mi} {cells slots pc : Nat} {env st : List Value} {h : gz_H} (hok : gz_ok X M) {dflt lo hi : Int} {offs : Array Int} {len : Nat} {x : Int32} {off : Int} {tgt : Nat} (hd : decode M.1 pc = .ok (.tableswitch dflt lo hi offs, len)) (h1 : ¬ x.toInt < lo) (h2 : ¬ hi < x.toInt) (ho : offs[(x.toInt - lo).toNat]? = some off) (ht : (pc : Int) + off = (tgt : Int)) (hk : gz_W X M.2.1 cells slots tgt env st h) : gz_W X M.2.1 cells slots pc env (.int x :: st) h := by
  obtain ⟨p, l, e, R, s, m, args, below, meth, c, Q, D, cA, base, b⟩ := X
  obtain ⟨cc, nL, own, fr, lo2, mn, sc⟩ := M
  obtain ⟨hex, hb, hml, hown, hts, hK, hbs, hlk, hfr, hlo, hmn, hsc⟩ := hok
  intro H locs ls hR hS hL
  exact lv_tableIn hex hb hd h1 h2 ho ht (hk H locs ls hR hS hL)
theorem ok_sw {M : gz_Mi} {pc p1 c1 s1 c2 s2 td len : Nat} {e : gz_Ex} {lo hi dflt : Int} {offs : Array Int} {ts : List Nat} {ss : List gz_Sx} {sd : gz_Sx} (he : gz_OkE M 0 c1 s1 pc p1 e) (hd : decode M.1 p1 = .ok (.tableswitch dflt lo hi offs, len)) (hhi : hi + 1 = lo + (ss.length : Int)) (htd : (p1 : Int) + dflt = (td : Int)) (hts : offs.toList.map (fun o => (p1 : Int) + o) = ts.map (fun t : Nat => (t : Int))) (hl : ts.length = ss.length) (hsd : gz_OkS M c2 s2 td sd) (hss : ∀ q ∈ ts.zip ss, gz_OkS M c2 s2 q.1 q.2) : gz_OkS M (c1 + c2) (s1 + s2) pc (gz_sw e lo ss sd) := by
  intro X hok env h o cells slots hc hs ht hk
  unfold gz_sw at ht
  split at ht
  · rename_i x h1 e1
    refine he X hok env [] h _ _ cells slots (Nat.zero_le _) (by omega) (by omega) e1 ?_
    have hk2 : gz_post X M (cells + c1 + c2) (slots + s1 + s2) o := by rw [Nat.add_assoc, Nat.add_assoc]; exact hk
    split at ht
    · rename_i hx
      exact gw_tabO hok hd (by omega) htd (hsd X hok _ h1 o _ _ (by omega) (by omega) ht hk2)
    · rename_i hx
      split at ht
      · rename_i s es
        have hi2 : (x.toInt - lo).toNat < ss.length := (List.getElem?_eq_some_iff.mp es).1
        have h3 : (offs.toList.map (fun o => (p1 : Int) + o))[(x.toInt - lo).toNat]? = (ts.map (fun t : Nat => (t : Int)))[(x.toInt - lo).toNat]? := by rw [hts]
        rw [List.getElem?_map, List.getElem?_map, List.getElem?_eq_getElem (by omega : (x.toInt - lo).toNat < ts.length)] at h3
        cases ho : offs.toList[(x.toInt - lo).toNat]? with
        | none => rw [ho] at h3; cases h3
        | some off =>
          rw [ho] at h3
          simp only [Option.map_some, Option.some.injEq] at h3
          refine gw_tabI hok hd (by omega) (by omega) (by rw [← Array.getElem?_toList]; exact ho) h3 ?_
          refine hss (ts[(x.toInt - lo).toNat]'(by omega), s) ?_ X hok _ h1 o _ _ (by omega) (by omega) ht hk2
          rw [List.mem_iff_getElem?]
          refine ⟨(x.toInt - lo).toNat, ?_⟩
          rw [List.getElem?_zip_eq_some]
          exact ⟨List.getElem?_eq_getElem _, es⟩
      · cases ht
  · cases ht
def gz_sln (L : Nat) (a : gz_Ex) : gz_Ex := fun env st h => match a env st h with
  | some (.float _, h1) => some (.int (Int32.ofNat L), h1)
  | _ => none
def gz_sld (L : Nat) (xs : Nat → Int32) (a b : gz_Ex) : gz_Ex := fun env st h => match a env st h with
  | some (.float f, h1) => (match b env (.float f :: st) h1 with
    | some (.int j, h2) => if ¬ j < 0 ∧ j.toNatClampNeg < L then some (.int (xs j.toNatClampNeg), h2) else none
    | _ => none)
  | _ => none
theorem ok_slen {M : gz_Mi} {L : Nat} {xs : Nat → Int32} (hsc : M.2.2.2.2.2.2 = some (L, xs)) {d pc p1 c1 s1 : Nat} {a : gz_Ex} (ha : gz_OkE M d c1 s1 pc p1 a) (hd : decode M.1 p1 = .ok (.arraylength, 1)) : gz_OkE M d c1 s1 pc (p1 + 1) (gz_sln L a) := by
  intro X hok env st h v' h' cells slots hst hc hs ht hk
  unfold gz_sln at ht
  split at ht
  · rename_i x h1 e1
    simp only [Option.some.injEq, Prod.mk.injEq] at ht
    obtain ⟨rfl, rfl⟩ := ht
    exact ha X hok env st h _ _ cells slots hst hc hs e1 (gw_slen hok hsc hd hk)
  · cases ht
theorem ok_sld {M : gz_Mi} {L : Nat} {xs : Nat → Int32} (hsc : M.2.2.2.2.2.2 = some (L, xs)) {d pc p1 p2 c1 s1 c2 s2 : Nat} {a b : gz_Ex} (ha : gz_OkE M d c1 s1 pc p1 a) (hb : gz_OkE M (d + 1) c2 s2 p1 p2 b) (hd : decode M.1 p2 = .ok (.iaload, 1)) : gz_OkE M d (c1 + c2) (s1 + s2) pc (p2 + 1) (gz_sld L xs a b) := by
  intro X hok env st h v' h' cells slots hst hc hs ht hk
  unfold gz_sld at ht
  split at ht
  · rename_i x h1 e1
    split at ht
    · rename_i y h2 e2
      split at ht
      · rename_i hi
        simp only [Option.some.injEq, Prod.mk.injEq] at ht
        obtain ⟨rfl, rfl⟩ := ht
        refine ha X hok env st h _ _ cells slots hst (by omega) (by omega) e1 ?_
        refine hb X hok env _ _ _ _ _ _ (by rw [gz_sm_cons]; simp only [Value.category]; omega) (by omega) (by omega) e2 ?_
        refine gw_sld hok hsc hi hd ?_
        rw [Nat.add_assoc, Nat.add_assoc]
        exact hk
      · cases ht
    · cases ht
  · cases ht
theorem ok_mono {M : gz_Mi} {c0 s0 c1 s1 pc : Nat} {t : gz_Sx} (ha : gz_OkS M c0 s0 pc t) (hc0 : c0 ≤ c1) (hs0 : s0 ≤ s1) : gz_OkS M c1 s1 pc t := by
  intro X hok env h o cells slots hc hs ht hk
  exact ha X hok env h o cells slots (by omega) (by omega) ht (gz_post.widen (by omega) (by omega) hk)
theorem ok_eg {M : gz_Mi} {d pc p1 p2 c1 s1 : Nat} {off : Int} {a : gz_Ex} (ha : gz_OkE M d c1 s1 pc p1 a) (hg : decode M.1 p1 = .ok (.goto off, 3)) (ht0 : (p1 : Int) + off = (p2 : Int)) : gz_OkE M d c1 s1 pc p2 a := by
  intro X hok env st h v' h' cells slots hst hc hs ht hk
  exact ha X hok env st h _ _ cells slots hst hc hs ht (gw_goto hok hg ht0 hk)
theorem ok_te2 {M : gz_Mi} {d pc X N p2 c1 s1 c2 s2 c3 s3 : Nat} {j : gz_Jx} {a b : gz_Ex} (hj : gz_OkJ M d c1 s1 pc X N j) (hb : gz_OkE M d c2 s2 N p2 b) (ha : gz_OkE M d c3 s3 X p2 a) : gz_OkE M d (c1 + c2 + c3) (s1 + s2 + s3) pc p2 (gz_te j a b) := by
  intro X' hok env st h v' h' cells slots hst hc hs ht hk
  unfold gz_te at ht
  split at ht
  · rename_i h1 e1
    refine hj X' hok env st h _ _ cells slots hst (by omega) (by omega) e1 (fun _ => ?_) (fun q => by cases q)
    exact ha X' hok env st h1 _ _ _ _ hst (by omega) (by omega) ht (gz_W.widen (by omega) (by omega) hk)
  · rename_i h1 e1
    refine hj X' hok env st h _ _ cells slots hst (by omega) (by omega) e1 (fun q => by cases q) (fun _ => ?_)
    exact hb X' hok env st h1 _ _ _ _ hst (by omega) (by omega) ht (gz_W.widen (by omega) (by omega) hk)
  · cases ht
