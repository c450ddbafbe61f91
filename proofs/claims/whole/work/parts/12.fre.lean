def gz_i (v : Int32) : gz_Ex := fun _ _ h => some (.int v, h)
def gz_l (v : Int64) : gz_Ex := fun _ _ h => some (.long v, h)
def gz_nu : gz_Ex := fun _ _ h => some (.null, h)
def gz_li (k : Nat) : gz_Ex := fun env _ h => match env[k]? with
  | some (.int x) => some (.int x, h)
  | _ => none
def gz_ll (k : Nat) : gz_Ex := fun env _ h => match env[k]? with
  | some (.long x) => some (.long x, h)
  | _ => none
def gz_la (k : Nat) : gz_Ex := fun env _ h => match env[k]? with
  | some (.ref x) => some (.ref x, h)
  | some .null => some (.null, h)
  | some (.float x) => some (.float x, h)
  | _ => none
def gz_ib (f : Int32 → Int32 → Int32) (a b : gz_Ex) : gz_Ex := fun env st h => match a env st h with
  | some (.int x, h1) => (match b env (.int x :: st) h1 with
    | some (.int y, h2) => some (.int (f x y), h2)
    | _ => none)
  | _ => none
def gz_iz (f : Int32 → Int32 → Int32) (a b : gz_Ex) : gz_Ex := fun env st h => match a env st h with
  | some (.int x, h1) => (match b env (.int x :: st) h1 with
    | some (.int y, h2) => if y = 0 then none else some (.int (f x y), h2)
    | _ => none)
  | _ => none
def gz_lb (f : Int64 → Int64 → Int64) (a b : gz_Ex) : gz_Ex := fun env st h => match a env st h with
  | some (.long x, h1) => (match b env (.long x :: st) h1 with
    | some (.long y, h2) => some (.long (f x y), h2)
    | _ => none)
  | _ => none
def gz_lz (f : Int64 → Int64 → Int64) (a b : gz_Ex) : gz_Ex := fun env st h => match a env st h with
  | some (.long x, h1) => (match b env (.long x :: st) h1 with
    | some (.long y, h2) => if y = 0 then none else some (.long (f x y), h2)
    | _ => none)
  | _ => none
def gz_ls (f : Int64 → Int32 → Int64) (a b : gz_Ex) : gz_Ex := fun env st h => match a env st h with
  | some (.long x, h1) => (match b env (.long x :: st) h1 with
    | some (.int y, h2) => some (.long (f x y), h2)
    | _ => none)
  | _ => none
def gz_lc (a b : gz_Ex) : gz_Ex := fun env st h => match a env st h with
  | some (.long x, h1) => (match b env (.long x :: st) h1 with
    | some (.long y, h2) => some (.int (lg_cmp x y), h2)
    | _ => none)
  | _ => none
def gz_i2l (a : gz_Ex) : gz_Ex := fun env st h => match a env st h with
  | some (.int x, h1) => some (.long x.toInt64, h1)
  | _ => none
def gz_l2i (a : gz_Ex) : gz_Ex := fun env st h => match a env st h with
  | some (.long x, h1) => some (.int x.toInt32, h1)
  | _ => none
def gz_get (ci N k : Nat) (a : gz_Ex) : gz_Ex := fun env st h => match a env st h with
  | some (.ref x, h1) => if x < h1.1 ∧ gz_k h1 x = (ci, N) then some (gz_v h1 x k, h1) else none
  | _ => none
def gz_ald (ct : Nat) (a b : gz_Ex) : gz_Ex := fun env st h => match a env st h with
  | some (.ref x, h1) => (match b env (.ref x :: st) h1 with
    | some (.int j, h2) => if gz_ix h2 ct x j then some (gz_v h2 x j.toNatClampNeg, h2) else none
    | _ => none)
  | _ => none
def gz_len (a : gz_Ex) : gz_Ex := fun env st h => match a env st h with
  | some (.ref x, h1) => if x < h1.1 ∧ (gz_k h1 x).1 = 100 then some (.int (Int32.ofNat (gz_k h1 x).2), h1) else none
  | _ => none
def gz_dup : gz_Ex := fun _ st h => match st with
  | v :: _ => if v.category = 1 then some (v, h) else none
  | [] => none
def gz_d2 (ct : Nat) : gz_Ex := fun _ st h => match st with
  | .int j :: .ref x :: _ => if gz_ix h ct x j then some (gz_v h x j.toNatClampNeg, h) else none
  | _ => none
def gz_nar (ct : Nat) (d : Value) (a : gz_Ex) (n : Nat) : gz_Ex := fun env st h => match a env st h with
  | some (.int x, h1) => if x = Int32.ofNat n then some (.ref h1.1, gz_new h1 (ct, n) (fun _ => d)) else none
  | _ => none
def gz_a0 : gz_Ax := fun _ _ h => some ([], h)
def gz_a1 (as : gz_Ax) (e : gz_Ex) : gz_Ax := fun env st h => match as env st h with
  | some (vs, h1) => (match e env (vs.reverse ++ st) h1 with
    | some (v, h2) => some (vs ++ [v], h2)
    | none => none)
  | none => none
def gz_cs (sem : gz_Me) (as : gz_Ax) : gz_Ex := fun env st h => match as env st h with
  | some (vs, h1) => (match sem vs h1 with
    | some (some v, h2) => some (v, h2)
    | _ => none)
  | none => none
def gz_cv (ci N : Nat) (sem : gz_Me) (as : gz_Ax) : gz_Ex := fun env st h => match as env st h with
  | some (.ref x :: vs, h1) => if x < h1.1 ∧ gz_k h1 x = (ci, N) then (match sem (.ref x :: vs) h1 with
    | some (some v, h2) => some (v, h2)
    | _ => none) else none
  | _ => none
def gz_mk (ci N : Nat) (d : Nat → Value) (sem : gz_Me) (as : gz_Ax) : gz_Ex := fun env st h => match as env (.ref h.1 :: .ref h.1 :: st) (gz_new h (ci, N) d) with
  | some (vs, h1) => (match sem (.ref h.1 :: vs) h1 with
    | some (none, h2) => some (.ref h.1, h2)
    | _ => none)
  | none => none
def gz_te (j : gz_Jx) (a b : gz_Ex) : gz_Ex := fun env st h => match j env st h with
  | some (true, h1) => a env st h1
  | some (false, h1) => b env st h1
  | none => none
def gz_j1 (f : Int32 → Bool) (a : gz_Ex) : gz_Jx := fun env st h => match a env st h with
  | some (.int x, h1) => some (f x, h1)
  | _ => none
def gz_j2 (f : Int32 → Int32 → Bool) (a b : gz_Ex) : gz_Jx := fun env st h => match a env st h with
  | some (.int x, h1) => (match b env (.int x :: st) h1 with
    | some (.int y, h2) => some (f x y, h2)
    | _ => none)
  | _ => none
def gz_jn (a : gz_Ex) : gz_Jx := fun env st h => match a env st h with
  | some (.ref _, h1) => some (false, h1)
  | some (.null, h1) => some (true, h1)
  | _ => none
def gz_jk (a : gz_Ex) : gz_Jx := fun env st h => match a env st h with
  | some (.ref _, h1) => some (true, h1)
  | some (.null, h1) => some (false, h1)
  | _ => none
def gz_jo (a b : gz_Jx) : gz_Jx := fun env st h => match a env st h with
  | some (true, h1) => some (true, h1)
  | some (false, h1) => b env st h1
  | none => none
def gz_ja (a b : gz_Jx) : gz_Jx := fun env st h => match a env st h with
  | some (true, h1) => some (false, h1)
  | some (false, h1) => b env st h1
  | none => none
theorem ok_iconst {M : gz_Mi} {d pc : Nat} {n : Int} {v : Int32} (hd : decode M.1 pc = .ok (.iconst n, 1)) (hv : Int32.ofInt n = v) : gz_OkE M d 0 0 pc (pc + 1) (gz_i v) := by
  intro X hok env st h v' h' cells slots hst hc hs ht hk
  simp only [gz_i, Option.some.injEq, Prod.mk.injEq] at ht
  obtain ⟨rfl, rfl⟩ := ht
  exact gw_iconst hok hd hv hk
theorem ok_bipush {M : gz_Mi} {d pc : Nat} {n : Int} {v : Int32} (hd : decode M.1 pc = .ok (.bipush n, 2)) (hv : (Int8.ofInt n).toInt32 = v) : gz_OkE M d 0 0 pc (pc + 2) (gz_i v) := by
  intro X hok env st h v' h' cells slots hst hc hs ht hk
  simp only [gz_i, Option.some.injEq, Prod.mk.injEq] at ht
  obtain ⟨rfl, rfl⟩ := ht
  exact gw_bipush hok hd hv hk
theorem ok_sipush {M : gz_Mi} {d pc : Nat} {n : Int} {v : Int32} (hd : decode M.1 pc = .ok (.sipush n, 3)) (hv : (Int16.ofInt n).toInt32 = v) : gz_OkE M d 0 0 pc (pc + 3) (gz_i v) := by
  intro X hok env st h v' h' cells slots hst hc hs ht hk
  simp only [gz_i, Option.some.injEq, Prod.mk.injEq] at ht
  obtain ⟨rfl, rfl⟩ := ht
  exact gw_sipush hok hd hv hk
theorem ok_ldc {M : gz_Mi} {d pc : Nat} {i : Nat} {v : Int32} (hcn : Cond.constant M.2.2.1 i v ∈ gz_tb) (hd : decode M.1 pc = .ok (.ldc i, 2)) : gz_OkE M d 0 0 pc (pc + 2) (gz_i v) := by
  intro X hok env st h v' h' cells slots hst hc hs ht hk
  simp only [gz_i, Option.some.injEq, Prod.mk.injEq] at ht
  obtain ⟨rfl, rfl⟩ := ht
  exact gw_ldc hok hcn hd hk
theorem ok_lconst {M : gz_Mi} {d pc : Nat} {n : Fin 2} {v : Int64} (hd : decode M.1 pc = .ok (.lconst n, 1)) (hv : Int64.ofNat (n : Nat) = v) : gz_OkE M d 0 0 pc (pc + 1) (gz_l v) := by
  intro X hok env st h v' h' cells slots hst hc hs ht hk
  simp only [gz_l, Option.some.injEq, Prod.mk.injEq] at ht
  obtain ⟨rfl, rfl⟩ := ht
  exact gw_lconst hok hd hv hk
theorem ok_ldc2 {M : gz_Mi} {d pc : Nat} {i : Nat} {v : Int64} (hcn : Cond.constantLong M.2.2.1 i v ∈ gz_tb) (hd : decode M.1 pc = .ok (.ldc2_w i, 3)) : gz_OkE M d 0 0 pc (pc + 3) (gz_l v) := by
  intro X hok env st h v' h' cells slots hst hc hs ht hk
  simp only [gz_l, Option.some.injEq, Prod.mk.injEq] at ht
  obtain ⟨rfl, rfl⟩ := ht
  exact gw_ldc2 hok hcn hd hk
theorem ok_null {M : gz_Mi} {d pc : Nat} (hd : decode M.1 pc = .ok (.aconst_null, 1)) : gz_OkE M d 0 0 pc (pc + 1) (gz_nu) := by
  intro X hok env st h v' h' cells slots hst hc hs ht hk
  simp only [gz_nu, Option.some.injEq, Prod.mk.injEq] at ht
  obtain ⟨rfl, rfl⟩ := ht
  exact gw_null hok hd hk
theorem ok_iload_n {M : gz_Mi} {d pc : Nat} {k : Fin 4} {i : Nat} (hd : decode M.1 pc = .ok (.iload_n k, 1)) (hi : (k : Nat) = i) : gz_OkE M d 0 0 pc (pc + 1) (gz_li i) := by
  intro X hok env st h v' h' cells slots hst hc hs ht hk
  unfold gz_li at ht
  split at ht
  · rename_i x e1
    simp only [Option.some.injEq, Prod.mk.injEq] at ht
    obtain ⟨rfl, rfl⟩ := ht
    exact gw_iload_n hok hd hi e1 hk
  · cases ht
theorem ok_iload {M : gz_Mi} {d pc : Nat} {i : Nat} (hd : decode M.1 pc = .ok (.iload i, 2)) : gz_OkE M d 0 0 pc (pc + 2) (gz_li i) := by
  intro X hok env st h v' h' cells slots hst hc hs ht hk
  unfold gz_li at ht
  split at ht
  · rename_i x e1
    simp only [Option.some.injEq, Prod.mk.injEq] at ht
    obtain ⟨rfl, rfl⟩ := ht
    exact gw_iload hok hd  e1 hk
  · cases ht
theorem ok_lload_n {M : gz_Mi} {d pc : Nat} {k : Fin 4} {i : Nat} (hd : decode M.1 pc = .ok (.lload_n k, 1)) (hi : (k : Nat) = i) : gz_OkE M d 0 0 pc (pc + 1) (gz_ll i) := by
  intro X hok env st h v' h' cells slots hst hc hs ht hk
  unfold gz_ll at ht
  split at ht
  · rename_i x e1
    simp only [Option.some.injEq, Prod.mk.injEq] at ht
    obtain ⟨rfl, rfl⟩ := ht
    exact gw_lload_n hok hd hi e1 hk
  · cases ht
theorem ok_lload {M : gz_Mi} {d pc : Nat} {i : Nat} (hd : decode M.1 pc = .ok (.lload i, 2)) : gz_OkE M d 0 0 pc (pc + 2) (gz_ll i) := by
  intro X hok env st h v' h' cells slots hst hc hs ht hk
  unfold gz_ll at ht
  split at ht
  · rename_i x e1
    simp only [Option.some.injEq, Prod.mk.injEq] at ht
    obtain ⟨rfl, rfl⟩ := ht
    exact gw_lload hok hd  e1 hk
  · cases ht
theorem ok_aload_n {M : gz_Mi} {d pc : Nat} {k : Fin 4} {i : Nat} (hd : decode M.1 pc = .ok (.aload_n k, 1)) (hi : (k : Nat) = i) : gz_OkE M d 0 0 pc (pc + 1) (gz_la i) := by
  intro X hok env st h v' h' cells slots hst hc hs ht hk
  unfold gz_la at ht
  split at ht
  · rename_i x e1
    simp only [Option.some.injEq, Prod.mk.injEq] at ht
    obtain ⟨rfl, rfl⟩ := ht
    exact gw_aload_nr hok hd hi e1 hk
  · rename_i e1
    simp only [Option.some.injEq, Prod.mk.injEq] at ht
    obtain ⟨rfl, rfl⟩ := ht
    exact gw_aload_nz hok hd hi e1 hk
  · rename_i x e1
    simp only [Option.some.injEq, Prod.mk.injEq] at ht
    obtain ⟨rfl, rfl⟩ := ht
    exact gw_aload_nf hok hd hi e1 hk
  · cases ht
theorem ok_aload {M : gz_Mi} {d pc : Nat} {i : Nat} (hd : decode M.1 pc = .ok (.aload i, 2)) : gz_OkE M d 0 0 pc (pc + 2) (gz_la i) := by
  intro X hok env st h v' h' cells slots hst hc hs ht hk
  unfold gz_la at ht
  split at ht
  · rename_i x e1
    simp only [Option.some.injEq, Prod.mk.injEq] at ht
    obtain ⟨rfl, rfl⟩ := ht
    exact gw_aloadr hok hd  e1 hk
  · rename_i e1
    simp only [Option.some.injEq, Prod.mk.injEq] at ht
    obtain ⟨rfl, rfl⟩ := ht
    exact gw_aloadz hok hd  e1 hk
  · rename_i x e1
    simp only [Option.some.injEq, Prod.mk.injEq] at ht
    obtain ⟨rfl, rfl⟩ := ht
    exact gw_aloadf hok hd  e1 hk
  · cases ht
theorem ok_iadd {M : gz_Mi} {d pc p1 p2 c1 s1 c2 s2 : Nat} {a b : gz_Ex} (ha : gz_OkE M d c1 s1 pc p1 a) (hb : gz_OkE M (d + 1) c2 s2 p1 p2 b) (hd : decode M.1 p2 = .ok (.iadd, 1)) : gz_OkE M d (c1 + c2) (s1 + s2) pc (p2 + 1) (gz_ib (fun x y => x + y) a b) := by
  intro X hok env st h v' h' cells slots hst hc hs ht hk
  unfold gz_ib at ht
  split at ht
  · rename_i x h1 e1
    split at ht
    · rename_i y h2 e2
      simp only [Option.some.injEq, Prod.mk.injEq] at ht
      obtain ⟨rfl, rfl⟩ := ht
      refine ha X hok env st h _ _ cells slots hst (by omega) (by omega) e1 ?_
      refine hb X hok env _ _ _ _ _ _ (by rw [gz_sm_cons]; simp only [Value.category]; omega) (by omega) (by omega) e2 ?_
      refine gw_iadd hok hd ?_
      rw [Nat.add_assoc, Nat.add_assoc]
      exact hk
    · cases ht
  · cases ht
theorem ok_isub {M : gz_Mi} {d pc p1 p2 c1 s1 c2 s2 : Nat} {a b : gz_Ex} (ha : gz_OkE M d c1 s1 pc p1 a) (hb : gz_OkE M (d + 1) c2 s2 p1 p2 b) (hd : decode M.1 p2 = .ok (.isub, 1)) : gz_OkE M d (c1 + c2) (s1 + s2) pc (p2 + 1) (gz_ib (fun x y => x - y) a b) := by
  intro X hok env st h v' h' cells slots hst hc hs ht hk
  unfold gz_ib at ht
  split at ht
  · rename_i x h1 e1
    split at ht
    · rename_i y h2 e2
      simp only [Option.some.injEq, Prod.mk.injEq] at ht
      obtain ⟨rfl, rfl⟩ := ht
      refine ha X hok env st h _ _ cells slots hst (by omega) (by omega) e1 ?_
      refine hb X hok env _ _ _ _ _ _ (by rw [gz_sm_cons]; simp only [Value.category]; omega) (by omega) (by omega) e2 ?_
      refine gw_isub hok hd ?_
      rw [Nat.add_assoc, Nat.add_assoc]
      exact hk
    · cases ht
  · cases ht
theorem ok_imul {M : gz_Mi} {d pc p1 p2 c1 s1 c2 s2 : Nat} {a b : gz_Ex} (ha : gz_OkE M d c1 s1 pc p1 a) (hb : gz_OkE M (d + 1) c2 s2 p1 p2 b) (hd : decode M.1 p2 = .ok (.imul, 1)) : gz_OkE M d (c1 + c2) (s1 + s2) pc (p2 + 1) (gz_ib (fun x y => x * y) a b) := by
  intro X hok env st h v' h' cells slots hst hc hs ht hk
  unfold gz_ib at ht
  split at ht
  · rename_i x h1 e1
    split at ht
    · rename_i y h2 e2
      simp only [Option.some.injEq, Prod.mk.injEq] at ht
      obtain ⟨rfl, rfl⟩ := ht
      refine ha X hok env st h _ _ cells slots hst (by omega) (by omega) e1 ?_
      refine hb X hok env _ _ _ _ _ _ (by rw [gz_sm_cons]; simp only [Value.category]; omega) (by omega) (by omega) e2 ?_
      refine gw_imul hok hd ?_
      rw [Nat.add_assoc, Nat.add_assoc]
      exact hk
    · cases ht
  · cases ht
theorem ok_iand {M : gz_Mi} {d pc p1 p2 c1 s1 c2 s2 : Nat} {a b : gz_Ex} (ha : gz_OkE M d c1 s1 pc p1 a) (hb : gz_OkE M (d + 1) c2 s2 p1 p2 b) (hd : decode M.1 p2 = .ok (.iand, 1)) : gz_OkE M d (c1 + c2) (s1 + s2) pc (p2 + 1) (gz_ib (fun x y => x &&& y) a b) := by
  intro X hok env st h v' h' cells slots hst hc hs ht hk
  unfold gz_ib at ht
  split at ht
  · rename_i x h1 e1
    split at ht
    · rename_i y h2 e2
      simp only [Option.some.injEq, Prod.mk.injEq] at ht
      obtain ⟨rfl, rfl⟩ := ht
      refine ha X hok env st h _ _ cells slots hst (by omega) (by omega) e1 ?_
      refine hb X hok env _ _ _ _ _ _ (by rw [gz_sm_cons]; simp only [Value.category]; omega) (by omega) (by omega) e2 ?_
      refine gw_iand hok hd ?_
      rw [Nat.add_assoc, Nat.add_assoc]
      exact hk
    · cases ht
  · cases ht
theorem ok_ior {M : gz_Mi} {d pc p1 p2 c1 s1 c2 s2 : Nat} {a b : gz_Ex} (ha : gz_OkE M d c1 s1 pc p1 a) (hb : gz_OkE M (d + 1) c2 s2 p1 p2 b) (hd : decode M.1 p2 = .ok (.ior, 1)) : gz_OkE M d (c1 + c2) (s1 + s2) pc (p2 + 1) (gz_ib (fun x y => x ||| y) a b) := by
  intro X hok env st h v' h' cells slots hst hc hs ht hk
  unfold gz_ib at ht
  split at ht
  · rename_i x h1 e1
    split at ht
    · rename_i y h2 e2
      simp only [Option.some.injEq, Prod.mk.injEq] at ht
      obtain ⟨rfl, rfl⟩ := ht
      refine ha X hok env st h _ _ cells slots hst (by omega) (by omega) e1 ?_
      refine hb X hok env _ _ _ _ _ _ (by rw [gz_sm_cons]; simp only [Value.category]; omega) (by omega) (by omega) e2 ?_
      refine gw_ior hok hd ?_
      rw [Nat.add_assoc, Nat.add_assoc]
      exact hk
    · cases ht
  · cases ht
theorem ok_ixor {M : gz_Mi} {d pc p1 p2 c1 s1 c2 s2 : Nat} {a b : gz_Ex} (ha : gz_OkE M d c1 s1 pc p1 a) (hb : gz_OkE M (d + 1) c2 s2 p1 p2 b) (hd : decode M.1 p2 = .ok (.ixor, 1)) : gz_OkE M d (c1 + c2) (s1 + s2) pc (p2 + 1) (gz_ib (fun x y => x ^^^ y) a b) := by
  intro X hok env st h v' h' cells slots hst hc hs ht hk
  unfold gz_ib at ht
  split at ht
  · rename_i x h1 e1
    split at ht
    · rename_i y h2 e2
      simp only [Option.some.injEq, Prod.mk.injEq] at ht
      obtain ⟨rfl, rfl⟩ := ht
      refine ha X hok env st h _ _ cells slots hst (by omega) (by omega) e1 ?_
      refine hb X hok env _ _ _ _ _ _ (by rw [gz_sm_cons]; simp only [Value.category]; omega) (by omega) (by omega) e2 ?_
      refine gw_ixor hok hd ?_
      rw [Nat.add_assoc, Nat.add_assoc]
      exact hk
    · cases ht
  · cases ht
theorem ok_ishl {M : gz_Mi} {d pc p1 p2 c1 s1 c2 s2 : Nat} {a b : gz_Ex} (ha : gz_OkE M d c1 s1 pc p1 a) (hb : gz_OkE M (d + 1) c2 s2 p1 p2 b) (hd : decode M.1 p2 = .ok (.ishl, 1)) : gz_OkE M d (c1 + c2) (s1 + s2) pc (p2 + 1) (gz_ib (fun x y => x <<< (y &&& 31)) a b) := by
  intro X hok env st h v' h' cells slots hst hc hs ht hk
  unfold gz_ib at ht
  split at ht
  · rename_i x h1 e1
    split at ht
    · rename_i y h2 e2
      simp only [Option.some.injEq, Prod.mk.injEq] at ht
      obtain ⟨rfl, rfl⟩ := ht
      refine ha X hok env st h _ _ cells slots hst (by omega) (by omega) e1 ?_
      refine hb X hok env _ _ _ _ _ _ (by rw [gz_sm_cons]; simp only [Value.category]; omega) (by omega) (by omega) e2 ?_
      refine gw_ishl hok hd ?_
      rw [Nat.add_assoc, Nat.add_assoc]
      exact hk
    · cases ht
  · cases ht
theorem ok_ishr {M : gz_Mi} {d pc p1 p2 c1 s1 c2 s2 : Nat} {a b : gz_Ex} (ha : gz_OkE M d c1 s1 pc p1 a) (hb : gz_OkE M (d + 1) c2 s2 p1 p2 b) (hd : decode M.1 p2 = .ok (.ishr, 1)) : gz_OkE M d (c1 + c2) (s1 + s2) pc (p2 + 1) (gz_ib (fun x y => x >>> (y &&& 31)) a b) := by
  intro X hok env st h v' h' cells slots hst hc hs ht hk
  unfold gz_ib at ht
  split at ht
  · rename_i x h1 e1
    split at ht
    · rename_i y h2 e2
      simp only [Option.some.injEq, Prod.mk.injEq] at ht
      obtain ⟨rfl, rfl⟩ := ht
      refine ha X hok env st h _ _ cells slots hst (by omega) (by omega) e1 ?_
      refine hb X hok env _ _ _ _ _ _ (by rw [gz_sm_cons]; simp only [Value.category]; omega) (by omega) (by omega) e2 ?_
      refine gw_ishr hok hd ?_
      rw [Nat.add_assoc, Nat.add_assoc]
      exact hk
    · cases ht
  · cases ht
theorem ok_idiv {M : gz_Mi} {d pc p1 p2 c1 s1 c2 s2 : Nat} {a b : gz_Ex} (ha : gz_OkE M d c1 s1 pc p1 a) (hb : gz_OkE M (d + 1) c2 s2 p1 p2 b) (hd : decode M.1 p2 = .ok (.idiv, 1)) : gz_OkE M d (c1 + c2) (s1 + s2) pc (p2 + 1) (gz_iz (fun x y => x / y) a b) := by
  intro X hok env st h v' h' cells slots hst hc hs ht hk
  unfold gz_iz at ht
  split at ht
  · rename_i x h1 e1
    split at ht
    · rename_i y h2 e2
      split at ht
      · cases ht
      rename_i hne
      simp only [Option.some.injEq, Prod.mk.injEq] at ht
      obtain ⟨rfl, rfl⟩ := ht
      refine ha X hok env st h _ _ cells slots hst (by omega) (by omega) e1 ?_
      refine hb X hok env _ _ _ _ _ _ (by rw [gz_sm_cons]; simp only [Value.category]; omega) (by omega) (by omega) e2 ?_
      refine gw_idiv hok hd hne ?_
      rw [Nat.add_assoc, Nat.add_assoc]
      exact hk
    · cases ht
  · cases ht
theorem ok_irem {M : gz_Mi} {d pc p1 p2 c1 s1 c2 s2 : Nat} {a b : gz_Ex} (ha : gz_OkE M d c1 s1 pc p1 a) (hb : gz_OkE M (d + 1) c2 s2 p1 p2 b) (hd : decode M.1 p2 = .ok (.irem, 1)) : gz_OkE M d (c1 + c2) (s1 + s2) pc (p2 + 1) (gz_iz (fun x y => x - x / y * y) a b) := by
  intro X hok env st h v' h' cells slots hst hc hs ht hk
  unfold gz_iz at ht
  split at ht
  · rename_i x h1 e1
    split at ht
    · rename_i y h2 e2
      split at ht
      · cases ht
      rename_i hne
      simp only [Option.some.injEq, Prod.mk.injEq] at ht
      obtain ⟨rfl, rfl⟩ := ht
      refine ha X hok env st h _ _ cells slots hst (by omega) (by omega) e1 ?_
      refine hb X hok env _ _ _ _ _ _ (by rw [gz_sm_cons]; simp only [Value.category]; omega) (by omega) (by omega) e2 ?_
      refine gw_irem hok hd hne ?_
      rw [Nat.add_assoc, Nat.add_assoc]
      exact hk
    · cases ht
  · cases ht
theorem ok_ladd {M : gz_Mi} {d pc p1 p2 c1 s1 c2 s2 : Nat} {a b : gz_Ex} (ha : gz_OkE M d c1 s1 pc p1 a) (hb : gz_OkE M (d + 2) c2 s2 p1 p2 b) (hd : decode M.1 p2 = .ok (.ladd, 1)) : gz_OkE M d (c1 + c2) (s1 + s2) pc (p2 + 1) (gz_lb (fun x y => x + y) a b) := by
  intro X hok env st h v' h' cells slots hst hc hs ht hk
  unfold gz_lb at ht
  split at ht
  · rename_i x h1 e1
    split at ht
    · rename_i y h2 e2
      simp only [Option.some.injEq, Prod.mk.injEq] at ht
      obtain ⟨rfl, rfl⟩ := ht
      refine ha X hok env st h _ _ cells slots hst (by omega) (by omega) e1 ?_
      refine hb X hok env _ _ _ _ _ _ (by rw [gz_sm_cons]; simp only [Value.category]; omega) (by omega) (by omega) e2 ?_
      refine gw_ladd hok hd ?_
      rw [Nat.add_assoc, Nat.add_assoc]
      exact hk
    · cases ht
  · cases ht
theorem ok_lsub {M : gz_Mi} {d pc p1 p2 c1 s1 c2 s2 : Nat} {a b : gz_Ex} (ha : gz_OkE M d c1 s1 pc p1 a) (hb : gz_OkE M (d + 2) c2 s2 p1 p2 b) (hd : decode M.1 p2 = .ok (.lsub, 1)) : gz_OkE M d (c1 + c2) (s1 + s2) pc (p2 + 1) (gz_lb (fun x y => x - y) a b) := by
  intro X hok env st h v' h' cells slots hst hc hs ht hk
  unfold gz_lb at ht
  split at ht
  · rename_i x h1 e1
    split at ht
    · rename_i y h2 e2
      simp only [Option.some.injEq, Prod.mk.injEq] at ht
      obtain ⟨rfl, rfl⟩ := ht
      refine ha X hok env st h _ _ cells slots hst (by omega) (by omega) e1 ?_
      refine hb X hok env _ _ _ _ _ _ (by rw [gz_sm_cons]; simp only [Value.category]; omega) (by omega) (by omega) e2 ?_
      refine gw_lsub hok hd ?_
      rw [Nat.add_assoc, Nat.add_assoc]
      exact hk
    · cases ht
  · cases ht
theorem ok_lmul {M : gz_Mi} {d pc p1 p2 c1 s1 c2 s2 : Nat} {a b : gz_Ex} (ha : gz_OkE M d c1 s1 pc p1 a) (hb : gz_OkE M (d + 2) c2 s2 p1 p2 b) (hd : decode M.1 p2 = .ok (.lmul, 1)) : gz_OkE M d (c1 + c2) (s1 + s2) pc (p2 + 1) (gz_lb (fun x y => x * y) a b) := by
  intro X hok env st h v' h' cells slots hst hc hs ht hk
  unfold gz_lb at ht
  split at ht
  · rename_i x h1 e1
    split at ht
    · rename_i y h2 e2
      simp only [Option.some.injEq, Prod.mk.injEq] at ht
      obtain ⟨rfl, rfl⟩ := ht
      refine ha X hok env st h _ _ cells slots hst (by omega) (by omega) e1 ?_
      refine hb X hok env _ _ _ _ _ _ (by rw [gz_sm_cons]; simp only [Value.category]; omega) (by omega) (by omega) e2 ?_
      refine gw_lmul hok hd ?_
      rw [Nat.add_assoc, Nat.add_assoc]
      exact hk
    · cases ht
  · cases ht
theorem ok_land {M : gz_Mi} {d pc p1 p2 c1 s1 c2 s2 : Nat} {a b : gz_Ex} (ha : gz_OkE M d c1 s1 pc p1 a) (hb : gz_OkE M (d + 2) c2 s2 p1 p2 b) (hd : decode M.1 p2 = .ok (.land, 1)) : gz_OkE M d (c1 + c2) (s1 + s2) pc (p2 + 1) (gz_lb (fun x y => x &&& y) a b) := by
  intro X hok env st h v' h' cells slots hst hc hs ht hk
  unfold gz_lb at ht
  split at ht
  · rename_i x h1 e1
    split at ht
    · rename_i y h2 e2
      simp only [Option.some.injEq, Prod.mk.injEq] at ht
      obtain ⟨rfl, rfl⟩ := ht
      refine ha X hok env st h _ _ cells slots hst (by omega) (by omega) e1 ?_
      refine hb X hok env _ _ _ _ _ _ (by rw [gz_sm_cons]; simp only [Value.category]; omega) (by omega) (by omega) e2 ?_
      refine gw_land hok hd ?_
      rw [Nat.add_assoc, Nat.add_assoc]
      exact hk
    · cases ht
  · cases ht
theorem ok_lor {M : gz_Mi} {d pc p1 p2 c1 s1 c2 s2 : Nat} {a b : gz_Ex} (ha : gz_OkE M d c1 s1 pc p1 a) (hb : gz_OkE M (d + 2) c2 s2 p1 p2 b) (hd : decode M.1 p2 = .ok (.lor, 1)) : gz_OkE M d (c1 + c2) (s1 + s2) pc (p2 + 1) (gz_lb (fun x y => x ||| y) a b) := by
  intro X hok env st h v' h' cells slots hst hc hs ht hk
  unfold gz_lb at ht
  split at ht
  · rename_i x h1 e1
    split at ht
    · rename_i y h2 e2
      simp only [Option.some.injEq, Prod.mk.injEq] at ht
      obtain ⟨rfl, rfl⟩ := ht
      refine ha X hok env st h _ _ cells slots hst (by omega) (by omega) e1 ?_
      refine hb X hok env _ _ _ _ _ _ (by rw [gz_sm_cons]; simp only [Value.category]; omega) (by omega) (by omega) e2 ?_
      refine gw_lor hok hd ?_
      rw [Nat.add_assoc, Nat.add_assoc]
      exact hk
    · cases ht
  · cases ht
theorem ok_ldiv {M : gz_Mi} {d pc p1 p2 c1 s1 c2 s2 : Nat} {a b : gz_Ex} (ha : gz_OkE M d c1 s1 pc p1 a) (hb : gz_OkE M (d + 2) c2 s2 p1 p2 b) (hd : decode M.1 p2 = .ok (.ldiv, 1)) : gz_OkE M d (c1 + c2) (s1 + s2) pc (p2 + 1) (gz_lz (fun x y => x / y) a b) := by
  intro X hok env st h v' h' cells slots hst hc hs ht hk
  unfold gz_lz at ht
  split at ht
  · rename_i x h1 e1
    split at ht
    · rename_i y h2 e2
      split at ht
      · cases ht
      rename_i hne
      simp only [Option.some.injEq, Prod.mk.injEq] at ht
      obtain ⟨rfl, rfl⟩ := ht
      refine ha X hok env st h _ _ cells slots hst (by omega) (by omega) e1 ?_
      refine hb X hok env _ _ _ _ _ _ (by rw [gz_sm_cons]; simp only [Value.category]; omega) (by omega) (by omega) e2 ?_
      refine gw_ldiv hok hd hne ?_
      rw [Nat.add_assoc, Nat.add_assoc]
      exact hk
    · cases ht
  · cases ht
theorem ok_lushr {M : gz_Mi} {d pc p1 p2 c1 s1 c2 s2 : Nat} {a b : gz_Ex} (ha : gz_OkE M d c1 s1 pc p1 a) (hb : gz_OkE M (d + 2) c2 s2 p1 p2 b) (hd : decode M.1 p2 = .ok (.lushr, 1)) : gz_OkE M d (c1 + c2) (s1 + s2) pc (p2 + 1) (gz_ls (fun x y => (x.toUInt64 >>> (y.toInt64.toUInt64 &&& Int64.toUInt64 63)).toInt64) a b) := by
  intro X hok env st h v' h' cells slots hst hc hs ht hk
  unfold gz_ls at ht
  split at ht
  · rename_i x h1 e1
    split at ht
    · rename_i y h2 e2
      simp only [Option.some.injEq, Prod.mk.injEq] at ht
      obtain ⟨rfl, rfl⟩ := ht
      refine ha X hok env st h _ _ cells slots hst (by omega) (by omega) e1 ?_
      refine hb X hok env _ _ _ _ _ _ (by rw [gz_sm_cons]; simp only [Value.category]; omega) (by omega) (by omega) e2 ?_
      refine gw_lushr hok hd ?_
      rw [Nat.add_assoc, Nat.add_assoc]
      exact hk
    · cases ht
  · cases ht
theorem ok_lshl {M : gz_Mi} {d pc p1 p2 c1 s1 c2 s2 : Nat} {a b : gz_Ex} (ha : gz_OkE M d c1 s1 pc p1 a) (hb : gz_OkE M (d + 2) c2 s2 p1 p2 b) (hd : decode M.1 p2 = .ok (.lshl, 1)) : gz_OkE M d (c1 + c2) (s1 + s2) pc (p2 + 1) (gz_ls (fun x y => x <<< (y.toInt64 &&& 63)) a b) := by
  intro X hok env st h v' h' cells slots hst hc hs ht hk
  unfold gz_ls at ht
  split at ht
  · rename_i x h1 e1
    split at ht
    · rename_i y h2 e2
      simp only [Option.some.injEq, Prod.mk.injEq] at ht
      obtain ⟨rfl, rfl⟩ := ht
      refine ha X hok env st h _ _ cells slots hst (by omega) (by omega) e1 ?_
      refine hb X hok env _ _ _ _ _ _ (by rw [gz_sm_cons]; simp only [Value.category]; omega) (by omega) (by omega) e2 ?_
      refine gw_lshl hok hd ?_
      rw [Nat.add_assoc, Nat.add_assoc]
      exact hk
    · cases ht
  · cases ht
theorem ok_lcmp {M : gz_Mi} {d pc p1 p2 c1 s1 c2 s2 : Nat} {a b : gz_Ex} (ha : gz_OkE M d c1 s1 pc p1 a) (hb : gz_OkE M (d + 2) c2 s2 p1 p2 b) (hd : decode M.1 p2 = .ok (.lcmp, 1)) : gz_OkE M d (c1 + c2) (s1 + s2) pc (p2 + 1) (gz_lc  a b) := by
  intro X hok env st h v' h' cells slots hst hc hs ht hk
  unfold gz_lc at ht
  split at ht
  · rename_i x h1 e1
    split at ht
    · rename_i y h2 e2
      simp only [Option.some.injEq, Prod.mk.injEq] at ht
      obtain ⟨rfl, rfl⟩ := ht
      refine ha X hok env st h _ _ cells slots hst (by omega) (by omega) e1 ?_
      refine hb X hok env _ _ _ _ _ _ (by rw [gz_sm_cons]; simp only [Value.category]; omega) (by omega) (by omega) e2 ?_
      refine gw_lcmp hok hd ?_
      rw [Nat.add_assoc, Nat.add_assoc]
      exact hk
    · cases ht
  · cases ht
theorem ok_i2l {M : gz_Mi} {d pc p1 c1 s1 : Nat} {a : gz_Ex} (ha : gz_OkE M d c1 s1 pc p1 a) (hd : decode M.1 p1 = .ok (.i2l, 1)) : gz_OkE M d c1 s1 pc (p1 + 1) (gz_i2l a) := by
  intro X hok env st h v' h' cells slots hst hc hs ht hk
  unfold gz_i2l at ht
  split at ht
  · rename_i x h1 e1
    simp only [Option.some.injEq, Prod.mk.injEq] at ht
    obtain ⟨rfl, rfl⟩ := ht
    exact ha X hok env st h _ _ cells slots hst hc hs e1 (gw_i2l hok hd hk)
  · cases ht
theorem ok_l2i {M : gz_Mi} {d pc p1 c1 s1 : Nat} {a : gz_Ex} (ha : gz_OkE M d c1 s1 pc p1 a) (hd : decode M.1 p1 = .ok (.l2i, 1)) : gz_OkE M d c1 s1 pc (p1 + 1) (gz_l2i a) := by
  intro X hok env st h v' h' cells slots hst hc hs ht hk
  unfold gz_l2i at ht
  split at ht
  · rename_i x h1 e1
    simp only [Option.some.injEq, Prod.mk.injEq] at ht
    obtain ⟨rfl, rfl⟩ := ht
    exact ha X hok env st h _ _ cells slots hst hc hs e1 (gw_l2i hok hd hk)
  · cases ht
theorem ok_get {M : gz_Mi} {d pc p1 c1 s1 : Nat} {a : gz_Ex} (ha : gz_OkE M d c1 s1 pc p1 a) {ci N k idx : Nat} {C : String} {T : u_T} (hcl : vwCl[ci]? = some (C, T, N)) (hk0 : k < N) (hin : ∀ w ∈ u_ws C T N, w ∈ gz_tb) (hl : Cond.fieldLink M.2.2.1 idx (T k).1 (T k).2.1 (T k).2.2.1 ∈ gz_tb) (hd : decode M.1 p1 = .ok (.getfield idx, 3)) : gz_OkE M d c1 s1 pc (p1 + 3) (gz_get ci N k a) := by
  intro X hok env st h v' h' cells slots hst hc hs ht hk
  unfold gz_get at ht
  split at ht
  · rename_i x h1 e1
    split at ht
    · rename_i hq
      simp only [Option.some.injEq, Prod.mk.injEq] at ht
      obtain ⟨rfl, rfl⟩ := ht
      exact ha X hok env st h _ _ cells slots hst hc hs e1 (gw_get hok hcl hk0 hin hl hd hq.1 hq.2 hk)
    · cases ht
  · cases ht
theorem ok_iald {M : gz_Mi} {d pc p1 p2 c1 s1 c2 s2 : Nat} {a b : gz_Ex} (ha : gz_OkE M d c1 s1 pc p1 a) (hb : gz_OkE M (d + 1) c2 s2 p1 p2 b) (hd : decode M.1 p2 = .ok (.iaload, 1)) : gz_OkE M d (c1 + c2) (s1 + s2) pc (p2 + 1) (gz_ald 100 a b) := by
  intro X hok env st h v' h' cells slots hst hc hs ht hk
  unfold gz_ald at ht
  split at ht
  · rename_i x h1 e1
    split at ht
    · rename_i y h2 e2
      split at ht
      · rename_i hi
        simp only [Option.some.injEq, Prod.mk.injEq] at ht
        obtain ⟨rfl, rfl⟩ := ht
        refine ha X hok env st h _ _ cells slots hst (by omega) (by omega) e1 ?_
        refine hb X hok env _ _ _ _ _ _ (by rw [gz_sm_cons]; simp only [Value.category]; omega) (by omega) (by omega) e2 ?_
        refine gw_iald hok hd hi ?_
        rw [Nat.add_assoc, Nat.add_assoc]
        exact hk
      · cases ht
    · cases ht
  · cases ht
theorem ok_d2iald {M : gz_Mi} {d pc : Nat} (hd0 : decode M.1 pc = .ok (.dup2, 1)) (hd : decode M.1 (pc + 1) = .ok (.iaload, 1)) : gz_OkE M d 0 0 pc (pc + 2) (gz_d2 100) := by
  intro X hok env st h v' h' cells slots hst hc hs ht hk
  unfold gz_d2 at ht
  split at ht
  · split at ht
    · rename_i hi
      simp only [Option.some.injEq, Prod.mk.injEq] at ht
      obtain ⟨rfl, rfl⟩ := ht
      exact gw_dup2 hok hd0 rfl rfl (gw_iald hok hd hi hk)
    · cases ht
  · cases ht
theorem ok_zald {M : gz_Mi} {d pc p1 p2 c1 s1 c2 s2 : Nat} {a b : gz_Ex} (ha : gz_OkE M d c1 s1 pc p1 a) (hb : gz_OkE M (d + 1) c2 s2 p1 p2 b) (hd : decode M.1 p2 = .ok (.baload, 1)) : gz_OkE M d (c1 + c2) (s1 + s2) pc (p2 + 1) (gz_ald 101 a b) := by
  intro X hok env st h v' h' cells slots hst hc hs ht hk
  unfold gz_ald at ht
  split at ht
  · rename_i x h1 e1
    split at ht
    · rename_i y h2 e2
      split at ht
      · rename_i hi
        simp only [Option.some.injEq, Prod.mk.injEq] at ht
        obtain ⟨rfl, rfl⟩ := ht
        refine ha X hok env st h _ _ cells slots hst (by omega) (by omega) e1 ?_
        refine hb X hok env _ _ _ _ _ _ (by rw [gz_sm_cons]; simp only [Value.category]; omega) (by omega) (by omega) e2 ?_
        refine gw_zald hok hd hi ?_
        rw [Nat.add_assoc, Nat.add_assoc]
        exact hk
      · cases ht
    · cases ht
  · cases ht
theorem ok_d2zald {M : gz_Mi} {d pc : Nat} (hd0 : decode M.1 pc = .ok (.dup2, 1)) (hd : decode M.1 (pc + 1) = .ok (.baload, 1)) : gz_OkE M d 0 0 pc (pc + 2) (gz_d2 101) := by
  intro X hok env st h v' h' cells slots hst hc hs ht hk
  unfold gz_d2 at ht
  split at ht
  · split at ht
    · rename_i hi
      simp only [Option.some.injEq, Prod.mk.injEq] at ht
      obtain ⟨rfl, rfl⟩ := ht
      exact gw_dup2 hok hd0 rfl rfl (gw_zald hok hd hi hk)
    · cases ht
  · cases ht
theorem ok_lald {M : gz_Mi} {d pc p1 p2 c1 s1 c2 s2 : Nat} {a b : gz_Ex} (ha : gz_OkE M d c1 s1 pc p1 a) (hb : gz_OkE M (d + 1) c2 s2 p1 p2 b) (hd : decode M.1 p2 = .ok (.laload, 1)) : gz_OkE M d (c1 + c2) (s1 + s2) pc (p2 + 1) (gz_ald 102 a b) := by
  intro X hok env st h v' h' cells slots hst hc hs ht hk
  unfold gz_ald at ht
  split at ht
  · rename_i x h1 e1
    split at ht
    · rename_i y h2 e2
      split at ht
      · rename_i hi
        simp only [Option.some.injEq, Prod.mk.injEq] at ht
        obtain ⟨rfl, rfl⟩ := ht
        refine ha X hok env st h _ _ cells slots hst (by omega) (by omega) e1 ?_
        refine hb X hok env _ _ _ _ _ _ (by rw [gz_sm_cons]; simp only [Value.category]; omega) (by omega) (by omega) e2 ?_
        refine gw_lald hok hd hi ?_
        rw [Nat.add_assoc, Nat.add_assoc]
        exact hk
      · cases ht
    · cases ht
  · cases ht
theorem ok_d2lald {M : gz_Mi} {d pc : Nat} (hd0 : decode M.1 pc = .ok (.dup2, 1)) (hd : decode M.1 (pc + 1) = .ok (.laload, 1)) : gz_OkE M d 0 0 pc (pc + 2) (gz_d2 102) := by
  intro X hok env st h v' h' cells slots hst hc hs ht hk
  unfold gz_d2 at ht
  split at ht
  · split at ht
    · rename_i hi
      simp only [Option.some.injEq, Prod.mk.injEq] at ht
      obtain ⟨rfl, rfl⟩ := ht
      exact gw_dup2 hok hd0 rfl rfl (gw_lald hok hd hi hk)
    · cases ht
  · cases ht
theorem ok_aald103 {M : gz_Mi} {d pc p1 p2 c1 s1 c2 s2 : Nat} {a b : gz_Ex} (ha : gz_OkE M d c1 s1 pc p1 a) (hb : gz_OkE M (d + 1) c2 s2 p1 p2 b) (hd : decode M.1 p2 = .ok (.aaload, 1)) : gz_OkE M d (c1 + c2) (s1 + s2) pc (p2 + 1) (gz_ald 103 a b) := by
  intro X hok env st h v' h' cells slots hst hc hs ht hk
  unfold gz_ald at ht
  split at ht
  · rename_i x h1 e1
    split at ht
    · rename_i y h2 e2
      split at ht
      · rename_i hi
        simp only [Option.some.injEq, Prod.mk.injEq] at ht
        obtain ⟨rfl, rfl⟩ := ht
        refine ha X hok env st h _ _ cells slots hst (by omega) (by omega) e1 ?_
        refine hb X hok env _ _ _ _ _ _ (by rw [gz_sm_cons]; simp only [Value.category]; omega) (by omega) (by omega) e2 ?_
        refine gw_aald103 hok hd hi ?_
        rw [Nat.add_assoc, Nat.add_assoc]
        exact hk
      · cases ht
    · cases ht
  · cases ht
theorem ok_d2aald103 {M : gz_Mi} {d pc : Nat} (hd0 : decode M.1 pc = .ok (.dup2, 1)) (hd : decode M.1 (pc + 1) = .ok (.aaload, 1)) : gz_OkE M d 0 0 pc (pc + 2) (gz_d2 103) := by
  intro X hok env st h v' h' cells slots hst hc hs ht hk
  unfold gz_d2 at ht
  split at ht
  · split at ht
    · rename_i hi
      simp only [Option.some.injEq, Prod.mk.injEq] at ht
      obtain ⟨rfl, rfl⟩ := ht
      exact gw_dup2 hok hd0 rfl rfl (gw_aald103 hok hd hi hk)
    · cases ht
  · cases ht
theorem ok_aald104 {M : gz_Mi} {d pc p1 p2 c1 s1 c2 s2 : Nat} {a b : gz_Ex} (ha : gz_OkE M d c1 s1 pc p1 a) (hb : gz_OkE M (d + 1) c2 s2 p1 p2 b) (hd : decode M.1 p2 = .ok (.aaload, 1)) : gz_OkE M d (c1 + c2) (s1 + s2) pc (p2 + 1) (gz_ald 104 a b) := by
  intro X hok env st h v' h' cells slots hst hc hs ht hk
  unfold gz_ald at ht
  split at ht
  · rename_i x h1 e1
    split at ht
    · rename_i y h2 e2
      split at ht
      · rename_i hi
        simp only [Option.some.injEq, Prod.mk.injEq] at ht
        obtain ⟨rfl, rfl⟩ := ht
        refine ha X hok env st h _ _ cells slots hst (by omega) (by omega) e1 ?_
        refine hb X hok env _ _ _ _ _ _ (by rw [gz_sm_cons]; simp only [Value.category]; omega) (by omega) (by omega) e2 ?_
        refine gw_aald104 hok hd hi ?_
        rw [Nat.add_assoc, Nat.add_assoc]
        exact hk
      · cases ht
    · cases ht
  · cases ht
theorem ok_d2aald104 {M : gz_Mi} {d pc : Nat} (hd0 : decode M.1 pc = .ok (.dup2, 1)) (hd : decode M.1 (pc + 1) = .ok (.aaload, 1)) : gz_OkE M d 0 0 pc (pc + 2) (gz_d2 104) := by
  intro X hok env st h v' h' cells slots hst hc hs ht hk
  unfold gz_d2 at ht
  split at ht
  · split at ht
    · rename_i hi
      simp only [Option.some.injEq, Prod.mk.injEq] at ht
      obtain ⟨rfl, rfl⟩ := ht
      exact gw_dup2 hok hd0 rfl rfl (gw_aald104 hok hd hi hk)
    · cases ht
  · cases ht
theorem ok_aald105 {M : gz_Mi} {d pc p1 p2 c1 s1 c2 s2 : Nat} {a b : gz_Ex} (ha : gz_OkE M d c1 s1 pc p1 a) (hb : gz_OkE M (d + 1) c2 s2 p1 p2 b) (hd : decode M.1 p2 = .ok (.aaload, 1)) : gz_OkE M d (c1 + c2) (s1 + s2) pc (p2 + 1) (gz_ald 105 a b) := by
  intro X hok env st h v' h' cells slots hst hc hs ht hk
  unfold gz_ald at ht
  split at ht
  · rename_i x h1 e1
    split at ht
    · rename_i y h2 e2
      split at ht
      · rename_i hi
        simp only [Option.some.injEq, Prod.mk.injEq] at ht
        obtain ⟨rfl, rfl⟩ := ht
        refine ha X hok env st h _ _ cells slots hst (by omega) (by omega) e1 ?_
        refine hb X hok env _ _ _ _ _ _ (by rw [gz_sm_cons]; simp only [Value.category]; omega) (by omega) (by omega) e2 ?_
        refine gw_aald105 hok hd hi ?_
        rw [Nat.add_assoc, Nat.add_assoc]
        exact hk
      · cases ht
    · cases ht
  · cases ht
theorem ok_d2aald105 {M : gz_Mi} {d pc : Nat} (hd0 : decode M.1 pc = .ok (.dup2, 1)) (hd : decode M.1 (pc + 1) = .ok (.aaload, 1)) : gz_OkE M d 0 0 pc (pc + 2) (gz_d2 105) := by
  intro X hok env st h v' h' cells slots hst hc hs ht hk
  unfold gz_d2 at ht
  split at ht
  · split at ht
    · rename_i hi
      simp only [Option.some.injEq, Prod.mk.injEq] at ht
      obtain ⟨rfl, rfl⟩ := ht
      exact gw_dup2 hok hd0 rfl rfl (gw_aald105 hok hd hi hk)
    · cases ht
  · cases ht
theorem ok_alen {M : gz_Mi} {d pc p1 c1 s1 : Nat} {a : gz_Ex} (ha : gz_OkE M d c1 s1 pc p1 a) (hd : decode M.1 p1 = .ok (.arraylength, 1)) : gz_OkE M d c1 s1 pc (p1 + 1) (gz_len a) := by
  intro X hok env st h v' h' cells slots hst hc hs ht hk
  unfold gz_len at ht
  split at ht
  · rename_i x h1 e1
    split at ht
    · rename_i hq
      simp only [Option.some.injEq, Prod.mk.injEq] at ht
      obtain ⟨rfl, rfl⟩ := ht
      exact ha X hok env st h _ _ cells slots hst hc hs e1 (gw_alen hok hd hq.1 hq.2 hk)
    · cases ht
  · cases ht
theorem ok_dup {M : gz_Mi} {d pc : Nat} (hd : decode M.1 pc = .ok (.dup, 1)) : gz_OkE M d 0 0 pc (pc + 1) gz_dup := by
  intro X hok env st h v' h' cells slots hst hc hs ht hk
  unfold gz_dup at ht
  split at ht
  · split at ht
    · rename_i hv
      simp only [Option.some.injEq, Prod.mk.injEq] at ht
      obtain ⟨rfl, rfl⟩ := ht
      exact gw_dup hok hd hv hk
    · cases ht
  · cases ht
theorem gz_on {n : Nat} (h : n ≤ 10000) : ¬ (Int32.ofNat n < 0) ∧ (Int32.ofNat n).toNatClampNeg = n := ⟨nI_pos (n := n) (by omega), nI_clamp (n := n) (by omega)⟩
theorem ok_newI {M : gz_Mi} {d pc p1 c1 s1 n : Nat} {a : gz_Ex} (ha : gz_OkE M d c1 s1 pc p1 a) (har : Cond.arrayClass .int ∈ gz_tb) (hn : n ≤ 10000) (hd : decode M.1 p1 = .ok (.newarray .int, 2)) : gz_OkE M d (c1 + 1) (s1 + n) pc (p1 + 2) (gz_nar 100 (.int 0) a n) := by
  intro X hok env st h v' h' cells slots hst hc hs ht hk
  unfold gz_nar at ht
  split at ht
  · rename_i x h1 e1
    split at ht
    · rename_i hq
      simp only [Option.some.injEq, Prod.mk.injEq] at ht
      obtain ⟨rfl, rfl⟩ := ht
      subst hq
      obtain ⟨g1, g2⟩ := gz_on hn
      refine ha X hok env st h _ _ cells slots hst (by omega) (by omega) e1 ?_
      refine gw_newI hok har hd g1 (by rw [g2]; exact hn) (by omega) (by rw [g2]; omega) ?_
      rw [g2, Nat.add_assoc, Nat.add_assoc]
      exact hk
    · cases ht
  · cases ht
theorem ok_newZ {M : gz_Mi} {d pc p1 c1 s1 n : Nat} {a : gz_Ex} (ha : gz_OkE M d c1 s1 pc p1 a) (har : Cond.arrayClass .boolean ∈ gz_tb) (hn : n ≤ 10000) (hd : decode M.1 p1 = .ok (.newarray .boolean, 2)) : gz_OkE M d (c1 + 1) (s1 + n) pc (p1 + 2) (gz_nar 101 (.int 0) a n) := by
  intro X hok env st h v' h' cells slots hst hc hs ht hk
  unfold gz_nar at ht
  split at ht
  · rename_i x h1 e1
    split at ht
    · rename_i hq
      simp only [Option.some.injEq, Prod.mk.injEq] at ht
      obtain ⟨rfl, rfl⟩ := ht
      subst hq
      obtain ⟨g1, g2⟩ := gz_on hn
      refine ha X hok env st h _ _ cells slots hst (by omega) (by omega) e1 ?_
      refine gw_newZ hok har hd g1 (by rw [g2]; exact hn) (by omega) (by rw [g2]; omega) ?_
      rw [g2, Nat.add_assoc, Nat.add_assoc]
      exact hk
    · cases ht
  · cases ht
theorem ok_newJ {M : gz_Mi} {d pc p1 c1 s1 n : Nat} {a : gz_Ex} (ha : gz_OkE M d c1 s1 pc p1 a) (har : Cond.arrayClass .long ∈ gz_tb) (hn : n ≤ 10000) (hd : decode M.1 p1 = .ok (.newarray .long, 2)) : gz_OkE M d (c1 + 1) (s1 + n) pc (p1 + 2) (gz_nar 102 (.long 0) a n) := by
  intro X hok env st h v' h' cells slots hst hc hs ht hk
  unfold gz_nar at ht
  split at ht
  · rename_i x h1 e1
    split at ht
    · rename_i hq
      simp only [Option.some.injEq, Prod.mk.injEq] at ht
      obtain ⟨rfl, rfl⟩ := ht
      subst hq
      obtain ⟨g1, g2⟩ := gz_on hn
      refine ha X hok env st h _ _ cells slots hst (by omega) (by omega) e1 ?_
      refine gw_newJ hok har hd g1 (by rw [g2]; exact hn) (by omega) (by rw [g2]; omega) ?_
      rw [g2, Nat.add_assoc, Nat.add_assoc]
      exact hk
    · cases ht
  · cases ht
theorem ok_anew103 {M : gz_Mi} {d pc p1 c1 s1 n idx : Nat} {a : gz_Ex} (ha : gz_OkE M d c1 s1 pc p1 a) (hcl : Cond.classLink M.2.2.1 idx RX3 ∈ gz_tb) (hn : n ≤ 10000) (hd : decode M.1 p1 = .ok (.anewarray idx, 3)) : gz_OkE M d (c1 + 1) (s1 + n) pc (p1 + 3) (gz_nar 103 .null a n) := by
  intro X hok env st h v' h' cells slots hst hc hs ht hk
  unfold gz_nar at ht
  split at ht
  · rename_i x h1 e1
    split at ht
    · rename_i hq
      simp only [Option.some.injEq, Prod.mk.injEq] at ht
      obtain ⟨rfl, rfl⟩ := ht
      subst hq
      obtain ⟨g1, g2⟩ := gz_on hn
      refine ha X hok env st h _ _ cells slots hst (by omega) (by omega) e1 ?_
      refine gw_anew103 hok hcl hd g1 (by rw [g2]; exact hn) (by omega) (by rw [g2]; omega) ?_
      rw [g2, Nat.add_assoc, Nat.add_assoc]
      exact hk
    · cases ht
  · cases ht
theorem ok_anew104 {M : gz_Mi} {d pc p1 c1 s1 n idx : Nat} {a : gz_Ex} (ha : gz_OkE M d c1 s1 pc p1 a) (hcl : Cond.classLink M.2.2.1 idx RX1 ∈ gz_tb) (hn : n ≤ 10000) (hd : decode M.1 p1 = .ok (.anewarray idx, 3)) : gz_OkE M d (c1 + 1) (s1 + n) pc (p1 + 3) (gz_nar 104 .null a n) := by
  intro X hok env st h v' h' cells slots hst hc hs ht hk
  unfold gz_nar at ht
  split at ht
  · rename_i x h1 e1
    split at ht
    · rename_i hq
      simp only [Option.some.injEq, Prod.mk.injEq] at ht
      obtain ⟨rfl, rfl⟩ := ht
      subst hq
      obtain ⟨g1, g2⟩ := gz_on hn
      refine ha X hok env st h _ _ cells slots hst (by omega) (by omega) e1 ?_
      refine gw_anew104 hok hcl hd g1 (by rw [g2]; exact hn) (by omega) (by rw [g2]; omega) ?_
      rw [g2, Nat.add_assoc, Nat.add_assoc]
      exact hk
    · cases ht
  · cases ht
theorem ok_anew105 {M : gz_Mi} {d pc p1 c1 s1 n idx : Nat} {a : gz_Ex} (ha : gz_OkE M d c1 s1 pc p1 a) (hcl : Cond.classLink M.2.2.1 idx RX2 ∈ gz_tb) (hn : n ≤ 10000) (hd : decode M.1 p1 = .ok (.anewarray idx, 3)) : gz_OkE M d (c1 + 1) (s1 + n) pc (p1 + 3) (gz_nar 105 .null a n) := by
  intro X hok env st h v' h' cells slots hst hc hs ht hk
  unfold gz_nar at ht
  split at ht
  · rename_i x h1 e1
    split at ht
    · rename_i hq
      simp only [Option.some.injEq, Prod.mk.injEq] at ht
      obtain ⟨rfl, rfl⟩ := ht
      subst hq
      obtain ⟨g1, g2⟩ := gz_on hn
      refine ha X hok env st h _ _ cells slots hst (by omega) (by omega) e1 ?_
      refine gw_anew105 hok hcl hd g1 (by rw [g2]; exact hn) (by omega) (by rw [g2]; omega) ?_
      rw [g2, Nat.add_assoc, Nat.add_assoc]
      exact hk
    · cases ht
  · cases ht
theorem gz_sm_app (a b : List Value) : gz_sm (a ++ b) = gz_sm a + gz_sm b := by
  induction a with
  | nil => simp [gz_sm]
  | cons v t ih => rw [List.cons_append, gz_sm_cons, gz_sm_cons, ih, Nat.add_assoc]
theorem gz_sm_le (a : List Value) : gz_sm a ≤ 2 * a.length := by
  induction a with
  | nil => simp [gz_sm]
  | cons v t ih => rw [gz_sm_cons, List.length_cons]; have := gz_cat_le v; omega
theorem ok_a0 {M : gz_Mi} {d pc : Nat} : gz_OkA M d 0 0 pc pc 0 gz_a0 := by
  intro X hok env st h vs h' cells slots hst hc hs ht
  simp only [gz_a0, Option.some.injEq, Prod.mk.injEq] at ht
  obtain ⟨rfl, rfl⟩ := ht
  exact ⟨rfl, fun hk => hk⟩
theorem ok_a1 {M : gz_Mi} {d pc p1 p2 n c1 s1 c2 s2 : Nat} {as : gz_Ax} {e : gz_Ex} (ha : gz_OkA M d c1 s1 pc p1 n as) (he : gz_OkE M (d + 2 * n) c2 s2 p1 p2 e) : gz_OkA M d (c1 + c2) (s1 + s2) pc p2 (n + 1) (gz_a1 as e) := by
  intro X hok env st h vs h' cells slots hst hc hs ht
  unfold gz_a1 at ht
  split at ht
  · rename_i us h1 e1
    split at ht
    · rename_i v h2 e2
      simp only [Option.some.injEq, Prod.mk.injEq] at ht
      obtain ⟨rfl, rfl⟩ := ht
      obtain ⟨g1, g2⟩ := ha X hok env st h us h1 cells slots hst (by omega) (by omega) e1
      refine ⟨by rw [List.length_append, g1]; rfl, fun hk => g2 ?_⟩
      refine he X hok env _ _ _ _ _ _ (by rw [gz_sm_app]; have := gz_sm_le us.reverse; rw [List.length_reverse, g1] at this; omega) (by omega) (by omega) e2 ?_
      rw [Nat.add_assoc, Nat.add_assoc]
      rw [List.reverse_append] at hk
      exact hk
    · cases ht
  · cases ht
theorem ok_cs {M : gz_Mi} {d pc p1 n c1 s1 idx : Nat} {as : gz_Ax} (ha : gz_OkA M d c1 s1 pc p1 n as) {y : MethodName} {cc' : ByteArray} {maxL : Nat} {ret : Option FieldType} {rm : Room} {sem : gz_Me} (hM : gz_Mt y cc' maxL ret rm sem) (hcode : Cond.code y cc' maxL ret ∈ gz_tb) (hini : Cond.initialized y.cls ∈ gz_tb) (hdesc : y.cls ≠ "java/lang/invoke/MethodHandle" ∧ y.cls ≠ "java/lang/invoke/VarHandle" ∧ (parseMethodDescriptor y.desc).map (fun d => d.parameters.length) = some n) (hrf : rm.frames + 1 ≤ M.2.2.2.1) (hrl : 8 + (maxL + 11) + rm.locals ≤ M.2.2.2.2.1) (hl : Cond.methodLink M.2.2.1 idx y ∈ gz_tb) (hstt : Cond.static y ∈ gz_tb) (hd : decode M.1 p1 = .ok (.invokestatic idx, 3)) (hd8 : d ≤ 8) : gz_OkE M d (c1 + rm.cells) (s1 + rm.slots) pc (p1 + 3) (gz_cs sem as) := by
  intro X hok env st h v' h' cells slots hst hc hs ht hk
  unfold gz_cs at ht
  split at ht
  · rename_i us h1 e1
    split at ht
    · rename_i v h2 e2
      simp only [Option.some.injEq, Prod.mk.injEq] at ht
      obtain ⟨rfl, rfl⟩ := ht
      obtain ⟨g1, g2⟩ := ha X hok env st h us h1 cells slots hst (by omega) (by omega) e1
      refine g2 (gw_callS hok hM e2 hcode hini hdesc g1 hrf hrl hl hstt hd (by omega) (by omega) (by omega) ?_)
      rw [Nat.add_assoc, Nat.add_assoc]
      exact hk
    · cases ht
  · cases ht
theorem ok_cv {M : gz_Mi} {d pc p1 n c1 s1 idx ci N : Nat} {as : gz_Ax} (ha : gz_OkA M d c1 s1 pc p1 (n + 1) as) {y : MethodName} {cc' : ByteArray} {maxL : Nat} {ret : Option FieldType} {rm : Room} {sem : gz_Me} (hM : gz_Mt y cc' maxL ret rm sem) {C : String} {T : u_T} (hcl : vwCl[ci]? = some (C, T, N)) (hcode : Cond.code y cc' maxL ret ∈ gz_tb) (hini : Cond.initialized y.cls ∈ gz_tb) (hdesc : y.cls ≠ "java/lang/invoke/MethodHandle" ∧ y.cls ≠ "java/lang/invoke/VarHandle" ∧ (parseMethodDescriptor y.desc).map (fun d => d.parameters.length) = some n) (hrf : rm.frames + 1 ≤ M.2.2.2.1) (hrl : 8 + (maxL + 11) + rm.locals ≤ M.2.2.2.2.1) (hl : Cond.methodLink M.2.2.1 idx y ∈ gz_tb) (hin : Cond.instanceMethod y ∈ gz_tb) (hse : Cond.selects C y y ∈ gz_tb) (hd : decode M.1 p1 = .ok (.invokevirtual idx, 3)) (hd8 : d ≤ 8) : gz_OkE M d (c1 + rm.cells) (s1 + rm.slots) pc (p1 + 3) (gz_cv ci N sem as) := by
  intro X hok env st h v' h' cells slots hst hc hs ht hk
  unfold gz_cv at ht
  split at ht
  · rename_i x us h1 e1
    split at ht
    · rename_i hq
      split at ht
      · rename_i v h2 e2
        simp only [Option.some.injEq, Prod.mk.injEq] at ht
        obtain ⟨rfl, rfl⟩ := ht
        obtain ⟨g1, g2⟩ := ha X hok env st h _ h1 cells slots hst (by omega) (by omega) e1
        refine g2 ?_
        rw [List.reverse_cons, List.append_assoc, List.singleton_append]
        refine gw_callV hok hM e2 hcl hcode hini hdesc (Nat.succ.inj g1) hrf hrl hl hin hse hd hq.1 hq.2 (by omega) (by omega) (by omega) ?_
        rw [Nat.add_assoc, Nat.add_assoc]
        exact hk
      · cases ht
    · cases ht
  · cases ht
theorem ok_mk {M : gz_Mi} {d pc p1 n c1 s1 idx2 : Nat} {as : gz_Ax} {ci N idx : Nat} {C : String} {T : u_T} (hcl : vwCl[ci]? = some (C, T, N)) (hinw : ∀ w ∈ u_ws C T N, w ∈ gz_tb) (ty0 : Nat → FieldType) (hty : ∀ k, k < N → parseFieldDescriptor (T k).2.2.1 = some (ty0 k)) (hnf : ∀ k, k < N → gz_nf (defaultValue (ty0 k)) = true) (hcw : Cond.classLink M.2.2.1 idx C ∈ gz_tb) (hins : Cond.instantiable C N ∈ gz_tb) (hinc : Cond.initialized C ∈ gz_tb) (hd0 : decode M.1 pc = .ok (.new idx, 3)) (hd1 : decode M.1 (pc + 3) = .ok (.dup, 1)) (ha : gz_OkA M (d + 2) c1 s1 (pc + 4) p1 n as) {y : MethodName} {cc' : ByteArray} {maxL : Nat} {rm : Room} {sem : gz_Me} (hM : gz_Mt y cc' maxL none rm sem) (hcode : Cond.code y cc' maxL none ∈ gz_tb) (hini : Cond.initialized y.cls ∈ gz_tb) (hdesc : y.cls ≠ "java/lang/invoke/MethodHandle" ∧ y.cls ≠ "java/lang/invoke/VarHandle" ∧ (parseMethodDescriptor y.desc).map (fun d => d.parameters.length) = some n) (hrf : rm.frames + 1 ≤ M.2.2.2.1) (hrl : 8 + (maxL + 11) + rm.locals ≤ M.2.2.2.2.1) (hl : Cond.methodLink M.2.2.1 idx2 y ∈ gz_tb) (hin : Cond.instanceMethod y ∈ gz_tb) (hy1 : y.name = "<init>") (hd : decode M.1 p1 = .ok (.invokespecial idx2, 3)) (hd8 : d + 1 ≤ 8) : gz_OkE M d (1 + c1 + rm.cells) (N + s1 + rm.slots) pc (p1 + 3) (gz_mk ci N (fun j => defaultValue (ty0 j)) sem as) := by
  intro X hok env st h v' h' cells slots hst hc hs ht hk
  unfold gz_mk at ht
  split at ht
  · rename_i us h1 e1
    split at ht
    · rename_i h2 e2
      simp only [Option.some.injEq, Prod.mk.injEq] at ht
      obtain ⟨rfl, rfl⟩ := ht
      refine gw_new hok hcl hinw ty0 hty hnf hcw hins hinc hd0 (by omega) (by omega) ?_
      refine gw_dup hok hd1 rfl ?_
      obtain ⟨g1, g2⟩ := ha X hok env _ _ us h1 (cells + 1) (slots + N) (by rw [gz_sm_cons, gz_sm_cons]; simp only [Value.category]; omega) (by omega) (by omega) e1
      refine g2 (gw_callI hok hM e2 hcode hini hdesc g1 hrf hrl hl hin hy1 hd (by rw [gz_sm_cons]; simp only [Value.category]; omega) (by omega) (by omega) ?_)
      rw [show cells + 1 + c1 + rm.cells = cells + (1 + c1 + rm.cells) by omega, show slots + N + s1 + rm.slots = slots + (N + s1 + rm.slots) by omega]
      exact hk
    · cases ht
  · cases ht
theorem ok_mkN {M : gz_Mi} {d pc p1 n c1 s1 idx2 : Nat} {as : gz_Ax} {ci N idx : Nat} {C : String} {T : u_T} (hcl : vwCl[ci]? = some (C, T, N)) (hinw : ∀ w ∈ u_ws C T N, w ∈ gz_tb) (ty0 : Nat → FieldType) (hty : ∀ k, k < N → parseFieldDescriptor (T k).2.2.1 = some (ty0 k)) (hnf : ∀ k, k < N → gz_nf (defaultValue (ty0 k)) = true) (hcw : Cond.classLink M.2.2.1 idx C ∈ gz_tb) (hins : Cond.instantiable C N ∈ gz_tb) (hinc : Cond.initialized C ∈ gz_tb) (hd0 : decode M.1 pc = .ok (.new idx, 3)) (hd1 : decode M.1 (pc + 3) = .ok (.dup, 1)) (ha : gz_OkA M (d + 2) c1 s1 (pc + 4) p1 n as) {y : MethodName} {cc' : ByteArray} {maxL : Nat} {rm : Room} {sem : gz_Me} (hM : gz_Mt y cc' maxL none rm sem) (hcode : Cond.code y cc' maxL none ∈ gz_tb) (hini : Cond.initialized y.cls ∈ gz_tb) (hdesc : y.cls ≠ "java/lang/invoke/MethodHandle" ∧ y.cls ≠ "java/lang/invoke/VarHandle" ∧ (parseMethodDescriptor y.desc).map (fun d => d.parameters.length) = some n) (hrf : rm.frames + 1 ≤ M.2.2.2.1) (hrl : 8 + (maxL + 11) + rm.locals ≤ M.2.2.2.2.1) {host : String} (hl : ∀ U : State, gz_nest U → va_Nw (.methodLinkNest M.2.2.1 idx2 y host) U) (hin : Cond.instanceMethod y ∈ gz_tb) (hy1 : y.name = "<init>") (hd : decode M.1 p1 = .ok (.invokespecial idx2, 3)) (hd8 : d + 1 ≤ 8) : gz_OkE M d (1 + c1 + rm.cells) (N + s1 + rm.slots) pc (p1 + 3) (gz_mk ci N (fun j => defaultValue (ty0 j)) sem as) := by
  intro X hok env st h v' h' cells slots hst hc hs ht hk
  unfold gz_mk at ht
  split at ht
  · rename_i us h1 e1
    split at ht
    · rename_i h2 e2
      simp only [Option.some.injEq, Prod.mk.injEq] at ht
      obtain ⟨rfl, rfl⟩ := ht
      refine gw_new hok hcl hinw ty0 hty hnf hcw hins hinc hd0 (by omega) (by omega) ?_
      refine gw_dup hok hd1 rfl ?_
      obtain ⟨g1, g2⟩ := ha X hok env _ _ us h1 (cells + 1) (slots + N) (by rw [gz_sm_cons, gz_sm_cons]; simp only [Value.category]; omega) (by omega) (by omega) e1
      refine g2 (gw_callN hok hM e2 hcode hini hdesc g1 hrf hrl hl hin hy1 hd (by rw [gz_sm_cons]; simp only [Value.category]; omega) (by omega) (by omega) ?_)
      rw [show cells + 1 + c1 + rm.cells = cells + (1 + c1 + rm.cells) by omega, show slots + N + s1 + rm.slots = slots + (N + s1 + rm.slots) by omega]
      exact hk
    · cases ht
  · cases ht
theorem ok_te {M : gz_Mi} {d pc X N p1 p2 c1 s1 c2 s2 c3 s3 : Nat} {off : Int} {j : gz_Jx} {a b : gz_Ex} (hj : gz_OkJ M d c1 s1 pc X N j) (hb : gz_OkE M d c2 s2 N p1 b) (hg : decode M.1 p1 = .ok (.goto off, 3)) (ht0 : (p1 : Int) + off = (p2 : Int)) (ha : gz_OkE M d c3 s3 X p2 a) : gz_OkE M d (c1 + c2 + c3) (s1 + s2 + s3) pc p2 (gz_te j a b) := by
  intro X' hok env st h v' h' cells slots hst hc hs ht hk
  unfold gz_te at ht
  split at ht
  · rename_i h1 e1
    refine hj X' hok env st h _ _ cells slots hst (by omega) (by omega) e1 (fun _ => ?_) (fun q => by cases q)
    exact ha X' hok env st h1 _ _ _ _ hst (by omega) (by omega) ht (gz_W.widen (by omega) (by omega) hk)
  · rename_i h1 e1
    refine hj X' hok env st h _ _ cells slots hst (by omega) (by omega) e1 (fun q => by cases q) (fun _ => ?_)
    exact hb X' hok env st h1 _ _ _ _ hst (by omega) (by omega) ht (gw_goto hok hg ht0 (gz_W.widen (by omega) (by omega) hk))
  · cases ht
theorem ok_if_eq {M : gz_Mi} {d pc p1 c1 s1 tgt : Nat} {off : Int} {a : gz_Ex} (ha : gz_OkE M d c1 s1 pc p1 a) (hd : decode M.1 p1 = .ok (.ifCond .eq off, 3)) (ht0 : (p1 : Int) + off = (tgt : Int)) : gz_OkJ M d c1 s1 pc tgt (p1 + 3) (gz_j1 (fun x => decide (x = 0)) a) := by
  intro X hok env st h v' h' cells slots hst hc hs ht kt kf
  unfold gz_j1 at ht
  split at ht
  · rename_i x h1 e1
    simp only [Option.some.injEq, Prod.mk.injEq] at ht
    obtain ⟨rfl, rfl⟩ := ht
    exact ha X hok env st h _ _ cells slots hst hc hs e1 (gw_if_eq hok hd ht0 (fun q => kt (decide_eq_true q)) (fun q => kf (by simp only [decide_eq_false_iff_not]; exact q)))
  · cases ht
theorem ok_ic_eq {M : gz_Mi} {d pc p1 p2 c1 s1 c2 s2 tgt : Nat} {off : Int} {a b : gz_Ex} (ha : gz_OkE M d c1 s1 pc p1 a) (hb : gz_OkE M (d + 1) c2 s2 p1 p2 b) (hd : decode M.1 p2 = .ok (.if_icmp .eq off, 3)) (ht0 : (p2 : Int) + off = (tgt : Int)) : gz_OkJ M d (c1 + c2) (s1 + s2) pc tgt (p2 + 3) (gz_j2 (fun x y => decide (x = y)) a b) := by
  intro X hok env st h v' h' cells slots hst hc hs ht kt kf
  unfold gz_j2 at ht
  split at ht
  · rename_i x h1 e1
    split at ht
    · rename_i y h2 e2
      simp only [Option.some.injEq, Prod.mk.injEq] at ht
      obtain ⟨rfl, rfl⟩ := ht
      rw [← Nat.add_assoc, ← Nat.add_assoc] at kt kf
      refine ha X hok env st h _ _ cells slots hst (by omega) (by omega) e1 ?_
      refine hb X hok env _ _ _ _ _ _ (by rw [gz_sm_cons]; simp only [Value.category]; omega) (by omega) (by omega) e2 ?_
      exact gw_ic_eq hok hd ht0 (fun q => kt (decide_eq_true q)) (fun q => kf (by simp only [decide_eq_false_iff_not]; exact q))
    · cases ht
  · cases ht
theorem ok_if_ne {M : gz_Mi} {d pc p1 c1 s1 tgt : Nat} {off : Int} {a : gz_Ex} (ha : gz_OkE M d c1 s1 pc p1 a) (hd : decode M.1 p1 = .ok (.ifCond .ne off, 3)) (ht0 : (p1 : Int) + off = (tgt : Int)) : gz_OkJ M d c1 s1 pc tgt (p1 + 3) (gz_j1 (fun x => decide (¬ x = 0)) a) := by
  intro X hok env st h v' h' cells slots hst hc hs ht kt kf
  unfold gz_j1 at ht
  split at ht
  · rename_i x h1 e1
    simp only [Option.some.injEq, Prod.mk.injEq] at ht
    obtain ⟨rfl, rfl⟩ := ht
    exact ha X hok env st h _ _ cells slots hst hc hs e1 (gw_if_ne hok hd ht0 (fun q => kt (decide_eq_true q)) (fun q => kf (by simp [q])))
  · cases ht
theorem ok_ic_ne {M : gz_Mi} {d pc p1 p2 c1 s1 c2 s2 tgt : Nat} {off : Int} {a b : gz_Ex} (ha : gz_OkE M d c1 s1 pc p1 a) (hb : gz_OkE M (d + 1) c2 s2 p1 p2 b) (hd : decode M.1 p2 = .ok (.if_icmp .ne off, 3)) (ht0 : (p2 : Int) + off = (tgt : Int)) : gz_OkJ M d (c1 + c2) (s1 + s2) pc tgt (p2 + 3) (gz_j2 (fun x y => decide (¬ x = y)) a b) := by
  intro X hok env st h v' h' cells slots hst hc hs ht kt kf
  unfold gz_j2 at ht
  split at ht
  · rename_i x h1 e1
    split at ht
    · rename_i y h2 e2
      simp only [Option.some.injEq, Prod.mk.injEq] at ht
      obtain ⟨rfl, rfl⟩ := ht
      rw [← Nat.add_assoc, ← Nat.add_assoc] at kt kf
      refine ha X hok env st h _ _ cells slots hst (by omega) (by omega) e1 ?_
      refine hb X hok env _ _ _ _ _ _ (by rw [gz_sm_cons]; simp only [Value.category]; omega) (by omega) (by omega) e2 ?_
      exact gw_ic_ne hok hd ht0 (fun q => kt (decide_eq_true q)) (fun q => kf (by simp [q]))
    · cases ht
  · cases ht
theorem ok_if_lt {M : gz_Mi} {d pc p1 c1 s1 tgt : Nat} {off : Int} {a : gz_Ex} (ha : gz_OkE M d c1 s1 pc p1 a) (hd : decode M.1 p1 = .ok (.ifCond .lt off, 3)) (ht0 : (p1 : Int) + off = (tgt : Int)) : gz_OkJ M d c1 s1 pc tgt (p1 + 3) (gz_j1 (fun x => decide (x < 0)) a) := by
  intro X hok env st h v' h' cells slots hst hc hs ht kt kf
  unfold gz_j1 at ht
  split at ht
  · rename_i x h1 e1
    simp only [Option.some.injEq, Prod.mk.injEq] at ht
    obtain ⟨rfl, rfl⟩ := ht
    exact ha X hok env st h _ _ cells slots hst hc hs e1 (gw_if_lt hok hd ht0 (fun q => kt (decide_eq_true q)) (fun q => kf (by simp only [decide_eq_false_iff_not]; exact q)))
  · cases ht
theorem ok_ic_lt {M : gz_Mi} {d pc p1 p2 c1 s1 c2 s2 tgt : Nat} {off : Int} {a b : gz_Ex} (ha : gz_OkE M d c1 s1 pc p1 a) (hb : gz_OkE M (d + 1) c2 s2 p1 p2 b) (hd : decode M.1 p2 = .ok (.if_icmp .lt off, 3)) (ht0 : (p2 : Int) + off = (tgt : Int)) : gz_OkJ M d (c1 + c2) (s1 + s2) pc tgt (p2 + 3) (gz_j2 (fun x y => decide (x < y)) a b) := by
  intro X hok env st h v' h' cells slots hst hc hs ht kt kf
  unfold gz_j2 at ht
  split at ht
  · rename_i x h1 e1
    split at ht
    · rename_i y h2 e2
      simp only [Option.some.injEq, Prod.mk.injEq] at ht
      obtain ⟨rfl, rfl⟩ := ht
      rw [← Nat.add_assoc, ← Nat.add_assoc] at kt kf
      refine ha X hok env st h _ _ cells slots hst (by omega) (by omega) e1 ?_
      refine hb X hok env _ _ _ _ _ _ (by rw [gz_sm_cons]; simp only [Value.category]; omega) (by omega) (by omega) e2 ?_
      exact gw_ic_lt hok hd ht0 (fun q => kt (decide_eq_true q)) (fun q => kf (by simp only [decide_eq_false_iff_not]; exact q))
    · cases ht
  · cases ht
theorem ok_if_ge {M : gz_Mi} {d pc p1 c1 s1 tgt : Nat} {off : Int} {a : gz_Ex} (ha : gz_OkE M d c1 s1 pc p1 a) (hd : decode M.1 p1 = .ok (.ifCond .ge off, 3)) (ht0 : (p1 : Int) + off = (tgt : Int)) : gz_OkJ M d c1 s1 pc tgt (p1 + 3) (gz_j1 (fun x => decide (0 ≤ x)) a) := by
  intro X hok env st h v' h' cells slots hst hc hs ht kt kf
  unfold gz_j1 at ht
  split at ht
  · rename_i x h1 e1
    simp only [Option.some.injEq, Prod.mk.injEq] at ht
    obtain ⟨rfl, rfl⟩ := ht
    exact ha X hok env st h _ _ cells slots hst hc hs e1 (gw_if_ge hok hd ht0 (fun q => kt (decide_eq_true q)) (fun q => kf (by simp only [decide_eq_false_iff_not]; exact q)))
  · cases ht
theorem ok_ic_ge {M : gz_Mi} {d pc p1 p2 c1 s1 c2 s2 tgt : Nat} {off : Int} {a b : gz_Ex} (ha : gz_OkE M d c1 s1 pc p1 a) (hb : gz_OkE M (d + 1) c2 s2 p1 p2 b) (hd : decode M.1 p2 = .ok (.if_icmp .ge off, 3)) (ht0 : (p2 : Int) + off = (tgt : Int)) : gz_OkJ M d (c1 + c2) (s1 + s2) pc tgt (p2 + 3) (gz_j2 (fun x y => decide (y ≤ x)) a b) := by
  intro X hok env st h v' h' cells slots hst hc hs ht kt kf
  unfold gz_j2 at ht
  split at ht
  · rename_i x h1 e1
    split at ht
    · rename_i y h2 e2
      simp only [Option.some.injEq, Prod.mk.injEq] at ht
      obtain ⟨rfl, rfl⟩ := ht
      rw [← Nat.add_assoc, ← Nat.add_assoc] at kt kf
      refine ha X hok env st h _ _ cells slots hst (by omega) (by omega) e1 ?_
      refine hb X hok env _ _ _ _ _ _ (by rw [gz_sm_cons]; simp only [Value.category]; omega) (by omega) (by omega) e2 ?_
      exact gw_ic_ge hok hd ht0 (fun q => kt (decide_eq_true q)) (fun q => kf (by simp only [decide_eq_false_iff_not]; exact q))
    · cases ht
  · cases ht
theorem ok_if_gt {M : gz_Mi} {d pc p1 c1 s1 tgt : Nat} {off : Int} {a : gz_Ex} (ha : gz_OkE M d c1 s1 pc p1 a) (hd : decode M.1 p1 = .ok (.ifCond .gt off, 3)) (ht0 : (p1 : Int) + off = (tgt : Int)) : gz_OkJ M d c1 s1 pc tgt (p1 + 3) (gz_j1 (fun x => decide (0 < x)) a) := by
  intro X hok env st h v' h' cells slots hst hc hs ht kt kf
  unfold gz_j1 at ht
  split at ht
  · rename_i x h1 e1
    simp only [Option.some.injEq, Prod.mk.injEq] at ht
    obtain ⟨rfl, rfl⟩ := ht
    exact ha X hok env st h _ _ cells slots hst hc hs e1 (gw_if_gt hok hd ht0 (fun q => kt (decide_eq_true q)) (fun q => kf (by simp only [decide_eq_false_iff_not]; exact q)))
  · cases ht
theorem ok_ic_gt {M : gz_Mi} {d pc p1 p2 c1 s1 c2 s2 tgt : Nat} {off : Int} {a b : gz_Ex} (ha : gz_OkE M d c1 s1 pc p1 a) (hb : gz_OkE M (d + 1) c2 s2 p1 p2 b) (hd : decode M.1 p2 = .ok (.if_icmp .gt off, 3)) (ht0 : (p2 : Int) + off = (tgt : Int)) : gz_OkJ M d (c1 + c2) (s1 + s2) pc tgt (p2 + 3) (gz_j2 (fun x y => decide (y < x)) a b) := by
  intro X hok env st h v' h' cells slots hst hc hs ht kt kf
  unfold gz_j2 at ht
  split at ht
  · rename_i x h1 e1
    split at ht
    · rename_i y h2 e2
      simp only [Option.some.injEq, Prod.mk.injEq] at ht
      obtain ⟨rfl, rfl⟩ := ht
      rw [← Nat.add_assoc, ← Nat.add_assoc] at kt kf
      refine ha X hok env st h _ _ cells slots hst (by omega) (by omega) e1 ?_
      refine hb X hok env _ _ _ _ _ _ (by rw [gz_sm_cons]; simp only [Value.category]; omega) (by omega) (by omega) e2 ?_
      exact gw_ic_gt hok hd ht0 (fun q => kt (decide_eq_true q)) (fun q => kf (by simp only [decide_eq_false_iff_not]; exact q))
    · cases ht
  · cases ht
theorem ok_if_le {M : gz_Mi} {d pc p1 c1 s1 tgt : Nat} {off : Int} {a : gz_Ex} (ha : gz_OkE M d c1 s1 pc p1 a) (hd : decode M.1 p1 = .ok (.ifCond .le off, 3)) (ht0 : (p1 : Int) + off = (tgt : Int)) : gz_OkJ M d c1 s1 pc tgt (p1 + 3) (gz_j1 (fun x => decide (x ≤ 0)) a) := by
  intro X hok env st h v' h' cells slots hst hc hs ht kt kf
  unfold gz_j1 at ht
  split at ht
  · rename_i x h1 e1
    simp only [Option.some.injEq, Prod.mk.injEq] at ht
    obtain ⟨rfl, rfl⟩ := ht
    exact ha X hok env st h _ _ cells slots hst hc hs e1 (gw_if_le hok hd ht0 (fun q => kt (decide_eq_true q)) (fun q => kf (by simp only [decide_eq_false_iff_not]; exact q)))
  · cases ht
theorem ok_ic_le {M : gz_Mi} {d pc p1 p2 c1 s1 c2 s2 tgt : Nat} {off : Int} {a b : gz_Ex} (ha : gz_OkE M d c1 s1 pc p1 a) (hb : gz_OkE M (d + 1) c2 s2 p1 p2 b) (hd : decode M.1 p2 = .ok (.if_icmp .le off, 3)) (ht0 : (p2 : Int) + off = (tgt : Int)) : gz_OkJ M d (c1 + c2) (s1 + s2) pc tgt (p2 + 3) (gz_j2 (fun x y => decide (x ≤ y)) a b) := by
  intro X hok env st h v' h' cells slots hst hc hs ht kt kf
  unfold gz_j2 at ht
  split at ht
  · rename_i x h1 e1
    split at ht
    · rename_i y h2 e2
      simp only [Option.some.injEq, Prod.mk.injEq] at ht
      obtain ⟨rfl, rfl⟩ := ht
      rw [← Nat.add_assoc, ← Nat.add_assoc] at kt kf
      refine ha X hok env st h _ _ cells slots hst (by omega) (by omega) e1 ?_
      refine hb X hok env _ _ _ _ _ _ (by rw [gz_sm_cons]; simp only [Value.category]; omega) (by omega) (by omega) e2 ?_
      exact gw_ic_le hok hd ht0 (fun q => kt (decide_eq_true q)) (fun q => kf (by simp only [decide_eq_false_iff_not]; exact q))
    · cases ht
  · cases ht
theorem ok_jn {M : gz_Mi} {d pc p1 c1 s1 tgt : Nat} {off : Int} {a : gz_Ex} (ha : gz_OkE M d c1 s1 pc p1 a) (hd : decode M.1 p1 = .ok (.ifnull off, 3)) (ht0 : (p1 : Int) + off = (tgt : Int)) : gz_OkJ M d c1 s1 pc tgt (p1 + 3) (gz_jn a) := by
  intro X hok env st h v' h' cells slots hst hc hs ht kt kf
  unfold gz_jn at ht
  split at ht
  · rename_i x h1 e1
    simp only [Option.some.injEq, Prod.mk.injEq] at ht
    obtain ⟨rfl, rfl⟩ := ht
    exact ha X hok env st h _ _ cells slots hst hc hs e1 (gw_nullr hok hd (kf rfl))
  · rename_i h1 e1
    simp only [Option.some.injEq, Prod.mk.injEq] at ht
    obtain ⟨rfl, rfl⟩ := ht
    exact ha X hok env st h _ _ cells slots hst hc hs e1 (gw_nullz hok hd ht0 (kt rfl))
  · cases ht
theorem ok_jk {M : gz_Mi} {d pc p1 c1 s1 tgt : Nat} {off : Int} {a : gz_Ex} (ha : gz_OkE M d c1 s1 pc p1 a) (hd : decode M.1 p1 = .ok (.ifnonnull off, 3)) (ht0 : (p1 : Int) + off = (tgt : Int)) : gz_OkJ M d c1 s1 pc tgt (p1 + 3) (gz_jk a) := by
  intro X hok env st h v' h' cells slots hst hc hs ht kt kf
  unfold gz_jk at ht
  split at ht
  · rename_i x h1 e1
    simp only [Option.some.injEq, Prod.mk.injEq] at ht
    obtain ⟨rfl, rfl⟩ := ht
    exact ha X hok env st h _ _ cells slots hst hc hs e1 (gw_nonr hok hd ht0 (kt rfl))
  · rename_i h1 e1
    simp only [Option.some.injEq, Prod.mk.injEq] at ht
    obtain ⟨rfl, rfl⟩ := ht
    exact ha X hok env st h _ _ cells slots hst hc hs e1 (gw_nonz hok hd (kf rfl))
  · cases ht
theorem ok_jo {M : gz_Mi} {d pc p1 c1 s1 c2 s2 X N : Nat} {a b : gz_Jx} (ha : gz_OkJ M d c1 s1 pc X p1 a) (hb : gz_OkJ M d c2 s2 p1 X N b) : gz_OkJ M d (c1 + c2) (s1 + s2) pc X N (gz_jo a b) := by
  intro X' hok env st h v' h' cells slots hst hc hs ht kt kf
  unfold gz_jo at ht
  split at ht
  · rename_i h1 e1
    simp only [Option.some.injEq, Prod.mk.injEq] at ht
    obtain ⟨rfl, rfl⟩ := ht
    exact ha X' hok env st h _ _ cells slots hst (by omega) (by omega) e1 (fun _ => gz_W.widen (by omega) (by omega) (kt rfl)) (fun q => by cases q)
  · rename_i h1 e1
    refine ha X' hok env st h _ _ cells slots hst (by omega) (by omega) e1 (fun q => by cases q) (fun _ => ?_)
    exact hb X' hok env st h1 _ _ _ _ hst (by omega) (by omega) ht (fun q => gz_W.widen (by omega) (by omega) (kt q)) (fun q => gz_W.widen (by omega) (by omega) (kf q))
  · cases ht
theorem ok_ja {M : gz_Mi} {d pc p1 c1 s1 c2 s2 X N : Nat} {a b : gz_Jx} (ha : gz_OkJ M d c1 s1 pc N p1 a) (hb : gz_OkJ M d c2 s2 p1 X N b) : gz_OkJ M d (c1 + c2) (s1 + s2) pc X N (gz_ja a b) := by
  intro X' hok env st h v' h' cells slots hst hc hs ht kt kf
  unfold gz_ja at ht
  split at ht
  · rename_i h1 e1
    simp only [Option.some.injEq, Prod.mk.injEq] at ht
    obtain ⟨rfl, rfl⟩ := ht
    exact ha X' hok env st h _ _ cells slots hst (by omega) (by omega) e1 (fun _ => gz_W.widen (by omega) (by omega) (kf rfl)) (fun q => by cases q)
  · rename_i h1 e1
    refine ha X' hok env st h _ _ cells slots hst (by omega) (by omega) e1 (fun q => by cases q) (fun _ => ?_)
    exact hb X' hok env st h1 _ _ _ _ hst (by omega) (by omega) ht (fun q => gz_W.widen (by omega) (by omega) (kt q)) (fun q => gz_W.widen (by omega) (by omega) (kf q))
  · cases ht
