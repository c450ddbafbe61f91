theorem gz_v_set (h : gz_H) (a i : Nat) (v : Value) (b j : Nat) : gz_v (gz_set h a i v) b j = if b = a ∧ j = i then v else gz_v h b j := rfl
theorem gz_k_set (h : gz_H) (a i : Nat) (v : Value) (b : Nat) : gz_k (gz_set h a i v) b = gz_k h b := rfl
theorem gz_n_set (h : gz_H) (a i : Nat) (v : Value) : (gz_set h a i v).1 = h.1 := rfl
theorem gz_n_new (h : gz_H) (k : Nat × Nat) (d : Nat → Value) : (gz_new h k d).1 = h.1 + 1 := rfl
theorem gz_k_new (h : gz_H) (k : Nat × Nat) (d : Nat → Value) (b : Nat) : gz_k (gz_new h k d) b = if b = h.1 then k else gz_k h b := rfl
theorem gz_v_new (h : gz_H) (k : Nat × Nat) (d : Nat → Value) (b j : Nat) : gz_v (gz_new h k d) b j = if b = h.1 then d j else gz_v h b j := rfl
def gz_b (c : Prop) [Decidable c] : Int32 := if c then 1 else 0
set_option maxHeartbeats 4000000 in
theorem st_X7_outside (v lo hi : Int32) (h : gz_H) : se_X7_outside [.int v, .int lo, .int hi] h = some (some (.int (if v < lo ∨ hi < v then 1 else 0)), h) := by
  simp only [se_X7_outside, gz_sem, sm_X7_outside, gz_ae, Value.category, gz_ri, gz_te, gz_jo, gz_ja, gz_j2, gz_li, gz_i, List.getElem?_cons_zero, List.getElem?_cons_succ]
  by_cases h1 : v < lo <;> by_cases h2 : hi < v <;> simp [h1, h2, gz_rok, gz_fit]
set_option maxHeartbeats 4000000 in
theorem st_X8_isIn (v lo hi : Int32) (h : gz_H) : se_X8_isIn [.int v, .int lo, .int hi] h = some (some (.int (if lo ≤ v ∧ v ≤ hi then 1 else 0)), h) := by
  simp only [se_X8_isIn, gz_sem, sm_X8_isIn, gz_ae, Value.category, gz_ri, gz_te, gz_jo, gz_ja, gz_j2, gz_li, gz_i, List.getElem?_cons_zero, List.getElem?_cons_succ]
  trace_state
  sorry
