def pop8 (n : Nat) : Nat := pcb (n % 256) + pcb (n / 256 % 256) + pcb (n / 256 / 256 % 256) + pcb (n / 256 / 256 / 256 % 256) + pcb (n / 256 / 256 / 256 / 256 % 256) + pcb (n / 256 / 256 / 256 / 256 / 256 % 256) + pcb (n / 256 / 256 / 256 / 256 / 256 / 256 % 256) + pcb (n / 256 / 256 / 256 / 256 / 256 / 256 / 256 % 256)
theorem rp_85 : rp 85 8 = 6148914691236517205 := by decide
theorem rp_51 : rp 51 8 = 3689348814741910323 := by decide
theorem rp_15 : rp 15 8 = 1085102592571150095 := by decide
theorem bb_8 (n : Nat) : bb 8 n = 256 * (256 * (256 * (256 * (256 * (256 * (256 * (256 * 0 + pcb (n / 256 / 256 / 256 / 256 / 256 / 256 / 256 % 256)) + pcb (n / 256 / 256 / 256 / 256 / 256 / 256 % 256)) + pcb (n / 256 / 256 / 256 / 256 / 256 % 256)) + pcb (n / 256 / 256 / 256 / 256 % 256)) + pcb (n / 256 / 256 / 256 % 256)) + pcb (n / 256 / 256 % 256)) + pcb (n / 256 % 256)) + pcb (n % 256) := rfl
theorem bb_sum (n : Nat) : bb 8 n < 2 ^ 60 ∧ (bb 8 n + bb 8 n / 256 + (bb 8 n + bb 8 n / 256) / 65536 + (bb 8 n + bb 8 n / 256 + (bb 8 n + bb 8 n / 256) / 65536) / 4294967296) % 128 = pop8 n ∧ pop8 n ≤ 64 := by
  have k : ∀ m, pcb (m % 256) ≤ 8 := fun m => (by_ok (m % 256) (Nat.mod_lt _ (by omega))).2.2.2.2.2.1
  rw [bb_8]
  unfold pop8
  have k0 := k n
  have k1 := k (n / 256)
  have k2 := k (n / 256 / 256)
  have k3 := k (n / 256 / 256 / 256)
  have k4 := k (n / 256 / 256 / 256 / 256)
  have k5 := k (n / 256 / 256 / 256 / 256 / 256)
  have k6 := k (n / 256 / 256 / 256 / 256 / 256 / 256)
  have k7 := k (n / 256 / 256 / 256 / 256 / 256 / 256 / 256)
  generalize pcb (n % 256) = c0 at *
  generalize pcb (n / 256 % 256) = c1 at *
  generalize pcb (n / 256 / 256 % 256) = c2 at *
  generalize pcb (n / 256 / 256 / 256 % 256) = c3 at *
  generalize pcb (n / 256 / 256 / 256 / 256 % 256) = c4 at *
  generalize pcb (n / 256 / 256 / 256 / 256 / 256 % 256) = c5 at *
  generalize pcb (n / 256 / 256 / 256 / 256 / 256 / 256 % 256) = c6 at *
  generalize pcb (n / 256 / 256 / 256 / 256 / 256 / 256 / 256 % 256) = c7 at *
  have f1 : (256 * (256 * (256 * (256 * (256 * (256 * (256 * (256 * 0 + c7) + c6) + c5) + c4) + c3) + c2) + c1) + c0) / 256 = 256 * (256 * (256 * (256 * (256 * (256 * c7 + c6) + c5) + c4) + c3) + c2) + c1 := by omega
  have f2 : (256 * (256 * (256 * (256 * (256 * (256 * (256 * (256 * 0 + c7) + c6) + c5) + c4) + c3) + c2) + c1) + c0 + (256 * (256 * (256 * (256 * (256 * (256 * c7 + c6) + c5) + c4) + c3) + c2) + c1)) = 65536 * (65536 * (65536 * (256 * c7 + (c6 + c7)) + (256 * (c5 + c6) + (c4 + c5))) + (256 * (c3 + c4) + (c2 + c3))) + (256 * (c1 + c2) + (c0 + c1)) := by omega
  have f3 : (65536 * (65536 * (65536 * (256 * c7 + (c6 + c7)) + (256 * (c5 + c6) + (c4 + c5))) + (256 * (c3 + c4) + (c2 + c3))) + (256 * (c1 + c2) + (c0 + c1))) / 65536 = 65536 * (65536 * (256 * c7 + (c6 + c7)) + (256 * (c5 + c6) + (c4 + c5))) + (256 * (c3 + c4) + (c2 + c3)) := by
    generalize hd3 : 256 * c7 + (c6 + c7) = d3
    generalize hd2 : 256 * (c5 + c6) + (c4 + c5) = d2
    generalize hd1 : 256 * (c3 + c4) + (c2 + c3) = d1
    have hd0 : 256 * (c1 + c2) + (c0 + c1) < 65536 := by omega
    generalize 256 * (c1 + c2) + (c0 + c1) = d0 at hd0
    omega
  rw [f1, f2, f3]
  have f4 : (65536 * (65536 * (65536 * (256 * c7 + (c6 + c7)) + (256 * (c5 + c6) + (c4 + c5))) + (256 * (c3 + c4) + (c2 + c3))) + (256 * (c1 + c2) + (c0 + c1)) + (65536 * (65536 * (256 * c7 + (c6 + c7)) + (256 * (c5 + c6) + (c4 + c5))) + (256 * (c3 + c4) + (c2 + c3)))) / 4294967296 % 128 = (c4 + c5 + c6 + c7) % 128 := by
    generalize hd3 : 256 * c7 + (c6 + c7) = d3
    generalize hd2 : 256 * (c5 + c6) + (c4 + c5) = d2
    have hd1 : 256 * (c3 + c4) + (c2 + c3) < 32768 := by omega
    generalize 256 * (c3 + c4) + (c2 + c3) = d1 at hd1
    have hd0 : 256 * (c1 + c2) + (c0 + c1) < 32768 := by omega
    generalize 256 * (c1 + c2) + (c0 + c1) = d0 at hd0
    have e : (65536 * (65536 * (65536 * d3 + d2) + d1) + d0 + (65536 * (65536 * d3 + d2) + d1)) / 4294967296 = 65536 * d3 + d2 + d3 := by omega
    rw [e]
    omega
  generalize hX : (65536 * (65536 * (65536 * (256 * c7 + (c6 + c7)) + (256 * (c5 + c6) + (c4 + c5))) + (256 * (c3 + c4) + (c2 + c3))) + (256 * (c1 + c2) + (c0 + c1)) + (65536 * (65536 * (256 * c7 + (c6 + c7)) + (256 * (c5 + c6) + (c4 + c5))) + (256 * (c3 + c4) + (c2 + c3)))) / 4294967296 = X at f4 ⊢
  refine ⟨by omega, ?_, by omega⟩
  clear hX f1 f2 f3
  have g : (65536 * (65536 * (65536 * (256 * c7 + (c6 + c7)) + (256 * (c5 + c6) + (c4 + c5))) + (256 * (c3 + c4) + (c2 + c3))) + (256 * (c1 + c2) + (c0 + c1)) + (65536 * (65536 * (256 * c7 + (c6 + c7)) + (256 * (c5 + c6) + (c4 + c5))) + (256 * (c3 + c4) + (c2 + c3)))) % 128 = (c0 + c1 + c2 + c3) % 128 := by omega
  omega
set_option maxHeartbeats 4000000 in
theorem st_bitCount (n : Nat) (hn : n < 2 ^ 64) (h : gz_H) : se_J13_bitCount_95d88 [.long (lN n)] h = some (some (.int (nI (pop8 n))), h) := by
  obtain ⟨b1, b2, b3⟩ := bb_sum n
  obtain ⟨pa, -⟩ := p_all 8 n (by show n < 256 ^ 8; exact hn)
  have e5 : (6148914691236517205 : Int64) = lN 6148914691236517205 := rfl
  have e3 : (3689348814741910323 : Int64) = lN 3689348814741910323 := rfl
  have e1 : (1085102592571150095 : Int64) = lN 1085102592571150095 := rfl
  have i1 : (1 : Int32) = nI 1 := rfl
  have i2 : (2 : Int32) = nI 2 := rfl
  have i4 : (4 : Int32) = nI 4 := rfl
  have i8 : (8 : Int32) = nI 8 := rfl
  have i16 : (16 : Int32) = nI 16 := rfl
  have i32 : (32 : Int32) = nI 32 := rfl
  have l1 : (n / 2) &&& 6148914691236517205 ≤ n := Nat.le_trans Nat.and_le_left (Nat.div_le_self _ _)
  have y1 : p1 8 n = n - ((n / 2) &&& 6148914691236517205) := by unfold p1; rw [rp_85]
  have y2 : p2 8 (p1 8 n) = (p1 8 n &&& 3689348814741910323) + ((p1 8 n / 4) &&& 3689348814741910323) := by unfold p2; rw [rp_51]
  have y3 : p3 8 (p2 8 (p1 8 n)) = (p2 8 (p1 8 n) + p2 8 (p1 8 n) / 16) &&& 1085102592571150095 := by unfold p3; rw [rp_15]
  have q1 : p1 8 n < 2 ^ 64 := by rw [y1]; omega
  have q2 : p2 8 (p1 8 n) < 2 ^ 63 := by
    rw [y2]
    have a1 : p1 8 n &&& 3689348814741910323 ≤ 3689348814741910323 := Nat.and_le_right
    have a2 : (p1 8 n / 4) &&& 3689348814741910323 ≤ 3689348814741910323 := Nat.and_le_right
    omega
  have s1 : ((lN n).toUInt64 >>> ((1 : Int32).toInt64.toUInt64 &&& Int64.toUInt64 63)).toInt64 = lN (n / 2) := wb_shr (k := 1) hn (by omega)
  have t1 : lN (n / 2) &&& (6148914691236517205 : Int64) = lN ((n / 2) &&& 6148914691236517205) := by rw [e5, fb_andL]
  have u1 : lN n - lN ((n / 2) &&& 6148914691236517205) = lN (p1 8 n) := by rw [lN_sub l1, ← y1]
  have s2 : ((lN (p1 8 n)).toUInt64 >>> ((2 : Int32).toInt64.toUInt64 &&& Int64.toUInt64 63)).toInt64 = lN (p1 8 n / 4) := wb_shr (k := 2) q1 (by omega)
  have t2 : lN (p1 8 n) &&& (3689348814741910323 : Int64) = lN (p1 8 n &&& 3689348814741910323) := by rw [e3, fb_andL]
  have t2' : lN (p1 8 n / 4) &&& (3689348814741910323 : Int64) = lN ((p1 8 n / 4) &&& 3689348814741910323) := by rw [e3, fb_andL]
  have u2 : lN (p1 8 n &&& 3689348814741910323) + lN ((p1 8 n / 4) &&& 3689348814741910323) = lN (p2 8 (p1 8 n)) := by rw [lN_add, ← y2]
  have s3 : ((lN (p2 8 (p1 8 n))).toUInt64 >>> ((4 : Int32).toInt64.toUInt64 &&& Int64.toUInt64 63)).toInt64 = lN (p2 8 (p1 8 n) / 16) := wb_shr (k := 4) (by omega) (by omega)
  have u3 : lN (p2 8 (p1 8 n)) + lN (p2 8 (p1 8 n) / 16) = lN (p2 8 (p1 8 n) + p2 8 (p1 8 n) / 16) := lN_add _ _
  have t3 : lN (p2 8 (p1 8 n) + p2 8 (p1 8 n) / 16) &&& (1085102592571150095 : Int64) = lN (bb 8 n) := by rw [e1, fb_andL, ← y3, pa]
  have s4 : ((lN (bb 8 n)).toUInt64 >>> ((8 : Int32).toInt64.toUInt64 &&& Int64.toUInt64 63)).toInt64 = lN (bb 8 n / 256) := wb_shr (k := 8) (by omega) (by omega)
  have u4 : lN (bb 8 n) + lN (bb 8 n / 256) = lN (bb 8 n + bb 8 n / 256) := lN_add _ _
  have s5 : ((lN (bb 8 n + bb 8 n / 256)).toUInt64 >>> ((16 : Int32).toInt64.toUInt64 &&& Int64.toUInt64 63)).toInt64 = lN ((bb 8 n + bb 8 n / 256) / 65536) := wb_shr (k := 16) (by omega) (by omega)
  have u5 : lN (bb 8 n + bb 8 n / 256) + lN ((bb 8 n + bb 8 n / 256) / 65536) = lN (bb 8 n + bb 8 n / 256 + (bb 8 n + bb 8 n / 256) / 65536) := lN_add _ _
  have s6 : ((lN (bb 8 n + bb 8 n / 256 + (bb 8 n + bb 8 n / 256) / 65536)).toUInt64 >>> ((32 : Int32).toInt64.toUInt64 &&& Int64.toUInt64 63)).toInt64 = lN ((bb 8 n + bb 8 n / 256 + (bb 8 n + bb 8 n / 256) / 65536) / 4294967296) := wb_shr (k := 32) (by omega) (by omega)
  have u6 : lN (bb 8 n + bb 8 n / 256 + (bb 8 n + bb 8 n / 256) / 65536) + lN ((bb 8 n + bb 8 n / 256 + (bb 8 n + bb 8 n / 256) / 65536) / 4294967296) = lN (bb 8 n + bb 8 n / 256 + (bb 8 n + bb 8 n / 256) / 65536 + (bb 8 n + bb 8 n / 256 + (bb 8 n + bb 8 n / 256) / 65536) / 4294967296) := lN_add _ _
  have v6 : (lN (bb 8 n + bb 8 n / 256 + (bb 8 n + bb 8 n / 256) / 65536 + (bb 8 n + bb 8 n / 256 + (bb 8 n + bb 8 n / 256) / 65536) / 4294967296)).toInt32 &&& 127 = nI (pop8 n) := by
    rw [lN_i]
    have m := pk_and (nI (bb 8 n + bb 8 n / 256 + (bb 8 n + bb 8 n / 256) / 65536 + (bb 8 n + bb 8 n / 256 + (bb 8 n + bb 8 n / 256) / 65536) / 4294967296)) (m := 127) 7 rfl
    rw [m]
    have e : (nI (bb 8 n + bb 8 n / 256 + (bb 8 n + bb 8 n / 256) / 65536 + (bb 8 n + bb 8 n / 256 + (bb 8 n + bb 8 n / 256) / 65536) / 4294967296)).toBitVec.toNat = (bb 8 n + bb 8 n / 256 + (bb 8 n + bb 8 n / 256) / 65536 + (bb 8 n + bb 8 n / 256 + (bb 8 n + bb 8 n / 256) / 65536) / 4294967296) % 2 ^ 32 := rfl
    rw [e, show (2 : Nat) ^ 7 = 128 from rfl, Nat.mod_mod_of_dvd _ (by decide), b2]
  simp only [se_J13_bitCount_95d88, sm_J13_bitCount_95d88, gz_sem, gz_ae, Value.category, gz_i, gz_l, gz_nu, gz_li, gz_ll, gz_la, gz_ib, gz_iz, gz_lb, gz_lz, gz_ls, gz_lc, gz_i2l, gz_l2i, gz_get, gz_ald, gz_len, gz_dup, gz_d2, gz_nar, gz_a0, gz_a1, gz_cs, gz_cv, gz_mk, gz_te, gz_j1, gz_j2, gz_jn, gz_jk, gz_jo, gz_ja, gz_sat, gz_seti, gz_seta, gz_set2, gz_inc, gz_put, gz_ast, gz_pop, gz_vs, gz_vv, gz_sup, gz_rv, gz_ri, gz_rl, gz_ra, gz_if, gz_seq, gz_sw, gz_st, gz_st2, rok_I, rok_J, rok_V, rok_Z0, rok_Z1, rok_Zi, rok_R, rok_N, bi_rok, bi_0, bi_1, fit_I, fit_J, fit_Z0, fit_Z1, fit_Zi, fit_R, fit_N, fit_aR, aty_I, aty_Z0, aty_Z1, aty_Zi, aty_J, gz_ix, List.getElem?_cons_zero, List.getElem?_cons_succ, List.getElem?_nil, List.reverse_cons, List.reverse_nil, List.nil_append, List.cons_append, List.take_succ_cons, List.take_zero, List.take_nil, List.length_cons, List.length_nil, decide_true, decide_false, decide_not, Bool.not_true, Bool.not_false, gz_nle, if_true, if_false, and_true, true_and, and_self, and_false, false_and, or_true, true_or, or_false, false_or, Bool.false_eq_true, not_true, not_false_iff, Decidable.not_not, Nat.reduceLeDiff, Nat.reduceAdd, Nat.reduceEqDiff, Nat.reduceSub, Nat.reduceLT, Nat.zero_add, reduceCtorEq, reduceIte, eq_self, i32_10, i32_01, Nat.zero_le, Nat.one_ne_zero, s1, t1, u1, s2, t2, t2', u2, s3, u3, t3, s4, u4, s5, u5, s6, u6, v6]
