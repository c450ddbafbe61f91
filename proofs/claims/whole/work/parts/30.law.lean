abbrev M_L_law (L : Nat) (xs : Nat → Int32) (mn : String) : gz_Mi := (cL_law, 4, RL, 7, 170, mn, some (L, xs))
noncomputable def lc_0 (L : Nat) (xs : Nat → Int32) : gz_Sx := gz_if (gz_j2 (fun x y => decide (x = y)) (gz_cv 7 9 se_X7_junction (gz_a1 (gz_a0) (gz_la 1))) (gz_cv 8 48 se_X8_junction (gz_a1 (gz_a0) (gz_la 2)))) (gz_sat 1215) (gz_ri (gz_i (0)))
noncomputable def lc_1 (L : Nat) (xs : Nat → Int32) : gz_Sx := gz_if (gz_j2 (fun x y => decide (x = y)) (gz_cv 7 9 se_X7_stream (gz_a1 (gz_a1 (gz_a1 (gz_a1 (gz_a1 (gz_a1 (gz_a0) (gz_la 1)) (gz_sld L xs (gz_la 0) (gz_ib (fun x y => x + y) (gz_li 3) (gz_i (1))))) (gz_sld L xs (gz_la 0) (gz_ib (fun x y => x + y) (gz_li 3) (gz_i (2))))) (gz_sld L xs (gz_la 0) (gz_ib (fun x y => x + y) (gz_li 3) (gz_i (3))))) (gz_sld L xs (gz_la 0) (gz_ib (fun x y => x + y) (gz_li 3) (gz_i (4))))) (gz_sld L xs (gz_la 0) (gz_ib (fun x y => x + y) (gz_li 3) (gz_i (5)))))) (gz_cv 8 48 se_X8_stream (gz_a1 (gz_a1 (gz_a1 (gz_a1 (gz_a1 (gz_a1 (gz_a0) (gz_la 2)) (gz_sld L xs (gz_la 0) (gz_ib (fun x y => x + y) (gz_li 3) (gz_i (1))))) (gz_sld L xs (gz_la 0) (gz_ib (fun x y => x + y) (gz_li 3) (gz_i (2))))) (gz_sld L xs (gz_la 0) (gz_ib (fun x y => x + y) (gz_li 3) (gz_i (3))))) (gz_sld L xs (gz_la 0) (gz_ib (fun x y => x + y) (gz_li 3) (gz_i (4))))) (gz_sld L xs (gz_la 0) (gz_ib (fun x y => x + y) (gz_li 3) (gz_i (5))))))) (gz_sat 1215) (gz_ri (gz_i (0)))
noncomputable def lc_2 (L : Nat) (xs : Nat → Int32) : gz_Sx := gz_if (gz_j2 (fun x y => decide (x = y)) (gz_cv 7 9 se_X7_against (gz_a1 (gz_a1 (gz_a1 (gz_a1 (gz_a1 (gz_a1 (gz_a0) (gz_la 1)) (gz_sld L xs (gz_la 0) (gz_ib (fun x y => x + y) (gz_li 3) (gz_i (1))))) (gz_sld L xs (gz_la 0) (gz_ib (fun x y => x + y) (gz_li 3) (gz_i (2))))) (gz_sld L xs (gz_la 0) (gz_ib (fun x y => x + y) (gz_li 3) (gz_i (3))))) (gz_sld L xs (gz_la 0) (gz_ib (fun x y => x + y) (gz_li 3) (gz_i (4))))) (gz_sld L xs (gz_la 0) (gz_ib (fun x y => x + y) (gz_li 3) (gz_i (5)))))) (gz_cv 8 48 se_X8_against (gz_a1 (gz_a1 (gz_a1 (gz_a1 (gz_a1 (gz_a1 (gz_a0) (gz_la 2)) (gz_sld L xs (gz_la 0) (gz_ib (fun x y => x + y) (gz_li 3) (gz_i (1))))) (gz_sld L xs (gz_la 0) (gz_ib (fun x y => x + y) (gz_li 3) (gz_i (2))))) (gz_sld L xs (gz_la 0) (gz_ib (fun x y => x + y) (gz_li 3) (gz_i (3))))) (gz_sld L xs (gz_la 0) (gz_ib (fun x y => x + y) (gz_li 3) (gz_i (4))))) (gz_sld L xs (gz_la 0) (gz_ib (fun x y => x + y) (gz_li 3) (gz_i (5))))))) (gz_sat 1215) (gz_ri (gz_i (0)))
noncomputable def lc_3 (L : Nat) (xs : Nat → Int32) : gz_Sx := gz_if (gz_j2 (fun x y => decide (x = y)) (gz_cv 7 9 se_X7_yields (gz_a1 (gz_a1 (gz_a1 (gz_a1 (gz_a0) (gz_la 1)) (gz_sld L xs (gz_la 0) (gz_ib (fun x y => x + y) (gz_li 3) (gz_i (1))))) (gz_sld L xs (gz_la 0) (gz_ib (fun x y => x + y) (gz_li 3) (gz_i (2))))) (gz_sld L xs (gz_la 0) (gz_ib (fun x y => x + y) (gz_li 3) (gz_i (3)))))) (gz_cv 8 48 se_X8_yields (gz_a1 (gz_a1 (gz_a1 (gz_a1 (gz_a0) (gz_la 2)) (gz_sld L xs (gz_la 0) (gz_ib (fun x y => x + y) (gz_li 3) (gz_i (1))))) (gz_sld L xs (gz_la 0) (gz_ib (fun x y => x + y) (gz_li 3) (gz_i (2))))) (gz_sld L xs (gz_la 0) (gz_ib (fun x y => x + y) (gz_li 3) (gz_i (3))))))) (gz_sat 1215) (gz_ri (gz_i (0)))
noncomputable def lc_4 (L : Nat) (xs : Nat → Int32) : gz_Sx := gz_if (gz_j2 (fun x y => decide (x = y)) (gz_cv 7 9 se_X7_street (gz_a1 (gz_a1 (gz_a1 (gz_a1 (gz_a1 (gz_a1 (gz_a1 (gz_a0) (gz_la 1)) (gz_sld L xs (gz_la 0) (gz_ib (fun x y => x + y) (gz_li 3) (gz_i (1))))) (gz_sld L xs (gz_la 0) (gz_ib (fun x y => x + y) (gz_li 3) (gz_i (2))))) (gz_sld L xs (gz_la 0) (gz_ib (fun x y => x + y) (gz_li 3) (gz_i (3))))) (gz_sld L xs (gz_la 0) (gz_ib (fun x y => x + y) (gz_li 3) (gz_i (4))))) (gz_sld L xs (gz_la 0) (gz_ib (fun x y => x + y) (gz_li 3) (gz_i (5))))) (gz_sld L xs (gz_la 0) (gz_ib (fun x y => x + y) (gz_li 3) (gz_i (6)))))) (gz_cv 8 48 se_X8_street (gz_a1 (gz_a1 (gz_a1 (gz_a1 (gz_a1 (gz_a1 (gz_a1 (gz_a0) (gz_la 2)) (gz_sld L xs (gz_la 0) (gz_ib (fun x y => x + y) (gz_li 3) (gz_i (1))))) (gz_sld L xs (gz_la 0) (gz_ib (fun x y => x + y) (gz_li 3) (gz_i (2))))) (gz_sld L xs (gz_la 0) (gz_ib (fun x y => x + y) (gz_li 3) (gz_i (3))))) (gz_sld L xs (gz_la 0) (gz_ib (fun x y => x + y) (gz_li 3) (gz_i (4))))) (gz_sld L xs (gz_la 0) (gz_ib (fun x y => x + y) (gz_li 3) (gz_i (5))))) (gz_sld L xs (gz_la 0) (gz_ib (fun x y => x + y) (gz_li 3) (gz_i (6))))))) (gz_sat 1215) (gz_ri (gz_i (0)))
noncomputable def lc_5 (L : Nat) (xs : Nat → Int32) : gz_Sx := gz_if (gz_j2 (fun x y => decide (x = y)) (gz_cv 7 9 se_X7_sets (gz_a1 (gz_a1 (gz_a0) (gz_la 1)) (gz_sld L xs (gz_la 0) (gz_ib (fun x y => x + y) (gz_li 3) (gz_i (1)))))) (gz_cv 8 48 se_X8_sets (gz_a1 (gz_a1 (gz_a0) (gz_la 2)) (gz_sld L xs (gz_la 0) (gz_ib (fun x y => x + y) (gz_li 3) (gz_i (1))))))) (gz_sat 1215) (gz_ri (gz_i (0)))
noncomputable def lc_6 (L : Nat) (xs : Nat → Int32) : gz_Sx := gz_if (gz_j2 (fun x y => decide (x = y)) (gz_cv 7 9 se_X7_set (gz_a1 (gz_a1 (gz_a1 (gz_a0) (gz_la 1)) (gz_sld L xs (gz_la 0) (gz_ib (fun x y => x + y) (gz_li 3) (gz_i (1))))) (gz_sld L xs (gz_la 0) (gz_ib (fun x y => x + y) (gz_li 3) (gz_i (2)))))) (gz_cv 8 48 se_X8_set (gz_a1 (gz_a1 (gz_a1 (gz_a0) (gz_la 2)) (gz_sld L xs (gz_la 0) (gz_ib (fun x y => x + y) (gz_li 3) (gz_i (1))))) (gz_sld L xs (gz_la 0) (gz_ib (fun x y => x + y) (gz_li 3) (gz_i (2))))))) (gz_sat 1215) (gz_ri (gz_i (0)))
noncomputable def lc_7 (L : Nat) (xs : Nat → Int32) : gz_Sx := gz_if (gz_j2 (fun x y => decide (x = y)) (gz_cv 7 9 se_X7_goes (gz_a1 (gz_a1 (gz_a1 (gz_a0) (gz_la 1)) (gz_sld L xs (gz_la 0) (gz_ib (fun x y => x + y) (gz_li 3) (gz_i (1))))) (gz_sld L xs (gz_la 0) (gz_ib (fun x y => x + y) (gz_li 3) (gz_i (2)))))) (gz_cv 8 48 se_X8_goes (gz_a1 (gz_a1 (gz_a1 (gz_a0) (gz_la 2)) (gz_sld L xs (gz_la 0) (gz_ib (fun x y => x + y) (gz_li 3) (gz_i (1))))) (gz_sld L xs (gz_la 0) (gz_ib (fun x y => x + y) (gz_li 3) (gz_i (2))))))) (gz_sat 1215) (gz_ri (gz_i (0)))
noncomputable def lc_8 (L : Nat) (xs : Nat → Int32) : gz_Sx := gz_if (gz_j2 (fun x y => decide (x = y)) (gz_cv 7 9 se_X7_plan (gz_a1 (gz_a1 (gz_a1 (gz_a0) (gz_la 1)) (gz_sld L xs (gz_la 0) (gz_ib (fun x y => x + y) (gz_li 3) (gz_i (1))))) (gz_sld L xs (gz_la 0) (gz_ib (fun x y => x + y) (gz_li 3) (gz_i (2)))))) (gz_cv 8 48 se_X8_plan (gz_a1 (gz_a1 (gz_a1 (gz_a0) (gz_la 2)) (gz_sld L xs (gz_la 0) (gz_ib (fun x y => x + y) (gz_li 3) (gz_i (1))))) (gz_sld L xs (gz_la 0) (gz_ib (fun x y => x + y) (gz_li 3) (gz_i (2))))))) (gz_sat 1215) (gz_ri (gz_i (0)))
noncomputable def lc_9 (L : Nat) (xs : Nat → Int32) : gz_Sx := gz_if (gz_j2 (fun x y => decide (x = y)) (gz_cv 7 9 se_X7_stage (gz_a1 (gz_a1 (gz_a1 (gz_a1 (gz_a0) (gz_la 1)) (gz_sld L xs (gz_la 0) (gz_ib (fun x y => x + y) (gz_li 3) (gz_i (1))))) (gz_sld L xs (gz_la 0) (gz_ib (fun x y => x + y) (gz_li 3) (gz_i (2))))) (gz_sld L xs (gz_la 0) (gz_ib (fun x y => x + y) (gz_li 3) (gz_i (3)))))) (gz_cv 8 48 se_X8_stage (gz_a1 (gz_a1 (gz_a1 (gz_a1 (gz_a0) (gz_la 2)) (gz_sld L xs (gz_la 0) (gz_ib (fun x y => x + y) (gz_li 3) (gz_i (1))))) (gz_sld L xs (gz_la 0) (gz_ib (fun x y => x + y) (gz_li 3) (gz_i (2))))) (gz_sld L xs (gz_la 0) (gz_ib (fun x y => x + y) (gz_li 3) (gz_i (3))))))) (gz_sat 1215) (gz_ri (gz_i (0)))
noncomputable def lc_10 (L : Nat) (xs : Nat → Int32) : gz_Sx := gz_if (gz_j2 (fun x y => decide (x = y)) (gz_cv 7 9 se_X7_take (gz_a1 (gz_a1 (gz_a1 (gz_a0) (gz_la 1)) (gz_sld L xs (gz_la 0) (gz_ib (fun x y => x + y) (gz_li 3) (gz_i (1))))) (gz_sld L xs (gz_la 0) (gz_ib (fun x y => x + y) (gz_li 3) (gz_i (2)))))) (gz_cv 8 48 se_X8_take (gz_a1 (gz_a1 (gz_a1 (gz_a0) (gz_la 2)) (gz_sld L xs (gz_la 0) (gz_ib (fun x y => x + y) (gz_li 3) (gz_i (1))))) (gz_sld L xs (gz_la 0) (gz_ib (fun x y => x + y) (gz_li 3) (gz_i (2))))))) (gz_sat 1215) (gz_ri (gz_i (0)))
noncomputable def lc_11 (L : Nat) (xs : Nat → Int32) : gz_Sx := gz_if (gz_j2 (fun x y => decide (x = y)) (gz_cv 7 9 se_X7_why (gz_a1 (gz_a1 (gz_a0) (gz_la 1)) (gz_sld L xs (gz_la 0) (gz_ib (fun x y => x + y) (gz_li 3) (gz_i (1)))))) (gz_cv 8 48 se_X8_why (gz_a1 (gz_a1 (gz_a0) (gz_la 2)) (gz_sld L xs (gz_la 0) (gz_ib (fun x y => x + y) (gz_li 3) (gz_i (1))))))) (gz_sat 1215) (gz_ri (gz_i (0)))
noncomputable def lc_12 (L : Nat) (xs : Nat → Int32) : gz_Sx := gz_if (gz_j2 (fun x y => decide (x = y)) (gz_cv 7 9 se_X7_told (gz_a1 (gz_a1 (gz_a1 (gz_a0) (gz_la 1)) (gz_sld L xs (gz_la 0) (gz_ib (fun x y => x + y) (gz_li 3) (gz_i (1))))) (gz_sld L xs (gz_la 0) (gz_ib (fun x y => x + y) (gz_li 3) (gz_i (2)))))) (gz_cv 8 48 se_X8_told (gz_a1 (gz_a1 (gz_a1 (gz_a0) (gz_la 2)) (gz_sld L xs (gz_la 0) (gz_ib (fun x y => x + y) (gz_li 3) (gz_i (1))))) (gz_sld L xs (gz_la 0) (gz_ib (fun x y => x + y) (gz_li 3) (gz_i (2))))))) (gz_sat 1215) (gz_ri (gz_i (0)))
noncomputable def lc_13 (L : Nat) (xs : Nat → Int32) : gz_Sx := gz_if (gz_j2 (fun x y => decide (x = y)) (gz_cv 7 9 se_X7_offset (gz_a1 (gz_a1 (gz_a1 (gz_a0) (gz_la 1)) (gz_sld L xs (gz_la 0) (gz_ib (fun x y => x + y) (gz_li 3) (gz_i (1))))) (gz_sld L xs (gz_la 0) (gz_ib (fun x y => x + y) (gz_li 3) (gz_i (2)))))) (gz_cv 8 48 se_X8_offset (gz_a1 (gz_a1 (gz_a1 (gz_a0) (gz_la 2)) (gz_sld L xs (gz_la 0) (gz_ib (fun x y => x + y) (gz_li 3) (gz_i (1))))) (gz_sld L xs (gz_la 0) (gz_ib (fun x y => x + y) (gz_li 3) (gz_i (2))))))) (gz_sat 1215) (gz_ri (gz_i (0)))
noncomputable def lc_14 (L : Nat) (xs : Nat → Int32) : gz_Sx := gz_if (gz_j2 (fun x y => decide (x = y)) (gz_cv 7 9 se_X7_tear (gz_a1 (gz_a1 (gz_a1 (gz_a0) (gz_la 1)) (gz_sld L xs (gz_la 0) (gz_ib (fun x y => x + y) (gz_li 3) (gz_i (1))))) (gz_sld L xs (gz_la 0) (gz_ib (fun x y => x + y) (gz_li 3) (gz_i (2)))))) (gz_cv 8 48 se_X8_tear (gz_a1 (gz_a1 (gz_a1 (gz_a0) (gz_la 2)) (gz_sld L xs (gz_la 0) (gz_ib (fun x y => x + y) (gz_li 3) (gz_i (1))))) (gz_sld L xs (gz_la 0) (gz_ib (fun x y => x + y) (gz_li 3) (gz_i (2))))))) (gz_sat 1215) (gz_ri (gz_i (0)))
noncomputable def lc_15 (L : Nat) (xs : Nat → Int32) : gz_Sx := gz_if (gz_j2 (fun x y => decide (x = y)) (gz_cv 7 9 se_X7_share (gz_a1 (gz_a1 (gz_a0) (gz_la 1)) (gz_sld L xs (gz_la 0) (gz_ib (fun x y => x + y) (gz_li 3) (gz_i (1)))))) (gz_cv 8 48 se_X8_share (gz_a1 (gz_a1 (gz_a0) (gz_la 2)) (gz_sld L xs (gz_la 0) (gz_ib (fun x y => x + y) (gz_li 3) (gz_i (1))))))) (gz_sat 1215) (gz_ri (gz_i (0)))
noncomputable def lc_16 (L : Nat) (xs : Nat → Int32) : gz_Sx := gz_if (gz_j2 (fun x y => decide (x = y)) (gz_cv 7 9 se_X7_fit (gz_a1 (gz_a1 (gz_a1 (gz_a0) (gz_la 1)) (gz_sld L xs (gz_la 0) (gz_ib (fun x y => x + y) (gz_li 3) (gz_i (1))))) (gz_sld L xs (gz_la 0) (gz_ib (fun x y => x + y) (gz_li 3) (gz_i (2)))))) (gz_cv 8 48 se_X8_fit (gz_a1 (gz_a1 (gz_a1 (gz_a0) (gz_la 2)) (gz_sld L xs (gz_la 0) (gz_ib (fun x y => x + y) (gz_li 3) (gz_i (1))))) (gz_sld L xs (gz_la 0) (gz_ib (fun x y => x + y) (gz_li 3) (gz_i (2))))))) (gz_sat 1215) (gz_ri (gz_i (0)))
noncomputable def lc_17 (L : Nat) (xs : Nat → Int32) : gz_Sx := gz_if (gz_j2 (fun x y => decide (x = y)) (gz_cv 7 9 se_X7_green (gz_a1 (gz_a1 (gz_a1 (gz_a0) (gz_la 1)) (gz_sld L xs (gz_la 0) (gz_ib (fun x y => x + y) (gz_li 3) (gz_i (1))))) (gz_sld L xs (gz_la 0) (gz_ib (fun x y => x + y) (gz_li 3) (gz_i (2)))))) (gz_cv 8 48 se_X8_green (gz_a1 (gz_a1 (gz_a1 (gz_a0) (gz_la 2)) (gz_sld L xs (gz_la 0) (gz_ib (fun x y => x + y) (gz_li 3) (gz_i (1))))) (gz_sld L xs (gz_la 0) (gz_ib (fun x y => x + y) (gz_li 3) (gz_i (2))))))) (gz_sat 1215) (gz_ri (gz_i (0)))
noncomputable def lc_18 (L : Nat) (xs : Nat → Int32) : gz_Sx := gz_if (gz_j2 (fun x y => decide (x = y)) (gz_cv 7 9 se_X7_lamp (gz_a1 (gz_a1 (gz_a1 (gz_a1 (gz_a0) (gz_la 1)) (gz_sld L xs (gz_la 0) (gz_ib (fun x y => x + y) (gz_li 3) (gz_i (1))))) (gz_sld L xs (gz_la 0) (gz_ib (fun x y => x + y) (gz_li 3) (gz_i (2))))) (gz_sld L xs (gz_la 0) (gz_ib (fun x y => x + y) (gz_li 3) (gz_i (3)))))) (gz_cv 8 48 se_X8_lamp (gz_a1 (gz_a1 (gz_a1 (gz_a1 (gz_a0) (gz_la 2)) (gz_sld L xs (gz_la 0) (gz_ib (fun x y => x + y) (gz_li 3) (gz_i (1))))) (gz_sld L xs (gz_la 0) (gz_ib (fun x y => x + y) (gz_li 3) (gz_i (2))))) (gz_sld L xs (gz_la 0) (gz_ib (fun x y => x + y) (gz_li 3) (gz_i (3))))))) (gz_sat 1215) (gz_ri (gz_i (0)))
noncomputable def lc_19 (L : Nat) (xs : Nat → Int32) : gz_Sx := gz_if (gz_j2 (fun x y => decide (x = y)) (gz_cv 7 9 se_X7_run (gz_a1 (gz_a1 (gz_a0) (gz_la 1)) (gz_sld L xs (gz_la 0) (gz_ib (fun x y => x + y) (gz_li 3) (gz_i (1)))))) (gz_cv 8 48 se_X8_run (gz_a1 (gz_a1 (gz_a0) (gz_la 2)) (gz_sld L xs (gz_la 0) (gz_ib (fun x y => x + y) (gz_li 3) (gz_i (1))))))) (gz_sat 1215) (gz_ri (gz_i (0)))
noncomputable def lc_20 (L : Nat) (xs : Nat → Int32) : gz_Sx := gz_if (gz_j1 (fun x => decide (x = 0)) (gz_lc (gz_cv 7 9 se_X7_queue (gz_a1 (gz_a1 (gz_a1 (gz_a1 (gz_a0) (gz_la 1)) (gz_sld L xs (gz_la 0) (gz_ib (fun x y => x + y) (gz_li 3) (gz_i (1))))) (gz_sld L xs (gz_la 0) (gz_ib (fun x y => x + y) (gz_li 3) (gz_i (2))))) (gz_sld L xs (gz_la 0) (gz_ib (fun x y => x + y) (gz_li 3) (gz_i (3)))))) (gz_cv 8 48 se_X8_queue (gz_a1 (gz_a1 (gz_a1 (gz_a1 (gz_a0) (gz_la 2)) (gz_sld L xs (gz_la 0) (gz_ib (fun x y => x + y) (gz_li 3) (gz_i (1))))) (gz_sld L xs (gz_la 0) (gz_ib (fun x y => x + y) (gz_li 3) (gz_i (2))))) (gz_sld L xs (gz_la 0) (gz_ib (fun x y => x + y) (gz_li 3) (gz_i (3)))))))) (gz_sat 1215) (gz_ri (gz_i (0)))
noncomputable def lc_21 (L : Nat) (xs : Nat → Int32) : gz_Sx := gz_if (gz_j2 (fun x y => decide (x = y)) (gz_cv 7 9 se_X7_count (gz_a1 (gz_a1 (gz_a0) (gz_la 1)) (gz_sld L xs (gz_la 0) (gz_ib (fun x y => x + y) (gz_li 3) (gz_i (1)))))) (gz_cv 8 48 se_X8_count (gz_a1 (gz_a1 (gz_a0) (gz_la 2)) (gz_sld L xs (gz_la 0) (gz_ib (fun x y => x + y) (gz_li 3) (gz_i (1))))))) (gz_sat 1215) (gz_ri (gz_i (0)))
noncomputable def lc_22 (L : Nat) (xs : Nat → Int32) : gz_Sx := gz_if (gz_j2 (fun x y => decide (x = y)) (gz_cv 7 9 se_X7_flashes (gz_a1 (gz_a1 (gz_a0) (gz_la 1)) (gz_sld L xs (gz_la 0) (gz_ib (fun x y => x + y) (gz_li 3) (gz_i (1)))))) (gz_cv 8 48 se_X8_flashes (gz_a1 (gz_a1 (gz_a0) (gz_la 2)) (gz_sld L xs (gz_la 0) (gz_ib (fun x y => x + y) (gz_li 3) (gz_i (1))))))) (gz_sat 1215) (gz_ri (gz_i (0)))
noncomputable def lc_23 (L : Nat) (xs : Nat → Int32) : gz_Sx := gz_if (gz_j2 (fun x y => decide (x = y)) (gz_cv 7 9 se_X7_width (gz_a1 (gz_a1 (gz_a1 (gz_a1 (gz_a1 (gz_a1 (gz_a1 (gz_a1 (gz_a1 (gz_a0) (gz_la 1)) (gz_sld L xs (gz_la 0) (gz_ib (fun x y => x + y) (gz_li 3) (gz_i (1))))) (gz_sld L xs (gz_la 0) (gz_ib (fun x y => x + y) (gz_li 3) (gz_i (2))))) (gz_sld L xs (gz_la 0) (gz_ib (fun x y => x + y) (gz_li 3) (gz_i (3))))) (gz_sld L xs (gz_la 0) (gz_ib (fun x y => x + y) (gz_li 3) (gz_i (4))))) (gz_sld L xs (gz_la 0) (gz_ib (fun x y => x + y) (gz_li 3) (gz_i (5))))) (gz_sld L xs (gz_la 0) (gz_ib (fun x y => x + y) (gz_li 3) (gz_i (6))))) (gz_sld L xs (gz_la 0) (gz_ib (fun x y => x + y) (gz_li 3) (gz_i (7))))) (gz_sld L xs (gz_la 0) (gz_ib (fun x y => x + y) (gz_li 3) (gz_i (8)))))) (gz_cv 8 48 se_X8_width (gz_a1 (gz_a1 (gz_a1 (gz_a1 (gz_a1 (gz_a1 (gz_a1 (gz_a1 (gz_a1 (gz_a0) (gz_la 2)) (gz_sld L xs (gz_la 0) (gz_ib (fun x y => x + y) (gz_li 3) (gz_i (1))))) (gz_sld L xs (gz_la 0) (gz_ib (fun x y => x + y) (gz_li 3) (gz_i (2))))) (gz_sld L xs (gz_la 0) (gz_ib (fun x y => x + y) (gz_li 3) (gz_i (3))))) (gz_sld L xs (gz_la 0) (gz_ib (fun x y => x + y) (gz_li 3) (gz_i (4))))) (gz_sld L xs (gz_la 0) (gz_ib (fun x y => x + y) (gz_li 3) (gz_i (5))))) (gz_sld L xs (gz_la 0) (gz_ib (fun x y => x + y) (gz_li 3) (gz_i (6))))) (gz_sld L xs (gz_la 0) (gz_ib (fun x y => x + y) (gz_li 3) (gz_i (7))))) (gz_sld L xs (gz_la 0) (gz_ib (fun x y => x + y) (gz_li 3) (gz_i (8))))))) (gz_sat 1215) (gz_ri (gz_i (0)))
noncomputable def lc_24 (L : Nat) (xs : Nat → Int32) : gz_Sx := gz_if (gz_j2 (fun x y => decide (x = y)) (gz_cv 7 9 se_X7_wave (gz_a1 (gz_a1 (gz_a1 (gz_a1 (gz_a1 (gz_a1 (gz_a1 (gz_a1 (gz_a1 (gz_a0) (gz_la 1)) (gz_sld L xs (gz_la 0) (gz_ib (fun x y => x + y) (gz_li 3) (gz_i (1))))) (gz_sld L xs (gz_la 0) (gz_ib (fun x y => x + y) (gz_li 3) (gz_i (2))))) (gz_sld L xs (gz_la 0) (gz_ib (fun x y => x + y) (gz_li 3) (gz_i (3))))) (gz_sld L xs (gz_la 0) (gz_ib (fun x y => x + y) (gz_li 3) (gz_i (4))))) (gz_sld L xs (gz_la 0) (gz_ib (fun x y => x + y) (gz_li 3) (gz_i (5))))) (gz_sld L xs (gz_la 0) (gz_ib (fun x y => x + y) (gz_li 3) (gz_i (6))))) (gz_sld L xs (gz_la 0) (gz_ib (fun x y => x + y) (gz_li 3) (gz_i (7))))) (gz_sld L xs (gz_la 0) (gz_ib (fun x y => x + y) (gz_li 3) (gz_i (8)))))) (gz_cv 8 48 se_X8_wave (gz_a1 (gz_a1 (gz_a1 (gz_a1 (gz_a1 (gz_a1 (gz_a1 (gz_a1 (gz_a1 (gz_a0) (gz_la 2)) (gz_sld L xs (gz_la 0) (gz_ib (fun x y => x + y) (gz_li 3) (gz_i (1))))) (gz_sld L xs (gz_la 0) (gz_ib (fun x y => x + y) (gz_li 3) (gz_i (2))))) (gz_sld L xs (gz_la 0) (gz_ib (fun x y => x + y) (gz_li 3) (gz_i (3))))) (gz_sld L xs (gz_la 0) (gz_ib (fun x y => x + y) (gz_li 3) (gz_i (4))))) (gz_sld L xs (gz_la 0) (gz_ib (fun x y => x + y) (gz_li 3) (gz_i (5))))) (gz_sld L xs (gz_la 0) (gz_ib (fun x y => x + y) (gz_li 3) (gz_i (6))))) (gz_sld L xs (gz_la 0) (gz_ib (fun x y => x + y) (gz_li 3) (gz_i (7))))) (gz_sld L xs (gz_la 0) (gz_ib (fun x y => x + y) (gz_li 3) (gz_i (8))))))) (gz_sat 1215) (gz_ri (gz_i (0)))
noncomputable def lc_25 (L : Nat) (xs : Nat → Int32) : gz_Sx := gz_if (gz_j2 (fun x y => decide (x = y)) (gz_cv 7 9 se_X7_check (gz_a1 (gz_a1 (gz_a1 (gz_a1 (gz_a0) (gz_la 1)) (gz_sld L xs (gz_la 0) (gz_ib (fun x y => x + y) (gz_li 3) (gz_i (1))))) (gz_sld L xs (gz_la 0) (gz_ib (fun x y => x + y) (gz_li 3) (gz_i (2))))) (gz_sld L xs (gz_la 0) (gz_ib (fun x y => x + y) (gz_li 3) (gz_i (3)))))) (gz_cv 8 48 se_X8_check (gz_a1 (gz_a1 (gz_a1 (gz_a1 (gz_a0) (gz_la 2)) (gz_sld L xs (gz_la 0) (gz_ib (fun x y => x + y) (gz_li 3) (gz_i (1))))) (gz_sld L xs (gz_la 0) (gz_ib (fun x y => x + y) (gz_li 3) (gz_i (2))))) (gz_sld L xs (gz_la 0) (gz_ib (fun x y => x + y) (gz_li 3) (gz_i (3))))))) (gz_sat 1215) (gz_ri (gz_i (0)))
noncomputable def lb_L (L : Nat) (xs : Nat → Int32) : gz_Sx := gz_if (gz_j2 (fun x y => decide (y < x)) (gz_li 3) (gz_ib (fun x y => x - y) (gz_sln L (gz_la 0)) (gz_i (9)))) (gz_sat 1221) (gz_seq 1215 4 (gz_sw (gz_ib (fun x y => x &&& y) (gz_sld L xs (gz_la 0) (gz_li 3)) (gz_i (31))) 0 [lc_0 L xs, lc_1 L xs, lc_2 L xs, lc_3 L xs, lc_4 L xs, lc_5 L xs, lc_6 L xs, lc_7 L xs, lc_8 L xs, lc_9 L xs, lc_10 L xs, lc_11 L xs, lc_12 L xs, lc_13 L xs, lc_14 L xs, lc_15 L xs, lc_16 L xs, lc_17 L xs, lc_18 L xs, lc_19 L xs, lc_20 L xs, lc_21 L xs, lc_22 L xs, lc_23 L xs, lc_24 L xs, lc_25 L xs] (gz_sat 1215)) (gz_inc 3 (9) (gz_sat 18)))
noncomputable def lp_L : gz_Sx := gz_seta 1 (gz_mk 7 9 (fun j => defaultValue (tyX7 j)) se_X7_init (gz_a0)) (gz_seta 2 (gz_mk 8 48 (fun j => defaultValue (tyX8 j)) se_X8_init (gz_a0)) (gz_seti 3 (gz_i (0)) (gz_sat 18)))
noncomputable def lq_L : gz_Sx := gz_ri (gz_i (1))
set_option maxRecDepth 100000 in
theorem okc_0 (L : Nat) (xs : Nat → Int32) (mn : String) : gz_OkS (M_L_law L xs mn) 6 299 152 (lc_0 L xs) := by
  have q1 : gz_OkA (M_L_law L xs mn) 0 0 0 152 152 0 _ := ok_a0
  have q2 : gz_OkE (M_L_law L xs mn) 0 0 0 152 153 _ := ok_aload_n (i := 1) dL_law_152 rfl
  have q3 : gz_OkA (M_L_law L xs mn) 0 0 0 152 153 1 _ := ok_a1 q1 q2
  have q4 : gz_OkE (M_L_law L xs mn) 0 6 299 152 156 _ := ok_cv q3 mt_X7_junction cl_7 wd_182 wd_183 de_X7_junction (Nat.le_of_ble_eq_true rfl) (Nat.le_of_ble_eq_true rfl) wd_184 wd_185 wd_186 dL_law_153 (by decide)
  have q5 : gz_OkA (M_L_law L xs mn) 1 0 0 156 156 0 _ := ok_a0
  have q6 : gz_OkE (M_L_law L xs mn) 1 0 0 156 157 _ := ok_aload_n (i := 2) dL_law_156 rfl
  have q7 : gz_OkA (M_L_law L xs mn) 1 0 0 156 157 1 _ := ok_a1 q5 q6
  have q8 : gz_OkE (M_L_law L xs mn) 1 0 0 156 160 _ := ok_cv q7 mt_X8_junction cl_8 wd_187 wd_188 de_X8_junction (Nat.le_of_ble_eq_true rfl) (Nat.le_of_ble_eq_true rfl) wd_189 wd_190 wd_191 dL_law_157 (by decide)
  have q9 : gz_OkJ (M_L_law L xs mn) 0 6 299 152 1215 163 _ := ok_ic_eq q4 q8 dL_law_160 (by decide)
  have q10 : gz_OkS (M_L_law L xs mn) 0 0 1215 _ := ok_at
  have q11 : gz_OkE (M_L_law L xs mn) 0 0 0 163 164 _ := ok_iconst (v := 0) dL_law_163 kc_i0
  have q12 : gz_OkS (M_L_law L xs mn) 0 0 163 _ := ok_ri q11 dL_law_164
  have q13 : gz_OkS (M_L_law L xs mn) 6 299 152 _ := ok_if q9 q10 q12
  exact q13
set_option maxRecDepth 100000 in
theorem okc_1 (L : Nat) (xs : Nat → Int32) (mn : String) : gz_OkS (M_L_law L xs mn) 1 14 165 (lc_1 L xs) := by
  have q1 : gz_OkA (M_L_law L xs mn) 0 0 0 165 165 0 _ := ok_a0
  have q2 : gz_OkE (M_L_law L xs mn) 0 0 0 165 166 _ := ok_aload_n (i := 1) dL_law_165 rfl
  have q3 : gz_OkA (M_L_law L xs mn) 0 0 0 165 166 1 _ := ok_a1 q1 q2
  have q4 : gz_OkE (M_L_law L xs mn) 2 0 0 166 167 _ := ok_aload_n (i := 0) dL_law_166 rfl
  have q5 : gz_OkE (M_L_law L xs mn) 3 0 0 167 168 _ := ok_iload_n (i := 3) dL_law_167 rfl
  have q6 : gz_OkE (M_L_law L xs mn) 4 0 0 168 169 _ := ok_iconst (v := 1) dL_law_168 kc_i1
  have q7 : gz_OkE (M_L_law L xs mn) 3 0 0 167 170 _ := ok_iadd q5 q6 dL_law_169
  have q8 : gz_OkE (M_L_law L xs mn) 2 0 0 166 171 _ := ok_sld (L := L) (xs := xs) rfl q4 q7 dL_law_170
  have q9 : gz_OkA (M_L_law L xs mn) 0 0 0 165 171 2 _ := ok_a1 q3 q8
  have q10 : gz_OkE (M_L_law L xs mn) 4 0 0 171 172 _ := ok_aload_n (i := 0) dL_law_171 rfl
  have q11 : gz_OkE (M_L_law L xs mn) 5 0 0 172 173 _ := ok_iload_n (i := 3) dL_law_172 rfl
  have q12 : gz_OkE (M_L_law L xs mn) 6 0 0 173 174 _ := ok_iconst (v := 2) dL_law_173 kc_i2
  have q13 : gz_OkE (M_L_law L xs mn) 5 0 0 172 175 _ := ok_iadd q11 q12 dL_law_174
  have q14 : gz_OkE (M_L_law L xs mn) 4 0 0 171 176 _ := ok_sld (L := L) (xs := xs) rfl q10 q13 dL_law_175
  have q15 : gz_OkA (M_L_law L xs mn) 0 0 0 165 176 3 _ := ok_a1 q9 q14
  have q16 : gz_OkE (M_L_law L xs mn) 6 0 0 176 177 _ := ok_aload_n (i := 0) dL_law_176 rfl
  have q17 : gz_OkE (M_L_law L xs mn) 7 0 0 177 178 _ := ok_iload_n (i := 3) dL_law_177 rfl
  have q18 : gz_OkE (M_L_law L xs mn) 8 0 0 178 179 _ := ok_iconst (v := 3) dL_law_178 kc_i3
  have q19 : gz_OkE (M_L_law L xs mn) 7 0 0 177 180 _ := ok_iadd q17 q18 dL_law_179
  have q20 : gz_OkE (M_L_law L xs mn) 6 0 0 176 181 _ := ok_sld (L := L) (xs := xs) rfl q16 q19 dL_law_180
  have q21 : gz_OkA (M_L_law L xs mn) 0 0 0 165 181 4 _ := ok_a1 q15 q20
  have q22 : gz_OkE (M_L_law L xs mn) 8 0 0 181 182 _ := ok_aload_n (i := 0) dL_law_181 rfl
  have q23 : gz_OkE (M_L_law L xs mn) 9 0 0 182 183 _ := ok_iload_n (i := 3) dL_law_182 rfl
  have q24 : gz_OkE (M_L_law L xs mn) 10 0 0 183 184 _ := ok_iconst (v := 4) dL_law_183 kc_i4
  have q25 : gz_OkE (M_L_law L xs mn) 9 0 0 182 185 _ := ok_iadd q23 q24 dL_law_184
  have q26 : gz_OkE (M_L_law L xs mn) 8 0 0 181 186 _ := ok_sld (L := L) (xs := xs) rfl q22 q25 dL_law_185
  have q27 : gz_OkA (M_L_law L xs mn) 0 0 0 165 186 5 _ := ok_a1 q21 q26
  have q28 : gz_OkE (M_L_law L xs mn) 10 0 0 186 187 _ := ok_aload_n (i := 0) dL_law_186 rfl
  have q29 : gz_OkE (M_L_law L xs mn) 11 0 0 187 188 _ := ok_iload_n (i := 3) dL_law_187 rfl
  have q30 : gz_OkE (M_L_law L xs mn) 12 0 0 188 189 _ := ok_iconst (v := 5) dL_law_188 kc_i5
  have q31 : gz_OkE (M_L_law L xs mn) 11 0 0 187 190 _ := ok_iadd q29 q30 dL_law_189
  have q32 : gz_OkE (M_L_law L xs mn) 10 0 0 186 191 _ := ok_sld (L := L) (xs := xs) rfl q28 q31 dL_law_190
  have q33 : gz_OkA (M_L_law L xs mn) 0 0 0 165 191 6 _ := ok_a1 q27 q32
  have q34 : gz_OkE (M_L_law L xs mn) 0 1 14 165 194 _ := ok_cv q33 mt_X7_stream cl_7 wd_192 wd_183 de_X7_stream (Nat.le_of_ble_eq_true rfl) (Nat.le_of_ble_eq_true rfl) wd_193 wd_194 wd_195 dL_law_191 (by decide)
  have q35 : gz_OkA (M_L_law L xs mn) 1 0 0 194 194 0 _ := ok_a0
  have q36 : gz_OkE (M_L_law L xs mn) 1 0 0 194 195 _ := ok_aload_n (i := 2) dL_law_194 rfl
  have q37 : gz_OkA (M_L_law L xs mn) 1 0 0 194 195 1 _ := ok_a1 q35 q36
  have q38 : gz_OkE (M_L_law L xs mn) 3 0 0 195 196 _ := ok_aload_n (i := 0) dL_law_195 rfl
  have q39 : gz_OkE (M_L_law L xs mn) 4 0 0 196 197 _ := ok_iload_n (i := 3) dL_law_196 rfl
  have q40 : gz_OkE (M_L_law L xs mn) 5 0 0 197 198 _ := ok_iconst (v := 1) dL_law_197 kc_i1
  have q41 : gz_OkE (M_L_law L xs mn) 4 0 0 196 199 _ := ok_iadd q39 q40 dL_law_198
  have q42 : gz_OkE (M_L_law L xs mn) 3 0 0 195 200 _ := ok_sld (L := L) (xs := xs) rfl q38 q41 dL_law_199
  have q43 : gz_OkA (M_L_law L xs mn) 1 0 0 194 200 2 _ := ok_a1 q37 q42
  have q44 : gz_OkE (M_L_law L xs mn) 5 0 0 200 201 _ := ok_aload_n (i := 0) dL_law_200 rfl
  have q45 : gz_OkE (M_L_law L xs mn) 6 0 0 201 202 _ := ok_iload_n (i := 3) dL_law_201 rfl
  have q46 : gz_OkE (M_L_law L xs mn) 7 0 0 202 203 _ := ok_iconst (v := 2) dL_law_202 kc_i2
  have q47 : gz_OkE (M_L_law L xs mn) 6 0 0 201 204 _ := ok_iadd q45 q46 dL_law_203
  have q48 : gz_OkE (M_L_law L xs mn) 5 0 0 200 205 _ := ok_sld (L := L) (xs := xs) rfl q44 q47 dL_law_204
  have q49 : gz_OkA (M_L_law L xs mn) 1 0 0 194 205 3 _ := ok_a1 q43 q48
  have q50 : gz_OkE (M_L_law L xs mn) 7 0 0 205 206 _ := ok_aload_n (i := 0) dL_law_205 rfl
  have q51 : gz_OkE (M_L_law L xs mn) 8 0 0 206 207 _ := ok_iload_n (i := 3) dL_law_206 rfl
  have q52 : gz_OkE (M_L_law L xs mn) 9 0 0 207 208 _ := ok_iconst (v := 3) dL_law_207 kc_i3
  have q53 : gz_OkE (M_L_law L xs mn) 8 0 0 206 209 _ := ok_iadd q51 q52 dL_law_208
  have q54 : gz_OkE (M_L_law L xs mn) 7 0 0 205 210 _ := ok_sld (L := L) (xs := xs) rfl q50 q53 dL_law_209
  have q55 : gz_OkA (M_L_law L xs mn) 1 0 0 194 210 4 _ := ok_a1 q49 q54
  have q56 : gz_OkE (M_L_law L xs mn) 9 0 0 210 211 _ := ok_aload_n (i := 0) dL_law_210 rfl
  have q57 : gz_OkE (M_L_law L xs mn) 10 0 0 211 212 _ := ok_iload_n (i := 3) dL_law_211 rfl
  have q58 : gz_OkE (M_L_law L xs mn) 11 0 0 212 213 _ := ok_iconst (v := 4) dL_law_212 kc_i4
  have q59 : gz_OkE (M_L_law L xs mn) 10 0 0 211 214 _ := ok_iadd q57 q58 dL_law_213
  have q60 : gz_OkE (M_L_law L xs mn) 9 0 0 210 215 _ := ok_sld (L := L) (xs := xs) rfl q56 q59 dL_law_214
  have q61 : gz_OkA (M_L_law L xs mn) 1 0 0 194 215 5 _ := ok_a1 q55 q60
  have q62 : gz_OkE (M_L_law L xs mn) 11 0 0 215 216 _ := ok_aload_n (i := 0) dL_law_215 rfl
  have q63 : gz_OkE (M_L_law L xs mn) 12 0 0 216 217 _ := ok_iload_n (i := 3) dL_law_216 rfl
  have q64 : gz_OkE (M_L_law L xs mn) 13 0 0 217 218 _ := ok_iconst (v := 5) dL_law_217 kc_i5
  have q65 : gz_OkE (M_L_law L xs mn) 12 0 0 216 219 _ := ok_iadd q63 q64 dL_law_218
  have q66 : gz_OkE (M_L_law L xs mn) 11 0 0 215 220 _ := ok_sld (L := L) (xs := xs) rfl q62 q65 dL_law_219
  have q67 : gz_OkA (M_L_law L xs mn) 1 0 0 194 220 6 _ := ok_a1 q61 q66
  have q68 : gz_OkE (M_L_law L xs mn) 1 0 0 194 223 _ := ok_cv q67 mt_X8_stream cl_8 wd_196 wd_188 de_X8_stream (Nat.le_of_ble_eq_true rfl) (Nat.le_of_ble_eq_true rfl) wd_197 wd_198 wd_199 dL_law_220 (by decide)
  have q69 : gz_OkJ (M_L_law L xs mn) 0 1 14 165 1215 226 _ := ok_ic_eq q34 q68 dL_law_223 (by decide)
  have q70 : gz_OkS (M_L_law L xs mn) 0 0 1215 _ := ok_at
  have q71 : gz_OkE (M_L_law L xs mn) 0 0 0 226 227 _ := ok_iconst (v := 0) dL_law_226 kc_i0
  have q72 : gz_OkS (M_L_law L xs mn) 0 0 226 _ := ok_ri q71 dL_law_227
  have q73 : gz_OkS (M_L_law L xs mn) 1 14 165 _ := ok_if q69 q70 q72
  exact q73
set_option maxRecDepth 100000 in
theorem okc_2 (L : Nat) (xs : Nat → Int32) (mn : String) : gz_OkS (M_L_law L xs mn) 0 0 228 (lc_2 L xs) := by
  have q1 : gz_OkA (M_L_law L xs mn) 0 0 0 228 228 0 _ := ok_a0
  have q2 : gz_OkE (M_L_law L xs mn) 0 0 0 228 229 _ := ok_aload_n (i := 1) dL_law_228 rfl
  have q3 : gz_OkA (M_L_law L xs mn) 0 0 0 228 229 1 _ := ok_a1 q1 q2
  have q4 : gz_OkE (M_L_law L xs mn) 2 0 0 229 230 _ := ok_aload_n (i := 0) dL_law_229 rfl
  have q5 : gz_OkE (M_L_law L xs mn) 3 0 0 230 231 _ := ok_iload_n (i := 3) dL_law_230 rfl
  have q6 : gz_OkE (M_L_law L xs mn) 4 0 0 231 232 _ := ok_iconst (v := 1) dL_law_231 kc_i1
  have q7 : gz_OkE (M_L_law L xs mn) 3 0 0 230 233 _ := ok_iadd q5 q6 dL_law_232
  have q8 : gz_OkE (M_L_law L xs mn) 2 0 0 229 234 _ := ok_sld (L := L) (xs := xs) rfl q4 q7 dL_law_233
  have q9 : gz_OkA (M_L_law L xs mn) 0 0 0 228 234 2 _ := ok_a1 q3 q8
  have q10 : gz_OkE (M_L_law L xs mn) 4 0 0 234 235 _ := ok_aload_n (i := 0) dL_law_234 rfl
  have q11 : gz_OkE (M_L_law L xs mn) 5 0 0 235 236 _ := ok_iload_n (i := 3) dL_law_235 rfl
  have q12 : gz_OkE (M_L_law L xs mn) 6 0 0 236 237 _ := ok_iconst (v := 2) dL_law_236 kc_i2
  have q13 : gz_OkE (M_L_law L xs mn) 5 0 0 235 238 _ := ok_iadd q11 q12 dL_law_237
  have q14 : gz_OkE (M_L_law L xs mn) 4 0 0 234 239 _ := ok_sld (L := L) (xs := xs) rfl q10 q13 dL_law_238
  have q15 : gz_OkA (M_L_law L xs mn) 0 0 0 228 239 3 _ := ok_a1 q9 q14
  have q16 : gz_OkE (M_L_law L xs mn) 6 0 0 239 240 _ := ok_aload_n (i := 0) dL_law_239 rfl
  have q17 : gz_OkE (M_L_law L xs mn) 7 0 0 240 241 _ := ok_iload_n (i := 3) dL_law_240 rfl
  have q18 : gz_OkE (M_L_law L xs mn) 8 0 0 241 242 _ := ok_iconst (v := 3) dL_law_241 kc_i3
  have q19 : gz_OkE (M_L_law L xs mn) 7 0 0 240 243 _ := ok_iadd q17 q18 dL_law_242
  have q20 : gz_OkE (M_L_law L xs mn) 6 0 0 239 244 _ := ok_sld (L := L) (xs := xs) rfl q16 q19 dL_law_243
  have q21 : gz_OkA (M_L_law L xs mn) 0 0 0 228 244 4 _ := ok_a1 q15 q20
  have q22 : gz_OkE (M_L_law L xs mn) 8 0 0 244 245 _ := ok_aload_n (i := 0) dL_law_244 rfl
  have q23 : gz_OkE (M_L_law L xs mn) 9 0 0 245 246 _ := ok_iload_n (i := 3) dL_law_245 rfl
  have q24 : gz_OkE (M_L_law L xs mn) 10 0 0 246 247 _ := ok_iconst (v := 4) dL_law_246 kc_i4
  have q25 : gz_OkE (M_L_law L xs mn) 9 0 0 245 248 _ := ok_iadd q23 q24 dL_law_247
  have q26 : gz_OkE (M_L_law L xs mn) 8 0 0 244 249 _ := ok_sld (L := L) (xs := xs) rfl q22 q25 dL_law_248
  have q27 : gz_OkA (M_L_law L xs mn) 0 0 0 228 249 5 _ := ok_a1 q21 q26
  have q28 : gz_OkE (M_L_law L xs mn) 10 0 0 249 250 _ := ok_aload_n (i := 0) dL_law_249 rfl
  have q29 : gz_OkE (M_L_law L xs mn) 11 0 0 250 251 _ := ok_iload_n (i := 3) dL_law_250 rfl
  have q30 : gz_OkE (M_L_law L xs mn) 12 0 0 251 252 _ := ok_iconst (v := 5) dL_law_251 kc_i5
  have q31 : gz_OkE (M_L_law L xs mn) 11 0 0 250 253 _ := ok_iadd q29 q30 dL_law_252
  have q32 : gz_OkE (M_L_law L xs mn) 10 0 0 249 254 _ := ok_sld (L := L) (xs := xs) rfl q28 q31 dL_law_253
  have q33 : gz_OkA (M_L_law L xs mn) 0 0 0 228 254 6 _ := ok_a1 q27 q32
  have q34 : gz_OkE (M_L_law L xs mn) 0 0 0 228 257 _ := ok_cv q33 mt_X7_against cl_7 wd_200 wd_183 de_X7_against (Nat.le_of_ble_eq_true rfl) (Nat.le_of_ble_eq_true rfl) wd_201 wd_202 wd_203 dL_law_254 (by decide)
  have q35 : gz_OkA (M_L_law L xs mn) 1 0 0 257 257 0 _ := ok_a0
  have q36 : gz_OkE (M_L_law L xs mn) 1 0 0 257 258 _ := ok_aload_n (i := 2) dL_law_257 rfl
  have q37 : gz_OkA (M_L_law L xs mn) 1 0 0 257 258 1 _ := ok_a1 q35 q36
  have q38 : gz_OkE (M_L_law L xs mn) 3 0 0 258 259 _ := ok_aload_n (i := 0) dL_law_258 rfl
  have q39 : gz_OkE (M_L_law L xs mn) 4 0 0 259 260 _ := ok_iload_n (i := 3) dL_law_259 rfl
  have q40 : gz_OkE (M_L_law L xs mn) 5 0 0 260 261 _ := ok_iconst (v := 1) dL_law_260 kc_i1
  have q41 : gz_OkE (M_L_law L xs mn) 4 0 0 259 262 _ := ok_iadd q39 q40 dL_law_261
  have q42 : gz_OkE (M_L_law L xs mn) 3 0 0 258 263 _ := ok_sld (L := L) (xs := xs) rfl q38 q41 dL_law_262
  have q43 : gz_OkA (M_L_law L xs mn) 1 0 0 257 263 2 _ := ok_a1 q37 q42
  have q44 : gz_OkE (M_L_law L xs mn) 5 0 0 263 264 _ := ok_aload_n (i := 0) dL_law_263 rfl
  have q45 : gz_OkE (M_L_law L xs mn) 6 0 0 264 265 _ := ok_iload_n (i := 3) dL_law_264 rfl
  have q46 : gz_OkE (M_L_law L xs mn) 7 0 0 265 266 _ := ok_iconst (v := 2) dL_law_265 kc_i2
  have q47 : gz_OkE (M_L_law L xs mn) 6 0 0 264 267 _ := ok_iadd q45 q46 dL_law_266
  have q48 : gz_OkE (M_L_law L xs mn) 5 0 0 263 268 _ := ok_sld (L := L) (xs := xs) rfl q44 q47 dL_law_267
  have q49 : gz_OkA (M_L_law L xs mn) 1 0 0 257 268 3 _ := ok_a1 q43 q48
  have q50 : gz_OkE (M_L_law L xs mn) 7 0 0 268 269 _ := ok_aload_n (i := 0) dL_law_268 rfl
  have q51 : gz_OkE (M_L_law L xs mn) 8 0 0 269 270 _ := ok_iload_n (i := 3) dL_law_269 rfl
  have q52 : gz_OkE (M_L_law L xs mn) 9 0 0 270 271 _ := ok_iconst (v := 3) dL_law_270 kc_i3
  have q53 : gz_OkE (M_L_law L xs mn) 8 0 0 269 272 _ := ok_iadd q51 q52 dL_law_271
  have q54 : gz_OkE (M_L_law L xs mn) 7 0 0 268 273 _ := ok_sld (L := L) (xs := xs) rfl q50 q53 dL_law_272
  have q55 : gz_OkA (M_L_law L xs mn) 1 0 0 257 273 4 _ := ok_a1 q49 q54
  have q56 : gz_OkE (M_L_law L xs mn) 9 0 0 273 274 _ := ok_aload_n (i := 0) dL_law_273 rfl
  have q57 : gz_OkE (M_L_law L xs mn) 10 0 0 274 275 _ := ok_iload_n (i := 3) dL_law_274 rfl
  have q58 : gz_OkE (M_L_law L xs mn) 11 0 0 275 276 _ := ok_iconst (v := 4) dL_law_275 kc_i4
  have q59 : gz_OkE (M_L_law L xs mn) 10 0 0 274 277 _ := ok_iadd q57 q58 dL_law_276
  have q60 : gz_OkE (M_L_law L xs mn) 9 0 0 273 278 _ := ok_sld (L := L) (xs := xs) rfl q56 q59 dL_law_277
  have q61 : gz_OkA (M_L_law L xs mn) 1 0 0 257 278 5 _ := ok_a1 q55 q60
  have q62 : gz_OkE (M_L_law L xs mn) 11 0 0 278 279 _ := ok_aload_n (i := 0) dL_law_278 rfl
  have q63 : gz_OkE (M_L_law L xs mn) 12 0 0 279 280 _ := ok_iload_n (i := 3) dL_law_279 rfl
  have q64 : gz_OkE (M_L_law L xs mn) 13 0 0 280 281 _ := ok_iconst (v := 5) dL_law_280 kc_i5
  have q65 : gz_OkE (M_L_law L xs mn) 12 0 0 279 282 _ := ok_iadd q63 q64 dL_law_281
  have q66 : gz_OkE (M_L_law L xs mn) 11 0 0 278 283 _ := ok_sld (L := L) (xs := xs) rfl q62 q65 dL_law_282
  have q67 : gz_OkA (M_L_law L xs mn) 1 0 0 257 283 6 _ := ok_a1 q61 q66
  have q68 : gz_OkE (M_L_law L xs mn) 1 0 0 257 286 _ := ok_cv q67 mt_X8_against cl_8 wd_204 wd_188 de_X8_against (Nat.le_of_ble_eq_true rfl) (Nat.le_of_ble_eq_true rfl) wd_205 wd_206 wd_207 dL_law_283 (by decide)
  have q69 : gz_OkJ (M_L_law L xs mn) 0 0 0 228 1215 289 _ := ok_ic_eq q34 q68 dL_law_286 (by decide)
  have q70 : gz_OkS (M_L_law L xs mn) 0 0 1215 _ := ok_at
  have q71 : gz_OkE (M_L_law L xs mn) 0 0 0 289 290 _ := ok_iconst (v := 0) dL_law_289 kc_i0
  have q72 : gz_OkS (M_L_law L xs mn) 0 0 289 _ := ok_ri q71 dL_law_290
  have q73 : gz_OkS (M_L_law L xs mn) 0 0 228 _ := ok_if q69 q70 q72
  exact q73
set_option maxRecDepth 100000 in
theorem okc_3 (L : Nat) (xs : Nat → Int32) (mn : String) : gz_OkS (M_L_law L xs mn) 0 0 291 (lc_3 L xs) := by
  have q1 : gz_OkA (M_L_law L xs mn) 0 0 0 291 291 0 _ := ok_a0
  have q2 : gz_OkE (M_L_law L xs mn) 0 0 0 291 292 _ := ok_aload_n (i := 1) dL_law_291 rfl
  have q3 : gz_OkA (M_L_law L xs mn) 0 0 0 291 292 1 _ := ok_a1 q1 q2
  have q4 : gz_OkE (M_L_law L xs mn) 2 0 0 292 293 _ := ok_aload_n (i := 0) dL_law_292 rfl
  have q5 : gz_OkE (M_L_law L xs mn) 3 0 0 293 294 _ := ok_iload_n (i := 3) dL_law_293 rfl
  have q6 : gz_OkE (M_L_law L xs mn) 4 0 0 294 295 _ := ok_iconst (v := 1) dL_law_294 kc_i1
  have q7 : gz_OkE (M_L_law L xs mn) 3 0 0 293 296 _ := ok_iadd q5 q6 dL_law_295
  have q8 : gz_OkE (M_L_law L xs mn) 2 0 0 292 297 _ := ok_sld (L := L) (xs := xs) rfl q4 q7 dL_law_296
  have q9 : gz_OkA (M_L_law L xs mn) 0 0 0 291 297 2 _ := ok_a1 q3 q8
  have q10 : gz_OkE (M_L_law L xs mn) 4 0 0 297 298 _ := ok_aload_n (i := 0) dL_law_297 rfl
  have q11 : gz_OkE (M_L_law L xs mn) 5 0 0 298 299 _ := ok_iload_n (i := 3) dL_law_298 rfl
  have q12 : gz_OkE (M_L_law L xs mn) 6 0 0 299 300 _ := ok_iconst (v := 2) dL_law_299 kc_i2
  have q13 : gz_OkE (M_L_law L xs mn) 5 0 0 298 301 _ := ok_iadd q11 q12 dL_law_300
  have q14 : gz_OkE (M_L_law L xs mn) 4 0 0 297 302 _ := ok_sld (L := L) (xs := xs) rfl q10 q13 dL_law_301
  have q15 : gz_OkA (M_L_law L xs mn) 0 0 0 291 302 3 _ := ok_a1 q9 q14
  have q16 : gz_OkE (M_L_law L xs mn) 6 0 0 302 303 _ := ok_aload_n (i := 0) dL_law_302 rfl
  have q17 : gz_OkE (M_L_law L xs mn) 7 0 0 303 304 _ := ok_iload_n (i := 3) dL_law_303 rfl
  have q18 : gz_OkE (M_L_law L xs mn) 8 0 0 304 305 _ := ok_iconst (v := 3) dL_law_304 kc_i3
  have q19 : gz_OkE (M_L_law L xs mn) 7 0 0 303 306 _ := ok_iadd q17 q18 dL_law_305
  have q20 : gz_OkE (M_L_law L xs mn) 6 0 0 302 307 _ := ok_sld (L := L) (xs := xs) rfl q16 q19 dL_law_306
  have q21 : gz_OkA (M_L_law L xs mn) 0 0 0 291 307 4 _ := ok_a1 q15 q20
  have q22 : gz_OkE (M_L_law L xs mn) 0 0 0 291 310 _ := ok_cv q21 mt_X7_yields cl_7 wd_208 wd_183 de_X7_yields (Nat.le_of_ble_eq_true rfl) (Nat.le_of_ble_eq_true rfl) wd_209 wd_210 wd_211 dL_law_307 (by decide)
  have q23 : gz_OkA (M_L_law L xs mn) 1 0 0 310 310 0 _ := ok_a0
  have q24 : gz_OkE (M_L_law L xs mn) 1 0 0 310 311 _ := ok_aload_n (i := 2) dL_law_310 rfl
  have q25 : gz_OkA (M_L_law L xs mn) 1 0 0 310 311 1 _ := ok_a1 q23 q24
  have q26 : gz_OkE (M_L_law L xs mn) 3 0 0 311 312 _ := ok_aload_n (i := 0) dL_law_311 rfl
  have q27 : gz_OkE (M_L_law L xs mn) 4 0 0 312 313 _ := ok_iload_n (i := 3) dL_law_312 rfl
  have q28 : gz_OkE (M_L_law L xs mn) 5 0 0 313 314 _ := ok_iconst (v := 1) dL_law_313 kc_i1
  have q29 : gz_OkE (M_L_law L xs mn) 4 0 0 312 315 _ := ok_iadd q27 q28 dL_law_314
  have q30 : gz_OkE (M_L_law L xs mn) 3 0 0 311 316 _ := ok_sld (L := L) (xs := xs) rfl q26 q29 dL_law_315
  have q31 : gz_OkA (M_L_law L xs mn) 1 0 0 310 316 2 _ := ok_a1 q25 q30
  have q32 : gz_OkE (M_L_law L xs mn) 5 0 0 316 317 _ := ok_aload_n (i := 0) dL_law_316 rfl
  have q33 : gz_OkE (M_L_law L xs mn) 6 0 0 317 318 _ := ok_iload_n (i := 3) dL_law_317 rfl
  have q34 : gz_OkE (M_L_law L xs mn) 7 0 0 318 319 _ := ok_iconst (v := 2) dL_law_318 kc_i2
  have q35 : gz_OkE (M_L_law L xs mn) 6 0 0 317 320 _ := ok_iadd q33 q34 dL_law_319
  have q36 : gz_OkE (M_L_law L xs mn) 5 0 0 316 321 _ := ok_sld (L := L) (xs := xs) rfl q32 q35 dL_law_320
  have q37 : gz_OkA (M_L_law L xs mn) 1 0 0 310 321 3 _ := ok_a1 q31 q36
  have q38 : gz_OkE (M_L_law L xs mn) 7 0 0 321 322 _ := ok_aload_n (i := 0) dL_law_321 rfl
  have q39 : gz_OkE (M_L_law L xs mn) 8 0 0 322 323 _ := ok_iload_n (i := 3) dL_law_322 rfl
  have q40 : gz_OkE (M_L_law L xs mn) 9 0 0 323 324 _ := ok_iconst (v := 3) dL_law_323 kc_i3
  have q41 : gz_OkE (M_L_law L xs mn) 8 0 0 322 325 _ := ok_iadd q39 q40 dL_law_324
  have q42 : gz_OkE (M_L_law L xs mn) 7 0 0 321 326 _ := ok_sld (L := L) (xs := xs) rfl q38 q41 dL_law_325
  have q43 : gz_OkA (M_L_law L xs mn) 1 0 0 310 326 4 _ := ok_a1 q37 q42
  have q44 : gz_OkE (M_L_law L xs mn) 1 0 0 310 329 _ := ok_cv q43 mt_X8_yields cl_8 wd_212 wd_188 de_X8_yields (Nat.le_of_ble_eq_true rfl) (Nat.le_of_ble_eq_true rfl) wd_213 wd_214 wd_215 dL_law_326 (by decide)
  have q45 : gz_OkJ (M_L_law L xs mn) 0 0 0 291 1215 332 _ := ok_ic_eq q22 q44 dL_law_329 (by decide)
  have q46 : gz_OkS (M_L_law L xs mn) 0 0 1215 _ := ok_at
  have q47 : gz_OkE (M_L_law L xs mn) 0 0 0 332 333 _ := ok_iconst (v := 0) dL_law_332 kc_i0
  have q48 : gz_OkS (M_L_law L xs mn) 0 0 332 _ := ok_ri q47 dL_law_333
  have q49 : gz_OkS (M_L_law L xs mn) 0 0 291 _ := ok_if q45 q46 q48
  exact q49
set_option maxRecDepth 100000 in
theorem okc_4 (L : Nat) (xs : Nat → Int32) (mn : String) : gz_OkS (M_L_law L xs mn) 2 67 334 (lc_4 L xs) := by
  have q1 : gz_OkA (M_L_law L xs mn) 0 0 0 334 334 0 _ := ok_a0
  have q2 : gz_OkE (M_L_law L xs mn) 0 0 0 334 335 _ := ok_aload_n (i := 1) dL_law_334 rfl
  have q3 : gz_OkA (M_L_law L xs mn) 0 0 0 334 335 1 _ := ok_a1 q1 q2
  have q4 : gz_OkE (M_L_law L xs mn) 2 0 0 335 336 _ := ok_aload_n (i := 0) dL_law_335 rfl
  have q5 : gz_OkE (M_L_law L xs mn) 3 0 0 336 337 _ := ok_iload_n (i := 3) dL_law_336 rfl
  have q6 : gz_OkE (M_L_law L xs mn) 4 0 0 337 338 _ := ok_iconst (v := 1) dL_law_337 kc_i1
  have q7 : gz_OkE (M_L_law L xs mn) 3 0 0 336 339 _ := ok_iadd q5 q6 dL_law_338
  have q8 : gz_OkE (M_L_law L xs mn) 2 0 0 335 340 _ := ok_sld (L := L) (xs := xs) rfl q4 q7 dL_law_339
  have q9 : gz_OkA (M_L_law L xs mn) 0 0 0 334 340 2 _ := ok_a1 q3 q8
  have q10 : gz_OkE (M_L_law L xs mn) 4 0 0 340 341 _ := ok_aload_n (i := 0) dL_law_340 rfl
  have q11 : gz_OkE (M_L_law L xs mn) 5 0 0 341 342 _ := ok_iload_n (i := 3) dL_law_341 rfl
  have q12 : gz_OkE (M_L_law L xs mn) 6 0 0 342 343 _ := ok_iconst (v := 2) dL_law_342 kc_i2
  have q13 : gz_OkE (M_L_law L xs mn) 5 0 0 341 344 _ := ok_iadd q11 q12 dL_law_343
  have q14 : gz_OkE (M_L_law L xs mn) 4 0 0 340 345 _ := ok_sld (L := L) (xs := xs) rfl q10 q13 dL_law_344
  have q15 : gz_OkA (M_L_law L xs mn) 0 0 0 334 345 3 _ := ok_a1 q9 q14
  have q16 : gz_OkE (M_L_law L xs mn) 6 0 0 345 346 _ := ok_aload_n (i := 0) dL_law_345 rfl
  have q17 : gz_OkE (M_L_law L xs mn) 7 0 0 346 347 _ := ok_iload_n (i := 3) dL_law_346 rfl
  have q18 : gz_OkE (M_L_law L xs mn) 8 0 0 347 348 _ := ok_iconst (v := 3) dL_law_347 kc_i3
  have q19 : gz_OkE (M_L_law L xs mn) 7 0 0 346 349 _ := ok_iadd q17 q18 dL_law_348
  have q20 : gz_OkE (M_L_law L xs mn) 6 0 0 345 350 _ := ok_sld (L := L) (xs := xs) rfl q16 q19 dL_law_349
  have q21 : gz_OkA (M_L_law L xs mn) 0 0 0 334 350 4 _ := ok_a1 q15 q20
  have q22 : gz_OkE (M_L_law L xs mn) 8 0 0 350 351 _ := ok_aload_n (i := 0) dL_law_350 rfl
  have q23 : gz_OkE (M_L_law L xs mn) 9 0 0 351 352 _ := ok_iload_n (i := 3) dL_law_351 rfl
  have q24 : gz_OkE (M_L_law L xs mn) 10 0 0 352 353 _ := ok_iconst (v := 4) dL_law_352 kc_i4
  have q25 : gz_OkE (M_L_law L xs mn) 9 0 0 351 354 _ := ok_iadd q23 q24 dL_law_353
  have q26 : gz_OkE (M_L_law L xs mn) 8 0 0 350 355 _ := ok_sld (L := L) (xs := xs) rfl q22 q25 dL_law_354
  have q27 : gz_OkA (M_L_law L xs mn) 0 0 0 334 355 5 _ := ok_a1 q21 q26
  have q28 : gz_OkE (M_L_law L xs mn) 10 0 0 355 356 _ := ok_aload_n (i := 0) dL_law_355 rfl
  have q29 : gz_OkE (M_L_law L xs mn) 11 0 0 356 357 _ := ok_iload_n (i := 3) dL_law_356 rfl
  have q30 : gz_OkE (M_L_law L xs mn) 12 0 0 357 358 _ := ok_iconst (v := 5) dL_law_357 kc_i5
  have q31 : gz_OkE (M_L_law L xs mn) 11 0 0 356 359 _ := ok_iadd q29 q30 dL_law_358
  have q32 : gz_OkE (M_L_law L xs mn) 10 0 0 355 360 _ := ok_sld (L := L) (xs := xs) rfl q28 q31 dL_law_359
  have q33 : gz_OkA (M_L_law L xs mn) 0 0 0 334 360 6 _ := ok_a1 q27 q32
  have q34 : gz_OkE (M_L_law L xs mn) 12 0 0 360 361 _ := ok_aload_n (i := 0) dL_law_360 rfl
  have q35 : gz_OkE (M_L_law L xs mn) 13 0 0 361 362 _ := ok_iload_n (i := 3) dL_law_361 rfl
  have q36 : gz_OkE (M_L_law L xs mn) 14 0 0 362 364 _ := ok_bipush (v := 6) dL_law_362 kc_b6
  have q37 : gz_OkE (M_L_law L xs mn) 13 0 0 361 365 _ := ok_iadd q35 q36 dL_law_364
  have q38 : gz_OkE (M_L_law L xs mn) 12 0 0 360 366 _ := ok_sld (L := L) (xs := xs) rfl q34 q37 dL_law_365
  have q39 : gz_OkA (M_L_law L xs mn) 0 0 0 334 366 7 _ := ok_a1 q33 q38
  have q40 : gz_OkE (M_L_law L xs mn) 0 2 67 334 369 _ := ok_cv q39 mt_X7_street cl_7 wd_216 wd_183 de_X7_street (Nat.le_of_ble_eq_true rfl) (Nat.le_of_ble_eq_true rfl) wd_217 wd_218 wd_219 dL_law_366 (by decide)
  have q41 : gz_OkA (M_L_law L xs mn) 1 0 0 369 369 0 _ := ok_a0
  have q42 : gz_OkE (M_L_law L xs mn) 1 0 0 369 370 _ := ok_aload_n (i := 2) dL_law_369 rfl
  have q43 : gz_OkA (M_L_law L xs mn) 1 0 0 369 370 1 _ := ok_a1 q41 q42
  have q44 : gz_OkE (M_L_law L xs mn) 3 0 0 370 371 _ := ok_aload_n (i := 0) dL_law_370 rfl
  have q45 : gz_OkE (M_L_law L xs mn) 4 0 0 371 372 _ := ok_iload_n (i := 3) dL_law_371 rfl
  have q46 : gz_OkE (M_L_law L xs mn) 5 0 0 372 373 _ := ok_iconst (v := 1) dL_law_372 kc_i1
  have q47 : gz_OkE (M_L_law L xs mn) 4 0 0 371 374 _ := ok_iadd q45 q46 dL_law_373
  have q48 : gz_OkE (M_L_law L xs mn) 3 0 0 370 375 _ := ok_sld (L := L) (xs := xs) rfl q44 q47 dL_law_374
  have q49 : gz_OkA (M_L_law L xs mn) 1 0 0 369 375 2 _ := ok_a1 q43 q48
  have q50 : gz_OkE (M_L_law L xs mn) 5 0 0 375 376 _ := ok_aload_n (i := 0) dL_law_375 rfl
  have q51 : gz_OkE (M_L_law L xs mn) 6 0 0 376 377 _ := ok_iload_n (i := 3) dL_law_376 rfl
  have q52 : gz_OkE (M_L_law L xs mn) 7 0 0 377 378 _ := ok_iconst (v := 2) dL_law_377 kc_i2
  have q53 : gz_OkE (M_L_law L xs mn) 6 0 0 376 379 _ := ok_iadd q51 q52 dL_law_378
  have q54 : gz_OkE (M_L_law L xs mn) 5 0 0 375 380 _ := ok_sld (L := L) (xs := xs) rfl q50 q53 dL_law_379
  have q55 : gz_OkA (M_L_law L xs mn) 1 0 0 369 380 3 _ := ok_a1 q49 q54
  have q56 : gz_OkE (M_L_law L xs mn) 7 0 0 380 381 _ := ok_aload_n (i := 0) dL_law_380 rfl
  have q57 : gz_OkE (M_L_law L xs mn) 8 0 0 381 382 _ := ok_iload_n (i := 3) dL_law_381 rfl
  have q58 : gz_OkE (M_L_law L xs mn) 9 0 0 382 383 _ := ok_iconst (v := 3) dL_law_382 kc_i3
  have q59 : gz_OkE (M_L_law L xs mn) 8 0 0 381 384 _ := ok_iadd q57 q58 dL_law_383
  have q60 : gz_OkE (M_L_law L xs mn) 7 0 0 380 385 _ := ok_sld (L := L) (xs := xs) rfl q56 q59 dL_law_384
  have q61 : gz_OkA (M_L_law L xs mn) 1 0 0 369 385 4 _ := ok_a1 q55 q60
  have q62 : gz_OkE (M_L_law L xs mn) 9 0 0 385 386 _ := ok_aload_n (i := 0) dL_law_385 rfl
  have q63 : gz_OkE (M_L_law L xs mn) 10 0 0 386 387 _ := ok_iload_n (i := 3) dL_law_386 rfl
  have q64 : gz_OkE (M_L_law L xs mn) 11 0 0 387 388 _ := ok_iconst (v := 4) dL_law_387 kc_i4
  have q65 : gz_OkE (M_L_law L xs mn) 10 0 0 386 389 _ := ok_iadd q63 q64 dL_law_388
  have q66 : gz_OkE (M_L_law L xs mn) 9 0 0 385 390 _ := ok_sld (L := L) (xs := xs) rfl q62 q65 dL_law_389
  have q67 : gz_OkA (M_L_law L xs mn) 1 0 0 369 390 5 _ := ok_a1 q61 q66
  have q68 : gz_OkE (M_L_law L xs mn) 11 0 0 390 391 _ := ok_aload_n (i := 0) dL_law_390 rfl
  have q69 : gz_OkE (M_L_law L xs mn) 12 0 0 391 392 _ := ok_iload_n (i := 3) dL_law_391 rfl
  have q70 : gz_OkE (M_L_law L xs mn) 13 0 0 392 393 _ := ok_iconst (v := 5) dL_law_392 kc_i5
  have q71 : gz_OkE (M_L_law L xs mn) 12 0 0 391 394 _ := ok_iadd q69 q70 dL_law_393
  have q72 : gz_OkE (M_L_law L xs mn) 11 0 0 390 395 _ := ok_sld (L := L) (xs := xs) rfl q68 q71 dL_law_394
  have q73 : gz_OkA (M_L_law L xs mn) 1 0 0 369 395 6 _ := ok_a1 q67 q72
  have q74 : gz_OkE (M_L_law L xs mn) 13 0 0 395 396 _ := ok_aload_n (i := 0) dL_law_395 rfl
  have q75 : gz_OkE (M_L_law L xs mn) 14 0 0 396 397 _ := ok_iload_n (i := 3) dL_law_396 rfl
  have q76 : gz_OkE (M_L_law L xs mn) 15 0 0 397 399 _ := ok_bipush (v := 6) dL_law_397 kc_b6
  have q77 : gz_OkE (M_L_law L xs mn) 14 0 0 396 400 _ := ok_iadd q75 q76 dL_law_399
  have q78 : gz_OkE (M_L_law L xs mn) 13 0 0 395 401 _ := ok_sld (L := L) (xs := xs) rfl q74 q77 dL_law_400
  have q79 : gz_OkA (M_L_law L xs mn) 1 0 0 369 401 7 _ := ok_a1 q73 q78
  have q80 : gz_OkE (M_L_law L xs mn) 1 0 0 369 404 _ := ok_cv q79 mt_X8_street cl_8 wd_220 wd_188 de_X8_street (Nat.le_of_ble_eq_true rfl) (Nat.le_of_ble_eq_true rfl) wd_221 wd_222 wd_223 dL_law_401 (by decide)
  have q81 : gz_OkJ (M_L_law L xs mn) 0 2 67 334 1215 407 _ := ok_ic_eq q40 q80 dL_law_404 (by decide)
  have q82 : gz_OkS (M_L_law L xs mn) 0 0 1215 _ := ok_at
  have q83 : gz_OkE (M_L_law L xs mn) 0 0 0 407 408 _ := ok_iconst (v := 0) dL_law_407 kc_i0
  have q84 : gz_OkS (M_L_law L xs mn) 0 0 407 _ := ok_ri q83 dL_law_408
  have q85 : gz_OkS (M_L_law L xs mn) 2 67 334 _ := ok_if q81 q82 q84
  exact q85
set_option maxRecDepth 100000 in
theorem okc_5 (L : Nat) (xs : Nat → Int32) (mn : String) : gz_OkS (M_L_law L xs mn) 0 0 409 (lc_5 L xs) := by
  have q1 : gz_OkA (M_L_law L xs mn) 0 0 0 409 409 0 _ := ok_a0
  have q2 : gz_OkE (M_L_law L xs mn) 0 0 0 409 410 _ := ok_aload_n (i := 1) dL_law_409 rfl
  have q3 : gz_OkA (M_L_law L xs mn) 0 0 0 409 410 1 _ := ok_a1 q1 q2
  have q4 : gz_OkE (M_L_law L xs mn) 2 0 0 410 411 _ := ok_aload_n (i := 0) dL_law_410 rfl
  have q5 : gz_OkE (M_L_law L xs mn) 3 0 0 411 412 _ := ok_iload_n (i := 3) dL_law_411 rfl
  have q6 : gz_OkE (M_L_law L xs mn) 4 0 0 412 413 _ := ok_iconst (v := 1) dL_law_412 kc_i1
  have q7 : gz_OkE (M_L_law L xs mn) 3 0 0 411 414 _ := ok_iadd q5 q6 dL_law_413
  have q8 : gz_OkE (M_L_law L xs mn) 2 0 0 410 415 _ := ok_sld (L := L) (xs := xs) rfl q4 q7 dL_law_414
  have q9 : gz_OkA (M_L_law L xs mn) 0 0 0 409 415 2 _ := ok_a1 q3 q8
  have q10 : gz_OkE (M_L_law L xs mn) 0 0 0 409 418 _ := ok_cv q9 mt_X7_sets cl_7 wd_224 wd_183 de_X7_sets (Nat.le_of_ble_eq_true rfl) (Nat.le_of_ble_eq_true rfl) wd_225 wd_226 wd_227 dL_law_415 (by decide)
  have q11 : gz_OkA (M_L_law L xs mn) 1 0 0 418 418 0 _ := ok_a0
  have q12 : gz_OkE (M_L_law L xs mn) 1 0 0 418 419 _ := ok_aload_n (i := 2) dL_law_418 rfl
  have q13 : gz_OkA (M_L_law L xs mn) 1 0 0 418 419 1 _ := ok_a1 q11 q12
  have q14 : gz_OkE (M_L_law L xs mn) 3 0 0 419 420 _ := ok_aload_n (i := 0) dL_law_419 rfl
  have q15 : gz_OkE (M_L_law L xs mn) 4 0 0 420 421 _ := ok_iload_n (i := 3) dL_law_420 rfl
  have q16 : gz_OkE (M_L_law L xs mn) 5 0 0 421 422 _ := ok_iconst (v := 1) dL_law_421 kc_i1
  have q17 : gz_OkE (M_L_law L xs mn) 4 0 0 420 423 _ := ok_iadd q15 q16 dL_law_422
  have q18 : gz_OkE (M_L_law L xs mn) 3 0 0 419 424 _ := ok_sld (L := L) (xs := xs) rfl q14 q17 dL_law_423
  have q19 : gz_OkA (M_L_law L xs mn) 1 0 0 418 424 2 _ := ok_a1 q13 q18
  have q20 : gz_OkE (M_L_law L xs mn) 1 0 0 418 427 _ := ok_cv q19 mt_X8_sets cl_8 wd_228 wd_188 de_X8_sets (Nat.le_of_ble_eq_true rfl) (Nat.le_of_ble_eq_true rfl) wd_229 wd_230 wd_231 dL_law_424 (by decide)
  have q21 : gz_OkJ (M_L_law L xs mn) 0 0 0 409 1215 430 _ := ok_ic_eq q10 q20 dL_law_427 (by decide)
  have q22 : gz_OkS (M_L_law L xs mn) 0 0 1215 _ := ok_at
  have q23 : gz_OkE (M_L_law L xs mn) 0 0 0 430 431 _ := ok_iconst (v := 0) dL_law_430 kc_i0
  have q24 : gz_OkS (M_L_law L xs mn) 0 0 430 _ := ok_ri q23 dL_law_431
  have q25 : gz_OkS (M_L_law L xs mn) 0 0 409 _ := ok_if q21 q22 q24
  exact q25
set_option maxRecDepth 100000 in
theorem okc_6 (L : Nat) (xs : Nat → Int32) (mn : String) : gz_OkS (M_L_law L xs mn) 0 0 432 (lc_6 L xs) := by
  have q1 : gz_OkA (M_L_law L xs mn) 0 0 0 432 432 0 _ := ok_a0
  have q2 : gz_OkE (M_L_law L xs mn) 0 0 0 432 433 _ := ok_aload_n (i := 1) dL_law_432 rfl
  have q3 : gz_OkA (M_L_law L xs mn) 0 0 0 432 433 1 _ := ok_a1 q1 q2
  have q4 : gz_OkE (M_L_law L xs mn) 2 0 0 433 434 _ := ok_aload_n (i := 0) dL_law_433 rfl
  have q5 : gz_OkE (M_L_law L xs mn) 3 0 0 434 435 _ := ok_iload_n (i := 3) dL_law_434 rfl
  have q6 : gz_OkE (M_L_law L xs mn) 4 0 0 435 436 _ := ok_iconst (v := 1) dL_law_435 kc_i1
  have q7 : gz_OkE (M_L_law L xs mn) 3 0 0 434 437 _ := ok_iadd q5 q6 dL_law_436
  have q8 : gz_OkE (M_L_law L xs mn) 2 0 0 433 438 _ := ok_sld (L := L) (xs := xs) rfl q4 q7 dL_law_437
  have q9 : gz_OkA (M_L_law L xs mn) 0 0 0 432 438 2 _ := ok_a1 q3 q8
  have q10 : gz_OkE (M_L_law L xs mn) 4 0 0 438 439 _ := ok_aload_n (i := 0) dL_law_438 rfl
  have q11 : gz_OkE (M_L_law L xs mn) 5 0 0 439 440 _ := ok_iload_n (i := 3) dL_law_439 rfl
  have q12 : gz_OkE (M_L_law L xs mn) 6 0 0 440 441 _ := ok_iconst (v := 2) dL_law_440 kc_i2
  have q13 : gz_OkE (M_L_law L xs mn) 5 0 0 439 442 _ := ok_iadd q11 q12 dL_law_441
  have q14 : gz_OkE (M_L_law L xs mn) 4 0 0 438 443 _ := ok_sld (L := L) (xs := xs) rfl q10 q13 dL_law_442
  have q15 : gz_OkA (M_L_law L xs mn) 0 0 0 432 443 3 _ := ok_a1 q9 q14
  have q16 : gz_OkE (M_L_law L xs mn) 0 0 0 432 446 _ := ok_cv q15 mt_X7_set cl_7 wd_232 wd_183 de_X7_set (Nat.le_of_ble_eq_true rfl) (Nat.le_of_ble_eq_true rfl) wd_233 wd_234 wd_235 dL_law_443 (by decide)
  have q17 : gz_OkA (M_L_law L xs mn) 1 0 0 446 446 0 _ := ok_a0
  have q18 : gz_OkE (M_L_law L xs mn) 1 0 0 446 447 _ := ok_aload_n (i := 2) dL_law_446 rfl
  have q19 : gz_OkA (M_L_law L xs mn) 1 0 0 446 447 1 _ := ok_a1 q17 q18
  have q20 : gz_OkE (M_L_law L xs mn) 3 0 0 447 448 _ := ok_aload_n (i := 0) dL_law_447 rfl
  have q21 : gz_OkE (M_L_law L xs mn) 4 0 0 448 449 _ := ok_iload_n (i := 3) dL_law_448 rfl
  have q22 : gz_OkE (M_L_law L xs mn) 5 0 0 449 450 _ := ok_iconst (v := 1) dL_law_449 kc_i1
  have q23 : gz_OkE (M_L_law L xs mn) 4 0 0 448 451 _ := ok_iadd q21 q22 dL_law_450
  have q24 : gz_OkE (M_L_law L xs mn) 3 0 0 447 452 _ := ok_sld (L := L) (xs := xs) rfl q20 q23 dL_law_451
  have q25 : gz_OkA (M_L_law L xs mn) 1 0 0 446 452 2 _ := ok_a1 q19 q24
  have q26 : gz_OkE (M_L_law L xs mn) 5 0 0 452 453 _ := ok_aload_n (i := 0) dL_law_452 rfl
  have q27 : gz_OkE (M_L_law L xs mn) 6 0 0 453 454 _ := ok_iload_n (i := 3) dL_law_453 rfl
  have q28 : gz_OkE (M_L_law L xs mn) 7 0 0 454 455 _ := ok_iconst (v := 2) dL_law_454 kc_i2
  have q29 : gz_OkE (M_L_law L xs mn) 6 0 0 453 456 _ := ok_iadd q27 q28 dL_law_455
  have q30 : gz_OkE (M_L_law L xs mn) 5 0 0 452 457 _ := ok_sld (L := L) (xs := xs) rfl q26 q29 dL_law_456
  have q31 : gz_OkA (M_L_law L xs mn) 1 0 0 446 457 3 _ := ok_a1 q25 q30
  have q32 : gz_OkE (M_L_law L xs mn) 1 0 0 446 460 _ := ok_cv q31 mt_X8_set cl_8 wd_236 wd_188 de_X8_set (Nat.le_of_ble_eq_true rfl) (Nat.le_of_ble_eq_true rfl) wd_237 wd_238 wd_239 dL_law_457 (by decide)
  have q33 : gz_OkJ (M_L_law L xs mn) 0 0 0 432 1215 463 _ := ok_ic_eq q16 q32 dL_law_460 (by decide)
  have q34 : gz_OkS (M_L_law L xs mn) 0 0 1215 _ := ok_at
  have q35 : gz_OkE (M_L_law L xs mn) 0 0 0 463 464 _ := ok_iconst (v := 0) dL_law_463 kc_i0
  have q36 : gz_OkS (M_L_law L xs mn) 0 0 463 _ := ok_ri q35 dL_law_464
  have q37 : gz_OkS (M_L_law L xs mn) 0 0 432 _ := ok_if q33 q34 q36
  exact q37
set_option maxRecDepth 100000 in
theorem okc_7 (L : Nat) (xs : Nat → Int32) (mn : String) : gz_OkS (M_L_law L xs mn) 0 0 465 (lc_7 L xs) := by
  have q1 : gz_OkA (M_L_law L xs mn) 0 0 0 465 465 0 _ := ok_a0
  have q2 : gz_OkE (M_L_law L xs mn) 0 0 0 465 466 _ := ok_aload_n (i := 1) dL_law_465 rfl
  have q3 : gz_OkA (M_L_law L xs mn) 0 0 0 465 466 1 _ := ok_a1 q1 q2
  have q4 : gz_OkE (M_L_law L xs mn) 2 0 0 466 467 _ := ok_aload_n (i := 0) dL_law_466 rfl
  have q5 : gz_OkE (M_L_law L xs mn) 3 0 0 467 468 _ := ok_iload_n (i := 3) dL_law_467 rfl
  have q6 : gz_OkE (M_L_law L xs mn) 4 0 0 468 469 _ := ok_iconst (v := 1) dL_law_468 kc_i1
  have q7 : gz_OkE (M_L_law L xs mn) 3 0 0 467 470 _ := ok_iadd q5 q6 dL_law_469
  have q8 : gz_OkE (M_L_law L xs mn) 2 0 0 466 471 _ := ok_sld (L := L) (xs := xs) rfl q4 q7 dL_law_470
  have q9 : gz_OkA (M_L_law L xs mn) 0 0 0 465 471 2 _ := ok_a1 q3 q8
  have q10 : gz_OkE (M_L_law L xs mn) 4 0 0 471 472 _ := ok_aload_n (i := 0) dL_law_471 rfl
  have q11 : gz_OkE (M_L_law L xs mn) 5 0 0 472 473 _ := ok_iload_n (i := 3) dL_law_472 rfl
  have q12 : gz_OkE (M_L_law L xs mn) 6 0 0 473 474 _ := ok_iconst (v := 2) dL_law_473 kc_i2
  have q13 : gz_OkE (M_L_law L xs mn) 5 0 0 472 475 _ := ok_iadd q11 q12 dL_law_474
  have q14 : gz_OkE (M_L_law L xs mn) 4 0 0 471 476 _ := ok_sld (L := L) (xs := xs) rfl q10 q13 dL_law_475
  have q15 : gz_OkA (M_L_law L xs mn) 0 0 0 465 476 3 _ := ok_a1 q9 q14
  have q16 : gz_OkE (M_L_law L xs mn) 0 0 0 465 479 _ := ok_cv q15 mt_X7_goes cl_7 wd_240 wd_183 de_X7_goes (Nat.le_of_ble_eq_true rfl) (Nat.le_of_ble_eq_true rfl) wd_241 wd_242 wd_243 dL_law_476 (by decide)
  have q17 : gz_OkA (M_L_law L xs mn) 1 0 0 479 479 0 _ := ok_a0
  have q18 : gz_OkE (M_L_law L xs mn) 1 0 0 479 480 _ := ok_aload_n (i := 2) dL_law_479 rfl
  have q19 : gz_OkA (M_L_law L xs mn) 1 0 0 479 480 1 _ := ok_a1 q17 q18
  have q20 : gz_OkE (M_L_law L xs mn) 3 0 0 480 481 _ := ok_aload_n (i := 0) dL_law_480 rfl
  have q21 : gz_OkE (M_L_law L xs mn) 4 0 0 481 482 _ := ok_iload_n (i := 3) dL_law_481 rfl
  have q22 : gz_OkE (M_L_law L xs mn) 5 0 0 482 483 _ := ok_iconst (v := 1) dL_law_482 kc_i1
  have q23 : gz_OkE (M_L_law L xs mn) 4 0 0 481 484 _ := ok_iadd q21 q22 dL_law_483
  have q24 : gz_OkE (M_L_law L xs mn) 3 0 0 480 485 _ := ok_sld (L := L) (xs := xs) rfl q20 q23 dL_law_484
  have q25 : gz_OkA (M_L_law L xs mn) 1 0 0 479 485 2 _ := ok_a1 q19 q24
  have q26 : gz_OkE (M_L_law L xs mn) 5 0 0 485 486 _ := ok_aload_n (i := 0) dL_law_485 rfl
  have q27 : gz_OkE (M_L_law L xs mn) 6 0 0 486 487 _ := ok_iload_n (i := 3) dL_law_486 rfl
  have q28 : gz_OkE (M_L_law L xs mn) 7 0 0 487 488 _ := ok_iconst (v := 2) dL_law_487 kc_i2
  have q29 : gz_OkE (M_L_law L xs mn) 6 0 0 486 489 _ := ok_iadd q27 q28 dL_law_488
  have q30 : gz_OkE (M_L_law L xs mn) 5 0 0 485 490 _ := ok_sld (L := L) (xs := xs) rfl q26 q29 dL_law_489
  have q31 : gz_OkA (M_L_law L xs mn) 1 0 0 479 490 3 _ := ok_a1 q25 q30
  have q32 : gz_OkE (M_L_law L xs mn) 1 0 0 479 493 _ := ok_cv q31 mt_X8_goes cl_8 wd_244 wd_188 de_X8_goes (Nat.le_of_ble_eq_true rfl) (Nat.le_of_ble_eq_true rfl) wd_245 wd_246 wd_247 dL_law_490 (by decide)
  have q33 : gz_OkJ (M_L_law L xs mn) 0 0 0 465 1215 496 _ := ok_ic_eq q16 q32 dL_law_493 (by decide)
  have q34 : gz_OkS (M_L_law L xs mn) 0 0 1215 _ := ok_at
  have q35 : gz_OkE (M_L_law L xs mn) 0 0 0 496 497 _ := ok_iconst (v := 0) dL_law_496 kc_i0
  have q36 : gz_OkS (M_L_law L xs mn) 0 0 496 _ := ok_ri q35 dL_law_497
  have q37 : gz_OkS (M_L_law L xs mn) 0 0 465 _ := ok_if q33 q34 q36
  exact q37
set_option maxRecDepth 100000 in
theorem okc_8 (L : Nat) (xs : Nat → Int32) (mn : String) : gz_OkS (M_L_law L xs mn) 6 115 498 (lc_8 L xs) := by
  have q1 : gz_OkA (M_L_law L xs mn) 0 0 0 498 498 0 _ := ok_a0
  have q2 : gz_OkE (M_L_law L xs mn) 0 0 0 498 499 _ := ok_aload_n (i := 1) dL_law_498 rfl
  have q3 : gz_OkA (M_L_law L xs mn) 0 0 0 498 499 1 _ := ok_a1 q1 q2
  have q4 : gz_OkE (M_L_law L xs mn) 2 0 0 499 500 _ := ok_aload_n (i := 0) dL_law_499 rfl
  have q5 : gz_OkE (M_L_law L xs mn) 3 0 0 500 501 _ := ok_iload_n (i := 3) dL_law_500 rfl
  have q6 : gz_OkE (M_L_law L xs mn) 4 0 0 501 502 _ := ok_iconst (v := 1) dL_law_501 kc_i1
  have q7 : gz_OkE (M_L_law L xs mn) 3 0 0 500 503 _ := ok_iadd q5 q6 dL_law_502
  have q8 : gz_OkE (M_L_law L xs mn) 2 0 0 499 504 _ := ok_sld (L := L) (xs := xs) rfl q4 q7 dL_law_503
  have q9 : gz_OkA (M_L_law L xs mn) 0 0 0 498 504 2 _ := ok_a1 q3 q8
  have q10 : gz_OkE (M_L_law L xs mn) 4 0 0 504 505 _ := ok_aload_n (i := 0) dL_law_504 rfl
  have q11 : gz_OkE (M_L_law L xs mn) 5 0 0 505 506 _ := ok_iload_n (i := 3) dL_law_505 rfl
  have q12 : gz_OkE (M_L_law L xs mn) 6 0 0 506 507 _ := ok_iconst (v := 2) dL_law_506 kc_i2
  have q13 : gz_OkE (M_L_law L xs mn) 5 0 0 505 508 _ := ok_iadd q11 q12 dL_law_507
  have q14 : gz_OkE (M_L_law L xs mn) 4 0 0 504 509 _ := ok_sld (L := L) (xs := xs) rfl q10 q13 dL_law_508
  have q15 : gz_OkA (M_L_law L xs mn) 0 0 0 498 509 3 _ := ok_a1 q9 q14
  have q16 : gz_OkE (M_L_law L xs mn) 0 6 115 498 512 _ := ok_cv q15 mt_X7_plan cl_7 wd_248 wd_183 de_X7_plan (Nat.le_of_ble_eq_true rfl) (Nat.le_of_ble_eq_true rfl) wd_249 wd_250 wd_251 dL_law_509 (by decide)
  have q17 : gz_OkA (M_L_law L xs mn) 1 0 0 512 512 0 _ := ok_a0
  have q18 : gz_OkE (M_L_law L xs mn) 1 0 0 512 513 _ := ok_aload_n (i := 2) dL_law_512 rfl
  have q19 : gz_OkA (M_L_law L xs mn) 1 0 0 512 513 1 _ := ok_a1 q17 q18
  have q20 : gz_OkE (M_L_law L xs mn) 3 0 0 513 514 _ := ok_aload_n (i := 0) dL_law_513 rfl
  have q21 : gz_OkE (M_L_law L xs mn) 4 0 0 514 515 _ := ok_iload_n (i := 3) dL_law_514 rfl
  have q22 : gz_OkE (M_L_law L xs mn) 5 0 0 515 516 _ := ok_iconst (v := 1) dL_law_515 kc_i1
  have q23 : gz_OkE (M_L_law L xs mn) 4 0 0 514 517 _ := ok_iadd q21 q22 dL_law_516
  have q24 : gz_OkE (M_L_law L xs mn) 3 0 0 513 518 _ := ok_sld (L := L) (xs := xs) rfl q20 q23 dL_law_517
  have q25 : gz_OkA (M_L_law L xs mn) 1 0 0 512 518 2 _ := ok_a1 q19 q24
  have q26 : gz_OkE (M_L_law L xs mn) 5 0 0 518 519 _ := ok_aload_n (i := 0) dL_law_518 rfl
  have q27 : gz_OkE (M_L_law L xs mn) 6 0 0 519 520 _ := ok_iload_n (i := 3) dL_law_519 rfl
  have q28 : gz_OkE (M_L_law L xs mn) 7 0 0 520 521 _ := ok_iconst (v := 2) dL_law_520 kc_i2
  have q29 : gz_OkE (M_L_law L xs mn) 6 0 0 519 522 _ := ok_iadd q27 q28 dL_law_521
  have q30 : gz_OkE (M_L_law L xs mn) 5 0 0 518 523 _ := ok_sld (L := L) (xs := xs) rfl q26 q29 dL_law_522
  have q31 : gz_OkA (M_L_law L xs mn) 1 0 0 512 523 3 _ := ok_a1 q25 q30
  have q32 : gz_OkE (M_L_law L xs mn) 1 0 0 512 526 _ := ok_cv q31 mt_X8_plan cl_8 wd_252 wd_188 de_X8_plan (Nat.le_of_ble_eq_true rfl) (Nat.le_of_ble_eq_true rfl) wd_253 wd_254 wd_255 dL_law_523 (by decide)
  have q33 : gz_OkJ (M_L_law L xs mn) 0 6 115 498 1215 529 _ := ok_ic_eq q16 q32 dL_law_526 (by decide)
  have q34 : gz_OkS (M_L_law L xs mn) 0 0 1215 _ := ok_at
  have q35 : gz_OkE (M_L_law L xs mn) 0 0 0 529 530 _ := ok_iconst (v := 0) dL_law_529 kc_i0
  have q36 : gz_OkS (M_L_law L xs mn) 0 0 529 _ := ok_ri q35 dL_law_530
  have q37 : gz_OkS (M_L_law L xs mn) 6 115 498 _ := ok_if q33 q34 q36
  exact q37
set_option maxRecDepth 100000 in
theorem okc_9 (L : Nat) (xs : Nat → Int32) (mn : String) : gz_OkS (M_L_law L xs mn) 0 0 531 (lc_9 L xs) := by
  have q1 : gz_OkA (M_L_law L xs mn) 0 0 0 531 531 0 _ := ok_a0
  have q2 : gz_OkE (M_L_law L xs mn) 0 0 0 531 532 _ := ok_aload_n (i := 1) dL_law_531 rfl
  have q3 : gz_OkA (M_L_law L xs mn) 0 0 0 531 532 1 _ := ok_a1 q1 q2
  have q4 : gz_OkE (M_L_law L xs mn) 2 0 0 532 533 _ := ok_aload_n (i := 0) dL_law_532 rfl
  have q5 : gz_OkE (M_L_law L xs mn) 3 0 0 533 534 _ := ok_iload_n (i := 3) dL_law_533 rfl
  have q6 : gz_OkE (M_L_law L xs mn) 4 0 0 534 535 _ := ok_iconst (v := 1) dL_law_534 kc_i1
  have q7 : gz_OkE (M_L_law L xs mn) 3 0 0 533 536 _ := ok_iadd q5 q6 dL_law_535
  have q8 : gz_OkE (M_L_law L xs mn) 2 0 0 532 537 _ := ok_sld (L := L) (xs := xs) rfl q4 q7 dL_law_536
  have q9 : gz_OkA (M_L_law L xs mn) 0 0 0 531 537 2 _ := ok_a1 q3 q8
  have q10 : gz_OkE (M_L_law L xs mn) 4 0 0 537 538 _ := ok_aload_n (i := 0) dL_law_537 rfl
  have q11 : gz_OkE (M_L_law L xs mn) 5 0 0 538 539 _ := ok_iload_n (i := 3) dL_law_538 rfl
  have q12 : gz_OkE (M_L_law L xs mn) 6 0 0 539 540 _ := ok_iconst (v := 2) dL_law_539 kc_i2
  have q13 : gz_OkE (M_L_law L xs mn) 5 0 0 538 541 _ := ok_iadd q11 q12 dL_law_540
  have q14 : gz_OkE (M_L_law L xs mn) 4 0 0 537 542 _ := ok_sld (L := L) (xs := xs) rfl q10 q13 dL_law_541
  have q15 : gz_OkA (M_L_law L xs mn) 0 0 0 531 542 3 _ := ok_a1 q9 q14
  have q16 : gz_OkE (M_L_law L xs mn) 6 0 0 542 543 _ := ok_aload_n (i := 0) dL_law_542 rfl
  have q17 : gz_OkE (M_L_law L xs mn) 7 0 0 543 544 _ := ok_iload_n (i := 3) dL_law_543 rfl
  have q18 : gz_OkE (M_L_law L xs mn) 8 0 0 544 545 _ := ok_iconst (v := 3) dL_law_544 kc_i3
  have q19 : gz_OkE (M_L_law L xs mn) 7 0 0 543 546 _ := ok_iadd q17 q18 dL_law_545
  have q20 : gz_OkE (M_L_law L xs mn) 6 0 0 542 547 _ := ok_sld (L := L) (xs := xs) rfl q16 q19 dL_law_546
  have q21 : gz_OkA (M_L_law L xs mn) 0 0 0 531 547 4 _ := ok_a1 q15 q20
  have q22 : gz_OkE (M_L_law L xs mn) 0 0 0 531 550 _ := ok_cv q21 mt_X7_stage cl_7 wd_256 wd_183 de_X7_stage (Nat.le_of_ble_eq_true rfl) (Nat.le_of_ble_eq_true rfl) wd_257 wd_258 wd_259 dL_law_547 (by decide)
  have q23 : gz_OkA (M_L_law L xs mn) 1 0 0 550 550 0 _ := ok_a0
  have q24 : gz_OkE (M_L_law L xs mn) 1 0 0 550 551 _ := ok_aload_n (i := 2) dL_law_550 rfl
  have q25 : gz_OkA (M_L_law L xs mn) 1 0 0 550 551 1 _ := ok_a1 q23 q24
  have q26 : gz_OkE (M_L_law L xs mn) 3 0 0 551 552 _ := ok_aload_n (i := 0) dL_law_551 rfl
  have q27 : gz_OkE (M_L_law L xs mn) 4 0 0 552 553 _ := ok_iload_n (i := 3) dL_law_552 rfl
  have q28 : gz_OkE (M_L_law L xs mn) 5 0 0 553 554 _ := ok_iconst (v := 1) dL_law_553 kc_i1
  have q29 : gz_OkE (M_L_law L xs mn) 4 0 0 552 555 _ := ok_iadd q27 q28 dL_law_554
  have q30 : gz_OkE (M_L_law L xs mn) 3 0 0 551 556 _ := ok_sld (L := L) (xs := xs) rfl q26 q29 dL_law_555
  have q31 : gz_OkA (M_L_law L xs mn) 1 0 0 550 556 2 _ := ok_a1 q25 q30
  have q32 : gz_OkE (M_L_law L xs mn) 5 0 0 556 557 _ := ok_aload_n (i := 0) dL_law_556 rfl
  have q33 : gz_OkE (M_L_law L xs mn) 6 0 0 557 558 _ := ok_iload_n (i := 3) dL_law_557 rfl
  have q34 : gz_OkE (M_L_law L xs mn) 7 0 0 558 559 _ := ok_iconst (v := 2) dL_law_558 kc_i2
  have q35 : gz_OkE (M_L_law L xs mn) 6 0 0 557 560 _ := ok_iadd q33 q34 dL_law_559
  have q36 : gz_OkE (M_L_law L xs mn) 5 0 0 556 561 _ := ok_sld (L := L) (xs := xs) rfl q32 q35 dL_law_560
  have q37 : gz_OkA (M_L_law L xs mn) 1 0 0 550 561 3 _ := ok_a1 q31 q36
  have q38 : gz_OkE (M_L_law L xs mn) 7 0 0 561 562 _ := ok_aload_n (i := 0) dL_law_561 rfl
  have q39 : gz_OkE (M_L_law L xs mn) 8 0 0 562 563 _ := ok_iload_n (i := 3) dL_law_562 rfl
  have q40 : gz_OkE (M_L_law L xs mn) 9 0 0 563 564 _ := ok_iconst (v := 3) dL_law_563 kc_i3
  have q41 : gz_OkE (M_L_law L xs mn) 8 0 0 562 565 _ := ok_iadd q39 q40 dL_law_564
  have q42 : gz_OkE (M_L_law L xs mn) 7 0 0 561 566 _ := ok_sld (L := L) (xs := xs) rfl q38 q41 dL_law_565
  have q43 : gz_OkA (M_L_law L xs mn) 1 0 0 550 566 4 _ := ok_a1 q37 q42
  have q44 : gz_OkE (M_L_law L xs mn) 1 0 0 550 569 _ := ok_cv q43 mt_X8_stage cl_8 wd_260 wd_188 de_X8_stage (Nat.le_of_ble_eq_true rfl) (Nat.le_of_ble_eq_true rfl) wd_261 wd_262 wd_263 dL_law_566 (by decide)
  have q45 : gz_OkJ (M_L_law L xs mn) 0 0 0 531 1215 572 _ := ok_ic_eq q22 q44 dL_law_569 (by decide)
  have q46 : gz_OkS (M_L_law L xs mn) 0 0 1215 _ := ok_at
  have q47 : gz_OkE (M_L_law L xs mn) 0 0 0 572 573 _ := ok_iconst (v := 0) dL_law_572 kc_i0
  have q48 : gz_OkS (M_L_law L xs mn) 0 0 572 _ := ok_ri q47 dL_law_573
  have q49 : gz_OkS (M_L_law L xs mn) 0 0 531 _ := ok_if q45 q46 q48
  exact q49
set_option maxRecDepth 100000 in
theorem okc_10 (L : Nat) (xs : Nat → Int32) (mn : String) : gz_OkS (M_L_law L xs mn) 0 0 574 (lc_10 L xs) := by
  have q1 : gz_OkA (M_L_law L xs mn) 0 0 0 574 574 0 _ := ok_a0
  have q2 : gz_OkE (M_L_law L xs mn) 0 0 0 574 575 _ := ok_aload_n (i := 1) dL_law_574 rfl
  have q3 : gz_OkA (M_L_law L xs mn) 0 0 0 574 575 1 _ := ok_a1 q1 q2
  have q4 : gz_OkE (M_L_law L xs mn) 2 0 0 575 576 _ := ok_aload_n (i := 0) dL_law_575 rfl
  have q5 : gz_OkE (M_L_law L xs mn) 3 0 0 576 577 _ := ok_iload_n (i := 3) dL_law_576 rfl
  have q6 : gz_OkE (M_L_law L xs mn) 4 0 0 577 578 _ := ok_iconst (v := 1) dL_law_577 kc_i1
  have q7 : gz_OkE (M_L_law L xs mn) 3 0 0 576 579 _ := ok_iadd q5 q6 dL_law_578
  have q8 : gz_OkE (M_L_law L xs mn) 2 0 0 575 580 _ := ok_sld (L := L) (xs := xs) rfl q4 q7 dL_law_579
  have q9 : gz_OkA (M_L_law L xs mn) 0 0 0 574 580 2 _ := ok_a1 q3 q8
  have q10 : gz_OkE (M_L_law L xs mn) 4 0 0 580 581 _ := ok_aload_n (i := 0) dL_law_580 rfl
  have q11 : gz_OkE (M_L_law L xs mn) 5 0 0 581 582 _ := ok_iload_n (i := 3) dL_law_581 rfl
  have q12 : gz_OkE (M_L_law L xs mn) 6 0 0 582 583 _ := ok_iconst (v := 2) dL_law_582 kc_i2
  have q13 : gz_OkE (M_L_law L xs mn) 5 0 0 581 584 _ := ok_iadd q11 q12 dL_law_583
  have q14 : gz_OkE (M_L_law L xs mn) 4 0 0 580 585 _ := ok_sld (L := L) (xs := xs) rfl q10 q13 dL_law_584
  have q15 : gz_OkA (M_L_law L xs mn) 0 0 0 574 585 3 _ := ok_a1 q9 q14
  have q16 : gz_OkE (M_L_law L xs mn) 0 0 0 574 588 _ := ok_cv q15 mt_X7_take cl_7 wd_264 wd_183 de_X7_take (Nat.le_of_ble_eq_true rfl) (Nat.le_of_ble_eq_true rfl) wd_265 wd_266 wd_267 dL_law_585 (by decide)
  have q17 : gz_OkA (M_L_law L xs mn) 1 0 0 588 588 0 _ := ok_a0
  have q18 : gz_OkE (M_L_law L xs mn) 1 0 0 588 589 _ := ok_aload_n (i := 2) dL_law_588 rfl
  have q19 : gz_OkA (M_L_law L xs mn) 1 0 0 588 589 1 _ := ok_a1 q17 q18
  have q20 : gz_OkE (M_L_law L xs mn) 3 0 0 589 590 _ := ok_aload_n (i := 0) dL_law_589 rfl
  have q21 : gz_OkE (M_L_law L xs mn) 4 0 0 590 591 _ := ok_iload_n (i := 3) dL_law_590 rfl
  have q22 : gz_OkE (M_L_law L xs mn) 5 0 0 591 592 _ := ok_iconst (v := 1) dL_law_591 kc_i1
  have q23 : gz_OkE (M_L_law L xs mn) 4 0 0 590 593 _ := ok_iadd q21 q22 dL_law_592
  have q24 : gz_OkE (M_L_law L xs mn) 3 0 0 589 594 _ := ok_sld (L := L) (xs := xs) rfl q20 q23 dL_law_593
  have q25 : gz_OkA (M_L_law L xs mn) 1 0 0 588 594 2 _ := ok_a1 q19 q24
  have q26 : gz_OkE (M_L_law L xs mn) 5 0 0 594 595 _ := ok_aload_n (i := 0) dL_law_594 rfl
  have q27 : gz_OkE (M_L_law L xs mn) 6 0 0 595 596 _ := ok_iload_n (i := 3) dL_law_595 rfl
  have q28 : gz_OkE (M_L_law L xs mn) 7 0 0 596 597 _ := ok_iconst (v := 2) dL_law_596 kc_i2
  have q29 : gz_OkE (M_L_law L xs mn) 6 0 0 595 598 _ := ok_iadd q27 q28 dL_law_597
  have q30 : gz_OkE (M_L_law L xs mn) 5 0 0 594 599 _ := ok_sld (L := L) (xs := xs) rfl q26 q29 dL_law_598
  have q31 : gz_OkA (M_L_law L xs mn) 1 0 0 588 599 3 _ := ok_a1 q25 q30
  have q32 : gz_OkE (M_L_law L xs mn) 1 0 0 588 602 _ := ok_cv q31 mt_X8_take cl_8 wd_268 wd_188 de_X8_take (Nat.le_of_ble_eq_true rfl) (Nat.le_of_ble_eq_true rfl) wd_269 wd_270 wd_271 dL_law_599 (by decide)
  have q33 : gz_OkJ (M_L_law L xs mn) 0 0 0 574 1215 605 _ := ok_ic_eq q16 q32 dL_law_602 (by decide)
  have q34 : gz_OkS (M_L_law L xs mn) 0 0 1215 _ := ok_at
  have q35 : gz_OkE (M_L_law L xs mn) 0 0 0 605 606 _ := ok_iconst (v := 0) dL_law_605 kc_i0
  have q36 : gz_OkS (M_L_law L xs mn) 0 0 605 _ := ok_ri q35 dL_law_606
  have q37 : gz_OkS (M_L_law L xs mn) 0 0 574 _ := ok_if q33 q34 q36
  exact q37
set_option maxRecDepth 100000 in
theorem okc_11 (L : Nat) (xs : Nat → Int32) (mn : String) : gz_OkS (M_L_law L xs mn) 0 0 607 (lc_11 L xs) := by
  have q1 : gz_OkA (M_L_law L xs mn) 0 0 0 607 607 0 _ := ok_a0
  have q2 : gz_OkE (M_L_law L xs mn) 0 0 0 607 608 _ := ok_aload_n (i := 1) dL_law_607 rfl
  have q3 : gz_OkA (M_L_law L xs mn) 0 0 0 607 608 1 _ := ok_a1 q1 q2
  have q4 : gz_OkE (M_L_law L xs mn) 2 0 0 608 609 _ := ok_aload_n (i := 0) dL_law_608 rfl
  have q5 : gz_OkE (M_L_law L xs mn) 3 0 0 609 610 _ := ok_iload_n (i := 3) dL_law_609 rfl
  have q6 : gz_OkE (M_L_law L xs mn) 4 0 0 610 611 _ := ok_iconst (v := 1) dL_law_610 kc_i1
  have q7 : gz_OkE (M_L_law L xs mn) 3 0 0 609 612 _ := ok_iadd q5 q6 dL_law_611
  have q8 : gz_OkE (M_L_law L xs mn) 2 0 0 608 613 _ := ok_sld (L := L) (xs := xs) rfl q4 q7 dL_law_612
  have q9 : gz_OkA (M_L_law L xs mn) 0 0 0 607 613 2 _ := ok_a1 q3 q8
  have q10 : gz_OkE (M_L_law L xs mn) 0 0 0 607 616 _ := ok_cv q9 mt_X7_why cl_7 wd_272 wd_183 de_X7_why (Nat.le_of_ble_eq_true rfl) (Nat.le_of_ble_eq_true rfl) wd_273 wd_274 wd_275 dL_law_613 (by decide)
  have q11 : gz_OkA (M_L_law L xs mn) 1 0 0 616 616 0 _ := ok_a0
  have q12 : gz_OkE (M_L_law L xs mn) 1 0 0 616 617 _ := ok_aload_n (i := 2) dL_law_616 rfl
  have q13 : gz_OkA (M_L_law L xs mn) 1 0 0 616 617 1 _ := ok_a1 q11 q12
  have q14 : gz_OkE (M_L_law L xs mn) 3 0 0 617 618 _ := ok_aload_n (i := 0) dL_law_617 rfl
  have q15 : gz_OkE (M_L_law L xs mn) 4 0 0 618 619 _ := ok_iload_n (i := 3) dL_law_618 rfl
  have q16 : gz_OkE (M_L_law L xs mn) 5 0 0 619 620 _ := ok_iconst (v := 1) dL_law_619 kc_i1
  have q17 : gz_OkE (M_L_law L xs mn) 4 0 0 618 621 _ := ok_iadd q15 q16 dL_law_620
  have q18 : gz_OkE (M_L_law L xs mn) 3 0 0 617 622 _ := ok_sld (L := L) (xs := xs) rfl q14 q17 dL_law_621
  have q19 : gz_OkA (M_L_law L xs mn) 1 0 0 616 622 2 _ := ok_a1 q13 q18
  have q20 : gz_OkE (M_L_law L xs mn) 1 0 0 616 625 _ := ok_cv q19 mt_X8_why cl_8 wd_276 wd_188 de_X8_why (Nat.le_of_ble_eq_true rfl) (Nat.le_of_ble_eq_true rfl) wd_277 wd_278 wd_279 dL_law_622 (by decide)
  have q21 : gz_OkJ (M_L_law L xs mn) 0 0 0 607 1215 628 _ := ok_ic_eq q10 q20 dL_law_625 (by decide)
  have q22 : gz_OkS (M_L_law L xs mn) 0 0 1215 _ := ok_at
  have q23 : gz_OkE (M_L_law L xs mn) 0 0 0 628 629 _ := ok_iconst (v := 0) dL_law_628 kc_i0
  have q24 : gz_OkS (M_L_law L xs mn) 0 0 628 _ := ok_ri q23 dL_law_629
  have q25 : gz_OkS (M_L_law L xs mn) 0 0 607 _ := ok_if q21 q22 q24
  exact q25
set_option maxRecDepth 100000 in
theorem okc_12 (L : Nat) (xs : Nat → Int32) (mn : String) : gz_OkS (M_L_law L xs mn) 0 0 630 (lc_12 L xs) := by
  have q1 : gz_OkA (M_L_law L xs mn) 0 0 0 630 630 0 _ := ok_a0
  have q2 : gz_OkE (M_L_law L xs mn) 0 0 0 630 631 _ := ok_aload_n (i := 1) dL_law_630 rfl
  have q3 : gz_OkA (M_L_law L xs mn) 0 0 0 630 631 1 _ := ok_a1 q1 q2
  have q4 : gz_OkE (M_L_law L xs mn) 2 0 0 631 632 _ := ok_aload_n (i := 0) dL_law_631 rfl
  have q5 : gz_OkE (M_L_law L xs mn) 3 0 0 632 633 _ := ok_iload_n (i := 3) dL_law_632 rfl
  have q6 : gz_OkE (M_L_law L xs mn) 4 0 0 633 634 _ := ok_iconst (v := 1) dL_law_633 kc_i1
  have q7 : gz_OkE (M_L_law L xs mn) 3 0 0 632 635 _ := ok_iadd q5 q6 dL_law_634
  have q8 : gz_OkE (M_L_law L xs mn) 2 0 0 631 636 _ := ok_sld (L := L) (xs := xs) rfl q4 q7 dL_law_635
  have q9 : gz_OkA (M_L_law L xs mn) 0 0 0 630 636 2 _ := ok_a1 q3 q8
  have q10 : gz_OkE (M_L_law L xs mn) 4 0 0 636 637 _ := ok_aload_n (i := 0) dL_law_636 rfl
  have q11 : gz_OkE (M_L_law L xs mn) 5 0 0 637 638 _ := ok_iload_n (i := 3) dL_law_637 rfl
  have q12 : gz_OkE (M_L_law L xs mn) 6 0 0 638 639 _ := ok_iconst (v := 2) dL_law_638 kc_i2
  have q13 : gz_OkE (M_L_law L xs mn) 5 0 0 637 640 _ := ok_iadd q11 q12 dL_law_639
  have q14 : gz_OkE (M_L_law L xs mn) 4 0 0 636 641 _ := ok_sld (L := L) (xs := xs) rfl q10 q13 dL_law_640
  have q15 : gz_OkA (M_L_law L xs mn) 0 0 0 630 641 3 _ := ok_a1 q9 q14
  have q16 : gz_OkE (M_L_law L xs mn) 0 0 0 630 644 _ := ok_cv q15 mt_X7_told cl_7 wd_280 wd_183 de_X7_told (Nat.le_of_ble_eq_true rfl) (Nat.le_of_ble_eq_true rfl) wd_281 wd_282 wd_283 dL_law_641 (by decide)
  have q17 : gz_OkA (M_L_law L xs mn) 1 0 0 644 644 0 _ := ok_a0
  have q18 : gz_OkE (M_L_law L xs mn) 1 0 0 644 645 _ := ok_aload_n (i := 2) dL_law_644 rfl
  have q19 : gz_OkA (M_L_law L xs mn) 1 0 0 644 645 1 _ := ok_a1 q17 q18
  have q20 : gz_OkE (M_L_law L xs mn) 3 0 0 645 646 _ := ok_aload_n (i := 0) dL_law_645 rfl
  have q21 : gz_OkE (M_L_law L xs mn) 4 0 0 646 647 _ := ok_iload_n (i := 3) dL_law_646 rfl
  have q22 : gz_OkE (M_L_law L xs mn) 5 0 0 647 648 _ := ok_iconst (v := 1) dL_law_647 kc_i1
  have q23 : gz_OkE (M_L_law L xs mn) 4 0 0 646 649 _ := ok_iadd q21 q22 dL_law_648
  have q24 : gz_OkE (M_L_law L xs mn) 3 0 0 645 650 _ := ok_sld (L := L) (xs := xs) rfl q20 q23 dL_law_649
  have q25 : gz_OkA (M_L_law L xs mn) 1 0 0 644 650 2 _ := ok_a1 q19 q24
  have q26 : gz_OkE (M_L_law L xs mn) 5 0 0 650 651 _ := ok_aload_n (i := 0) dL_law_650 rfl
  have q27 : gz_OkE (M_L_law L xs mn) 6 0 0 651 652 _ := ok_iload_n (i := 3) dL_law_651 rfl
  have q28 : gz_OkE (M_L_law L xs mn) 7 0 0 652 653 _ := ok_iconst (v := 2) dL_law_652 kc_i2
  have q29 : gz_OkE (M_L_law L xs mn) 6 0 0 651 654 _ := ok_iadd q27 q28 dL_law_653
  have q30 : gz_OkE (M_L_law L xs mn) 5 0 0 650 655 _ := ok_sld (L := L) (xs := xs) rfl q26 q29 dL_law_654
  have q31 : gz_OkA (M_L_law L xs mn) 1 0 0 644 655 3 _ := ok_a1 q25 q30
  have q32 : gz_OkE (M_L_law L xs mn) 1 0 0 644 658 _ := ok_cv q31 mt_X8_told cl_8 wd_284 wd_188 de_X8_told (Nat.le_of_ble_eq_true rfl) (Nat.le_of_ble_eq_true rfl) wd_285 wd_286 wd_287 dL_law_655 (by decide)
  have q33 : gz_OkJ (M_L_law L xs mn) 0 0 0 630 1215 661 _ := ok_ic_eq q16 q32 dL_law_658 (by decide)
  have q34 : gz_OkS (M_L_law L xs mn) 0 0 1215 _ := ok_at
  have q35 : gz_OkE (M_L_law L xs mn) 0 0 0 661 662 _ := ok_iconst (v := 0) dL_law_661 kc_i0
  have q36 : gz_OkS (M_L_law L xs mn) 0 0 661 _ := ok_ri q35 dL_law_662
  have q37 : gz_OkS (M_L_law L xs mn) 0 0 630 _ := ok_if q33 q34 q36
  exact q37
set_option maxRecDepth 100000 in
theorem okc_13 (L : Nat) (xs : Nat → Int32) (mn : String) : gz_OkS (M_L_law L xs mn) 0 0 663 (lc_13 L xs) := by
  have q1 : gz_OkA (M_L_law L xs mn) 0 0 0 663 663 0 _ := ok_a0
  have q2 : gz_OkE (M_L_law L xs mn) 0 0 0 663 664 _ := ok_aload_n (i := 1) dL_law_663 rfl
  have q3 : gz_OkA (M_L_law L xs mn) 0 0 0 663 664 1 _ := ok_a1 q1 q2
  have q4 : gz_OkE (M_L_law L xs mn) 2 0 0 664 665 _ := ok_aload_n (i := 0) dL_law_664 rfl
  have q5 : gz_OkE (M_L_law L xs mn) 3 0 0 665 666 _ := ok_iload_n (i := 3) dL_law_665 rfl
  have q6 : gz_OkE (M_L_law L xs mn) 4 0 0 666 667 _ := ok_iconst (v := 1) dL_law_666 kc_i1
  have q7 : gz_OkE (M_L_law L xs mn) 3 0 0 665 668 _ := ok_iadd q5 q6 dL_law_667
  have q8 : gz_OkE (M_L_law L xs mn) 2 0 0 664 669 _ := ok_sld (L := L) (xs := xs) rfl q4 q7 dL_law_668
  have q9 : gz_OkA (M_L_law L xs mn) 0 0 0 663 669 2 _ := ok_a1 q3 q8
  have q10 : gz_OkE (M_L_law L xs mn) 4 0 0 669 670 _ := ok_aload_n (i := 0) dL_law_669 rfl
  have q11 : gz_OkE (M_L_law L xs mn) 5 0 0 670 671 _ := ok_iload_n (i := 3) dL_law_670 rfl
  have q12 : gz_OkE (M_L_law L xs mn) 6 0 0 671 672 _ := ok_iconst (v := 2) dL_law_671 kc_i2
  have q13 : gz_OkE (M_L_law L xs mn) 5 0 0 670 673 _ := ok_iadd q11 q12 dL_law_672
  have q14 : gz_OkE (M_L_law L xs mn) 4 0 0 669 674 _ := ok_sld (L := L) (xs := xs) rfl q10 q13 dL_law_673
  have q15 : gz_OkA (M_L_law L xs mn) 0 0 0 663 674 3 _ := ok_a1 q9 q14
  have q16 : gz_OkE (M_L_law L xs mn) 0 0 0 663 677 _ := ok_cv q15 mt_X7_offset cl_7 wd_288 wd_183 de_X7_offset (Nat.le_of_ble_eq_true rfl) (Nat.le_of_ble_eq_true rfl) wd_289 wd_290 wd_291 dL_law_674 (by decide)
  have q17 : gz_OkA (M_L_law L xs mn) 1 0 0 677 677 0 _ := ok_a0
  have q18 : gz_OkE (M_L_law L xs mn) 1 0 0 677 678 _ := ok_aload_n (i := 2) dL_law_677 rfl
  have q19 : gz_OkA (M_L_law L xs mn) 1 0 0 677 678 1 _ := ok_a1 q17 q18
  have q20 : gz_OkE (M_L_law L xs mn) 3 0 0 678 679 _ := ok_aload_n (i := 0) dL_law_678 rfl
  have q21 : gz_OkE (M_L_law L xs mn) 4 0 0 679 680 _ := ok_iload_n (i := 3) dL_law_679 rfl
  have q22 : gz_OkE (M_L_law L xs mn) 5 0 0 680 681 _ := ok_iconst (v := 1) dL_law_680 kc_i1
  have q23 : gz_OkE (M_L_law L xs mn) 4 0 0 679 682 _ := ok_iadd q21 q22 dL_law_681
  have q24 : gz_OkE (M_L_law L xs mn) 3 0 0 678 683 _ := ok_sld (L := L) (xs := xs) rfl q20 q23 dL_law_682
  have q25 : gz_OkA (M_L_law L xs mn) 1 0 0 677 683 2 _ := ok_a1 q19 q24
  have q26 : gz_OkE (M_L_law L xs mn) 5 0 0 683 684 _ := ok_aload_n (i := 0) dL_law_683 rfl
  have q27 : gz_OkE (M_L_law L xs mn) 6 0 0 684 685 _ := ok_iload_n (i := 3) dL_law_684 rfl
  have q28 : gz_OkE (M_L_law L xs mn) 7 0 0 685 686 _ := ok_iconst (v := 2) dL_law_685 kc_i2
  have q29 : gz_OkE (M_L_law L xs mn) 6 0 0 684 687 _ := ok_iadd q27 q28 dL_law_686
  have q30 : gz_OkE (M_L_law L xs mn) 5 0 0 683 688 _ := ok_sld (L := L) (xs := xs) rfl q26 q29 dL_law_687
  have q31 : gz_OkA (M_L_law L xs mn) 1 0 0 677 688 3 _ := ok_a1 q25 q30
  have q32 : gz_OkE (M_L_law L xs mn) 1 0 0 677 691 _ := ok_cv q31 mt_X8_offset cl_8 wd_292 wd_188 de_X8_offset (Nat.le_of_ble_eq_true rfl) (Nat.le_of_ble_eq_true rfl) wd_293 wd_294 wd_295 dL_law_688 (by decide)
  have q33 : gz_OkJ (M_L_law L xs mn) 0 0 0 663 1215 694 _ := ok_ic_eq q16 q32 dL_law_691 (by decide)
  have q34 : gz_OkS (M_L_law L xs mn) 0 0 1215 _ := ok_at
  have q35 : gz_OkE (M_L_law L xs mn) 0 0 0 694 695 _ := ok_iconst (v := 0) dL_law_694 kc_i0
  have q36 : gz_OkS (M_L_law L xs mn) 0 0 694 _ := ok_ri q35 dL_law_695
  have q37 : gz_OkS (M_L_law L xs mn) 0 0 663 _ := ok_if q33 q34 q36
  exact q37
set_option maxRecDepth 100000 in
theorem okc_14 (L : Nat) (xs : Nat → Int32) (mn : String) : gz_OkS (M_L_law L xs mn) 0 0 696 (lc_14 L xs) := by
  have q1 : gz_OkA (M_L_law L xs mn) 0 0 0 696 696 0 _ := ok_a0
  have q2 : gz_OkE (M_L_law L xs mn) 0 0 0 696 697 _ := ok_aload_n (i := 1) dL_law_696 rfl
  have q3 : gz_OkA (M_L_law L xs mn) 0 0 0 696 697 1 _ := ok_a1 q1 q2
  have q4 : gz_OkE (M_L_law L xs mn) 2 0 0 697 698 _ := ok_aload_n (i := 0) dL_law_697 rfl
  have q5 : gz_OkE (M_L_law L xs mn) 3 0 0 698 699 _ := ok_iload_n (i := 3) dL_law_698 rfl
  have q6 : gz_OkE (M_L_law L xs mn) 4 0 0 699 700 _ := ok_iconst (v := 1) dL_law_699 kc_i1
  have q7 : gz_OkE (M_L_law L xs mn) 3 0 0 698 701 _ := ok_iadd q5 q6 dL_law_700
  have q8 : gz_OkE (M_L_law L xs mn) 2 0 0 697 702 _ := ok_sld (L := L) (xs := xs) rfl q4 q7 dL_law_701
  have q9 : gz_OkA (M_L_law L xs mn) 0 0 0 696 702 2 _ := ok_a1 q3 q8
  have q10 : gz_OkE (M_L_law L xs mn) 4 0 0 702 703 _ := ok_aload_n (i := 0) dL_law_702 rfl
  have q11 : gz_OkE (M_L_law L xs mn) 5 0 0 703 704 _ := ok_iload_n (i := 3) dL_law_703 rfl
  have q12 : gz_OkE (M_L_law L xs mn) 6 0 0 704 705 _ := ok_iconst (v := 2) dL_law_704 kc_i2
  have q13 : gz_OkE (M_L_law L xs mn) 5 0 0 703 706 _ := ok_iadd q11 q12 dL_law_705
  have q14 : gz_OkE (M_L_law L xs mn) 4 0 0 702 707 _ := ok_sld (L := L) (xs := xs) rfl q10 q13 dL_law_706
  have q15 : gz_OkA (M_L_law L xs mn) 0 0 0 696 707 3 _ := ok_a1 q9 q14
  have q16 : gz_OkE (M_L_law L xs mn) 0 0 0 696 710 _ := ok_cv q15 mt_X7_tear cl_7 wd_296 wd_183 de_X7_tear (Nat.le_of_ble_eq_true rfl) (Nat.le_of_ble_eq_true rfl) wd_297 wd_298 wd_299 dL_law_707 (by decide)
  have q17 : gz_OkA (M_L_law L xs mn) 1 0 0 710 710 0 _ := ok_a0
  have q18 : gz_OkE (M_L_law L xs mn) 1 0 0 710 711 _ := ok_aload_n (i := 2) dL_law_710 rfl
  have q19 : gz_OkA (M_L_law L xs mn) 1 0 0 710 711 1 _ := ok_a1 q17 q18
  have q20 : gz_OkE (M_L_law L xs mn) 3 0 0 711 712 _ := ok_aload_n (i := 0) dL_law_711 rfl
  have q21 : gz_OkE (M_L_law L xs mn) 4 0 0 712 713 _ := ok_iload_n (i := 3) dL_law_712 rfl
  have q22 : gz_OkE (M_L_law L xs mn) 5 0 0 713 714 _ := ok_iconst (v := 1) dL_law_713 kc_i1
  have q23 : gz_OkE (M_L_law L xs mn) 4 0 0 712 715 _ := ok_iadd q21 q22 dL_law_714
  have q24 : gz_OkE (M_L_law L xs mn) 3 0 0 711 716 _ := ok_sld (L := L) (xs := xs) rfl q20 q23 dL_law_715
  have q25 : gz_OkA (M_L_law L xs mn) 1 0 0 710 716 2 _ := ok_a1 q19 q24
  have q26 : gz_OkE (M_L_law L xs mn) 5 0 0 716 717 _ := ok_aload_n (i := 0) dL_law_716 rfl
  have q27 : gz_OkE (M_L_law L xs mn) 6 0 0 717 718 _ := ok_iload_n (i := 3) dL_law_717 rfl
  have q28 : gz_OkE (M_L_law L xs mn) 7 0 0 718 719 _ := ok_iconst (v := 2) dL_law_718 kc_i2
  have q29 : gz_OkE (M_L_law L xs mn) 6 0 0 717 720 _ := ok_iadd q27 q28 dL_law_719
  have q30 : gz_OkE (M_L_law L xs mn) 5 0 0 716 721 _ := ok_sld (L := L) (xs := xs) rfl q26 q29 dL_law_720
  have q31 : gz_OkA (M_L_law L xs mn) 1 0 0 710 721 3 _ := ok_a1 q25 q30
  have q32 : gz_OkE (M_L_law L xs mn) 1 0 0 710 724 _ := ok_cv q31 mt_X8_tear cl_8 wd_300 wd_188 de_X8_tear (Nat.le_of_ble_eq_true rfl) (Nat.le_of_ble_eq_true rfl) wd_301 wd_302 wd_303 dL_law_721 (by decide)
  have q33 : gz_OkJ (M_L_law L xs mn) 0 0 0 696 1215 727 _ := ok_ic_eq q16 q32 dL_law_724 (by decide)
  have q34 : gz_OkS (M_L_law L xs mn) 0 0 1215 _ := ok_at
  have q35 : gz_OkE (M_L_law L xs mn) 0 0 0 727 728 _ := ok_iconst (v := 0) dL_law_727 kc_i0
  have q36 : gz_OkS (M_L_law L xs mn) 0 0 727 _ := ok_ri q35 dL_law_728
  have q37 : gz_OkS (M_L_law L xs mn) 0 0 696 _ := ok_if q33 q34 q36
  exact q37
set_option maxRecDepth 100000 in
theorem okc_15 (L : Nat) (xs : Nat → Int32) (mn : String) : gz_OkS (M_L_law L xs mn) 0 0 729 (lc_15 L xs) := by
  have q1 : gz_OkA (M_L_law L xs mn) 0 0 0 729 729 0 _ := ok_a0
  have q2 : gz_OkE (M_L_law L xs mn) 0 0 0 729 730 _ := ok_aload_n (i := 1) dL_law_729 rfl
  have q3 : gz_OkA (M_L_law L xs mn) 0 0 0 729 730 1 _ := ok_a1 q1 q2
  have q4 : gz_OkE (M_L_law L xs mn) 2 0 0 730 731 _ := ok_aload_n (i := 0) dL_law_730 rfl
  have q5 : gz_OkE (M_L_law L xs mn) 3 0 0 731 732 _ := ok_iload_n (i := 3) dL_law_731 rfl
  have q6 : gz_OkE (M_L_law L xs mn) 4 0 0 732 733 _ := ok_iconst (v := 1) dL_law_732 kc_i1
  have q7 : gz_OkE (M_L_law L xs mn) 3 0 0 731 734 _ := ok_iadd q5 q6 dL_law_733
  have q8 : gz_OkE (M_L_law L xs mn) 2 0 0 730 735 _ := ok_sld (L := L) (xs := xs) rfl q4 q7 dL_law_734
  have q9 : gz_OkA (M_L_law L xs mn) 0 0 0 729 735 2 _ := ok_a1 q3 q8
  have q10 : gz_OkE (M_L_law L xs mn) 0 0 0 729 738 _ := ok_cv q9 mt_X7_share cl_7 wd_304 wd_183 de_X7_share (Nat.le_of_ble_eq_true rfl) (Nat.le_of_ble_eq_true rfl) wd_305 wd_306 wd_307 dL_law_735 (by decide)
  have q11 : gz_OkA (M_L_law L xs mn) 1 0 0 738 738 0 _ := ok_a0
  have q12 : gz_OkE (M_L_law L xs mn) 1 0 0 738 739 _ := ok_aload_n (i := 2) dL_law_738 rfl
  have q13 : gz_OkA (M_L_law L xs mn) 1 0 0 738 739 1 _ := ok_a1 q11 q12
  have q14 : gz_OkE (M_L_law L xs mn) 3 0 0 739 740 _ := ok_aload_n (i := 0) dL_law_739 rfl
  have q15 : gz_OkE (M_L_law L xs mn) 4 0 0 740 741 _ := ok_iload_n (i := 3) dL_law_740 rfl
  have q16 : gz_OkE (M_L_law L xs mn) 5 0 0 741 742 _ := ok_iconst (v := 1) dL_law_741 kc_i1
  have q17 : gz_OkE (M_L_law L xs mn) 4 0 0 740 743 _ := ok_iadd q15 q16 dL_law_742
  have q18 : gz_OkE (M_L_law L xs mn) 3 0 0 739 744 _ := ok_sld (L := L) (xs := xs) rfl q14 q17 dL_law_743
  have q19 : gz_OkA (M_L_law L xs mn) 1 0 0 738 744 2 _ := ok_a1 q13 q18
  have q20 : gz_OkE (M_L_law L xs mn) 1 0 0 738 747 _ := ok_cv q19 mt_X8_share cl_8 wd_308 wd_188 de_X8_share (Nat.le_of_ble_eq_true rfl) (Nat.le_of_ble_eq_true rfl) wd_309 wd_310 wd_311 dL_law_744 (by decide)
  have q21 : gz_OkJ (M_L_law L xs mn) 0 0 0 729 1215 750 _ := ok_ic_eq q10 q20 dL_law_747 (by decide)
  have q22 : gz_OkS (M_L_law L xs mn) 0 0 1215 _ := ok_at
  have q23 : gz_OkE (M_L_law L xs mn) 0 0 0 750 751 _ := ok_iconst (v := 0) dL_law_750 kc_i0
  have q24 : gz_OkS (M_L_law L xs mn) 0 0 750 _ := ok_ri q23 dL_law_751
  have q25 : gz_OkS (M_L_law L xs mn) 0 0 729 _ := ok_if q21 q22 q24
  exact q25
set_option maxRecDepth 100000 in
theorem okc_16 (L : Nat) (xs : Nat → Int32) (mn : String) : gz_OkS (M_L_law L xs mn) 0 0 752 (lc_16 L xs) := by
  have q1 : gz_OkA (M_L_law L xs mn) 0 0 0 752 752 0 _ := ok_a0
  have q2 : gz_OkE (M_L_law L xs mn) 0 0 0 752 753 _ := ok_aload_n (i := 1) dL_law_752 rfl
  have q3 : gz_OkA (M_L_law L xs mn) 0 0 0 752 753 1 _ := ok_a1 q1 q2
  have q4 : gz_OkE (M_L_law L xs mn) 2 0 0 753 754 _ := ok_aload_n (i := 0) dL_law_753 rfl
  have q5 : gz_OkE (M_L_law L xs mn) 3 0 0 754 755 _ := ok_iload_n (i := 3) dL_law_754 rfl
  have q6 : gz_OkE (M_L_law L xs mn) 4 0 0 755 756 _ := ok_iconst (v := 1) dL_law_755 kc_i1
  have q7 : gz_OkE (M_L_law L xs mn) 3 0 0 754 757 _ := ok_iadd q5 q6 dL_law_756
  have q8 : gz_OkE (M_L_law L xs mn) 2 0 0 753 758 _ := ok_sld (L := L) (xs := xs) rfl q4 q7 dL_law_757
  have q9 : gz_OkA (M_L_law L xs mn) 0 0 0 752 758 2 _ := ok_a1 q3 q8
  have q10 : gz_OkE (M_L_law L xs mn) 4 0 0 758 759 _ := ok_aload_n (i := 0) dL_law_758 rfl
  have q11 : gz_OkE (M_L_law L xs mn) 5 0 0 759 760 _ := ok_iload_n (i := 3) dL_law_759 rfl
  have q12 : gz_OkE (M_L_law L xs mn) 6 0 0 760 761 _ := ok_iconst (v := 2) dL_law_760 kc_i2
  have q13 : gz_OkE (M_L_law L xs mn) 5 0 0 759 762 _ := ok_iadd q11 q12 dL_law_761
  have q14 : gz_OkE (M_L_law L xs mn) 4 0 0 758 763 _ := ok_sld (L := L) (xs := xs) rfl q10 q13 dL_law_762
  have q15 : gz_OkA (M_L_law L xs mn) 0 0 0 752 763 3 _ := ok_a1 q9 q14
  have q16 : gz_OkE (M_L_law L xs mn) 0 0 0 752 766 _ := ok_cv q15 mt_X7_fit cl_7 wd_312 wd_183 de_X7_fit (Nat.le_of_ble_eq_true rfl) (Nat.le_of_ble_eq_true rfl) wd_313 wd_314 wd_315 dL_law_763 (by decide)
  have q17 : gz_OkA (M_L_law L xs mn) 1 0 0 766 766 0 _ := ok_a0
  have q18 : gz_OkE (M_L_law L xs mn) 1 0 0 766 767 _ := ok_aload_n (i := 2) dL_law_766 rfl
  have q19 : gz_OkA (M_L_law L xs mn) 1 0 0 766 767 1 _ := ok_a1 q17 q18
  have q20 : gz_OkE (M_L_law L xs mn) 3 0 0 767 768 _ := ok_aload_n (i := 0) dL_law_767 rfl
  have q21 : gz_OkE (M_L_law L xs mn) 4 0 0 768 769 _ := ok_iload_n (i := 3) dL_law_768 rfl
  have q22 : gz_OkE (M_L_law L xs mn) 5 0 0 769 770 _ := ok_iconst (v := 1) dL_law_769 kc_i1
  have q23 : gz_OkE (M_L_law L xs mn) 4 0 0 768 771 _ := ok_iadd q21 q22 dL_law_770
  have q24 : gz_OkE (M_L_law L xs mn) 3 0 0 767 772 _ := ok_sld (L := L) (xs := xs) rfl q20 q23 dL_law_771
  have q25 : gz_OkA (M_L_law L xs mn) 1 0 0 766 772 2 _ := ok_a1 q19 q24
  have q26 : gz_OkE (M_L_law L xs mn) 5 0 0 772 773 _ := ok_aload_n (i := 0) dL_law_772 rfl
  have q27 : gz_OkE (M_L_law L xs mn) 6 0 0 773 774 _ := ok_iload_n (i := 3) dL_law_773 rfl
  have q28 : gz_OkE (M_L_law L xs mn) 7 0 0 774 775 _ := ok_iconst (v := 2) dL_law_774 kc_i2
  have q29 : gz_OkE (M_L_law L xs mn) 6 0 0 773 776 _ := ok_iadd q27 q28 dL_law_775
  have q30 : gz_OkE (M_L_law L xs mn) 5 0 0 772 777 _ := ok_sld (L := L) (xs := xs) rfl q26 q29 dL_law_776
  have q31 : gz_OkA (M_L_law L xs mn) 1 0 0 766 777 3 _ := ok_a1 q25 q30
  have q32 : gz_OkE (M_L_law L xs mn) 1 0 0 766 780 _ := ok_cv q31 mt_X8_fit cl_8 wd_316 wd_188 de_X8_fit (Nat.le_of_ble_eq_true rfl) (Nat.le_of_ble_eq_true rfl) wd_317 wd_318 wd_319 dL_law_777 (by decide)
  have q33 : gz_OkJ (M_L_law L xs mn) 0 0 0 752 1215 783 _ := ok_ic_eq q16 q32 dL_law_780 (by decide)
  have q34 : gz_OkS (M_L_law L xs mn) 0 0 1215 _ := ok_at
  have q35 : gz_OkE (M_L_law L xs mn) 0 0 0 783 784 _ := ok_iconst (v := 0) dL_law_783 kc_i0
  have q36 : gz_OkS (M_L_law L xs mn) 0 0 783 _ := ok_ri q35 dL_law_784
  have q37 : gz_OkS (M_L_law L xs mn) 0 0 752 _ := ok_if q33 q34 q36
  exact q37
set_option maxRecDepth 100000 in
theorem okc_17 (L : Nat) (xs : Nat → Int32) (mn : String) : gz_OkS (M_L_law L xs mn) 0 0 785 (lc_17 L xs) := by
  have q1 : gz_OkA (M_L_law L xs mn) 0 0 0 785 785 0 _ := ok_a0
  have q2 : gz_OkE (M_L_law L xs mn) 0 0 0 785 786 _ := ok_aload_n (i := 1) dL_law_785 rfl
  have q3 : gz_OkA (M_L_law L xs mn) 0 0 0 785 786 1 _ := ok_a1 q1 q2
  have q4 : gz_OkE (M_L_law L xs mn) 2 0 0 786 787 _ := ok_aload_n (i := 0) dL_law_786 rfl
  have q5 : gz_OkE (M_L_law L xs mn) 3 0 0 787 788 _ := ok_iload_n (i := 3) dL_law_787 rfl
  have q6 : gz_OkE (M_L_law L xs mn) 4 0 0 788 789 _ := ok_iconst (v := 1) dL_law_788 kc_i1
  have q7 : gz_OkE (M_L_law L xs mn) 3 0 0 787 790 _ := ok_iadd q5 q6 dL_law_789
  have q8 : gz_OkE (M_L_law L xs mn) 2 0 0 786 791 _ := ok_sld (L := L) (xs := xs) rfl q4 q7 dL_law_790
  have q9 : gz_OkA (M_L_law L xs mn) 0 0 0 785 791 2 _ := ok_a1 q3 q8
  have q10 : gz_OkE (M_L_law L xs mn) 4 0 0 791 792 _ := ok_aload_n (i := 0) dL_law_791 rfl
  have q11 : gz_OkE (M_L_law L xs mn) 5 0 0 792 793 _ := ok_iload_n (i := 3) dL_law_792 rfl
  have q12 : gz_OkE (M_L_law L xs mn) 6 0 0 793 794 _ := ok_iconst (v := 2) dL_law_793 kc_i2
  have q13 : gz_OkE (M_L_law L xs mn) 5 0 0 792 795 _ := ok_iadd q11 q12 dL_law_794
  have q14 : gz_OkE (M_L_law L xs mn) 4 0 0 791 796 _ := ok_sld (L := L) (xs := xs) rfl q10 q13 dL_law_795
  have q15 : gz_OkA (M_L_law L xs mn) 0 0 0 785 796 3 _ := ok_a1 q9 q14
  have q16 : gz_OkE (M_L_law L xs mn) 0 0 0 785 799 _ := ok_cv q15 mt_X7_green cl_7 wd_320 wd_183 de_X7_green (Nat.le_of_ble_eq_true rfl) (Nat.le_of_ble_eq_true rfl) wd_321 wd_322 wd_323 dL_law_796 (by decide)
  have q17 : gz_OkA (M_L_law L xs mn) 1 0 0 799 799 0 _ := ok_a0
  have q18 : gz_OkE (M_L_law L xs mn) 1 0 0 799 800 _ := ok_aload_n (i := 2) dL_law_799 rfl
  have q19 : gz_OkA (M_L_law L xs mn) 1 0 0 799 800 1 _ := ok_a1 q17 q18
  have q20 : gz_OkE (M_L_law L xs mn) 3 0 0 800 801 _ := ok_aload_n (i := 0) dL_law_800 rfl
  have q21 : gz_OkE (M_L_law L xs mn) 4 0 0 801 802 _ := ok_iload_n (i := 3) dL_law_801 rfl
  have q22 : gz_OkE (M_L_law L xs mn) 5 0 0 802 803 _ := ok_iconst (v := 1) dL_law_802 kc_i1
  have q23 : gz_OkE (M_L_law L xs mn) 4 0 0 801 804 _ := ok_iadd q21 q22 dL_law_803
  have q24 : gz_OkE (M_L_law L xs mn) 3 0 0 800 805 _ := ok_sld (L := L) (xs := xs) rfl q20 q23 dL_law_804
  have q25 : gz_OkA (M_L_law L xs mn) 1 0 0 799 805 2 _ := ok_a1 q19 q24
  have q26 : gz_OkE (M_L_law L xs mn) 5 0 0 805 806 _ := ok_aload_n (i := 0) dL_law_805 rfl
  have q27 : gz_OkE (M_L_law L xs mn) 6 0 0 806 807 _ := ok_iload_n (i := 3) dL_law_806 rfl
  have q28 : gz_OkE (M_L_law L xs mn) 7 0 0 807 808 _ := ok_iconst (v := 2) dL_law_807 kc_i2
  have q29 : gz_OkE (M_L_law L xs mn) 6 0 0 806 809 _ := ok_iadd q27 q28 dL_law_808
  have q30 : gz_OkE (M_L_law L xs mn) 5 0 0 805 810 _ := ok_sld (L := L) (xs := xs) rfl q26 q29 dL_law_809
  have q31 : gz_OkA (M_L_law L xs mn) 1 0 0 799 810 3 _ := ok_a1 q25 q30
  have q32 : gz_OkE (M_L_law L xs mn) 1 0 0 799 813 _ := ok_cv q31 mt_X8_green cl_8 wd_324 wd_188 de_X8_green (Nat.le_of_ble_eq_true rfl) (Nat.le_of_ble_eq_true rfl) wd_325 wd_326 wd_327 dL_law_810 (by decide)
  have q33 : gz_OkJ (M_L_law L xs mn) 0 0 0 785 1215 816 _ := ok_ic_eq q16 q32 dL_law_813 (by decide)
  have q34 : gz_OkS (M_L_law L xs mn) 0 0 1215 _ := ok_at
  have q35 : gz_OkE (M_L_law L xs mn) 0 0 0 816 817 _ := ok_iconst (v := 0) dL_law_816 kc_i0
  have q36 : gz_OkS (M_L_law L xs mn) 0 0 816 _ := ok_ri q35 dL_law_817
  have q37 : gz_OkS (M_L_law L xs mn) 0 0 785 _ := ok_if q33 q34 q36
  exact q37
set_option maxRecDepth 100000 in
theorem okc_18 (L : Nat) (xs : Nat → Int32) (mn : String) : gz_OkS (M_L_law L xs mn) 0 0 818 (lc_18 L xs) := by
  have q1 : gz_OkA (M_L_law L xs mn) 0 0 0 818 818 0 _ := ok_a0
  have q2 : gz_OkE (M_L_law L xs mn) 0 0 0 818 819 _ := ok_aload_n (i := 1) dL_law_818 rfl
  have q3 : gz_OkA (M_L_law L xs mn) 0 0 0 818 819 1 _ := ok_a1 q1 q2
  have q4 : gz_OkE (M_L_law L xs mn) 2 0 0 819 820 _ := ok_aload_n (i := 0) dL_law_819 rfl
  have q5 : gz_OkE (M_L_law L xs mn) 3 0 0 820 821 _ := ok_iload_n (i := 3) dL_law_820 rfl
  have q6 : gz_OkE (M_L_law L xs mn) 4 0 0 821 822 _ := ok_iconst (v := 1) dL_law_821 kc_i1
  have q7 : gz_OkE (M_L_law L xs mn) 3 0 0 820 823 _ := ok_iadd q5 q6 dL_law_822
  have q8 : gz_OkE (M_L_law L xs mn) 2 0 0 819 824 _ := ok_sld (L := L) (xs := xs) rfl q4 q7 dL_law_823
  have q9 : gz_OkA (M_L_law L xs mn) 0 0 0 818 824 2 _ := ok_a1 q3 q8
  have q10 : gz_OkE (M_L_law L xs mn) 4 0 0 824 825 _ := ok_aload_n (i := 0) dL_law_824 rfl
  have q11 : gz_OkE (M_L_law L xs mn) 5 0 0 825 826 _ := ok_iload_n (i := 3) dL_law_825 rfl
  have q12 : gz_OkE (M_L_law L xs mn) 6 0 0 826 827 _ := ok_iconst (v := 2) dL_law_826 kc_i2
  have q13 : gz_OkE (M_L_law L xs mn) 5 0 0 825 828 _ := ok_iadd q11 q12 dL_law_827
  have q14 : gz_OkE (M_L_law L xs mn) 4 0 0 824 829 _ := ok_sld (L := L) (xs := xs) rfl q10 q13 dL_law_828
  have q15 : gz_OkA (M_L_law L xs mn) 0 0 0 818 829 3 _ := ok_a1 q9 q14
  have q16 : gz_OkE (M_L_law L xs mn) 6 0 0 829 830 _ := ok_aload_n (i := 0) dL_law_829 rfl
  have q17 : gz_OkE (M_L_law L xs mn) 7 0 0 830 831 _ := ok_iload_n (i := 3) dL_law_830 rfl
  have q18 : gz_OkE (M_L_law L xs mn) 8 0 0 831 832 _ := ok_iconst (v := 3) dL_law_831 kc_i3
  have q19 : gz_OkE (M_L_law L xs mn) 7 0 0 830 833 _ := ok_iadd q17 q18 dL_law_832
  have q20 : gz_OkE (M_L_law L xs mn) 6 0 0 829 834 _ := ok_sld (L := L) (xs := xs) rfl q16 q19 dL_law_833
  have q21 : gz_OkA (M_L_law L xs mn) 0 0 0 818 834 4 _ := ok_a1 q15 q20
  have q22 : gz_OkE (M_L_law L xs mn) 0 0 0 818 837 _ := ok_cv q21 mt_X7_lamp cl_7 wd_328 wd_183 de_X7_lamp (Nat.le_of_ble_eq_true rfl) (Nat.le_of_ble_eq_true rfl) wd_329 wd_330 wd_331 dL_law_834 (by decide)
  have q23 : gz_OkA (M_L_law L xs mn) 1 0 0 837 837 0 _ := ok_a0
  have q24 : gz_OkE (M_L_law L xs mn) 1 0 0 837 838 _ := ok_aload_n (i := 2) dL_law_837 rfl
  have q25 : gz_OkA (M_L_law L xs mn) 1 0 0 837 838 1 _ := ok_a1 q23 q24
  have q26 : gz_OkE (M_L_law L xs mn) 3 0 0 838 839 _ := ok_aload_n (i := 0) dL_law_838 rfl
  have q27 : gz_OkE (M_L_law L xs mn) 4 0 0 839 840 _ := ok_iload_n (i := 3) dL_law_839 rfl
  have q28 : gz_OkE (M_L_law L xs mn) 5 0 0 840 841 _ := ok_iconst (v := 1) dL_law_840 kc_i1
  have q29 : gz_OkE (M_L_law L xs mn) 4 0 0 839 842 _ := ok_iadd q27 q28 dL_law_841
  have q30 : gz_OkE (M_L_law L xs mn) 3 0 0 838 843 _ := ok_sld (L := L) (xs := xs) rfl q26 q29 dL_law_842
  have q31 : gz_OkA (M_L_law L xs mn) 1 0 0 837 843 2 _ := ok_a1 q25 q30
  have q32 : gz_OkE (M_L_law L xs mn) 5 0 0 843 844 _ := ok_aload_n (i := 0) dL_law_843 rfl
  have q33 : gz_OkE (M_L_law L xs mn) 6 0 0 844 845 _ := ok_iload_n (i := 3) dL_law_844 rfl
  have q34 : gz_OkE (M_L_law L xs mn) 7 0 0 845 846 _ := ok_iconst (v := 2) dL_law_845 kc_i2
  have q35 : gz_OkE (M_L_law L xs mn) 6 0 0 844 847 _ := ok_iadd q33 q34 dL_law_846
  have q36 : gz_OkE (M_L_law L xs mn) 5 0 0 843 848 _ := ok_sld (L := L) (xs := xs) rfl q32 q35 dL_law_847
  have q37 : gz_OkA (M_L_law L xs mn) 1 0 0 837 848 3 _ := ok_a1 q31 q36
  have q38 : gz_OkE (M_L_law L xs mn) 7 0 0 848 849 _ := ok_aload_n (i := 0) dL_law_848 rfl
  have q39 : gz_OkE (M_L_law L xs mn) 8 0 0 849 850 _ := ok_iload_n (i := 3) dL_law_849 rfl
  have q40 : gz_OkE (M_L_law L xs mn) 9 0 0 850 851 _ := ok_iconst (v := 3) dL_law_850 kc_i3
  have q41 : gz_OkE (M_L_law L xs mn) 8 0 0 849 852 _ := ok_iadd q39 q40 dL_law_851
  have q42 : gz_OkE (M_L_law L xs mn) 7 0 0 848 853 _ := ok_sld (L := L) (xs := xs) rfl q38 q41 dL_law_852
  have q43 : gz_OkA (M_L_law L xs mn) 1 0 0 837 853 4 _ := ok_a1 q37 q42
  have q44 : gz_OkE (M_L_law L xs mn) 1 0 0 837 856 _ := ok_cv q43 mt_X8_lamp cl_8 wd_332 wd_188 de_X8_lamp (Nat.le_of_ble_eq_true rfl) (Nat.le_of_ble_eq_true rfl) wd_333 wd_334 wd_335 dL_law_853 (by decide)
  have q45 : gz_OkJ (M_L_law L xs mn) 0 0 0 818 1215 859 _ := ok_ic_eq q22 q44 dL_law_856 (by decide)
  have q46 : gz_OkS (M_L_law L xs mn) 0 0 1215 _ := ok_at
  have q47 : gz_OkE (M_L_law L xs mn) 0 0 0 859 860 _ := ok_iconst (v := 0) dL_law_859 kc_i0
  have q48 : gz_OkS (M_L_law L xs mn) 0 0 859 _ := ok_ri q47 dL_law_860
  have q49 : gz_OkS (M_L_law L xs mn) 0 0 818 _ := ok_if q45 q46 q48
  exact q49
set_option maxRecDepth 100000 in
theorem okc_19 (L : Nat) (xs : Nat → Int32) (mn : String) : gz_OkS (M_L_law L xs mn) 0 0 861 (lc_19 L xs) := by
  have q1 : gz_OkA (M_L_law L xs mn) 0 0 0 861 861 0 _ := ok_a0
  have q2 : gz_OkE (M_L_law L xs mn) 0 0 0 861 862 _ := ok_aload_n (i := 1) dL_law_861 rfl
  have q3 : gz_OkA (M_L_law L xs mn) 0 0 0 861 862 1 _ := ok_a1 q1 q2
  have q4 : gz_OkE (M_L_law L xs mn) 2 0 0 862 863 _ := ok_aload_n (i := 0) dL_law_862 rfl
  have q5 : gz_OkE (M_L_law L xs mn) 3 0 0 863 864 _ := ok_iload_n (i := 3) dL_law_863 rfl
  have q6 : gz_OkE (M_L_law L xs mn) 4 0 0 864 865 _ := ok_iconst (v := 1) dL_law_864 kc_i1
  have q7 : gz_OkE (M_L_law L xs mn) 3 0 0 863 866 _ := ok_iadd q5 q6 dL_law_865
  have q8 : gz_OkE (M_L_law L xs mn) 2 0 0 862 867 _ := ok_sld (L := L) (xs := xs) rfl q4 q7 dL_law_866
  have q9 : gz_OkA (M_L_law L xs mn) 0 0 0 861 867 2 _ := ok_a1 q3 q8
  have q10 : gz_OkE (M_L_law L xs mn) 0 0 0 861 870 _ := ok_cv q9 mt_X7_run cl_7 wd_336 wd_183 de_X7_run (Nat.le_of_ble_eq_true rfl) (Nat.le_of_ble_eq_true rfl) wd_337 wd_338 wd_339 dL_law_867 (by decide)
  have q11 : gz_OkA (M_L_law L xs mn) 1 0 0 870 870 0 _ := ok_a0
  have q12 : gz_OkE (M_L_law L xs mn) 1 0 0 870 871 _ := ok_aload_n (i := 2) dL_law_870 rfl
  have q13 : gz_OkA (M_L_law L xs mn) 1 0 0 870 871 1 _ := ok_a1 q11 q12
  have q14 : gz_OkE (M_L_law L xs mn) 3 0 0 871 872 _ := ok_aload_n (i := 0) dL_law_871 rfl
  have q15 : gz_OkE (M_L_law L xs mn) 4 0 0 872 873 _ := ok_iload_n (i := 3) dL_law_872 rfl
  have q16 : gz_OkE (M_L_law L xs mn) 5 0 0 873 874 _ := ok_iconst (v := 1) dL_law_873 kc_i1
  have q17 : gz_OkE (M_L_law L xs mn) 4 0 0 872 875 _ := ok_iadd q15 q16 dL_law_874
  have q18 : gz_OkE (M_L_law L xs mn) 3 0 0 871 876 _ := ok_sld (L := L) (xs := xs) rfl q14 q17 dL_law_875
  have q19 : gz_OkA (M_L_law L xs mn) 1 0 0 870 876 2 _ := ok_a1 q13 q18
  have q20 : gz_OkE (M_L_law L xs mn) 1 0 0 870 879 _ := ok_cv q19 mt_X8_run cl_8 wd_340 wd_188 de_X8_run (Nat.le_of_ble_eq_true rfl) (Nat.le_of_ble_eq_true rfl) wd_341 wd_342 wd_343 dL_law_876 (by decide)
  have q21 : gz_OkJ (M_L_law L xs mn) 0 0 0 861 1215 882 _ := ok_ic_eq q10 q20 dL_law_879 (by decide)
  have q22 : gz_OkS (M_L_law L xs mn) 0 0 1215 _ := ok_at
  have q23 : gz_OkE (M_L_law L xs mn) 0 0 0 882 883 _ := ok_iconst (v := 0) dL_law_882 kc_i0
  have q24 : gz_OkS (M_L_law L xs mn) 0 0 882 _ := ok_ri q23 dL_law_883
  have q25 : gz_OkS (M_L_law L xs mn) 0 0 861 _ := ok_if q21 q22 q24
  exact q25
set_option maxRecDepth 100000 in
theorem okc_20 (L : Nat) (xs : Nat → Int32) (mn : String) : gz_OkS (M_L_law L xs mn) 0 0 884 (lc_20 L xs) := by
  have q1 : gz_OkA (M_L_law L xs mn) 0 0 0 884 884 0 _ := ok_a0
  have q2 : gz_OkE (M_L_law L xs mn) 0 0 0 884 885 _ := ok_aload_n (i := 1) dL_law_884 rfl
  have q3 : gz_OkA (M_L_law L xs mn) 0 0 0 884 885 1 _ := ok_a1 q1 q2
  have q4 : gz_OkE (M_L_law L xs mn) 2 0 0 885 886 _ := ok_aload_n (i := 0) dL_law_885 rfl
  have q5 : gz_OkE (M_L_law L xs mn) 3 0 0 886 887 _ := ok_iload_n (i := 3) dL_law_886 rfl
  have q6 : gz_OkE (M_L_law L xs mn) 4 0 0 887 888 _ := ok_iconst (v := 1) dL_law_887 kc_i1
  have q7 : gz_OkE (M_L_law L xs mn) 3 0 0 886 889 _ := ok_iadd q5 q6 dL_law_888
  have q8 : gz_OkE (M_L_law L xs mn) 2 0 0 885 890 _ := ok_sld (L := L) (xs := xs) rfl q4 q7 dL_law_889
  have q9 : gz_OkA (M_L_law L xs mn) 0 0 0 884 890 2 _ := ok_a1 q3 q8
  have q10 : gz_OkE (M_L_law L xs mn) 4 0 0 890 891 _ := ok_aload_n (i := 0) dL_law_890 rfl
  have q11 : gz_OkE (M_L_law L xs mn) 5 0 0 891 892 _ := ok_iload_n (i := 3) dL_law_891 rfl
  have q12 : gz_OkE (M_L_law L xs mn) 6 0 0 892 893 _ := ok_iconst (v := 2) dL_law_892 kc_i2
  have q13 : gz_OkE (M_L_law L xs mn) 5 0 0 891 894 _ := ok_iadd q11 q12 dL_law_893
  have q14 : gz_OkE (M_L_law L xs mn) 4 0 0 890 895 _ := ok_sld (L := L) (xs := xs) rfl q10 q13 dL_law_894
  have q15 : gz_OkA (M_L_law L xs mn) 0 0 0 884 895 3 _ := ok_a1 q9 q14
  have q16 : gz_OkE (M_L_law L xs mn) 6 0 0 895 896 _ := ok_aload_n (i := 0) dL_law_895 rfl
  have q17 : gz_OkE (M_L_law L xs mn) 7 0 0 896 897 _ := ok_iload_n (i := 3) dL_law_896 rfl
  have q18 : gz_OkE (M_L_law L xs mn) 8 0 0 897 898 _ := ok_iconst (v := 3) dL_law_897 kc_i3
  have q19 : gz_OkE (M_L_law L xs mn) 7 0 0 896 899 _ := ok_iadd q17 q18 dL_law_898
  have q20 : gz_OkE (M_L_law L xs mn) 6 0 0 895 900 _ := ok_sld (L := L) (xs := xs) rfl q16 q19 dL_law_899
  have q21 : gz_OkA (M_L_law L xs mn) 0 0 0 884 900 4 _ := ok_a1 q15 q20
  have q22 : gz_OkE (M_L_law L xs mn) 0 0 0 884 903 _ := ok_cv q21 mt_X7_queue cl_7 wd_344 wd_183 de_X7_queue (Nat.le_of_ble_eq_true rfl) (Nat.le_of_ble_eq_true rfl) wd_345 wd_346 wd_347 dL_law_900 (by decide)
  have q23 : gz_OkA (M_L_law L xs mn) 2 0 0 903 903 0 _ := ok_a0
  have q24 : gz_OkE (M_L_law L xs mn) 2 0 0 903 904 _ := ok_aload_n (i := 2) dL_law_903 rfl
  have q25 : gz_OkA (M_L_law L xs mn) 2 0 0 903 904 1 _ := ok_a1 q23 q24
  have q26 : gz_OkE (M_L_law L xs mn) 4 0 0 904 905 _ := ok_aload_n (i := 0) dL_law_904 rfl
  have q27 : gz_OkE (M_L_law L xs mn) 5 0 0 905 906 _ := ok_iload_n (i := 3) dL_law_905 rfl
  have q28 : gz_OkE (M_L_law L xs mn) 6 0 0 906 907 _ := ok_iconst (v := 1) dL_law_906 kc_i1
  have q29 : gz_OkE (M_L_law L xs mn) 5 0 0 905 908 _ := ok_iadd q27 q28 dL_law_907
  have q30 : gz_OkE (M_L_law L xs mn) 4 0 0 904 909 _ := ok_sld (L := L) (xs := xs) rfl q26 q29 dL_law_908
  have q31 : gz_OkA (M_L_law L xs mn) 2 0 0 903 909 2 _ := ok_a1 q25 q30
  have q32 : gz_OkE (M_L_law L xs mn) 6 0 0 909 910 _ := ok_aload_n (i := 0) dL_law_909 rfl
  have q33 : gz_OkE (M_L_law L xs mn) 7 0 0 910 911 _ := ok_iload_n (i := 3) dL_law_910 rfl
  have q34 : gz_OkE (M_L_law L xs mn) 8 0 0 911 912 _ := ok_iconst (v := 2) dL_law_911 kc_i2
  have q35 : gz_OkE (M_L_law L xs mn) 7 0 0 910 913 _ := ok_iadd q33 q34 dL_law_912
  have q36 : gz_OkE (M_L_law L xs mn) 6 0 0 909 914 _ := ok_sld (L := L) (xs := xs) rfl q32 q35 dL_law_913
  have q37 : gz_OkA (M_L_law L xs mn) 2 0 0 903 914 3 _ := ok_a1 q31 q36
  have q38 : gz_OkE (M_L_law L xs mn) 8 0 0 914 915 _ := ok_aload_n (i := 0) dL_law_914 rfl
  have q39 : gz_OkE (M_L_law L xs mn) 9 0 0 915 916 _ := ok_iload_n (i := 3) dL_law_915 rfl
  have q40 : gz_OkE (M_L_law L xs mn) 10 0 0 916 917 _ := ok_iconst (v := 3) dL_law_916 kc_i3
  have q41 : gz_OkE (M_L_law L xs mn) 9 0 0 915 918 _ := ok_iadd q39 q40 dL_law_917
  have q42 : gz_OkE (M_L_law L xs mn) 8 0 0 914 919 _ := ok_sld (L := L) (xs := xs) rfl q38 q41 dL_law_918
  have q43 : gz_OkA (M_L_law L xs mn) 2 0 0 903 919 4 _ := ok_a1 q37 q42
  have q44 : gz_OkE (M_L_law L xs mn) 2 0 0 903 922 _ := ok_cv q43 mt_X8_queue cl_8 wd_348 wd_188 de_X8_queue (Nat.le_of_ble_eq_true rfl) (Nat.le_of_ble_eq_true rfl) wd_349 wd_350 wd_351 dL_law_919 (by decide)
  have q45 : gz_OkE (M_L_law L xs mn) 0 0 0 884 923 _ := ok_lcmp q22 q44 dL_law_922
  have q46 : gz_OkJ (M_L_law L xs mn) 0 0 0 884 1215 926 _ := ok_if_eq q45 dL_law_923 (by decide)
  have q47 : gz_OkS (M_L_law L xs mn) 0 0 1215 _ := ok_at
  have q48 : gz_OkE (M_L_law L xs mn) 0 0 0 926 927 _ := ok_iconst (v := 0) dL_law_926 kc_i0
  have q49 : gz_OkS (M_L_law L xs mn) 0 0 926 _ := ok_ri q48 dL_law_927
  have q50 : gz_OkS (M_L_law L xs mn) 0 0 884 _ := ok_if q46 q47 q49
  exact q50
set_option maxRecDepth 100000 in
theorem okc_21 (L : Nat) (xs : Nat → Int32) (mn : String) : gz_OkS (M_L_law L xs mn) 0 0 928 (lc_21 L xs) := by
  have q1 : gz_OkA (M_L_law L xs mn) 0 0 0 928 928 0 _ := ok_a0
  have q2 : gz_OkE (M_L_law L xs mn) 0 0 0 928 929 _ := ok_aload_n (i := 1) dL_law_928 rfl
  have q3 : gz_OkA (M_L_law L xs mn) 0 0 0 928 929 1 _ := ok_a1 q1 q2
  have q4 : gz_OkE (M_L_law L xs mn) 2 0 0 929 930 _ := ok_aload_n (i := 0) dL_law_929 rfl
  have q5 : gz_OkE (M_L_law L xs mn) 3 0 0 930 931 _ := ok_iload_n (i := 3) dL_law_930 rfl
  have q6 : gz_OkE (M_L_law L xs mn) 4 0 0 931 932 _ := ok_iconst (v := 1) dL_law_931 kc_i1
  have q7 : gz_OkE (M_L_law L xs mn) 3 0 0 930 933 _ := ok_iadd q5 q6 dL_law_932
  have q8 : gz_OkE (M_L_law L xs mn) 2 0 0 929 934 _ := ok_sld (L := L) (xs := xs) rfl q4 q7 dL_law_933
  have q9 : gz_OkA (M_L_law L xs mn) 0 0 0 928 934 2 _ := ok_a1 q3 q8
  have q10 : gz_OkE (M_L_law L xs mn) 0 0 0 928 937 _ := ok_cv q9 mt_X7_count cl_7 wd_352 wd_183 de_X7_count (Nat.le_of_ble_eq_true rfl) (Nat.le_of_ble_eq_true rfl) wd_353 wd_354 wd_355 dL_law_934 (by decide)
  have q11 : gz_OkA (M_L_law L xs mn) 1 0 0 937 937 0 _ := ok_a0
  have q12 : gz_OkE (M_L_law L xs mn) 1 0 0 937 938 _ := ok_aload_n (i := 2) dL_law_937 rfl
  have q13 : gz_OkA (M_L_law L xs mn) 1 0 0 937 938 1 _ := ok_a1 q11 q12
  have q14 : gz_OkE (M_L_law L xs mn) 3 0 0 938 939 _ := ok_aload_n (i := 0) dL_law_938 rfl
  have q15 : gz_OkE (M_L_law L xs mn) 4 0 0 939 940 _ := ok_iload_n (i := 3) dL_law_939 rfl
  have q16 : gz_OkE (M_L_law L xs mn) 5 0 0 940 941 _ := ok_iconst (v := 1) dL_law_940 kc_i1
  have q17 : gz_OkE (M_L_law L xs mn) 4 0 0 939 942 _ := ok_iadd q15 q16 dL_law_941
  have q18 : gz_OkE (M_L_law L xs mn) 3 0 0 938 943 _ := ok_sld (L := L) (xs := xs) rfl q14 q17 dL_law_942
  have q19 : gz_OkA (M_L_law L xs mn) 1 0 0 937 943 2 _ := ok_a1 q13 q18
  have q20 : gz_OkE (M_L_law L xs mn) 1 0 0 937 946 _ := ok_cv q19 mt_X8_count cl_8 wd_356 wd_188 de_X8_count (Nat.le_of_ble_eq_true rfl) (Nat.le_of_ble_eq_true rfl) wd_357 wd_358 wd_359 dL_law_943 (by decide)
  have q21 : gz_OkJ (M_L_law L xs mn) 0 0 0 928 1215 949 _ := ok_ic_eq q10 q20 dL_law_946 (by decide)
  have q22 : gz_OkS (M_L_law L xs mn) 0 0 1215 _ := ok_at
  have q23 : gz_OkE (M_L_law L xs mn) 0 0 0 949 950 _ := ok_iconst (v := 0) dL_law_949 kc_i0
  have q24 : gz_OkS (M_L_law L xs mn) 0 0 949 _ := ok_ri q23 dL_law_950
  have q25 : gz_OkS (M_L_law L xs mn) 0 0 928 _ := ok_if q21 q22 q24
  exact q25
set_option maxRecDepth 100000 in
theorem okc_22 (L : Nat) (xs : Nat → Int32) (mn : String) : gz_OkS (M_L_law L xs mn) 0 0 951 (lc_22 L xs) := by
  have q1 : gz_OkA (M_L_law L xs mn) 0 0 0 951 951 0 _ := ok_a0
  have q2 : gz_OkE (M_L_law L xs mn) 0 0 0 951 952 _ := ok_aload_n (i := 1) dL_law_951 rfl
  have q3 : gz_OkA (M_L_law L xs mn) 0 0 0 951 952 1 _ := ok_a1 q1 q2
  have q4 : gz_OkE (M_L_law L xs mn) 2 0 0 952 953 _ := ok_aload_n (i := 0) dL_law_952 rfl
  have q5 : gz_OkE (M_L_law L xs mn) 3 0 0 953 954 _ := ok_iload_n (i := 3) dL_law_953 rfl
  have q6 : gz_OkE (M_L_law L xs mn) 4 0 0 954 955 _ := ok_iconst (v := 1) dL_law_954 kc_i1
  have q7 : gz_OkE (M_L_law L xs mn) 3 0 0 953 956 _ := ok_iadd q5 q6 dL_law_955
  have q8 : gz_OkE (M_L_law L xs mn) 2 0 0 952 957 _ := ok_sld (L := L) (xs := xs) rfl q4 q7 dL_law_956
  have q9 : gz_OkA (M_L_law L xs mn) 0 0 0 951 957 2 _ := ok_a1 q3 q8
  have q10 : gz_OkE (M_L_law L xs mn) 0 0 0 951 960 _ := ok_cv q9 mt_X7_flashes cl_7 wd_360 wd_183 de_X7_flashes (Nat.le_of_ble_eq_true rfl) (Nat.le_of_ble_eq_true rfl) wd_361 wd_362 wd_363 dL_law_957 (by decide)
  have q11 : gz_OkA (M_L_law L xs mn) 1 0 0 960 960 0 _ := ok_a0
  have q12 : gz_OkE (M_L_law L xs mn) 1 0 0 960 961 _ := ok_aload_n (i := 2) dL_law_960 rfl
  have q13 : gz_OkA (M_L_law L xs mn) 1 0 0 960 961 1 _ := ok_a1 q11 q12
  have q14 : gz_OkE (M_L_law L xs mn) 3 0 0 961 962 _ := ok_aload_n (i := 0) dL_law_961 rfl
  have q15 : gz_OkE (M_L_law L xs mn) 4 0 0 962 963 _ := ok_iload_n (i := 3) dL_law_962 rfl
  have q16 : gz_OkE (M_L_law L xs mn) 5 0 0 963 964 _ := ok_iconst (v := 1) dL_law_963 kc_i1
  have q17 : gz_OkE (M_L_law L xs mn) 4 0 0 962 965 _ := ok_iadd q15 q16 dL_law_964
  have q18 : gz_OkE (M_L_law L xs mn) 3 0 0 961 966 _ := ok_sld (L := L) (xs := xs) rfl q14 q17 dL_law_965
  have q19 : gz_OkA (M_L_law L xs mn) 1 0 0 960 966 2 _ := ok_a1 q13 q18
  have q20 : gz_OkE (M_L_law L xs mn) 1 0 0 960 969 _ := ok_cv q19 mt_X8_flashes cl_8 wd_364 wd_188 de_X8_flashes (Nat.le_of_ble_eq_true rfl) (Nat.le_of_ble_eq_true rfl) wd_365 wd_366 wd_367 dL_law_966 (by decide)
  have q21 : gz_OkJ (M_L_law L xs mn) 0 0 0 951 1215 972 _ := ok_ic_eq q10 q20 dL_law_969 (by decide)
  have q22 : gz_OkS (M_L_law L xs mn) 0 0 1215 _ := ok_at
  have q23 : gz_OkE (M_L_law L xs mn) 0 0 0 972 973 _ := ok_iconst (v := 0) dL_law_972 kc_i0
  have q24 : gz_OkS (M_L_law L xs mn) 0 0 972 _ := ok_ri q23 dL_law_973
  have q25 : gz_OkS (M_L_law L xs mn) 0 0 951 _ := ok_if q21 q22 q24
  exact q25
set_option maxRecDepth 100000 in
theorem okc_23 (L : Nat) (xs : Nat → Int32) (mn : String) : gz_OkS (M_L_law L xs mn) 0 0 974 (lc_23 L xs) := by
  have q1 : gz_OkA (M_L_law L xs mn) 0 0 0 974 974 0 _ := ok_a0
  have q2 : gz_OkE (M_L_law L xs mn) 0 0 0 974 975 _ := ok_aload_n (i := 1) dL_law_974 rfl
  have q3 : gz_OkA (M_L_law L xs mn) 0 0 0 974 975 1 _ := ok_a1 q1 q2
  have q4 : gz_OkE (M_L_law L xs mn) 2 0 0 975 976 _ := ok_aload_n (i := 0) dL_law_975 rfl
  have q5 : gz_OkE (M_L_law L xs mn) 3 0 0 976 977 _ := ok_iload_n (i := 3) dL_law_976 rfl
  have q6 : gz_OkE (M_L_law L xs mn) 4 0 0 977 978 _ := ok_iconst (v := 1) dL_law_977 kc_i1
  have q7 : gz_OkE (M_L_law L xs mn) 3 0 0 976 979 _ := ok_iadd q5 q6 dL_law_978
  have q8 : gz_OkE (M_L_law L xs mn) 2 0 0 975 980 _ := ok_sld (L := L) (xs := xs) rfl q4 q7 dL_law_979
  have q9 : gz_OkA (M_L_law L xs mn) 0 0 0 974 980 2 _ := ok_a1 q3 q8
  have q10 : gz_OkE (M_L_law L xs mn) 4 0 0 980 981 _ := ok_aload_n (i := 0) dL_law_980 rfl
  have q11 : gz_OkE (M_L_law L xs mn) 5 0 0 981 982 _ := ok_iload_n (i := 3) dL_law_981 rfl
  have q12 : gz_OkE (M_L_law L xs mn) 6 0 0 982 983 _ := ok_iconst (v := 2) dL_law_982 kc_i2
  have q13 : gz_OkE (M_L_law L xs mn) 5 0 0 981 984 _ := ok_iadd q11 q12 dL_law_983
  have q14 : gz_OkE (M_L_law L xs mn) 4 0 0 980 985 _ := ok_sld (L := L) (xs := xs) rfl q10 q13 dL_law_984
  have q15 : gz_OkA (M_L_law L xs mn) 0 0 0 974 985 3 _ := ok_a1 q9 q14
  have q16 : gz_OkE (M_L_law L xs mn) 6 0 0 985 986 _ := ok_aload_n (i := 0) dL_law_985 rfl
  have q17 : gz_OkE (M_L_law L xs mn) 7 0 0 986 987 _ := ok_iload_n (i := 3) dL_law_986 rfl
  have q18 : gz_OkE (M_L_law L xs mn) 8 0 0 987 988 _ := ok_iconst (v := 3) dL_law_987 kc_i3
  have q19 : gz_OkE (M_L_law L xs mn) 7 0 0 986 989 _ := ok_iadd q17 q18 dL_law_988
  have q20 : gz_OkE (M_L_law L xs mn) 6 0 0 985 990 _ := ok_sld (L := L) (xs := xs) rfl q16 q19 dL_law_989
  have q21 : gz_OkA (M_L_law L xs mn) 0 0 0 974 990 4 _ := ok_a1 q15 q20
  have q22 : gz_OkE (M_L_law L xs mn) 8 0 0 990 991 _ := ok_aload_n (i := 0) dL_law_990 rfl
  have q23 : gz_OkE (M_L_law L xs mn) 9 0 0 991 992 _ := ok_iload_n (i := 3) dL_law_991 rfl
  have q24 : gz_OkE (M_L_law L xs mn) 10 0 0 992 993 _ := ok_iconst (v := 4) dL_law_992 kc_i4
  have q25 : gz_OkE (M_L_law L xs mn) 9 0 0 991 994 _ := ok_iadd q23 q24 dL_law_993
  have q26 : gz_OkE (M_L_law L xs mn) 8 0 0 990 995 _ := ok_sld (L := L) (xs := xs) rfl q22 q25 dL_law_994
  have q27 : gz_OkA (M_L_law L xs mn) 0 0 0 974 995 5 _ := ok_a1 q21 q26
  have q28 : gz_OkE (M_L_law L xs mn) 10 0 0 995 996 _ := ok_aload_n (i := 0) dL_law_995 rfl
  have q29 : gz_OkE (M_L_law L xs mn) 11 0 0 996 997 _ := ok_iload_n (i := 3) dL_law_996 rfl
  have q30 : gz_OkE (M_L_law L xs mn) 12 0 0 997 998 _ := ok_iconst (v := 5) dL_law_997 kc_i5
  have q31 : gz_OkE (M_L_law L xs mn) 11 0 0 996 999 _ := ok_iadd q29 q30 dL_law_998
  have q32 : gz_OkE (M_L_law L xs mn) 10 0 0 995 1000 _ := ok_sld (L := L) (xs := xs) rfl q28 q31 dL_law_999
  have q33 : gz_OkA (M_L_law L xs mn) 0 0 0 974 1000 6 _ := ok_a1 q27 q32
  have q34 : gz_OkE (M_L_law L xs mn) 12 0 0 1000 1001 _ := ok_aload_n (i := 0) dL_law_1000 rfl
  have q35 : gz_OkE (M_L_law L xs mn) 13 0 0 1001 1002 _ := ok_iload_n (i := 3) dL_law_1001 rfl
  have q36 : gz_OkE (M_L_law L xs mn) 14 0 0 1002 1004 _ := ok_bipush (v := 6) dL_law_1002 kc_b6
  have q37 : gz_OkE (M_L_law L xs mn) 13 0 0 1001 1005 _ := ok_iadd q35 q36 dL_law_1004
  have q38 : gz_OkE (M_L_law L xs mn) 12 0 0 1000 1006 _ := ok_sld (L := L) (xs := xs) rfl q34 q37 dL_law_1005
  have q39 : gz_OkA (M_L_law L xs mn) 0 0 0 974 1006 7 _ := ok_a1 q33 q38
  have q40 : gz_OkE (M_L_law L xs mn) 14 0 0 1006 1007 _ := ok_aload_n (i := 0) dL_law_1006 rfl
  have q41 : gz_OkE (M_L_law L xs mn) 15 0 0 1007 1008 _ := ok_iload_n (i := 3) dL_law_1007 rfl
  have q42 : gz_OkE (M_L_law L xs mn) 16 0 0 1008 1010 _ := ok_bipush (v := 7) dL_law_1008 kc_b7
  have q43 : gz_OkE (M_L_law L xs mn) 15 0 0 1007 1011 _ := ok_iadd q41 q42 dL_law_1010
  have q44 : gz_OkE (M_L_law L xs mn) 14 0 0 1006 1012 _ := ok_sld (L := L) (xs := xs) rfl q40 q43 dL_law_1011
  have q45 : gz_OkA (M_L_law L xs mn) 0 0 0 974 1012 8 _ := ok_a1 q39 q44
  have q46 : gz_OkE (M_L_law L xs mn) 16 0 0 1012 1013 _ := ok_aload_n (i := 0) dL_law_1012 rfl
  have q47 : gz_OkE (M_L_law L xs mn) 17 0 0 1013 1014 _ := ok_iload_n (i := 3) dL_law_1013 rfl
  have q48 : gz_OkE (M_L_law L xs mn) 18 0 0 1014 1016 _ := ok_bipush (v := 8) dL_law_1014 kc_b8
  have q49 : gz_OkE (M_L_law L xs mn) 17 0 0 1013 1017 _ := ok_iadd q47 q48 dL_law_1016
  have q50 : gz_OkE (M_L_law L xs mn) 16 0 0 1012 1018 _ := ok_sld (L := L) (xs := xs) rfl q46 q49 dL_law_1017
  have q51 : gz_OkA (M_L_law L xs mn) 0 0 0 974 1018 9 _ := ok_a1 q45 q50
  have q52 : gz_OkE (M_L_law L xs mn) 0 0 0 974 1021 _ := ok_cv q51 mt_X7_width cl_7 wd_368 wd_183 de_X7_width (Nat.le_of_ble_eq_true rfl) (Nat.le_of_ble_eq_true rfl) wd_369 wd_370 wd_371 dL_law_1018 (by decide)
  have q53 : gz_OkA (M_L_law L xs mn) 1 0 0 1021 1021 0 _ := ok_a0
  have q54 : gz_OkE (M_L_law L xs mn) 1 0 0 1021 1022 _ := ok_aload_n (i := 2) dL_law_1021 rfl
  have q55 : gz_OkA (M_L_law L xs mn) 1 0 0 1021 1022 1 _ := ok_a1 q53 q54
  have q56 : gz_OkE (M_L_law L xs mn) 3 0 0 1022 1023 _ := ok_aload_n (i := 0) dL_law_1022 rfl
  have q57 : gz_OkE (M_L_law L xs mn) 4 0 0 1023 1024 _ := ok_iload_n (i := 3) dL_law_1023 rfl
  have q58 : gz_OkE (M_L_law L xs mn) 5 0 0 1024 1025 _ := ok_iconst (v := 1) dL_law_1024 kc_i1
  have q59 : gz_OkE (M_L_law L xs mn) 4 0 0 1023 1026 _ := ok_iadd q57 q58 dL_law_1025
  have q60 : gz_OkE (M_L_law L xs mn) 3 0 0 1022 1027 _ := ok_sld (L := L) (xs := xs) rfl q56 q59 dL_law_1026
  have q61 : gz_OkA (M_L_law L xs mn) 1 0 0 1021 1027 2 _ := ok_a1 q55 q60
  have q62 : gz_OkE (M_L_law L xs mn) 5 0 0 1027 1028 _ := ok_aload_n (i := 0) dL_law_1027 rfl
  have q63 : gz_OkE (M_L_law L xs mn) 6 0 0 1028 1029 _ := ok_iload_n (i := 3) dL_law_1028 rfl
  have q64 : gz_OkE (M_L_law L xs mn) 7 0 0 1029 1030 _ := ok_iconst (v := 2) dL_law_1029 kc_i2
  have q65 : gz_OkE (M_L_law L xs mn) 6 0 0 1028 1031 _ := ok_iadd q63 q64 dL_law_1030
  have q66 : gz_OkE (M_L_law L xs mn) 5 0 0 1027 1032 _ := ok_sld (L := L) (xs := xs) rfl q62 q65 dL_law_1031
  have q67 : gz_OkA (M_L_law L xs mn) 1 0 0 1021 1032 3 _ := ok_a1 q61 q66
  have q68 : gz_OkE (M_L_law L xs mn) 7 0 0 1032 1033 _ := ok_aload_n (i := 0) dL_law_1032 rfl
  have q69 : gz_OkE (M_L_law L xs mn) 8 0 0 1033 1034 _ := ok_iload_n (i := 3) dL_law_1033 rfl
  have q70 : gz_OkE (M_L_law L xs mn) 9 0 0 1034 1035 _ := ok_iconst (v := 3) dL_law_1034 kc_i3
  have q71 : gz_OkE (M_L_law L xs mn) 8 0 0 1033 1036 _ := ok_iadd q69 q70 dL_law_1035
  have q72 : gz_OkE (M_L_law L xs mn) 7 0 0 1032 1037 _ := ok_sld (L := L) (xs := xs) rfl q68 q71 dL_law_1036
  have q73 : gz_OkA (M_L_law L xs mn) 1 0 0 1021 1037 4 _ := ok_a1 q67 q72
  have q74 : gz_OkE (M_L_law L xs mn) 9 0 0 1037 1038 _ := ok_aload_n (i := 0) dL_law_1037 rfl
  have q75 : gz_OkE (M_L_law L xs mn) 10 0 0 1038 1039 _ := ok_iload_n (i := 3) dL_law_1038 rfl
  have q76 : gz_OkE (M_L_law L xs mn) 11 0 0 1039 1040 _ := ok_iconst (v := 4) dL_law_1039 kc_i4
  have q77 : gz_OkE (M_L_law L xs mn) 10 0 0 1038 1041 _ := ok_iadd q75 q76 dL_law_1040
  have q78 : gz_OkE (M_L_law L xs mn) 9 0 0 1037 1042 _ := ok_sld (L := L) (xs := xs) rfl q74 q77 dL_law_1041
  have q79 : gz_OkA (M_L_law L xs mn) 1 0 0 1021 1042 5 _ := ok_a1 q73 q78
  have q80 : gz_OkE (M_L_law L xs mn) 11 0 0 1042 1043 _ := ok_aload_n (i := 0) dL_law_1042 rfl
  have q81 : gz_OkE (M_L_law L xs mn) 12 0 0 1043 1044 _ := ok_iload_n (i := 3) dL_law_1043 rfl
  have q82 : gz_OkE (M_L_law L xs mn) 13 0 0 1044 1045 _ := ok_iconst (v := 5) dL_law_1044 kc_i5
  have q83 : gz_OkE (M_L_law L xs mn) 12 0 0 1043 1046 _ := ok_iadd q81 q82 dL_law_1045
  have q84 : gz_OkE (M_L_law L xs mn) 11 0 0 1042 1047 _ := ok_sld (L := L) (xs := xs) rfl q80 q83 dL_law_1046
  have q85 : gz_OkA (M_L_law L xs mn) 1 0 0 1021 1047 6 _ := ok_a1 q79 q84
  have q86 : gz_OkE (M_L_law L xs mn) 13 0 0 1047 1048 _ := ok_aload_n (i := 0) dL_law_1047 rfl
  have q87 : gz_OkE (M_L_law L xs mn) 14 0 0 1048 1049 _ := ok_iload_n (i := 3) dL_law_1048 rfl
  have q88 : gz_OkE (M_L_law L xs mn) 15 0 0 1049 1051 _ := ok_bipush (v := 6) dL_law_1049 kc_b6
  have q89 : gz_OkE (M_L_law L xs mn) 14 0 0 1048 1052 _ := ok_iadd q87 q88 dL_law_1051
  have q90 : gz_OkE (M_L_law L xs mn) 13 0 0 1047 1053 _ := ok_sld (L := L) (xs := xs) rfl q86 q89 dL_law_1052
  have q91 : gz_OkA (M_L_law L xs mn) 1 0 0 1021 1053 7 _ := ok_a1 q85 q90
  have q92 : gz_OkE (M_L_law L xs mn) 15 0 0 1053 1054 _ := ok_aload_n (i := 0) dL_law_1053 rfl
  have q93 : gz_OkE (M_L_law L xs mn) 16 0 0 1054 1055 _ := ok_iload_n (i := 3) dL_law_1054 rfl
  have q94 : gz_OkE (M_L_law L xs mn) 17 0 0 1055 1057 _ := ok_bipush (v := 7) dL_law_1055 kc_b7
  have q95 : gz_OkE (M_L_law L xs mn) 16 0 0 1054 1058 _ := ok_iadd q93 q94 dL_law_1057
  have q96 : gz_OkE (M_L_law L xs mn) 15 0 0 1053 1059 _ := ok_sld (L := L) (xs := xs) rfl q92 q95 dL_law_1058
  have q97 : gz_OkA (M_L_law L xs mn) 1 0 0 1021 1059 8 _ := ok_a1 q91 q96
  have q98 : gz_OkE (M_L_law L xs mn) 17 0 0 1059 1060 _ := ok_aload_n (i := 0) dL_law_1059 rfl
  have q99 : gz_OkE (M_L_law L xs mn) 18 0 0 1060 1061 _ := ok_iload_n (i := 3) dL_law_1060 rfl
  have q100 : gz_OkE (M_L_law L xs mn) 19 0 0 1061 1063 _ := ok_bipush (v := 8) dL_law_1061 kc_b8
  have q101 : gz_OkE (M_L_law L xs mn) 18 0 0 1060 1064 _ := ok_iadd q99 q100 dL_law_1063
  have q102 : gz_OkE (M_L_law L xs mn) 17 0 0 1059 1065 _ := ok_sld (L := L) (xs := xs) rfl q98 q101 dL_law_1064
  have q103 : gz_OkA (M_L_law L xs mn) 1 0 0 1021 1065 9 _ := ok_a1 q97 q102
  have q104 : gz_OkE (M_L_law L xs mn) 1 0 0 1021 1068 _ := ok_cv q103 mt_X8_width cl_8 wd_372 wd_188 de_X8_width (Nat.le_of_ble_eq_true rfl) (Nat.le_of_ble_eq_true rfl) wd_373 wd_374 wd_375 dL_law_1065 (by decide)
  have q105 : gz_OkJ (M_L_law L xs mn) 0 0 0 974 1215 1071 _ := ok_ic_eq q52 q104 dL_law_1068 (by decide)
  have q106 : gz_OkS (M_L_law L xs mn) 0 0 1215 _ := ok_at
  have q107 : gz_OkE (M_L_law L xs mn) 0 0 0 1071 1072 _ := ok_iconst (v := 0) dL_law_1071 kc_i0
  have q108 : gz_OkS (M_L_law L xs mn) 0 0 1071 _ := ok_ri q107 dL_law_1072
  have q109 : gz_OkS (M_L_law L xs mn) 0 0 974 _ := ok_if q105 q106 q108
  exact q109
set_option maxRecDepth 100000 in
theorem okc_24 (L : Nat) (xs : Nat → Int32) (mn : String) : gz_OkS (M_L_law L xs mn) 0 0 1073 (lc_24 L xs) := by
  have q1 : gz_OkA (M_L_law L xs mn) 0 0 0 1073 1073 0 _ := ok_a0
  have q2 : gz_OkE (M_L_law L xs mn) 0 0 0 1073 1074 _ := ok_aload_n (i := 1) dL_law_1073 rfl
  have q3 : gz_OkA (M_L_law L xs mn) 0 0 0 1073 1074 1 _ := ok_a1 q1 q2
  have q4 : gz_OkE (M_L_law L xs mn) 2 0 0 1074 1075 _ := ok_aload_n (i := 0) dL_law_1074 rfl
  have q5 : gz_OkE (M_L_law L xs mn) 3 0 0 1075 1076 _ := ok_iload_n (i := 3) dL_law_1075 rfl
  have q6 : gz_OkE (M_L_law L xs mn) 4 0 0 1076 1077 _ := ok_iconst (v := 1) dL_law_1076 kc_i1
  have q7 : gz_OkE (M_L_law L xs mn) 3 0 0 1075 1078 _ := ok_iadd q5 q6 dL_law_1077
  have q8 : gz_OkE (M_L_law L xs mn) 2 0 0 1074 1079 _ := ok_sld (L := L) (xs := xs) rfl q4 q7 dL_law_1078
  have q9 : gz_OkA (M_L_law L xs mn) 0 0 0 1073 1079 2 _ := ok_a1 q3 q8
  have q10 : gz_OkE (M_L_law L xs mn) 4 0 0 1079 1080 _ := ok_aload_n (i := 0) dL_law_1079 rfl
  have q11 : gz_OkE (M_L_law L xs mn) 5 0 0 1080 1081 _ := ok_iload_n (i := 3) dL_law_1080 rfl
  have q12 : gz_OkE (M_L_law L xs mn) 6 0 0 1081 1082 _ := ok_iconst (v := 2) dL_law_1081 kc_i2
  have q13 : gz_OkE (M_L_law L xs mn) 5 0 0 1080 1083 _ := ok_iadd q11 q12 dL_law_1082
  have q14 : gz_OkE (M_L_law L xs mn) 4 0 0 1079 1084 _ := ok_sld (L := L) (xs := xs) rfl q10 q13 dL_law_1083
  have q15 : gz_OkA (M_L_law L xs mn) 0 0 0 1073 1084 3 _ := ok_a1 q9 q14
  have q16 : gz_OkE (M_L_law L xs mn) 6 0 0 1084 1085 _ := ok_aload_n (i := 0) dL_law_1084 rfl
  have q17 : gz_OkE (M_L_law L xs mn) 7 0 0 1085 1086 _ := ok_iload_n (i := 3) dL_law_1085 rfl
  have q18 : gz_OkE (M_L_law L xs mn) 8 0 0 1086 1087 _ := ok_iconst (v := 3) dL_law_1086 kc_i3
  have q19 : gz_OkE (M_L_law L xs mn) 7 0 0 1085 1088 _ := ok_iadd q17 q18 dL_law_1087
  have q20 : gz_OkE (M_L_law L xs mn) 6 0 0 1084 1089 _ := ok_sld (L := L) (xs := xs) rfl q16 q19 dL_law_1088
  have q21 : gz_OkA (M_L_law L xs mn) 0 0 0 1073 1089 4 _ := ok_a1 q15 q20
  have q22 : gz_OkE (M_L_law L xs mn) 8 0 0 1089 1090 _ := ok_aload_n (i := 0) dL_law_1089 rfl
  have q23 : gz_OkE (M_L_law L xs mn) 9 0 0 1090 1091 _ := ok_iload_n (i := 3) dL_law_1090 rfl
  have q24 : gz_OkE (M_L_law L xs mn) 10 0 0 1091 1092 _ := ok_iconst (v := 4) dL_law_1091 kc_i4
  have q25 : gz_OkE (M_L_law L xs mn) 9 0 0 1090 1093 _ := ok_iadd q23 q24 dL_law_1092
  have q26 : gz_OkE (M_L_law L xs mn) 8 0 0 1089 1094 _ := ok_sld (L := L) (xs := xs) rfl q22 q25 dL_law_1093
  have q27 : gz_OkA (M_L_law L xs mn) 0 0 0 1073 1094 5 _ := ok_a1 q21 q26
  have q28 : gz_OkE (M_L_law L xs mn) 10 0 0 1094 1095 _ := ok_aload_n (i := 0) dL_law_1094 rfl
  have q29 : gz_OkE (M_L_law L xs mn) 11 0 0 1095 1096 _ := ok_iload_n (i := 3) dL_law_1095 rfl
  have q30 : gz_OkE (M_L_law L xs mn) 12 0 0 1096 1097 _ := ok_iconst (v := 5) dL_law_1096 kc_i5
  have q31 : gz_OkE (M_L_law L xs mn) 11 0 0 1095 1098 _ := ok_iadd q29 q30 dL_law_1097
  have q32 : gz_OkE (M_L_law L xs mn) 10 0 0 1094 1099 _ := ok_sld (L := L) (xs := xs) rfl q28 q31 dL_law_1098
  have q33 : gz_OkA (M_L_law L xs mn) 0 0 0 1073 1099 6 _ := ok_a1 q27 q32
  have q34 : gz_OkE (M_L_law L xs mn) 12 0 0 1099 1100 _ := ok_aload_n (i := 0) dL_law_1099 rfl
  have q35 : gz_OkE (M_L_law L xs mn) 13 0 0 1100 1101 _ := ok_iload_n (i := 3) dL_law_1100 rfl
  have q36 : gz_OkE (M_L_law L xs mn) 14 0 0 1101 1103 _ := ok_bipush (v := 6) dL_law_1101 kc_b6
  have q37 : gz_OkE (M_L_law L xs mn) 13 0 0 1100 1104 _ := ok_iadd q35 q36 dL_law_1103
  have q38 : gz_OkE (M_L_law L xs mn) 12 0 0 1099 1105 _ := ok_sld (L := L) (xs := xs) rfl q34 q37 dL_law_1104
  have q39 : gz_OkA (M_L_law L xs mn) 0 0 0 1073 1105 7 _ := ok_a1 q33 q38
  have q40 : gz_OkE (M_L_law L xs mn) 14 0 0 1105 1106 _ := ok_aload_n (i := 0) dL_law_1105 rfl
  have q41 : gz_OkE (M_L_law L xs mn) 15 0 0 1106 1107 _ := ok_iload_n (i := 3) dL_law_1106 rfl
  have q42 : gz_OkE (M_L_law L xs mn) 16 0 0 1107 1109 _ := ok_bipush (v := 7) dL_law_1107 kc_b7
  have q43 : gz_OkE (M_L_law L xs mn) 15 0 0 1106 1110 _ := ok_iadd q41 q42 dL_law_1109
  have q44 : gz_OkE (M_L_law L xs mn) 14 0 0 1105 1111 _ := ok_sld (L := L) (xs := xs) rfl q40 q43 dL_law_1110
  have q45 : gz_OkA (M_L_law L xs mn) 0 0 0 1073 1111 8 _ := ok_a1 q39 q44
  have q46 : gz_OkE (M_L_law L xs mn) 16 0 0 1111 1112 _ := ok_aload_n (i := 0) dL_law_1111 rfl
  have q47 : gz_OkE (M_L_law L xs mn) 17 0 0 1112 1113 _ := ok_iload_n (i := 3) dL_law_1112 rfl
  have q48 : gz_OkE (M_L_law L xs mn) 18 0 0 1113 1115 _ := ok_bipush (v := 8) dL_law_1113 kc_b8
  have q49 : gz_OkE (M_L_law L xs mn) 17 0 0 1112 1116 _ := ok_iadd q47 q48 dL_law_1115
  have q50 : gz_OkE (M_L_law L xs mn) 16 0 0 1111 1117 _ := ok_sld (L := L) (xs := xs) rfl q46 q49 dL_law_1116
  have q51 : gz_OkA (M_L_law L xs mn) 0 0 0 1073 1117 9 _ := ok_a1 q45 q50
  have q52 : gz_OkE (M_L_law L xs mn) 0 0 0 1073 1120 _ := ok_cv q51 mt_X7_wave cl_7 wd_376 wd_183 de_X7_wave (Nat.le_of_ble_eq_true rfl) (Nat.le_of_ble_eq_true rfl) wd_377 wd_378 wd_379 dL_law_1117 (by decide)
  have q53 : gz_OkA (M_L_law L xs mn) 1 0 0 1120 1120 0 _ := ok_a0
  have q54 : gz_OkE (M_L_law L xs mn) 1 0 0 1120 1121 _ := ok_aload_n (i := 2) dL_law_1120 rfl
  have q55 : gz_OkA (M_L_law L xs mn) 1 0 0 1120 1121 1 _ := ok_a1 q53 q54
  have q56 : gz_OkE (M_L_law L xs mn) 3 0 0 1121 1122 _ := ok_aload_n (i := 0) dL_law_1121 rfl
  have q57 : gz_OkE (M_L_law L xs mn) 4 0 0 1122 1123 _ := ok_iload_n (i := 3) dL_law_1122 rfl
  have q58 : gz_OkE (M_L_law L xs mn) 5 0 0 1123 1124 _ := ok_iconst (v := 1) dL_law_1123 kc_i1
  have q59 : gz_OkE (M_L_law L xs mn) 4 0 0 1122 1125 _ := ok_iadd q57 q58 dL_law_1124
  have q60 : gz_OkE (M_L_law L xs mn) 3 0 0 1121 1126 _ := ok_sld (L := L) (xs := xs) rfl q56 q59 dL_law_1125
  have q61 : gz_OkA (M_L_law L xs mn) 1 0 0 1120 1126 2 _ := ok_a1 q55 q60
  have q62 : gz_OkE (M_L_law L xs mn) 5 0 0 1126 1127 _ := ok_aload_n (i := 0) dL_law_1126 rfl
  have q63 : gz_OkE (M_L_law L xs mn) 6 0 0 1127 1128 _ := ok_iload_n (i := 3) dL_law_1127 rfl
  have q64 : gz_OkE (M_L_law L xs mn) 7 0 0 1128 1129 _ := ok_iconst (v := 2) dL_law_1128 kc_i2
  have q65 : gz_OkE (M_L_law L xs mn) 6 0 0 1127 1130 _ := ok_iadd q63 q64 dL_law_1129
  have q66 : gz_OkE (M_L_law L xs mn) 5 0 0 1126 1131 _ := ok_sld (L := L) (xs := xs) rfl q62 q65 dL_law_1130
  have q67 : gz_OkA (M_L_law L xs mn) 1 0 0 1120 1131 3 _ := ok_a1 q61 q66
  have q68 : gz_OkE (M_L_law L xs mn) 7 0 0 1131 1132 _ := ok_aload_n (i := 0) dL_law_1131 rfl
  have q69 : gz_OkE (M_L_law L xs mn) 8 0 0 1132 1133 _ := ok_iload_n (i := 3) dL_law_1132 rfl
  have q70 : gz_OkE (M_L_law L xs mn) 9 0 0 1133 1134 _ := ok_iconst (v := 3) dL_law_1133 kc_i3
  have q71 : gz_OkE (M_L_law L xs mn) 8 0 0 1132 1135 _ := ok_iadd q69 q70 dL_law_1134
  have q72 : gz_OkE (M_L_law L xs mn) 7 0 0 1131 1136 _ := ok_sld (L := L) (xs := xs) rfl q68 q71 dL_law_1135
  have q73 : gz_OkA (M_L_law L xs mn) 1 0 0 1120 1136 4 _ := ok_a1 q67 q72
  have q74 : gz_OkE (M_L_law L xs mn) 9 0 0 1136 1137 _ := ok_aload_n (i := 0) dL_law_1136 rfl
  have q75 : gz_OkE (M_L_law L xs mn) 10 0 0 1137 1138 _ := ok_iload_n (i := 3) dL_law_1137 rfl
  have q76 : gz_OkE (M_L_law L xs mn) 11 0 0 1138 1139 _ := ok_iconst (v := 4) dL_law_1138 kc_i4
  have q77 : gz_OkE (M_L_law L xs mn) 10 0 0 1137 1140 _ := ok_iadd q75 q76 dL_law_1139
  have q78 : gz_OkE (M_L_law L xs mn) 9 0 0 1136 1141 _ := ok_sld (L := L) (xs := xs) rfl q74 q77 dL_law_1140
  have q79 : gz_OkA (M_L_law L xs mn) 1 0 0 1120 1141 5 _ := ok_a1 q73 q78
  have q80 : gz_OkE (M_L_law L xs mn) 11 0 0 1141 1142 _ := ok_aload_n (i := 0) dL_law_1141 rfl
  have q81 : gz_OkE (M_L_law L xs mn) 12 0 0 1142 1143 _ := ok_iload_n (i := 3) dL_law_1142 rfl
  have q82 : gz_OkE (M_L_law L xs mn) 13 0 0 1143 1144 _ := ok_iconst (v := 5) dL_law_1143 kc_i5
  have q83 : gz_OkE (M_L_law L xs mn) 12 0 0 1142 1145 _ := ok_iadd q81 q82 dL_law_1144
  have q84 : gz_OkE (M_L_law L xs mn) 11 0 0 1141 1146 _ := ok_sld (L := L) (xs := xs) rfl q80 q83 dL_law_1145
  have q85 : gz_OkA (M_L_law L xs mn) 1 0 0 1120 1146 6 _ := ok_a1 q79 q84
  have q86 : gz_OkE (M_L_law L xs mn) 13 0 0 1146 1147 _ := ok_aload_n (i := 0) dL_law_1146 rfl
  have q87 : gz_OkE (M_L_law L xs mn) 14 0 0 1147 1148 _ := ok_iload_n (i := 3) dL_law_1147 rfl
  have q88 : gz_OkE (M_L_law L xs mn) 15 0 0 1148 1150 _ := ok_bipush (v := 6) dL_law_1148 kc_b6
  have q89 : gz_OkE (M_L_law L xs mn) 14 0 0 1147 1151 _ := ok_iadd q87 q88 dL_law_1150
  have q90 : gz_OkE (M_L_law L xs mn) 13 0 0 1146 1152 _ := ok_sld (L := L) (xs := xs) rfl q86 q89 dL_law_1151
  have q91 : gz_OkA (M_L_law L xs mn) 1 0 0 1120 1152 7 _ := ok_a1 q85 q90
  have q92 : gz_OkE (M_L_law L xs mn) 15 0 0 1152 1153 _ := ok_aload_n (i := 0) dL_law_1152 rfl
  have q93 : gz_OkE (M_L_law L xs mn) 16 0 0 1153 1154 _ := ok_iload_n (i := 3) dL_law_1153 rfl
  have q94 : gz_OkE (M_L_law L xs mn) 17 0 0 1154 1156 _ := ok_bipush (v := 7) dL_law_1154 kc_b7
  have q95 : gz_OkE (M_L_law L xs mn) 16 0 0 1153 1157 _ := ok_iadd q93 q94 dL_law_1156
  have q96 : gz_OkE (M_L_law L xs mn) 15 0 0 1152 1158 _ := ok_sld (L := L) (xs := xs) rfl q92 q95 dL_law_1157
  have q97 : gz_OkA (M_L_law L xs mn) 1 0 0 1120 1158 8 _ := ok_a1 q91 q96
  have q98 : gz_OkE (M_L_law L xs mn) 17 0 0 1158 1159 _ := ok_aload_n (i := 0) dL_law_1158 rfl
  have q99 : gz_OkE (M_L_law L xs mn) 18 0 0 1159 1160 _ := ok_iload_n (i := 3) dL_law_1159 rfl
  have q100 : gz_OkE (M_L_law L xs mn) 19 0 0 1160 1162 _ := ok_bipush (v := 8) dL_law_1160 kc_b8
  have q101 : gz_OkE (M_L_law L xs mn) 18 0 0 1159 1163 _ := ok_iadd q99 q100 dL_law_1162
  have q102 : gz_OkE (M_L_law L xs mn) 17 0 0 1158 1164 _ := ok_sld (L := L) (xs := xs) rfl q98 q101 dL_law_1163
  have q103 : gz_OkA (M_L_law L xs mn) 1 0 0 1120 1164 9 _ := ok_a1 q97 q102
  have q104 : gz_OkE (M_L_law L xs mn) 1 0 0 1120 1167 _ := ok_cv q103 mt_X8_wave cl_8 wd_380 wd_188 de_X8_wave (Nat.le_of_ble_eq_true rfl) (Nat.le_of_ble_eq_true rfl) wd_381 wd_382 wd_383 dL_law_1164 (by decide)
  have q105 : gz_OkJ (M_L_law L xs mn) 0 0 0 1073 1215 1170 _ := ok_ic_eq q52 q104 dL_law_1167 (by decide)
  have q106 : gz_OkS (M_L_law L xs mn) 0 0 1215 _ := ok_at
  have q107 : gz_OkE (M_L_law L xs mn) 0 0 0 1170 1171 _ := ok_iconst (v := 0) dL_law_1170 kc_i0
  have q108 : gz_OkS (M_L_law L xs mn) 0 0 1170 _ := ok_ri q107 dL_law_1171
  have q109 : gz_OkS (M_L_law L xs mn) 0 0 1073 _ := ok_if q105 q106 q108
  exact q109
set_option maxRecDepth 100000 in
theorem okc_25 (L : Nat) (xs : Nat → Int32) (mn : String) : gz_OkS (M_L_law L xs mn) 0 0 1172 (lc_25 L xs) := by
  have q1 : gz_OkA (M_L_law L xs mn) 0 0 0 1172 1172 0 _ := ok_a0
  have q2 : gz_OkE (M_L_law L xs mn) 0 0 0 1172 1173 _ := ok_aload_n (i := 1) dL_law_1172 rfl
  have q3 : gz_OkA (M_L_law L xs mn) 0 0 0 1172 1173 1 _ := ok_a1 q1 q2
  have q4 : gz_OkE (M_L_law L xs mn) 2 0 0 1173 1174 _ := ok_aload_n (i := 0) dL_law_1173 rfl
  have q5 : gz_OkE (M_L_law L xs mn) 3 0 0 1174 1175 _ := ok_iload_n (i := 3) dL_law_1174 rfl
  have q6 : gz_OkE (M_L_law L xs mn) 4 0 0 1175 1176 _ := ok_iconst (v := 1) dL_law_1175 kc_i1
  have q7 : gz_OkE (M_L_law L xs mn) 3 0 0 1174 1177 _ := ok_iadd q5 q6 dL_law_1176
  have q8 : gz_OkE (M_L_law L xs mn) 2 0 0 1173 1178 _ := ok_sld (L := L) (xs := xs) rfl q4 q7 dL_law_1177
  have q9 : gz_OkA (M_L_law L xs mn) 0 0 0 1172 1178 2 _ := ok_a1 q3 q8
  have q10 : gz_OkE (M_L_law L xs mn) 4 0 0 1178 1179 _ := ok_aload_n (i := 0) dL_law_1178 rfl
  have q11 : gz_OkE (M_L_law L xs mn) 5 0 0 1179 1180 _ := ok_iload_n (i := 3) dL_law_1179 rfl
  have q12 : gz_OkE (M_L_law L xs mn) 6 0 0 1180 1181 _ := ok_iconst (v := 2) dL_law_1180 kc_i2
  have q13 : gz_OkE (M_L_law L xs mn) 5 0 0 1179 1182 _ := ok_iadd q11 q12 dL_law_1181
  have q14 : gz_OkE (M_L_law L xs mn) 4 0 0 1178 1183 _ := ok_sld (L := L) (xs := xs) rfl q10 q13 dL_law_1182
  have q15 : gz_OkA (M_L_law L xs mn) 0 0 0 1172 1183 3 _ := ok_a1 q9 q14
  have q16 : gz_OkE (M_L_law L xs mn) 6 0 0 1183 1184 _ := ok_aload_n (i := 0) dL_law_1183 rfl
  have q17 : gz_OkE (M_L_law L xs mn) 7 0 0 1184 1185 _ := ok_iload_n (i := 3) dL_law_1184 rfl
  have q18 : gz_OkE (M_L_law L xs mn) 8 0 0 1185 1186 _ := ok_iconst (v := 3) dL_law_1185 kc_i3
  have q19 : gz_OkE (M_L_law L xs mn) 7 0 0 1184 1187 _ := ok_iadd q17 q18 dL_law_1186
  have q20 : gz_OkE (M_L_law L xs mn) 6 0 0 1183 1188 _ := ok_sld (L := L) (xs := xs) rfl q16 q19 dL_law_1187
  have q21 : gz_OkA (M_L_law L xs mn) 0 0 0 1172 1188 4 _ := ok_a1 q15 q20
  have q22 : gz_OkE (M_L_law L xs mn) 0 0 0 1172 1191 _ := ok_cv q21 mt_X7_check cl_7 wd_384 wd_183 de_X7_check (Nat.le_of_ble_eq_true rfl) (Nat.le_of_ble_eq_true rfl) wd_385 wd_386 wd_387 dL_law_1188 (by decide)
  have q23 : gz_OkA (M_L_law L xs mn) 1 0 0 1191 1191 0 _ := ok_a0
  have q24 : gz_OkE (M_L_law L xs mn) 1 0 0 1191 1192 _ := ok_aload_n (i := 2) dL_law_1191 rfl
  have q25 : gz_OkA (M_L_law L xs mn) 1 0 0 1191 1192 1 _ := ok_a1 q23 q24
  have q26 : gz_OkE (M_L_law L xs mn) 3 0 0 1192 1193 _ := ok_aload_n (i := 0) dL_law_1192 rfl
  have q27 : gz_OkE (M_L_law L xs mn) 4 0 0 1193 1194 _ := ok_iload_n (i := 3) dL_law_1193 rfl
  have q28 : gz_OkE (M_L_law L xs mn) 5 0 0 1194 1195 _ := ok_iconst (v := 1) dL_law_1194 kc_i1
  have q29 : gz_OkE (M_L_law L xs mn) 4 0 0 1193 1196 _ := ok_iadd q27 q28 dL_law_1195
  have q30 : gz_OkE (M_L_law L xs mn) 3 0 0 1192 1197 _ := ok_sld (L := L) (xs := xs) rfl q26 q29 dL_law_1196
  have q31 : gz_OkA (M_L_law L xs mn) 1 0 0 1191 1197 2 _ := ok_a1 q25 q30
  have q32 : gz_OkE (M_L_law L xs mn) 5 0 0 1197 1198 _ := ok_aload_n (i := 0) dL_law_1197 rfl
  have q33 : gz_OkE (M_L_law L xs mn) 6 0 0 1198 1199 _ := ok_iload_n (i := 3) dL_law_1198 rfl
  have q34 : gz_OkE (M_L_law L xs mn) 7 0 0 1199 1200 _ := ok_iconst (v := 2) dL_law_1199 kc_i2
  have q35 : gz_OkE (M_L_law L xs mn) 6 0 0 1198 1201 _ := ok_iadd q33 q34 dL_law_1200
  have q36 : gz_OkE (M_L_law L xs mn) 5 0 0 1197 1202 _ := ok_sld (L := L) (xs := xs) rfl q32 q35 dL_law_1201
  have q37 : gz_OkA (M_L_law L xs mn) 1 0 0 1191 1202 3 _ := ok_a1 q31 q36
  have q38 : gz_OkE (M_L_law L xs mn) 7 0 0 1202 1203 _ := ok_aload_n (i := 0) dL_law_1202 rfl
  have q39 : gz_OkE (M_L_law L xs mn) 8 0 0 1203 1204 _ := ok_iload_n (i := 3) dL_law_1203 rfl
  have q40 : gz_OkE (M_L_law L xs mn) 9 0 0 1204 1205 _ := ok_iconst (v := 3) dL_law_1204 kc_i3
  have q41 : gz_OkE (M_L_law L xs mn) 8 0 0 1203 1206 _ := ok_iadd q39 q40 dL_law_1205
  have q42 : gz_OkE (M_L_law L xs mn) 7 0 0 1202 1207 _ := ok_sld (L := L) (xs := xs) rfl q38 q41 dL_law_1206
  have q43 : gz_OkA (M_L_law L xs mn) 1 0 0 1191 1207 4 _ := ok_a1 q37 q42
  have q44 : gz_OkE (M_L_law L xs mn) 1 0 0 1191 1210 _ := ok_cv q43 mt_X8_check cl_8 wd_388 wd_188 de_X8_check (Nat.le_of_ble_eq_true rfl) (Nat.le_of_ble_eq_true rfl) wd_389 wd_390 wd_391 dL_law_1207 (by decide)
  have q45 : gz_OkJ (M_L_law L xs mn) 0 0 0 1172 1215 1213 _ := ok_ic_eq q22 q44 dL_law_1210 (by decide)
  have q46 : gz_OkS (M_L_law L xs mn) 0 0 1215 _ := ok_at
  have q47 : gz_OkE (M_L_law L xs mn) 0 0 0 1213 1214 _ := ok_iconst (v := 0) dL_law_1213 kc_i0
  have q48 : gz_OkS (M_L_law L xs mn) 0 0 1213 _ := ok_ri q47 dL_law_1214
  have q49 : gz_OkS (M_L_law L xs mn) 0 0 1172 _ := ok_if q45 q46 q48
  exact q49
set_option maxRecDepth 100000 in
theorem ok_L_0 (L : Nat) (xs : Nat → Int32) (mn : String) : gz_OkS (M_L_law L xs mn) 55 11965 0 (lp_L) := by
  have q1 : gz_OkA (M_L_law L xs mn) 2 0 0 4 4 0 _ := ok_a0
  have q2 : gz_OkE (M_L_law L xs mn) 0 15 1167 0 7 _ := ok_mk cl_7 in_7 tyX7 tyX7_ok nf_7 wd_392 wd_393 wd_183 dL_law_0 dL_law_3 q1 mt_X7_init wd_394 wd_183 de_X7_init (Nat.le_of_ble_eq_true rfl) (Nat.le_of_ble_eq_true rfl) wd_395 wd_396 rfl dL_law_4 (by decide)
  have q3 : gz_OkA (M_L_law L xs mn) 2 0 0 12 12 0 _ := ok_a0
  have q4 : gz_OkE (M_L_law L xs mn) 0 40 10798 8 15 _ := ok_mk cl_8 in_8 tyX8 tyX8_ok nf_8 wd_397 wd_398 wd_188 dL_law_8 dL_law_11 q3 mt_X8_init wd_399 wd_188 de_X8_init (Nat.le_of_ble_eq_true rfl) (Nat.le_of_ble_eq_true rfl) wd_400 wd_401 rfl dL_law_12 (by decide)
  have q5 : gz_OkE (M_L_law L xs mn) 0 0 0 16 17 _ := ok_iconst (v := 0) dL_law_16 kc_i0
  have q6 : gz_OkS (M_L_law L xs mn) 0 0 18 _ := ok_at
  have q7 : gz_OkS (M_L_law L xs mn) 0 0 16 _ := ok_seti_n (k := 3) q5 dL_law_17 rfl (Nat.le_of_ble_eq_true rfl) q6
  have q8 : gz_OkS (M_L_law L xs mn) 40 10798 8 _ := ok_seta_n (k := 2) q4 dL_law_15 rfl (Nat.le_of_ble_eq_true rfl) q7
  have q9 : gz_OkS (M_L_law L xs mn) 55 11965 0 _ := ok_seta_n (k := 1) q2 dL_law_7 rfl (Nat.le_of_ble_eq_true rfl) q8
  exact q9
set_option maxRecDepth 100000 in
theorem ok_L_18 (L : Nat) (xs : Nat → Int32) (mn : String) : gz_OkS (M_L_law L xs mn) 6 299 18 (lb_L L xs) := by
  have q1 : gz_OkE (M_L_law L xs mn) 0 0 0 18 19 _ := ok_iload_n (i := 3) dL_law_18 rfl
  have q2 : gz_OkE (M_L_law L xs mn) 1 0 0 19 20 _ := ok_aload_n (i := 0) dL_law_19 rfl
  have q3 : gz_OkE (M_L_law L xs mn) 1 0 0 19 21 _ := ok_slen (L := L) (xs := xs) rfl q2 dL_law_20
  have q4 : gz_OkE (M_L_law L xs mn) 2 0 0 21 23 _ := ok_bipush (v := 9) dL_law_21 kc_b9
  have q5 : gz_OkE (M_L_law L xs mn) 1 0 0 19 24 _ := ok_isub q3 q4 dL_law_23
  have q6 : gz_OkJ (M_L_law L xs mn) 0 0 0 18 1221 27 _ := ok_ic_gt q1 q5 dL_law_24 (by decide)
  have q7 : gz_OkS (M_L_law L xs mn) 0 0 1221 _ := ok_at
  have q8 : gz_OkE (M_L_law L xs mn) 0 0 0 27 28 _ := ok_aload_n (i := 0) dL_law_27 rfl
  have q9 : gz_OkE (M_L_law L xs mn) 1 0 0 28 29 _ := ok_iload_n (i := 3) dL_law_28 rfl
  have q10 : gz_OkE (M_L_law L xs mn) 0 0 0 27 30 _ := ok_sld (L := L) (xs := xs) rfl q8 q9 dL_law_29
  have q11 : gz_OkE (M_L_law L xs mn) 1 0 0 30 32 _ := ok_bipush (v := 31) dL_law_30 kc_b31
  have q12 : gz_OkE (M_L_law L xs mn) 0 0 0 27 33 _ := ok_iand q10 q11 dL_law_32
  have q13 : gz_OkS (M_L_law L xs mn) 0 0 1215 _ := ok_at
  have q14 : ∀ q ∈ (List.zip [152, 165, 228, 291, 334, 409, 432, 465, 498, 531, 574, 607, 630, 663, 696, 729, 752, 785, 818, 861, 884, 928, 951, 974, 1073, 1172] [lc_0 L xs, lc_1 L xs, lc_2 L xs, lc_3 L xs, lc_4 L xs, lc_5 L xs, lc_6 L xs, lc_7 L xs, lc_8 L xs, lc_9 L xs, lc_10 L xs, lc_11 L xs, lc_12 L xs, lc_13 L xs, lc_14 L xs, lc_15 L xs, lc_16 L xs, lc_17 L xs, lc_18 L xs, lc_19 L xs, lc_20 L xs, lc_21 L xs, lc_22 L xs, lc_23 L xs, lc_24 L xs, lc_25 L xs] : List (Nat × gz_Sx)), gz_OkS (M_L_law L xs mn) 6 299 q.1 q.2 := List.forall_mem_cons.mpr ⟨(ok_mono (okc_0 L xs mn) (by decide) (by decide)), List.forall_mem_cons.mpr ⟨(ok_mono (okc_1 L xs mn) (by decide) (by decide)), List.forall_mem_cons.mpr ⟨(ok_mono (okc_2 L xs mn) (by decide) (by decide)), List.forall_mem_cons.mpr ⟨(ok_mono (okc_3 L xs mn) (by decide) (by decide)), List.forall_mem_cons.mpr ⟨(ok_mono (okc_4 L xs mn) (by decide) (by decide)), List.forall_mem_cons.mpr ⟨(ok_mono (okc_5 L xs mn) (by decide) (by decide)), List.forall_mem_cons.mpr ⟨(ok_mono (okc_6 L xs mn) (by decide) (by decide)), List.forall_mem_cons.mpr ⟨(ok_mono (okc_7 L xs mn) (by decide) (by decide)), List.forall_mem_cons.mpr ⟨(ok_mono (okc_8 L xs mn) (by decide) (by decide)), List.forall_mem_cons.mpr ⟨(ok_mono (okc_9 L xs mn) (by decide) (by decide)), List.forall_mem_cons.mpr ⟨(ok_mono (okc_10 L xs mn) (by decide) (by decide)), List.forall_mem_cons.mpr ⟨(ok_mono (okc_11 L xs mn) (by decide) (by decide)), List.forall_mem_cons.mpr ⟨(ok_mono (okc_12 L xs mn) (by decide) (by decide)), List.forall_mem_cons.mpr ⟨(ok_mono (okc_13 L xs mn) (by decide) (by decide)), List.forall_mem_cons.mpr ⟨(ok_mono (okc_14 L xs mn) (by decide) (by decide)), List.forall_mem_cons.mpr ⟨(ok_mono (okc_15 L xs mn) (by decide) (by decide)), List.forall_mem_cons.mpr ⟨(ok_mono (okc_16 L xs mn) (by decide) (by decide)), List.forall_mem_cons.mpr ⟨(ok_mono (okc_17 L xs mn) (by decide) (by decide)), List.forall_mem_cons.mpr ⟨(ok_mono (okc_18 L xs mn) (by decide) (by decide)), List.forall_mem_cons.mpr ⟨(ok_mono (okc_19 L xs mn) (by decide) (by decide)), List.forall_mem_cons.mpr ⟨(ok_mono (okc_20 L xs mn) (by decide) (by decide)), List.forall_mem_cons.mpr ⟨(ok_mono (okc_21 L xs mn) (by decide) (by decide)), List.forall_mem_cons.mpr ⟨(ok_mono (okc_22 L xs mn) (by decide) (by decide)), List.forall_mem_cons.mpr ⟨(ok_mono (okc_23 L xs mn) (by decide) (by decide)), List.forall_mem_cons.mpr ⟨(ok_mono (okc_24 L xs mn) (by decide) (by decide)), List.forall_mem_cons.mpr ⟨(ok_mono (okc_25 L xs mn) (by decide) (by decide)), fun _ h => absurd h List.not_mem_nil⟩⟩⟩⟩⟩⟩⟩⟩⟩⟩⟩⟩⟩⟩⟩⟩⟩⟩⟩⟩⟩⟩⟩⟩⟩⟩
  have q15 : gz_OkS (M_L_law L xs mn) 6 299 27 _ := ok_sw (ts := [152, 165, 228, 291, 334, 409, 432, 465, 498, 531, 574, 607, 630, 663, 696, 729, 752, 785, 818, 861, 884, 928, 951, 974, 1073, 1172]) q12 dL_law_33 (by first | decide | rfl | simp) (by decide) (by decide) rfl (ok_mono q13 (by decide) (by decide)) q14
  have q16 : gz_OkS (M_L_law L xs mn) 0 0 1218 (gz_sat 18) := ok_goto dL_law_1218 (by decide)
  have q17 : gz_OkS (M_L_law L xs mn) 0 0 1215 _ := ok_inc (v := 9) dL_law_1215 kc_i9 (Nat.le_of_ble_eq_true rfl) q16
  have q18 : gz_OkS (M_L_law L xs mn) 6 299 27 _ := ok_seq (L := 1215) (k := 4) q15 q17
  have q19 : gz_OkS (M_L_law L xs mn) 6 299 18 _ := ok_if q6 q7 q18
  exact q19
set_option maxRecDepth 100000 in
theorem ok_L_1221 (L : Nat) (xs : Nat → Int32) (mn : String) : gz_OkS (M_L_law L xs mn) 0 0 1221 (lq_L) := by
  have q1 : gz_OkE (M_L_law L xs mn) 0 0 0 1221 1222 _ := ok_iconst (v := 1) dL_law_1221 kc_i1
  have q2 : gz_OkS (M_L_law L xs mn) 0 0 1221 _ := ok_ri q1 dL_law_1222
  exact q2
