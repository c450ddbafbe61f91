theorem cl_0 : vwCl[0]? = some (RX0, TX0, 6) := rfl
theorem nf_0 : ∀ k, k < 6 → gz_nf (defaultValue (tyX0 k)) = true := by decide +kernel
theorem in_0 : ∀ w ∈ u_ws RX0 TX0 6, w ∈ gz_tb := fun w h => by
  have g := goodIn_p (big := lw_tbl) (u_ws RX0 TX0 6) [] rfl (by decide +kernel)
  have g2 : ∀ w ∈ u_ws RX0 TX0 6, goodWord w = true := by decide +kernel
  exact gz_in (g w h).1 (g2 w h)
theorem cl_1 : vwCl[1]? = some (RX1, TX1, 11) := rfl
theorem nf_1 : ∀ k, k < 11 → gz_nf (defaultValue (tyX1 k)) = true := by decide +kernel
theorem in_1 : ∀ w ∈ u_ws RX1 TX1 11, w ∈ gz_tb := fun w h => by
  have g := goodIn_p (big := lw_tbl) (u_ws RX1 TX1 11) [] rfl (by decide +kernel)
  have g2 : ∀ w ∈ u_ws RX1 TX1 11, goodWord w = true := by decide +kernel
  exact gz_in (g w h).1 (g2 w h)
theorem cl_2 : vwCl[2]? = some (RX2, TX2, 9) := rfl
theorem nf_2 : ∀ k, k < 9 → gz_nf (defaultValue (tyX2 k)) = true := by decide +kernel
theorem in_2 : ∀ w ∈ u_ws RX2 TX2 9, w ∈ gz_tb := fun w h => by
  have g := goodIn_p (big := lw_tbl) (u_ws RX2 TX2 9) [] rfl (by decide +kernel)
  have g2 : ∀ w ∈ u_ws RX2 TX2 9, goodWord w = true := by decide +kernel
  exact gz_in (g w h).1 (g2 w h)
theorem cl_3 : vwCl[3]? = some (RX3, TX3, 14) := rfl
theorem nf_3 : ∀ k, k < 14 → gz_nf (defaultValue (tyX3 k)) = true := by decide +kernel
theorem in_3 : ∀ w ∈ u_ws RX3 TX3 14, w ∈ gz_tb := fun w h => by
  have g := goodIn_p (big := lw_tbl) (u_ws RX3 TX3 14) [] rfl (by decide +kernel)
  have g2 : ∀ w ∈ u_ws RX3 TX3 14, goodWord w = true := by decide +kernel
  exact gz_in (g w h).1 (g2 w h)
theorem cl_4 : vwCl[4]? = some (RX4, TX4, 6) := rfl
theorem nf_4 : ∀ k, k < 6 → gz_nf (defaultValue (tyX4 k)) = true := by decide +kernel
theorem in_4 : ∀ w ∈ u_ws RX4 TX4 6, w ∈ gz_tb := fun w h => by
  have g := goodIn_p (big := lw_tbl) (u_ws RX4 TX4 6) [] rfl (by decide +kernel)
  have g2 : ∀ w ∈ u_ws RX4 TX4 6, goodWord w = true := by decide +kernel
  exact gz_in (g w h).1 (g2 w h)
theorem cl_5 : vwCl[5]? = some (RX5, TX5, 3) := rfl
theorem nf_5 : ∀ k, k < 3 → gz_nf (defaultValue (tyX5 k)) = true := by decide +kernel
theorem in_5 : ∀ w ∈ u_ws RX5 TX5 3, w ∈ gz_tb := fun w h => by
  have g := goodIn_p (big := lw_tbl) (u_ws RX5 TX5 3) [] rfl (by decide +kernel)
  have g2 : ∀ w ∈ u_ws RX5 TX5 3, goodWord w = true := by decide +kernel
  exact gz_in (g w h).1 (g2 w h)
theorem cl_6 : vwCl[6]? = some (RX6, TX6, 10) := rfl
theorem nf_6 : ∀ k, k < 10 → gz_nf (defaultValue (tyX6 k)) = true := by decide +kernel
theorem in_6 : ∀ w ∈ u_ws RX6 TX6 10, w ∈ gz_tb := fun w h => by
  have g := goodIn_p (big := lw_tbl) (u_ws RX6 TX6 10) [] rfl (by decide +kernel)
  have g2 : ∀ w ∈ u_ws RX6 TX6 10, goodWord w = true := by decide +kernel
  exact gz_in (g w h).1 (g2 w h)
theorem cl_7 : vwCl[7]? = some (RX7, TX7, 9) := rfl
theorem nf_7 : ∀ k, k < 9 → gz_nf (defaultValue (tyX7 k)) = true := by decide +kernel
theorem in_7 : ∀ w ∈ u_ws RX7 TX7 9, w ∈ gz_tb := fun w h => by
  have g := goodIn_p (big := lw_tbl) (u_ws RX7 TX7 9) [] rfl (by decide +kernel)
  have g2 : ∀ w ∈ u_ws RX7 TX7 9, goodWord w = true := by decide +kernel
  exact gz_in (g w h).1 (g2 w h)
theorem cl_8 : vwCl[8]? = some (RX8, TX8, 48) := rfl
theorem nf_8 : ∀ k, k < 48 → gz_nf (defaultValue (tyX8 k)) = true := by decide +kernel
theorem in_8 : ∀ w ∈ u_ws RX8 TX8 48, w ∈ gz_tb := fun w h => by
  have g := goodIn_p (big := lw_tbl) (u_ws RX8 TX8 48) [] rfl (by decide +kernel)
  have g2 : ∀ w ∈ u_ws RX8 TX8 48, goodWord w = true := by decide +kernel
  exact gz_in (g w h).1 (g2 w h)
theorem kc_b16 : (Int8.ofInt (16)).toInt32 = (16 : Int32) := by decide
theorem kc_i4 : Int32.ofInt (4) = (4 : Int32) := by decide
theorem kc_im1 : Int32.ofInt (-1) = (-1 : Int32) := by decide
theorem kc_b20 : (Int8.ofInt (20)).toInt32 = (20 : Int32) := by decide
theorem kc_b90 : (Int8.ofInt (90)).toInt32 = (90 : Int32) := by decide
theorem kc_l1 : Int64.ofNat ((1 : Fin 2) : Nat) = (1 : Int64) := by decide
theorem kc_i0 : Int32.ofInt (0) = (0 : Int32) := by decide
theorem kc_i1 : Int32.ofInt (1) = (1 : Int32) := by decide
theorem kc_l0 : Int64.ofNat ((0 : Fin 2) : Nat) = (0 : Int64) := by decide
theorem kc_i2 : Int32.ofInt (2) = (2 : Int32) := by decide
theorem kc_b14 : (Int8.ofInt (14)).toInt32 = (14 : Int32) := by decide
theorem kc_i3 : Int32.ofInt (3) = (3 : Int32) := by decide
theorem kc_b8 : (Int8.ofInt (8)).toInt32 = (8 : Int32) := by decide
theorem kc_b64 : (Int8.ofInt (64)).toInt32 = (64 : Int32) := by decide
theorem kc_s200 : (Int16.ofInt (200)).toInt32 = (200 : Int32) := by decide
theorem kc_s3600 : (Int16.ofInt (3600)).toInt32 = (3600 : Int32) := by decide
theorem kc_s1200 : (Int16.ofInt (1200)).toInt32 = (1200 : Int32) := by decide
theorem kc_i5 : Int32.ofInt (5) = (5 : Int32) := by decide
theorem kc_b61 : (Int8.ofInt (61)).toInt32 = (61 : Int32) := by decide
theorem kc_s1000 : (Int16.ofInt (1000)).toInt32 = (1000 : Int32) := by decide
theorem kc_b6 : (Int8.ofInt (6)).toInt32 = (6 : Int32) := by decide
theorem kc_s540 : (Int16.ofInt (540)).toInt32 = (540 : Int32) := by decide
theorem kc_b45 : (Int8.ofInt (45)).toInt32 = (45 : Int32) := by decide
theorem kc_b30 : (Int8.ofInt (30)).toInt32 = (30 : Int32) := by decide
theorem kc_s600 : (Int16.ofInt (600)).toInt32 = (600 : Int32) := by decide
theorem kc_b60 : (Int8.ofInt (60)).toInt32 = (60 : Int32) := by decide
theorem kc_b10 : (Int8.ofInt (10)).toInt32 = (10 : Int32) := by decide
theorem kc_s300 : (Int16.ofInt (300)).toInt32 = (300 : Int32) := by decide
theorem kc_b11 : (Int8.ofInt (11)).toInt32 = (11 : Int32) := by decide
theorem kc_bm2 : (Int8.ofInt (-2)).toInt32 = (-2 : Int32) := by decide
theorem kc_s999 : (Int16.ofInt (999)).toInt32 = (999 : Int32) := by decide
theorem kc_b99 : (Int8.ofInt (99)).toInt32 = (99 : Int32) := by decide
theorem kc_b120 : (Int8.ofInt (120)).toInt32 = (120 : Int32) := by decide
theorem kc_b100 : (Int8.ofInt (100)).toInt32 = (100 : Int32) := by decide
theorem kc_s512 : (Int16.ofInt (512)).toInt32 = (512 : Int32) := by decide
theorem kc_s1440 : (Int16.ofInt (1440)).toInt32 = (1440 : Int32) := by decide
theorem kc_s3840 : (Int16.ofInt (3840)).toInt32 = (3840 : Int32) := by decide
theorem kc_s1600 : (Int16.ofInt (1600)).toInt32 = (1600 : Int32) := by decide
theorem kc_b39 : (Int8.ofInt (39)).toInt32 = (39 : Int32) := by decide
theorem kc_b29 : (Int8.ofInt (29)).toInt32 = (29 : Int32) := by decide
theorem kc_b32 : (Int8.ofInt (32)).toInt32 = (32 : Int32) := by decide
theorem kc_b127 : (Int8.ofInt (127)).toInt32 = (127 : Int32) := by decide
theorem kc_b9 : (Int8.ofInt (9)).toInt32 = (9 : Int32) := by decide
theorem kc_b31 : (Int8.ofInt (31)).toInt32 = (31 : Int32) := by decide
theorem kc_b7 : (Int8.ofInt (7)).toInt32 = (7 : Int32) := by decide
theorem kc_i9 : Int32.ofInt (9) = (9 : Int32) := by decide
