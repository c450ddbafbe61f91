theorem dX3_toldOfQueue_128 : decode cX3_toldOfQueue 128 = .ok (.lreturn, 1) := by decide +kernel
theorem dX3_toldOfQueue_129 : decode cX3_toldOfQueue 129 = .ok (.aload_n 0, 1) := by decide +kernel
theorem dX3_toldOfQueue_130 : decode cX3_toldOfQueue 130 = .ok (.getfield 27, 3) := by decide +kernel
theorem dX3_toldOfQueue_133 : decode cX3_toldOfQueue 133 = .ok (.i2l, 1) := by decide +kernel
theorem dX3_toldOfQueue_134 : decode cX3_toldOfQueue 134 = .ok (.lreturn, 1) := by decide +kernel
theorem dX3_toldOfQueue_135 : decode cX3_toldOfQueue 135 = .ok (.aload_n 0, 1) := by decide +kernel
theorem dX3_toldOfQueue_136 : decode cX3_toldOfQueue 136 = .ok (.getfield 15, 3) := by decide +kernel
theorem dX3_toldOfQueue_139 : decode cX3_toldOfQueue 139 = .ok (.i2l, 1) := by decide +kernel
theorem dX3_toldOfQueue_140 : decode cX3_toldOfQueue 140 = .ok (.lreturn, 1) := by decide +kernel
theorem dX3_toldOfQueue_141 : decode cX3_toldOfQueue 141 = .ok (.ldc2_w 90, 3) := by decide +kernel
theorem dX3_toldOfQueue_144 : decode cX3_toldOfQueue 144 = .ok (.lreturn, 1) := by decide +kernel
theorem dX4_init_0 : decode cX4_init 0 = .ok (.aload_n 0, 1) := by decide +kernel
theorem dX4_init_1 : decode cX4_init 1 = .ok (.invokespecial 3, 3) := by decide +kernel
theorem dX4_init_4 : decode cX4_init 4 = .ok (.aload_n 0, 1) := by decide +kernel
theorem dX4_init_5 : decode cX4_init 5 = .ok (.bipush 61, 2) := by decide +kernel
theorem dX4_init_7 : decode cX4_init 7 = .ok (.newarray .boolean, 2) := by decide +kernel
theorem dX4_init_9 : decode cX4_init 9 = .ok (.putfield 11, 3) := by decide +kernel
theorem dX4_init_12 : decode cX4_init 12 = .ok (.aload_n 0, 1) := by decide +kernel
theorem dX4_init_13 : decode cX4_init 13 = .ok (.aload_n 1, 1) := by decide +kernel
theorem dX4_init_14 : decode cX4_init 14 = .ok (.putfield 15, 3) := by decide +kernel
theorem dX4_init_17 : decode cX4_init 17 = .ok (.aload_n 0, 1) := by decide +kernel
theorem dX4_init_18 : decode cX4_init 18 = .ok (.aload_n 1, 1) := by decide +kernel
theorem dX4_init_19 : decode cX4_init 19 = .ok (.getfield 19, 3) := by decide +kernel
theorem dX4_init_22 : decode cX4_init 22 = .ok (.putfield 25, 3) := by decide +kernel
theorem dX4_init_25 : decode cX4_init 25 = .ok (.aload_n 0, 1) := by decide +kernel
theorem dX4_init_26 : decode cX4_init 26 = .ok (.iload_n 2, 1) := by decide +kernel
theorem dX4_init_27 : decode cX4_init 27 = .ok (.putfield 28, 3) := by decide +kernel
theorem dX4_init_30 : decode cX4_init 30 = .ok (.aload_n 0, 1) := by decide +kernel
theorem dX4_init_31 : decode cX4_init 31 = .ok (.iload_n 3, 1) := by decide +kernel
theorem dX4_init_32 : decode cX4_init 32 = .ok (.putfield 32, 3) := by decide +kernel
theorem dX4_init_35 : decode cX4_init 35 = .ok (.return_, 1) := by decide +kernel
theorem dX4_isFull_0 : decode cX4_isFull 0 = .ok (.aload_n 0, 1) := by decide +kernel
theorem dX4_isFull_1 : decode cX4_isFull 1 = .ok (.getfield 35, 3) := by decide +kernel
theorem dX4_isFull_4 : decode cX4_isFull 4 = .ok (.aload_n 0, 1) := by decide +kernel
theorem dX4_isFull_5 : decode cX4_isFull 5 = .ok (.getfield 15, 3) := by decide +kernel
theorem dX4_isFull_8 : decode cX4_isFull 8 = .ok (.getfield 38, 3) := by decide +kernel
theorem dX4_isFull_11 : decode cX4_isFull 11 = .ok (.iadd, 1) := by decide +kernel
theorem dX4_isFull_12 : decode cX4_isFull 12 = .ok (.aload_n 0, 1) := by decide +kernel
theorem dX4_isFull_13 : decode cX4_isFull 13 = .ok (.getfield 32, 3) := by decide +kernel
theorem dX4_isFull_16 : decode cX4_isFull 16 = .ok (.if_icmp .lt 7, 3) := by decide +kernel
theorem dX4_isFull_19 : decode cX4_isFull 19 = .ok (.iconst 1, 1) := by decide +kernel
theorem dX4_isFull_20 : decode cX4_isFull 20 = .ok (.goto 4, 3) := by decide +kernel
theorem dX4_isFull_23 : decode cX4_isFull 23 = .ok (.iconst 0, 1) := by decide +kernel
theorem dX4_isFull_24 : decode cX4_isFull 24 = .ok (.ireturn, 1) := by decide +kernel
theorem dX4_send_0 : decode cX4_send 0 = .ok (.aload_n 0, 1) := by decide +kernel
theorem dX4_send_1 : decode cX4_send 1 = .ok (.getfield 11, 3) := by decide +kernel
theorem dX4_send_4 : decode cX4_send 4 = .ok (.iload_n 1, 1) := by decide +kernel
theorem dX4_send_5 : decode cX4_send 5 = .ok (.aload_n 0, 1) := by decide +kernel
theorem dX4_send_6 : decode cX4_send 6 = .ok (.getfield 28, 3) := by decide +kernel
theorem dX4_send_9 : decode cX4_send 9 = .ok (.iadd, 1) := by decide +kernel
theorem dX4_send_10 : decode cX4_send 10 = .ok (.bipush 61, 2) := by decide +kernel
theorem dX4_send_12 : decode cX4_send 12 = .ok (.irem, 1) := by decide +kernel
theorem dX4_send_13 : decode cX4_send 13 = .ok (.iconst 1, 1) := by decide +kernel
theorem dX4_send_14 : decode cX4_send 14 = .ok (.bastore, 1) := by decide +kernel
theorem dX4_send_15 : decode cX4_send 15 = .ok (.aload_n 0, 1) := by decide +kernel
theorem dX4_send_16 : decode cX4_send 16 = .ok (.dup, 1) := by decide +kernel
theorem dX4_send_17 : decode cX4_send 17 = .ok (.getfield 35, 3) := by decide +kernel
theorem dX4_send_20 : decode cX4_send 20 = .ok (.iconst 1, 1) := by decide +kernel
theorem dX4_send_21 : decode cX4_send 21 = .ok (.iadd, 1) := by decide +kernel
theorem dX4_send_22 : decode cX4_send 22 = .ok (.putfield 35, 3) := by decide +kernel
theorem dX4_send_25 : decode cX4_send 25 = .ok (.return_, 1) := by decide +kernel
theorem dX4_brings_0 : decode cX4_brings 0 = .ok (.iload_n 1, 1) := by decide +kernel
theorem dX4_brings_1 : decode cX4_brings 1 = .ok (.bipush 61, 2) := by decide +kernel
theorem dX4_brings_3 : decode cX4_brings 3 = .ok (.irem, 1) := by decide +kernel
theorem dX4_brings_4 : decode cX4_brings 4 = .ok (.istore_n 2, 1) := by decide +kernel
theorem dX4_brings_5 : decode cX4_brings 5 = .ok (.aload_n 0, 1) := by decide +kernel
theorem dX4_brings_6 : decode cX4_brings 6 = .ok (.getfield 11, 3) := by decide +kernel
theorem dX4_brings_9 : decode cX4_brings 9 = .ok (.iload_n 2, 1) := by decide +kernel
theorem dX4_brings_10 : decode cX4_brings 10 = .ok (.baload, 1) := by decide +kernel
theorem dX4_brings_11 : decode cX4_brings 11 = .ok (.ifCond .ne 5, 3) := by decide +kernel
theorem dX4_brings_14 : decode cX4_brings 14 = .ok (.iconst 0, 1) := by decide +kernel
theorem dX4_brings_15 : decode cX4_brings 15 = .ok (.ireturn, 1) := by decide +kernel
theorem dX4_brings_16 : decode cX4_brings 16 = .ok (.aload_n 0, 1) := by decide +kernel
theorem dX4_brings_17 : decode cX4_brings 17 = .ok (.getfield 11, 3) := by decide +kernel
theorem dX4_brings_20 : decode cX4_brings 20 = .ok (.iload_n 2, 1) := by decide +kernel
theorem dX4_brings_21 : decode cX4_brings 21 = .ok (.iconst 0, 1) := by decide +kernel
theorem dX4_brings_22 : decode cX4_brings 22 = .ok (.bastore, 1) := by decide +kernel
theorem dX4_brings_23 : decode cX4_brings 23 = .ok (.aload_n 0, 1) := by decide +kernel
theorem dX4_brings_24 : decode cX4_brings 24 = .ok (.dup, 1) := by decide +kernel
theorem dX4_brings_25 : decode cX4_brings 25 = .ok (.getfield 35, 3) := by decide +kernel
theorem dX4_brings_28 : decode cX4_brings 28 = .ok (.iconst 1, 1) := by decide +kernel
theorem dX4_brings_29 : decode cX4_brings 29 = .ok (.isub, 1) := by decide +kernel
theorem dX4_brings_30 : decode cX4_brings 30 = .ok (.putfield 35, 3) := by decide +kernel
theorem dX4_brings_33 : decode cX4_brings 33 = .ok (.iconst 1, 1) := by decide +kernel
theorem dX4_brings_34 : decode cX4_brings 34 = .ok (.ireturn, 1) := by decide +kernel
theorem dX5_init_0 : decode cX5_init 0 = .ok (.aload_n 0, 1) := by decide +kernel
theorem dX5_init_1 : decode cX5_init 1 = .ok (.invokespecial 3, 3) := by decide +kernel
theorem dX5_init_4 : decode cX5_init 4 = .ok (.aload_n 0, 1) := by decide +kernel
theorem dX5_init_5 : decode cX5_init 5 = .ok (.bipush 8, 2) := by decide +kernel
theorem dX5_init_7 : decode cX5_init 7 = .ok (.newarray .int, 2) := by decide +kernel
theorem dX5_init_9 : decode cX5_init 9 = .ok (.putfield 9, 3) := by decide +kernel
theorem dX5_init_12 : decode cX5_init 12 = .ok (.aload_n 0, 1) := by decide +kernel
theorem dX5_init_13 : decode cX5_init 13 = .ok (.iconst (-1), 1) := by decide +kernel
theorem dX5_init_14 : decode cX5_init 14 = .ok (.putfield 15, 3) := by decide +kernel
theorem dX5_init_17 : decode cX5_init 17 = .ok (.aload_n 0, 1) := by decide +kernel
theorem dX5_init_18 : decode cX5_init 18 = .ok (.iconst (-1), 1) := by decide +kernel
theorem dX5_init_19 : decode cX5_init 19 = .ok (.putfield 19, 3) := by decide +kernel
theorem dX5_init_22 : decode cX5_init 22 = .ok (.return_, 1) := by decide +kernel
theorem dX5_forget_0 : decode cX5_forget 0 = .ok (.iconst 0, 1) := by decide +kernel
theorem dX5_forget_1 : decode cX5_forget 1 = .ok (.istore_n 1, 1) := by decide +kernel
theorem dX5_forget_2 : decode cX5_forget 2 = .ok (.iload_n 1, 1) := by decide +kernel
theorem dX5_forget_3 : decode cX5_forget 3 = .ok (.bipush 8, 2) := by decide +kernel
theorem dX5_forget_5 : decode cX5_forget 5 = .ok (.if_icmp .ge 18, 3) := by decide +kernel
theorem dX5_forget_8 : decode cX5_forget 8 = .ok (.aload_n 0, 1) := by decide +kernel
theorem dX5_forget_9 : decode cX5_forget 9 = .ok (.getfield 9, 3) := by decide +kernel
theorem dX5_forget_12 : decode cX5_forget 12 = .ok (.iload_n 1, 1) := by decide +kernel
theorem dX5_forget_13 : decode cX5_forget 13 = .ok (.sipush 1000, 3) := by decide +kernel
theorem dX5_forget_16 : decode cX5_forget 16 = .ok (.iastore, 1) := by decide +kernel
theorem dX5_forget_17 : decode cX5_forget 17 = .ok (.iinc 1 1, 3) := by decide +kernel
theorem dX5_forget_20 : decode cX5_forget 20 = .ok (.goto (-18), 3) := by decide +kernel
theorem dX5_forget_23 : decode cX5_forget 23 = .ok (.return_, 1) := by decide +kernel
theorem dX5_see_0 : decode cX5_see 0 = .ok (.iconst 0, 1) := by decide +kernel
theorem dX5_see_1 : decode cX5_see 1 = .ok (.istore_n 2, 1) := by decide +kernel
theorem dX5_see_2 : decode cX5_see 2 = .ok (.iload_n 2, 1) := by decide +kernel
theorem dX5_see_3 : decode cX5_see 3 = .ok (.bipush 8, 2) := by decide +kernel
theorem dX5_see_5 : decode cX5_see 5 = .ok (.if_icmp .ge 35, 3) := by decide +kernel
theorem dX5_see_8 : decode cX5_see 8 = .ok (.aload_n 0, 1) := by decide +kernel
theorem dX5_see_9 : decode cX5_see 9 = .ok (.getfield 9, 3) := by decide +kernel
theorem dX5_see_12 : decode cX5_see 12 = .ok (.iload_n 2, 1) := by decide +kernel
theorem dX5_see_13 : decode cX5_see 13 = .ok (.iload_n 1, 1) := by decide +kernel
theorem dX5_see_14 : decode cX5_see 14 = .ok (.iload_n 2, 1) := by decide +kernel
theorem dX5_see_15 : decode cX5_see 15 = .ok (.ishr, 1) := by decide +kernel
theorem dX5_see_16 : decode cX5_see 16 = .ok (.iconst 1, 1) := by decide +kernel
theorem dX5_see_17 : decode cX5_see 17 = .ok (.iand, 1) := by decide +kernel
theorem dX5_see_18 : decode cX5_see 18 = .ok (.ifCond .eq 7, 3) := by decide +kernel
theorem dX5_see_21 : decode cX5_see 21 = .ok (.iconst 0, 1) := by decide +kernel
theorem dX5_see_22 : decode cX5_see 22 = .ok (.goto 11, 3) := by decide +kernel
theorem dX5_see_25 : decode cX5_see 25 = .ok (.aload_n 0, 1) := by decide +kernel
theorem dX5_see_26 : decode cX5_see 26 = .ok (.getfield 9, 3) := by decide +kernel
theorem dX5_see_29 : decode cX5_see 29 = .ok (.iload_n 2, 1) := by decide +kernel
theorem dX5_see_30 : decode cX5_see 30 = .ok (.iaload, 1) := by decide +kernel
theorem dX5_see_31 : decode cX5_see 31 = .ok (.iconst 1, 1) := by decide +kernel
theorem dX5_see_32 : decode cX5_see 32 = .ok (.iadd, 1) := by decide +kernel
theorem dX5_see_33 : decode cX5_see 33 = .ok (.iastore, 1) := by decide +kernel
theorem dX5_see_34 : decode cX5_see 34 = .ok (.iinc 2 1, 3) := by decide +kernel
theorem dX5_see_37 : decode cX5_see 37 = .ok (.goto (-35), 3) := by decide +kernel
theorem dX5_see_40 : decode cX5_see 40 = .ok (.return_, 1) := by decide +kernel
theorem dX5_findsClash_0 : decode cX5_findsClash 0 = .ok (.iconst 0, 1) := by decide +kernel
theorem dX5_findsClash_1 : decode cX5_findsClash 1 = .ok (.istore_n 3, 1) := by decide +kernel
theorem dX5_findsClash_2 : decode cX5_findsClash 2 = .ok (.iload_n 3, 1) := by decide +kernel
theorem dX5_findsClash_3 : decode cX5_findsClash 3 = .ok (.aload_n 1, 1) := by decide +kernel
theorem dX5_findsClash_4 : decode cX5_findsClash 4 = .ok (.getfield 22, 3) := by decide +kernel
theorem dX5_findsClash_7 : decode cX5_findsClash 7 = .ok (.if_icmp .ge 37, 3) := by decide +kernel
theorem dX5_findsClash_10 : decode cX5_findsClash 10 = .ok (.iload_n 2, 1) := by decide +kernel
theorem dX5_findsClash_11 : decode cX5_findsClash 11 = .ok (.iload_n 3, 1) := by decide +kernel
theorem dX5_findsClash_12 : decode cX5_findsClash 12 = .ok (.ishr, 1) := by decide +kernel
theorem dX5_findsClash_13 : decode cX5_findsClash 13 = .ok (.iconst 1, 1) := by decide +kernel
theorem dX5_findsClash_14 : decode cX5_findsClash 14 = .ok (.iand, 1) := by decide +kernel
theorem dX5_findsClash_15 : decode cX5_findsClash 15 = .ok (.ifCond .eq 23, 3) := by decide +kernel
theorem dX5_findsClash_18 : decode cX5_findsClash 18 = .ok (.aload_n 1, 1) := by decide +kernel
theorem dX5_findsClash_19 : decode cX5_findsClash 19 = .ok (.getfield 27, 3) := by decide +kernel
theorem dX5_findsClash_22 : decode cX5_findsClash 22 = .ok (.iload_n 3, 1) := by decide +kernel
theorem dX5_findsClash_23 : decode cX5_findsClash 23 = .ok (.iaload, 1) := by decide +kernel
theorem dX5_findsClash_24 : decode cX5_findsClash 24 = .ok (.ifCond .eq 14, 3) := by decide +kernel
theorem dX5_findsClash_27 : decode cX5_findsClash 27 = .ok (.aload_n 0, 1) := by decide +kernel
theorem dX5_findsClash_28 : decode cX5_findsClash 28 = .ok (.aload_n 1, 1) := by decide +kernel
theorem dX5_findsClash_29 : decode cX5_findsClash 29 = .ok (.iload_n 3, 1) := by decide +kernel
theorem dX5_findsClash_30 : decode cX5_findsClash 30 = .ok (.invokevirtual 30, 3) := by decide +kernel
theorem dX5_findsClash_33 : decode cX5_findsClash 33 = .ok (.ifCond .eq 5, 3) := by decide +kernel
theorem dX5_findsClash_36 : decode cX5_findsClash 36 = .ok (.iconst 1, 1) := by decide +kernel
theorem dX5_findsClash_37 : decode cX5_findsClash 37 = .ok (.ireturn, 1) := by decide +kernel
theorem dX5_findsClash_38 : decode cX5_findsClash 38 = .ok (.iinc 3 1, 3) := by decide +kernel
theorem dX5_findsClash_41 : decode cX5_findsClash 41 = .ok (.goto (-39), 3) := by decide +kernel
theorem dX5_findsClash_44 : decode cX5_findsClash 44 = .ok (.iconst 0, 1) := by decide +kernel
theorem dX5_findsClash_45 : decode cX5_findsClash 45 = .ok (.ireturn, 1) := by decide +kernel
theorem dX5_findsEarlier_0 : decode cX5_findsEarlier 0 = .ok (.iconst 0, 1) := by decide +kernel
theorem dX5_findsEarlier_1 : decode cX5_findsEarlier 1 = .ok (.istore_n 3, 1) := by decide +kernel
theorem dX5_findsEarlier_2 : decode cX5_findsEarlier 2 = .ok (.iload_n 3, 1) := by decide +kernel
theorem dX5_findsEarlier_3 : decode cX5_findsEarlier 3 = .ok (.aload_n 1, 1) := by decide +kernel
theorem dX5_findsEarlier_4 : decode cX5_findsEarlier 4 = .ok (.getfield 22, 3) := by decide +kernel
theorem dX5_findsEarlier_7 : decode cX5_findsEarlier 7 = .ok (.if_icmp .ge 54, 3) := by decide +kernel
theorem dX5_findsEarlier_10 : decode cX5_findsEarlier 10 = .ok (.aload_n 1, 1) := by decide +kernel
theorem dX5_findsEarlier_11 : decode cX5_findsEarlier 11 = .ok (.getfield 27, 3) := by decide +kernel
theorem dX5_findsEarlier_14 : decode cX5_findsEarlier 14 = .ok (.iload_n 2, 1) := by decide +kernel
theorem dX5_findsEarlier_15 : decode cX5_findsEarlier 15 = .ok (.iaload, 1) := by decide +kernel
theorem dX5_findsEarlier_16 : decode cX5_findsEarlier 16 = .ok (.iload_n 3, 1) := by decide +kernel
theorem dX5_findsEarlier_17 : decode cX5_findsEarlier 17 = .ok (.ishr, 1) := by decide +kernel
theorem dX5_findsEarlier_18 : decode cX5_findsEarlier 18 = .ok (.iconst 1, 1) := by decide +kernel
theorem dX5_findsEarlier_19 : decode cX5_findsEarlier 19 = .ok (.iand, 1) := by decide +kernel
theorem dX5_findsEarlier_20 : decode cX5_findsEarlier 20 = .ok (.ifCond .eq 35, 3) := by decide +kernel
theorem dX5_findsEarlier_23 : decode cX5_findsEarlier 23 = .ok (.aload_n 0, 1) := by decide +kernel
theorem dX5_findsEarlier_24 : decode cX5_findsEarlier 24 = .ok (.getfield 9, 3) := by decide +kernel
theorem dX5_findsEarlier_27 : decode cX5_findsEarlier 27 = .ok (.iload_n 3, 1) := by decide +kernel
theorem dX5_findsEarlier_28 : decode cX5_findsEarlier 28 = .ok (.iaload, 1) := by decide +kernel
theorem dX5_findsEarlier_29 : decode cX5_findsEarlier 29 = .ok (.aload_n 1, 1) := by decide +kernel
theorem dX5_findsEarlier_30 : decode cX5_findsEarlier 30 = .ok (.getfield 34, 3) := by decide +kernel
theorem dX5_findsEarlier_33 : decode cX5_findsEarlier 33 = .ok (.iload_n 3, 1) := by decide +kernel
theorem dX5_findsEarlier_34 : decode cX5_findsEarlier 34 = .ok (.bipush 8, 2) := by decide +kernel
theorem dX5_findsEarlier_36 : decode cX5_findsEarlier 36 = .ok (.imul, 1) := by decide +kernel
theorem dX5_findsEarlier_37 : decode cX5_findsEarlier 37 = .ok (.iload_n 2, 1) := by decide +kernel
theorem dX5_findsEarlier_38 : decode cX5_findsEarlier 38 = .ok (.iadd, 1) := by decide +kernel
theorem dX5_findsEarlier_39 : decode cX5_findsEarlier 39 = .ok (.iaload, 1) := by decide +kernel
theorem dX5_findsEarlier_40 : decode cX5_findsEarlier 40 = .ok (.if_icmp .gt 15, 3) := by decide +kernel
theorem dX5_findsEarlier_43 : decode cX5_findsEarlier 43 = .ok (.aload_n 0, 1) := by decide +kernel
theorem dX5_findsEarlier_44 : decode cX5_findsEarlier 44 = .ok (.iload_n 3, 1) := by decide +kernel
theorem dX5_findsEarlier_45 : decode cX5_findsEarlier 45 = .ok (.putfield 15, 3) := by decide +kernel
theorem dX5_findsEarlier_48 : decode cX5_findsEarlier 48 = .ok (.aload_n 0, 1) := by decide +kernel
theorem dX5_findsEarlier_49 : decode cX5_findsEarlier 49 = .ok (.iload_n 2, 1) := by decide +kernel
theorem dX5_findsEarlier_50 : decode cX5_findsEarlier 50 = .ok (.putfield 19, 3) := by decide +kernel
theorem dX5_findsEarlier_53 : decode cX5_findsEarlier 53 = .ok (.iconst 1, 1) := by decide +kernel
theorem dX5_findsEarlier_54 : decode cX5_findsEarlier 54 = .ok (.ireturn, 1) := by decide +kernel
theorem dX5_findsEarlier_55 : decode cX5_findsEarlier 55 = .ok (.iinc 3 1, 3) := by decide +kernel
theorem dX5_findsEarlier_58 : decode cX5_findsEarlier 58 = .ok (.goto (-56), 3) := by decide +kernel
theorem dX5_findsEarlier_61 : decode cX5_findsEarlier 61 = .ok (.iconst 0, 1) := by decide +kernel
theorem dX5_findsEarlier_62 : decode cX5_findsEarlier 62 = .ok (.ireturn, 1) := by decide +kernel
theorem dX5_firstClashOf_0 : decode cX5_firstClashOf 0 = .ok (.aload_n 0, 1) := by decide +kernel
theorem dX5_firstClashOf_1 : decode cX5_firstClashOf 1 = .ok (.invokevirtual 37, 3) := by decide +kernel
theorem dX5_firstClashOf_4 : decode cX5_firstClashOf 4 = .ok (.iconst 0, 1) := by decide +kernel
theorem dX5_firstClashOf_5 : decode cX5_firstClashOf 5 = .ok (.istore_n 3, 1) := by decide +kernel
theorem dX5_firstClashOf_6 : decode cX5_firstClashOf 6 = .ok (.iload_n 3, 1) := by decide +kernel
theorem dX5_firstClashOf_7 : decode cX5_firstClashOf 7 = .ok (.aload_n 2, 1) := by decide +kernel
theorem dX5_firstClashOf_8 : decode cX5_firstClashOf 8 = .ok (.getfield 40, 3) := by decide +kernel
theorem dX5_firstClashOf_11 : decode cX5_firstClashOf 11 = .ok (.if_icmp .ge 19, 3) := by decide +kernel
theorem dX5_firstClashOf_14 : decode cX5_firstClashOf 14 = .ok (.aload_n 0, 1) := by decide +kernel
theorem dX5_firstClashOf_15 : decode cX5_firstClashOf 15 = .ok (.aload_n 2, 1) := by decide +kernel
theorem dX5_firstClashOf_16 : decode cX5_firstClashOf 16 = .ok (.getfield 45, 3) := by decide +kernel
theorem dX5_firstClashOf_19 : decode cX5_firstClashOf 19 = .ok (.iload_n 3, 1) := by decide +kernel
theorem dX5_firstClashOf_20 : decode cX5_firstClashOf 20 = .ok (.iaload, 1) := by decide +kernel
theorem dX5_firstClashOf_21 : decode cX5_firstClashOf 21 = .ok (.invokevirtual 48, 3) := by decide +kernel
theorem dX5_firstClashOf_24 : decode cX5_firstClashOf 24 = .ok (.iinc 3 1, 3) := by decide +kernel
theorem dX5_firstClashOf_27 : decode cX5_firstClashOf 27 = .ok (.goto (-21), 3) := by decide +kernel
theorem dX5_firstClashOf_30 : decode cX5_firstClashOf 30 = .ok (.iconst 0, 1) := by decide +kernel
theorem dX5_firstClashOf_31 : decode cX5_firstClashOf 31 = .ok (.istore_n 3, 1) := by decide +kernel
theorem dX5_firstClashOf_32 : decode cX5_firstClashOf 32 = .ok (.iload_n 3, 1) := by decide +kernel
theorem dX5_firstClashOf_33 : decode cX5_firstClashOf 33 = .ok (.aload_n 2, 1) := by decide +kernel
theorem dX5_firstClashOf_34 : decode cX5_firstClashOf 34 = .ok (.getfield 40, 3) := by decide +kernel
theorem dX5_firstClashOf_37 : decode cX5_firstClashOf 37 = .ok (.if_icmp .ge 35, 3) := by decide +kernel
theorem dX5_firstClashOf_40 : decode cX5_firstClashOf 40 = .ok (.aload_n 0, 1) := by decide +kernel
theorem dX5_firstClashOf_41 : decode cX5_firstClashOf 41 = .ok (.aload_n 2, 1) := by decide +kernel
theorem dX5_firstClashOf_42 : decode cX5_firstClashOf 42 = .ok (.getfield 45, 3) := by decide +kernel
theorem dX5_firstClashOf_45 : decode cX5_firstClashOf 45 = .ok (.iload_n 3, 1) := by decide +kernel
theorem dX5_firstClashOf_46 : decode cX5_firstClashOf 46 = .ok (.iaload, 1) := by decide +kernel
theorem dX5_firstClashOf_47 : decode cX5_firstClashOf 47 = .ok (.invokevirtual 48, 3) := by decide +kernel
theorem dX5_firstClashOf_50 : decode cX5_firstClashOf 50 = .ok (.aload_n 0, 1) := by decide +kernel
theorem dX5_firstClashOf_51 : decode cX5_firstClashOf 51 = .ok (.aload_n 1, 1) := by decide +kernel
theorem dX5_firstClashOf_52 : decode cX5_firstClashOf 52 = .ok (.aload_n 2, 1) := by decide +kernel
theorem dX5_firstClashOf_53 : decode cX5_firstClashOf 53 = .ok (.getfield 45, 3) := by decide +kernel
theorem dX5_firstClashOf_56 : decode cX5_firstClashOf 56 = .ok (.iload_n 3, 1) := by decide +kernel
theorem dX5_firstClashOf_57 : decode cX5_firstClashOf 57 = .ok (.iaload, 1) := by decide +kernel
theorem dX5_firstClashOf_58 : decode cX5_firstClashOf 58 = .ok (.invokevirtual 52, 3) := by decide +kernel
theorem dX5_firstClashOf_61 : decode cX5_firstClashOf 61 = .ok (.ifCond .eq 5, 3) := by decide +kernel
theorem dX5_firstClashOf_64 : decode cX5_firstClashOf 64 = .ok (.iload_n 3, 1) := by decide +kernel
theorem dX5_firstClashOf_65 : decode cX5_firstClashOf 65 = .ok (.ireturn, 1) := by decide +kernel
theorem dX5_firstClashOf_66 : decode cX5_firstClashOf 66 = .ok (.iinc 3 1, 3) := by decide +kernel
theorem dX5_firstClashOf_69 : decode cX5_firstClashOf 69 = .ok (.goto (-37), 3) := by decide +kernel
theorem dX5_firstClashOf_72 : decode cX5_firstClashOf 72 = .ok (.iconst (-1), 1) := by decide +kernel
theorem dX5_firstClashOf_73 : decode cX5_firstClashOf 73 = .ok (.ireturn, 1) := by decide +kernel
theorem dX5_firstClashRead_0 : decode cX5_firstClashRead 0 = .ok (.aload_n 0, 1) := by decide +kernel
theorem dX5_firstClashRead_1 : decode cX5_firstClashRead 1 = .ok (.invokevirtual 37, 3) := by decide +kernel
theorem dX5_firstClashRead_4 : decode cX5_firstClashRead 4 = .ok (.iload_n 2, 1) := by decide +kernel
theorem dX5_firstClashRead_5 : decode cX5_firstClashRead 5 = .ok (.istore 6, 2) := by decide +kernel
theorem dX5_firstClashRead_7 : decode cX5_firstClashRead 7 = .ok (.iload 6, 2) := by decide +kernel
theorem dX5_firstClashRead_9 : decode cX5_firstClashRead 9 = .ok (.iload_n 3, 1) := by decide +kernel
theorem dX5_firstClashRead_10 : decode cX5_firstClashRead 10 = .ok (.if_icmp .ge 55, 3) := by decide +kernel
theorem dX5_firstClashRead_13 : decode cX5_firstClashRead 13 = .ok (.aload_n 1, 1) := by decide +kernel
theorem dX5_firstClashRead_14 : decode cX5_firstClashRead 14 = .ok (.getfield 55, 3) := by decide +kernel
theorem dX5_firstClashRead_17 : decode cX5_firstClashRead 17 = .ok (.iload 6, 2) := by decide +kernel
theorem dX5_firstClashRead_19 : decode cX5_firstClashRead 19 = .ok (.sipush 200, 3) := by decide +kernel
theorem dX5_firstClashRead_22 : decode cX5_firstClashRead 22 = .ok (.irem, 1) := by decide +kernel
theorem dX5_firstClashRead_23 : decode cX5_firstClashRead 23 = .ok (.iaload, 1) := by decide +kernel
theorem dX5_firstClashRead_24 : decode cX5_firstClashRead 24 = .ok (.iload 6, 2) := by decide +kernel
theorem dX5_firstClashRead_26 : decode cX5_firstClashRead 26 = .ok (.iload 4, 2) := by decide +kernel
theorem dX5_firstClashRead_28 : decode cX5_firstClashRead 28 = .ok (.if_icmp .ne 8, 3) := by decide +kernel
theorem dX5_firstClashRead_31 : decode cX5_firstClashRead 31 = .ok (.iload 5, 2) := by decide +kernel
theorem dX5_firstClashRead_33 : decode cX5_firstClashRead 33 = .ok (.goto 4, 3) := by decide +kernel
theorem dX5_firstClashRead_36 : decode cX5_firstClashRead 36 = .ok (.iconst 0, 1) := by decide +kernel
theorem dX5_firstClashRead_37 : decode cX5_firstClashRead 37 = .ok (.ixor, 1) := by decide +kernel
theorem dX5_firstClashRead_38 : decode cX5_firstClashRead 38 = .ok (.istore 7, 2) := by decide +kernel
theorem dX5_firstClashRead_40 : decode cX5_firstClashRead 40 = .ok (.aload_n 0, 1) := by decide +kernel
theorem dX5_firstClashRead_41 : decode cX5_firstClashRead 41 = .ok (.iload 7, 2) := by decide +kernel
theorem dX5_firstClashRead_43 : decode cX5_firstClashRead 43 = .ok (.invokevirtual 48, 3) := by decide +kernel
theorem dX5_firstClashRead_46 : decode cX5_firstClashRead 46 = .ok (.aload_n 0, 1) := by decide +kernel
theorem dX5_firstClashRead_47 : decode cX5_firstClashRead 47 = .ok (.aload_n 1, 1) := by decide +kernel
theorem dX5_firstClashRead_48 : decode cX5_firstClashRead 48 = .ok (.iload 7, 2) := by decide +kernel
theorem dX5_firstClashRead_50 : decode cX5_firstClashRead 50 = .ok (.invokevirtual 52, 3) := by decide +kernel
theorem dX5_firstClashRead_53 : decode cX5_firstClashRead 53 = .ok (.ifCond .eq 6, 3) := by decide +kernel
theorem dX5_firstClashRead_56 : decode cX5_firstClashRead 56 = .ok (.iload 6, 2) := by decide +kernel
theorem dX5_firstClashRead_58 : decode cX5_firstClashRead 58 = .ok (.ireturn, 1) := by decide +kernel
theorem dX5_firstClashRead_59 : decode cX5_firstClashRead 59 = .ok (.iinc 6 1, 3) := by decide +kernel
theorem dX5_firstClashRead_62 : decode cX5_firstClashRead 62 = .ok (.goto (-55), 3) := by decide +kernel
theorem dX5_firstClashRead_65 : decode cX5_firstClashRead 65 = .ok (.iconst (-1), 1) := by decide +kernel
theorem dX5_firstClashRead_66 : decode cX5_firstClashRead 66 = .ok (.ireturn, 1) := by decide +kernel
theorem dX6_init_0 : decode cX6_init 0 = .ok (.aload_n 0, 1) := by decide +kernel
theorem dX6_init_1 : decode cX6_init 1 = .ok (.invokespecial 3, 3) := by decide +kernel
theorem dX6_init_4 : decode cX6_init 4 = .ok (.aload_n 0, 1) := by decide +kernel
theorem dX6_init_5 : decode cX6_init 5 = .ok (.iconst 3, 1) := by decide +kernel
theorem dX6_init_6 : decode cX6_init 6 = .ok (.anewarray 9, 3) := by decide +kernel
theorem dX6_init_9 : decode cX6_init 9 = .ok (.putfield 11, 3) := by decide +kernel
theorem dX6_init_12 : decode cX6_init 12 = .ok (.aload_n 0, 1) := by decide +kernel
theorem dX6_init_13 : decode cX6_init 13 = .ok (.bipush 6, 2) := by decide +kernel
theorem dX6_init_15 : decode cX6_init 15 = .ok (.newarray .int, 2) := by decide +kernel
theorem dX6_init_17 : decode cX6_init 17 = .ok (.putfield 17, 3) := by decide +kernel
theorem dX6_init_20 : decode cX6_init 20 = .ok (.aload_n 0, 1) := by decide +kernel
theorem dX6_init_21 : decode cX6_init 21 = .ok (.bipush 6, 2) := by decide +kernel
theorem dX6_init_23 : decode cX6_init 23 = .ok (.newarray .int, 2) := by decide +kernel
theorem dX6_init_25 : decode cX6_init 25 = .ok (.putfield 21, 3) := by decide +kernel
theorem dX6_init_28 : decode cX6_init 28 = .ok (.aload_n 0, 1) := by decide +kernel
theorem dX6_init_29 : decode cX6_init 29 = .ok (.sipush 540, 3) := by decide +kernel
theorem dX6_init_32 : decode cX6_init 32 = .ok (.newarray .long, 2) := by decide +kernel
theorem dX6_init_34 : decode cX6_init 34 = .ok (.putfield 24, 3) := by decide +kernel
theorem dX6_init_37 : decode cX6_init 37 = .ok (.aload_n 0, 1) := by decide +kernel
theorem dX6_init_38 : decode cX6_init 38 = .ok (.sipush 540, 3) := by decide +kernel
theorem dX6_init_41 : decode cX6_init 41 = .ok (.newarray .long, 2) := by decide +kernel
theorem dX6_init_43 : decode cX6_init 43 = .ok (.putfield 28, 3) := by decide +kernel
theorem dX6_init_46 : decode cX6_init 46 = .ok (.return_, 1) := by decide +kernel
theorem dX6_add_0 : decode cX6_add 0 = .ok (.aload_n 0, 1) := by decide +kernel
theorem dX6_add_1 : decode cX6_add 1 = .ok (.getfield 11, 3) := by decide +kernel
theorem dX6_add_4 : decode cX6_add 4 = .ok (.aload_n 0, 1) := by decide +kernel
theorem dX6_add_5 : decode cX6_add 5 = .ok (.getfield 31, 3) := by decide +kernel
theorem dX6_add_8 : decode cX6_add 8 = .ok (.aload_n 1, 1) := by decide +kernel
theorem dX6_add_9 : decode cX6_add 9 = .ok (.aastore, 1) := by decide +kernel
theorem dX6_add_10 : decode cX6_add 10 = .ok (.aload_n 0, 1) := by decide +kernel
theorem dX6_add_11 : decode cX6_add 11 = .ok (.getfield 17, 3) := by decide +kernel
theorem dX6_add_14 : decode cX6_add 14 = .ok (.aload_n 0, 1) := by decide +kernel
theorem dX6_add_15 : decode cX6_add 15 = .ok (.getfield 31, 3) := by decide +kernel
theorem dX6_add_18 : decode cX6_add 18 = .ok (.iload_n 2, 1) := by decide +kernel
theorem dX6_add_19 : decode cX6_add 19 = .ok (.iastore, 1) := by decide +kernel
theorem dX6_add_20 : decode cX6_add 20 = .ok (.aload_n 0, 1) := by decide +kernel
theorem dX6_add_21 : decode cX6_add 21 = .ok (.getfield 17, 3) := by decide +kernel
theorem dX6_add_24 : decode cX6_add 24 = .ok (.iconst 3, 1) := by decide +kernel
theorem dX6_add_25 : decode cX6_add 25 = .ok (.aload_n 0, 1) := by decide +kernel
theorem dX6_add_26 : decode cX6_add 26 = .ok (.getfield 31, 3) := by decide +kernel
theorem dX6_add_29 : decode cX6_add 29 = .ok (.iadd, 1) := by decide +kernel
theorem dX6_add_30 : decode cX6_add 30 = .ok (.iload_n 3, 1) := by decide +kernel
theorem dX6_add_31 : decode cX6_add 31 = .ok (.iastore, 1) := by decide +kernel
theorem dX6_add_32 : decode cX6_add 32 = .ok (.aload_n 0, 1) := by decide +kernel
theorem dX6_add_33 : decode cX6_add 33 = .ok (.getfield 21, 3) := by decide +kernel
theorem dX6_add_36 : decode cX6_add 36 = .ok (.aload_n 0, 1) := by decide +kernel
theorem dX6_add_37 : decode cX6_add 37 = .ok (.getfield 31, 3) := by decide +kernel
theorem dX6_add_40 : decode cX6_add 40 = .ok (.iload 4, 2) := by decide +kernel
theorem dX6_add_42 : decode cX6_add 42 = .ok (.iastore, 1) := by decide +kernel
theorem dX6_add_43 : decode cX6_add 43 = .ok (.aload_n 0, 1) := by decide +kernel
theorem dX6_add_44 : decode cX6_add 44 = .ok (.getfield 21, 3) := by decide +kernel
theorem dX6_add_47 : decode cX6_add 47 = .ok (.iconst 3, 1) := by decide +kernel
theorem dX6_add_48 : decode cX6_add 48 = .ok (.aload_n 0, 1) := by decide +kernel
theorem dX6_add_49 : decode cX6_add 49 = .ok (.getfield 31, 3) := by decide +kernel
theorem dX6_add_52 : decode cX6_add 52 = .ok (.iadd, 1) := by decide +kernel
theorem dX6_add_53 : decode cX6_add 53 = .ok (.iload 5, 2) := by decide +kernel
theorem dX6_add_55 : decode cX6_add 55 = .ok (.iastore, 1) := by decide +kernel
theorem dX6_add_56 : decode cX6_add 56 = .ok (.aload_n 0, 1) := by decide +kernel
theorem dX6_add_57 : decode cX6_add 57 = .ok (.dup, 1) := by decide +kernel
theorem dX6_add_58 : decode cX6_add 58 = .ok (.getfield 31, 3) := by decide +kernel
theorem dX6_add_61 : decode cX6_add 61 = .ok (.iconst 1, 1) := by decide +kernel
theorem dX6_add_62 : decode cX6_add 62 = .ok (.iadd, 1) := by decide +kernel
theorem dX6_add_63 : decode cX6_add 63 = .ok (.putfield 31, 3) := by decide +kernel
theorem dX6_add_66 : decode cX6_add 66 = .ok (.return_, 1) := by decide +kernel
theorem dX6_passing_0 : decode cX6_passing 0 = .ok (.iconst 0, 1) := by decide +kernel
theorem dX6_passing_1 : decode cX6_passing 1 = .ok (.istore_n 2, 1) := by decide +kernel
theorem dX6_passing_2 : decode cX6_passing 2 = .ok (.iconst 0, 1) := by decide +kernel
theorem dX6_passing_3 : decode cX6_passing 3 = .ok (.istore_n 3, 1) := by decide +kernel
theorem dX6_passing_4 : decode cX6_passing 4 = .ok (.iload_n 3, 1) := by decide +kernel
theorem dX6_passing_5 : decode cX6_passing 5 = .ok (.aload_n 0, 1) := by decide +kernel
theorem dX6_passing_6 : decode cX6_passing 6 = .ok (.getfield 11, 3) := by decide +kernel
theorem dX6_passing_9 : decode cX6_passing 9 = .ok (.iconst 0, 1) := by decide +kernel
theorem dX6_passing_10 : decode cX6_passing 10 = .ok (.aaload, 1) := by decide +kernel
theorem dX6_passing_11 : decode cX6_passing 11 = .ok (.getfield 35, 3) := by decide +kernel
theorem dX6_passing_14 : decode cX6_passing 14 = .ok (.if_icmp .ge 21, 3) := by decide +kernel
theorem dX6_passing_17 : decode cX6_passing 17 = .ok (.aload_n 0, 1) := by decide +kernel
theorem dX6_passing_18 : decode cX6_passing 18 = .ok (.iload_n 1, 1) := by decide +kernel
theorem dX6_passing_19 : decode cX6_passing 19 = .ok (.iload_n 3, 1) := by decide +kernel
theorem dX6_passing_20 : decode cX6_passing 20 = .ok (.invokevirtual 38, 3) := by decide +kernel
theorem dX6_passing_23 : decode cX6_passing 23 = .ok (.ifCond .eq 6, 3) := by decide +kernel
theorem dX6_passing_26 : decode cX6_passing 26 = .ok (.iinc 2 1, 3) := by decide +kernel
theorem dX6_passing_29 : decode cX6_passing 29 = .ok (.iinc 3 1, 3) := by decide +kernel
theorem dX6_passing_32 : decode cX6_passing 32 = .ok (.goto (-28), 3) := by decide +kernel
theorem dX6_passing_35 : decode cX6_passing 35 = .ok (.iload_n 2, 1) := by decide +kernel
theorem dX6_passing_36 : decode cX6_passing 36 = .ok (.ireturn, 1) := by decide +kernel
theorem dX6_passes_0 : decode cX6_passes 0 = .ok (.iconst 0, 1) := by decide +kernel
theorem dX6_passes_1 : decode cX6_passes 1 = .ok (.istore_n 3, 1) := by decide +kernel
theorem dX6_passes_2 : decode cX6_passes 2 = .ok (.iload_n 3, 1) := by decide +kernel
theorem dX6_passes_3 : decode cX6_passes 3 = .ok (.aload_n 0, 1) := by decide +kernel
theorem dX6_passes_4 : decode cX6_passes 4 = .ok (.getfield 31, 3) := by decide +kernel
theorem dX6_passes_7 : decode cX6_passes 7 = .ok (.if_icmp .ge 46, 3) := by decide +kernel
theorem dX6_passes_10 : decode cX6_passes 10 = .ok (.iload_n 1, 1) := by decide +kernel
theorem dX6_passes_11 : decode cX6_passes 11 = .ok (.iconst 3, 1) := by decide +kernel
theorem dX6_passes_12 : decode cX6_passes 12 = .ok (.imul, 1) := by decide +kernel
theorem dX6_passes_13 : decode cX6_passes 13 = .ok (.iload_n 3, 1) := by decide +kernel
theorem dX6_passes_14 : decode cX6_passes 14 = .ok (.iadd, 1) := by decide +kernel
theorem dX6_passes_15 : decode cX6_passes 15 = .ok (.istore 4, 2) := by decide +kernel
theorem dX6_passes_17 : decode cX6_passes 17 = .ok (.aload_n 0, 1) := by decide +kernel
theorem dX6_passes_18 : decode cX6_passes 18 = .ok (.getfield 11, 3) := by decide +kernel
theorem dX6_passes_21 : decode cX6_passes 21 = .ok (.iload_n 3, 1) := by decide +kernel
theorem dX6_passes_22 : decode cX6_passes 22 = .ok (.aaload, 1) := by decide +kernel
theorem dX6_passes_23 : decode cX6_passes 23 = .ok (.aload_n 0, 1) := by decide +kernel
theorem dX6_passes_24 : decode cX6_passes 24 = .ok (.getfield 17, 3) := by decide +kernel
theorem dX6_passes_27 : decode cX6_passes 27 = .ok (.iload 4, 2) := by decide +kernel
theorem dX6_passes_29 : decode cX6_passes 29 = .ok (.iaload, 1) := by decide +kernel
theorem dX6_passes_30 : decode cX6_passes 30 = .ok (.iload_n 2, 1) := by decide +kernel
theorem dX6_passes_31 : decode cX6_passes 31 = .ok (.aload_n 0, 1) := by decide +kernel
theorem dX6_passes_32 : decode cX6_passes 32 = .ok (.getfield 21, 3) := by decide +kernel
theorem dX6_passes_35 : decode cX6_passes 35 = .ok (.iload 4, 2) := by decide +kernel
theorem dX6_passes_37 : decode cX6_passes 37 = .ok (.iaload, 1) := by decide +kernel
theorem dX6_passes_38 : decode cX6_passes 38 = .ok (.iadd, 1) := by decide +kernel
theorem dX6_passes_39 : decode cX6_passes 39 = .ok (.invokevirtual 42, 3) := by decide +kernel
theorem dX6_passes_42 : decode cX6_passes 42 = .ok (.ifCond .ne 5, 3) := by decide +kernel
theorem dX6_passes_45 : decode cX6_passes 45 = .ok (.iconst 0, 1) := by decide +kernel
theorem dX6_passes_46 : decode cX6_passes 46 = .ok (.ireturn, 1) := by decide +kernel
theorem dX6_passes_47 : decode cX6_passes 47 = .ok (.iinc 3 1, 3) := by decide +kernel
theorem dX6_passes_50 : decode cX6_passes 50 = .ok (.goto (-48), 3) := by decide +kernel
theorem dX6_passes_53 : decode cX6_passes 53 = .ok (.iconst 1, 1) := by decide +kernel
theorem dX6_passes_54 : decode cX6_passes 54 = .ok (.ireturn, 1) := by decide +kernel
theorem dX6_findBest_0 : decode cX6_findBest 0 = .ok (.aload_n 0, 1) := by decide +kernel
theorem dX6_findBest_1 : decode cX6_findBest 1 = .ok (.getfield 11, 3) := by decide +kernel
theorem dX6_findBest_4 : decode cX6_findBest 4 = .ok (.iconst 0, 1) := by decide +kernel
theorem dX6_findBest_5 : decode cX6_findBest 5 = .ok (.aaload, 1) := by decide +kernel
theorem dX6_findBest_6 : decode cX6_findBest 6 = .ok (.getfield 35, 3) := by decide +kernel
theorem dX6_findBest_9 : decode cX6_findBest 9 = .ok (.istore_n 1, 1) := by decide +kernel
theorem dX6_findBest_10 : decode cX6_findBest 10 = .ok (.aload_n 0, 1) := by decide +kernel
theorem dX6_findBest_11 : decode cX6_findBest 11 = .ok (.getfield 31, 3) := by decide +kernel
theorem dX6_findBest_14 : decode cX6_findBest 14 = .ok (.iconst 3, 1) := by decide +kernel
theorem dX6_findBest_15 : decode cX6_findBest 15 = .ok (.if_icmp .ne 7, 3) := by decide +kernel
theorem dX6_findBest_18 : decode cX6_findBest 18 = .ok (.iload_n 1, 1) := by decide +kernel
theorem dX6_findBest_19 : decode cX6_findBest 19 = .ok (.goto 4, 3) := by decide +kernel
theorem dX6_findBest_22 : decode cX6_findBest 22 = .ok (.iconst 1, 1) := by decide +kernel
theorem dX6_findBest_23 : decode cX6_findBest 23 = .ok (.istore_n 2, 1) := by decide +kernel
theorem dX6_findBest_24 : decode cX6_findBest 24 = .ok (.aload_n 0, 1) := by decide +kernel
theorem dX6_findBest_25 : decode cX6_findBest 25 = .ok (.invokevirtual 45, 3) := by decide +kernel
theorem dX6_findBest_28 : decode cX6_findBest 28 = .ok (.aload_n 0, 1) := by decide +kernel
theorem dX6_findBest_29 : decode cX6_findBest 29 = .ok (.iconst (-1), 1) := by decide +kernel
theorem dX6_findBest_30 : decode cX6_findBest 30 = .ok (.putfield 48, 3) := by decide +kernel
theorem dX6_findBest_33 : decode cX6_findBest 33 = .ok (.aload_n 0, 1) := by decide +kernel
theorem dX6_findBest_34 : decode cX6_findBest 34 = .ok (.iconst (-1), 1) := by decide +kernel
theorem dX6_findBest_35 : decode cX6_findBest 35 = .ok (.putfield 51, 3) := by decide +kernel
theorem dX6_findBest_38 : decode cX6_findBest 38 = .ok (.iconst 0, 1) := by decide +kernel
theorem dX6_findBest_39 : decode cX6_findBest 39 = .ok (.istore_n 3, 1) := by decide +kernel
theorem dX6_findBest_40 : decode cX6_findBest 40 = .ok (.iload_n 3, 1) := by decide +kernel
theorem dX6_findBest_41 : decode cX6_findBest 41 = .ok (.iload_n 1, 1) := by decide +kernel
theorem dX6_findBest_42 : decode cX6_findBest 42 = .ok (.if_icmp .ge 31, 3) := by decide +kernel
theorem dX6_findBest_45 : decode cX6_findBest 45 = .ok (.iconst 0, 1) := by decide +kernel
theorem dX6_findBest_46 : decode cX6_findBest 46 = .ok (.istore 4, 2) := by decide +kernel
theorem dX6_findBest_48 : decode cX6_findBest 48 = .ok (.iload 4, 2) := by decide +kernel
theorem dX6_findBest_50 : decode cX6_findBest 50 = .ok (.iload_n 2, 1) := by decide +kernel
theorem dX6_findBest_51 : decode cX6_findBest 51 = .ok (.if_icmp .ge 16, 3) := by decide +kernel
theorem dX6_findBest_54 : decode cX6_findBest 54 = .ok (.aload_n 0, 1) := by decide +kernel
theorem dX6_findBest_55 : decode cX6_findBest 55 = .ok (.iload_n 3, 1) := by decide +kernel
theorem dX6_findBest_56 : decode cX6_findBest 56 = .ok (.iload 4, 2) := by decide +kernel
theorem dX6_findBest_58 : decode cX6_findBest 58 = .ok (.invokevirtual 54, 3) := by decide +kernel
theorem dX6_findBest_61 : decode cX6_findBest 61 = .ok (.iinc 4 1, 3) := by decide +kernel
theorem dX6_findBest_64 : decode cX6_findBest 64 = .ok (.goto (-16), 3) := by decide +kernel
theorem dX6_findBest_67 : decode cX6_findBest 67 = .ok (.iinc 3 1, 3) := by decide +kernel
theorem dX6_findBest_70 : decode cX6_findBest 70 = .ok (.goto (-30), 3) := by decide +kernel
theorem dX6_findBest_73 : decode cX6_findBest 73 = .ok (.return_, 1) := by decide +kernel
theorem dX6_keepIfBetter_0 : decode cX6_keepIfBetter 0 = .ok (.aload_n 0, 1) := by decide +kernel
theorem dX6_keepIfBetter_1 : decode cX6_keepIfBetter 1 = .ok (.iconst 0, 1) := by decide +kernel
theorem dX6_keepIfBetter_2 : decode cX6_keepIfBetter 2 = .ok (.iload_n 1, 1) := by decide +kernel
theorem dX6_keepIfBetter_3 : decode cX6_keepIfBetter 3 = .ok (.iload_n 2, 1) := by decide +kernel
theorem dX6_keepIfBetter_4 : decode cX6_keepIfBetter 4 = .ok (.invokevirtual 58, 3) := by decide +kernel
theorem dX6_keepIfBetter_7 : decode cX6_keepIfBetter 7 = .ok (.istore_n 3, 1) := by decide +kernel
theorem dX6_keepIfBetter_8 : decode cX6_keepIfBetter 8 = .ok (.aload_n 0, 1) := by decide +kernel
theorem dX6_keepIfBetter_9 : decode cX6_keepIfBetter 9 = .ok (.iconst 1, 1) := by decide +kernel
theorem dX6_keepIfBetter_10 : decode cX6_keepIfBetter 10 = .ok (.iload_n 1, 1) := by decide +kernel
theorem dX6_keepIfBetter_11 : decode cX6_keepIfBetter 11 = .ok (.iload_n 2, 1) := by decide +kernel
theorem dX6_keepIfBetter_12 : decode cX6_keepIfBetter 12 = .ok (.invokevirtual 58, 3) := by decide +kernel
theorem dX6_keepIfBetter_15 : decode cX6_keepIfBetter 15 = .ok (.istore 4, 2) := by decide +kernel
theorem dX6_keepIfBetter_17 : decode cX6_keepIfBetter 17 = .ok (.iload_n 3, 1) := by decide +kernel
theorem dX6_keepIfBetter_18 : decode cX6_keepIfBetter 18 = .ok (.iload 4, 2) := by decide +kernel
theorem dX6_keepIfBetter_20 : decode cX6_keepIfBetter 20 = .ok (.invokestatic 62, 3) := by decide +kernel
theorem dX6_keepIfBetter_23 : decode cX6_keepIfBetter 23 = .ok (.istore 5, 2) := by decide +kernel
theorem dX6_keepIfBetter_25 : decode cX6_keepIfBetter 25 = .ok (.iload 5, 2) := by decide +kernel
theorem dX6_keepIfBetter_27 : decode cX6_keepIfBetter 27 = .ok (.aload_n 0, 1) := by decide +kernel
theorem dX6_keepIfBetter_28 : decode cX6_keepIfBetter 28 = .ok (.getfield 48, 3) := by decide +kernel
theorem dX6_keepIfBetter_31 : decode cX6_keepIfBetter 31 = .ok (.if_icmp .gt 23, 3) := by decide +kernel
theorem dX6_keepIfBetter_34 : decode cX6_keepIfBetter 34 = .ok (.iload 5, 2) := by decide +kernel
theorem dX6_keepIfBetter_36 : decode cX6_keepIfBetter 36 = .ok (.aload_n 0, 1) := by decide +kernel
theorem dX6_keepIfBetter_37 : decode cX6_keepIfBetter 37 = .ok (.getfield 48, 3) := by decide +kernel
theorem dX6_keepIfBetter_40 : decode cX6_keepIfBetter 40 = .ok (.if_icmp .ne 38, 3) := by decide +kernel
theorem dX6_keepIfBetter_43 : decode cX6_keepIfBetter 43 = .ok (.iload_n 3, 1) := by decide +kernel
theorem dX6_keepIfBetter_44 : decode cX6_keepIfBetter 44 = .ok (.iload 4, 2) := by decide +kernel
theorem dX6_keepIfBetter_46 : decode cX6_keepIfBetter 46 = .ok (.iadd, 1) := by decide +kernel
theorem dX6_keepIfBetter_47 : decode cX6_keepIfBetter 47 = .ok (.aload_n 0, 1) := by decide +kernel
theorem dX6_keepIfBetter_48 : decode cX6_keepIfBetter 48 = .ok (.getfield 51, 3) := by decide +kernel
theorem dX6_keepIfBetter_51 : decode cX6_keepIfBetter 51 = .ok (.if_icmp .le 27, 3) := by decide +kernel
theorem dX6_keepIfBetter_54 : decode cX6_keepIfBetter 54 = .ok (.aload_n 0, 1) := by decide +kernel
theorem dX6_keepIfBetter_55 : decode cX6_keepIfBetter 55 = .ok (.iload 5, 2) := by decide +kernel
theorem dX6_keepIfBetter_57 : decode cX6_keepIfBetter 57 = .ok (.putfield 48, 3) := by decide +kernel
theorem dX6_keepIfBetter_60 : decode cX6_keepIfBetter 60 = .ok (.aload_n 0, 1) := by decide +kernel
theorem dX6_keepIfBetter_61 : decode cX6_keepIfBetter 61 = .ok (.iload_n 3, 1) := by decide +kernel
theorem dX6_keepIfBetter_62 : decode cX6_keepIfBetter 62 = .ok (.iload 4, 2) := by decide +kernel
theorem dX6_keepIfBetter_64 : decode cX6_keepIfBetter 64 = .ok (.iadd, 1) := by decide +kernel
theorem dX6_keepIfBetter_65 : decode cX6_keepIfBetter 65 = .ok (.putfield 51, 3) := by decide +kernel
theorem dX6_keepIfBetter_68 : decode cX6_keepIfBetter 68 = .ok (.aload_n 0, 1) := by decide +kernel
theorem dX6_keepIfBetter_69 : decode cX6_keepIfBetter 69 = .ok (.iload_n 1, 1) := by decide +kernel
theorem dX6_keepIfBetter_70 : decode cX6_keepIfBetter 70 = .ok (.putfield 68, 3) := by decide +kernel
theorem dX6_keepIfBetter_73 : decode cX6_keepIfBetter 73 = .ok (.aload_n 0, 1) := by decide +kernel
theorem dX6_keepIfBetter_74 : decode cX6_keepIfBetter 74 = .ok (.iload_n 2, 1) := by decide +kernel
theorem dX6_keepIfBetter_75 : decode cX6_keepIfBetter 75 = .ok (.putfield 71, 3) := by decide +kernel
theorem dX6_keepIfBetter_78 : decode cX6_keepIfBetter 78 = .ok (.return_, 1) := by decide +kernel
theorem dX6_passingBy_0 : decode cX6_passingBy 0 = .ok (.iload_n 1, 1) := by decide +kernel
theorem dX6_passingBy_1 : decode cX6_passingBy 1 = .ok (.iconst 3, 1) := by decide +kernel
theorem dX6_passingBy_2 : decode cX6_passingBy 2 = .ok (.imul, 1) := by decide +kernel
theorem dX6_passingBy_3 : decode cX6_passingBy 3 = .ok (.bipush 90, 2) := by decide +kernel
theorem dX6_passingBy_5 : decode cX6_passingBy 5 = .ok (.imul, 1) := by decide +kernel
theorem dX6_passingBy_6 : decode cX6_passingBy 6 = .ok (.aload_n 0, 1) := by decide +kernel
theorem dX6_passingBy_7 : decode cX6_passingBy 7 = .ok (.getfield 11, 3) := by decide +kernel
theorem dX6_passingBy_10 : decode cX6_passingBy 10 = .ok (.iconst 0, 1) := by decide +kernel
theorem dX6_passingBy_11 : decode cX6_passingBy 11 = .ok (.aaload, 1) := by decide +kernel
theorem dX6_passingBy_12 : decode cX6_passingBy 12 = .ok (.getfield 74, 3) := by decide +kernel
theorem dX6_passingBy_15 : decode cX6_passingBy 15 = .ok (.iadd, 1) := by decide +kernel
theorem dX6_passingBy_16 : decode cX6_passingBy 16 = .ok (.istore 4, 2) := by decide +kernel
theorem dX6_passingBy_18 : decode cX6_passingBy 18 = .ok (.iload_n 1, 1) := by decide +kernel
theorem dX6_passingBy_19 : decode cX6_passingBy 19 = .ok (.iconst 3, 1) := by decide +kernel
theorem dX6_passingBy_20 : decode cX6_passingBy 20 = .ok (.imul, 1) := by decide +kernel
theorem dX6_passingBy_21 : decode cX6_passingBy 21 = .ok (.iconst 1, 1) := by decide +kernel
theorem dX6_passingBy_22 : decode cX6_passingBy 22 = .ok (.iadd, 1) := by decide +kernel
theorem dX6_passingBy_23 : decode cX6_passingBy 23 = .ok (.bipush 90, 2) := by decide +kernel
theorem dX6_passingBy_25 : decode cX6_passingBy 25 = .ok (.imul, 1) := by decide +kernel
theorem dX6_passingBy_26 : decode cX6_passingBy 26 = .ok (.iload_n 2, 1) := by decide +kernel
theorem dX6_passingBy_27 : decode cX6_passingBy 27 = .ok (.iadd, 1) := by decide +kernel
theorem dX6_passingBy_28 : decode cX6_passingBy 28 = .ok (.istore 5, 2) := by decide +kernel
theorem dX6_passingBy_30 : decode cX6_passingBy 30 = .ok (.iload_n 1, 1) := by decide +kernel
theorem dX6_passingBy_31 : decode cX6_passingBy 31 = .ok (.iconst 3, 1) := by decide +kernel
theorem dX6_passingBy_32 : decode cX6_passingBy 32 = .ok (.imul, 1) := by decide +kernel
theorem dX6_passingBy_33 : decode cX6_passingBy 33 = .ok (.iconst 2, 1) := by decide +kernel
theorem dX6_passingBy_34 : decode cX6_passingBy 34 = .ok (.iadd, 1) := by decide +kernel
theorem dX6_passingBy_35 : decode cX6_passingBy 35 = .ok (.bipush 90, 2) := by decide +kernel
theorem dX6_passingBy_37 : decode cX6_passingBy 37 = .ok (.imul, 1) := by decide +kernel
theorem dX6_passingBy_38 : decode cX6_passingBy 38 = .ok (.iload_n 3, 1) := by decide +kernel
theorem dX6_passingBy_39 : decode cX6_passingBy 39 = .ok (.iadd, 1) := by decide +kernel
theorem dX6_passingBy_40 : decode cX6_passingBy 40 = .ok (.istore 6, 2) := by decide +kernel
theorem dX6_passingBy_42 : decode cX6_passingBy 42 = .ok (.aload_n 0, 1) := by decide +kernel
theorem dX6_passingBy_43 : decode cX6_passingBy 43 = .ok (.getfield 24, 3) := by decide +kernel
theorem dX6_passingBy_46 : decode cX6_passingBy 46 = .ok (.iload 4, 2) := by decide +kernel
theorem dX6_passingBy_48 : decode cX6_passingBy 48 = .ok (.laload, 1) := by decide +kernel
theorem dX6_passingBy_49 : decode cX6_passingBy 49 = .ok (.aload_n 0, 1) := by decide +kernel
theorem dX6_passingBy_50 : decode cX6_passingBy 50 = .ok (.getfield 24, 3) := by decide +kernel
theorem dX6_passingBy_53 : decode cX6_passingBy 53 = .ok (.iload 5, 2) := by decide +kernel
theorem dX6_passingBy_55 : decode cX6_passingBy 55 = .ok (.laload, 1) := by decide +kernel
theorem dX6_passingBy_56 : decode cX6_passingBy 56 = .ok (.land, 1) := by decide +kernel
theorem dX6_passingBy_57 : decode cX6_passingBy 57 = .ok (.aload_n 0, 1) := by decide +kernel
theorem dX6_passingBy_58 : decode cX6_passingBy 58 = .ok (.getfield 24, 3) := by decide +kernel
theorem dX6_passingBy_61 : decode cX6_passingBy 61 = .ok (.iload 6, 2) := by decide +kernel
theorem dX6_passingBy_63 : decode cX6_passingBy 63 = .ok (.laload, 1) := by decide +kernel
theorem dX6_passingBy_64 : decode cX6_passingBy 64 = .ok (.land, 1) := by decide +kernel
theorem dX6_passingBy_65 : decode cX6_passingBy 65 = .ok (.invokestatic 77, 3) := by decide +kernel
theorem dX6_passingBy_68 : decode cX6_passingBy 68 = .ok (.aload_n 0, 1) := by decide +kernel
theorem dX6_passingBy_69 : decode cX6_passingBy 69 = .ok (.getfield 28, 3) := by decide +kernel
theorem dX6_passingBy_72 : decode cX6_passingBy 72 = .ok (.iload 4, 2) := by decide +kernel
theorem dX6_passingBy_74 : decode cX6_passingBy 74 = .ok (.laload, 1) := by decide +kernel
theorem dX6_passingBy_75 : decode cX6_passingBy 75 = .ok (.aload_n 0, 1) := by decide +kernel
theorem dX6_passingBy_76 : decode cX6_passingBy 76 = .ok (.getfield 28, 3) := by decide +kernel
theorem dX6_passingBy_79 : decode cX6_passingBy 79 = .ok (.iload 5, 2) := by decide +kernel
theorem dX6_passingBy_81 : decode cX6_passingBy 81 = .ok (.laload, 1) := by decide +kernel
theorem dX6_passingBy_82 : decode cX6_passingBy 82 = .ok (.land, 1) := by decide +kernel
theorem dX6_passingBy_83 : decode cX6_passingBy 83 = .ok (.aload_n 0, 1) := by decide +kernel
theorem dX6_passingBy_84 : decode cX6_passingBy 84 = .ok (.getfield 28, 3) := by decide +kernel
theorem dX6_passingBy_87 : decode cX6_passingBy 87 = .ok (.iload 6, 2) := by decide +kernel
theorem dX6_passingBy_89 : decode cX6_passingBy 89 = .ok (.laload, 1) := by decide +kernel
theorem dX6_passingBy_90 : decode cX6_passingBy 90 = .ok (.land, 1) := by decide +kernel
theorem dX6_passingBy_91 : decode cX6_passingBy 91 = .ok (.invokestatic 77, 3) := by decide +kernel
theorem dX6_passingBy_94 : decode cX6_passingBy 94 = .ok (.iadd, 1) := by decide +kernel
theorem dX6_passingBy_95 : decode cX6_passingBy 95 = .ok (.ireturn, 1) := by decide +kernel
theorem dX6_layGreens_0 : decode cX6_layGreens 0 = .ok (.iconst 0, 1) := by decide +kernel
theorem dX6_layGreens_1 : decode cX6_layGreens 1 = .ok (.istore_n 1, 1) := by decide +kernel
theorem dX6_layGreens_2 : decode cX6_layGreens 2 = .ok (.iload_n 1, 1) := by decide +kernel
theorem dX6_layGreens_3 : decode cX6_layGreens 3 = .ok (.bipush 6, 2) := by decide +kernel
theorem dX6_layGreens_5 : decode cX6_layGreens 5 = .ok (.if_icmp .ge 59, 3) := by decide +kernel
theorem dX6_layGreens_8 : decode cX6_layGreens 8 = .ok (.iload_n 1, 1) := by decide +kernel
theorem dX6_layGreens_9 : decode cX6_layGreens 9 = .ok (.iconst 3, 1) := by decide +kernel
theorem dX6_layGreens_10 : decode cX6_layGreens 10 = .ok (.irem, 1) := by decide +kernel
theorem dX6_layGreens_11 : decode cX6_layGreens 11 = .ok (.istore_n 2, 1) := by decide +kernel
theorem dX6_layGreens_12 : decode cX6_layGreens 12 = .ok (.iload_n 2, 1) := by decide +kernel
theorem dX6_layGreens_13 : decode cX6_layGreens 13 = .ok (.aload_n 0, 1) := by decide +kernel
theorem dX6_layGreens_14 : decode cX6_layGreens 14 = .ok (.getfield 31, 3) := by decide +kernel
theorem dX6_layGreens_17 : decode cX6_layGreens 17 = .ok (.if_icmp .ge 17, 3) := by decide +kernel
theorem dX6_layGreens_20 : decode cX6_layGreens 20 = .ok (.aload_n 0, 1) := by decide +kernel
theorem dX6_layGreens_21 : decode cX6_layGreens 21 = .ok (.iload_n 1, 1) := by decide +kernel
theorem dX6_layGreens_22 : decode cX6_layGreens 22 = .ok (.aload_n 0, 1) := by decide +kernel
theorem dX6_layGreens_23 : decode cX6_layGreens 23 = .ok (.getfield 11, 3) := by decide +kernel
theorem dX6_layGreens_26 : decode cX6_layGreens 26 = .ok (.iload_n 2, 1) := by decide +kernel
theorem dX6_layGreens_27 : decode cX6_layGreens 27 = .ok (.aaload, 1) := by decide +kernel
theorem dX6_layGreens_28 : decode cX6_layGreens 28 = .ok (.invokevirtual 83, 3) := by decide +kernel
theorem dX6_layGreens_31 : decode cX6_layGreens 31 = .ok (.goto 27, 3) := by decide +kernel
theorem dX6_layGreens_34 : decode cX6_layGreens 34 = .ok (.aload_n 0, 1) := by decide +kernel
theorem dX6_layGreens_35 : decode cX6_layGreens 35 = .ok (.getfield 24, 3) := by decide +kernel
theorem dX6_layGreens_38 : decode cX6_layGreens 38 = .ok (.iload_n 1, 1) := by decide +kernel
theorem dX6_layGreens_39 : decode cX6_layGreens 39 = .ok (.bipush 90, 2) := by decide +kernel
theorem dX6_layGreens_41 : decode cX6_layGreens 41 = .ok (.imul, 1) := by decide +kernel
theorem dX6_layGreens_42 : decode cX6_layGreens 42 = .ok (.ldc2_w 87, 3) := by decide +kernel
theorem dX6_layGreens_45 : decode cX6_layGreens 45 = .ok (.lastore, 1) := by decide +kernel
theorem dX6_layGreens_46 : decode cX6_layGreens 46 = .ok (.aload_n 0, 1) := by decide +kernel
theorem dX6_layGreens_47 : decode cX6_layGreens 47 = .ok (.getfield 28, 3) := by decide +kernel
theorem dX6_layGreens_50 : decode cX6_layGreens 50 = .ok (.iload_n 1, 1) := by decide +kernel
theorem dX6_layGreens_51 : decode cX6_layGreens 51 = .ok (.bipush 90, 2) := by decide +kernel
theorem dX6_layGreens_53 : decode cX6_layGreens 53 = .ok (.imul, 1) := by decide +kernel
theorem dX6_layGreens_54 : decode cX6_layGreens 54 = .ok (.ldc2_w 87, 3) := by decide +kernel
theorem dX6_layGreens_57 : decode cX6_layGreens 57 = .ok (.lastore, 1) := by decide +kernel
theorem dX6_layGreens_58 : decode cX6_layGreens 58 = .ok (.iinc 1 1, 3) := by decide +kernel
theorem dX6_layGreens_61 : decode cX6_layGreens 61 = .ok (.goto (-59), 3) := by decide +kernel
theorem dX6_layGreens_64 : decode cX6_layGreens 64 = .ok (.return_, 1) := by decide +kernel
theorem dX6_layOffsets_0 : decode cX6_layOffsets 0 = .ok (.iconst 0, 1) := by decide +kernel
theorem dX6_layOffsets_1 : decode cX6_layOffsets 1 = .ok (.istore_n 3, 1) := by decide +kernel
theorem dX6_layOffsets_2 : decode cX6_layOffsets 2 = .ok (.iload_n 3, 1) := by decide +kernel
theorem dX6_layOffsets_3 : decode cX6_layOffsets 3 = .ok (.aload_n 2, 1) := by decide +kernel
theorem dX6_layOffsets_4 : decode cX6_layOffsets 4 = .ok (.getfield 35, 3) := by decide +kernel
theorem dX6_layOffsets_7 : decode cX6_layOffsets 7 = .ok (.if_icmp .ge 151, 3) := by decide +kernel
theorem dX6_layOffsets_10 : decode cX6_layOffsets 10 = .ok (.iload_n 1, 1) := by decide +kernel
theorem dX6_layOffsets_11 : decode cX6_layOffsets 11 = .ok (.bipush 90, 2) := by decide +kernel
theorem dX6_layOffsets_13 : decode cX6_layOffsets 13 = .ok (.imul, 1) := by decide +kernel
theorem dX6_layOffsets_14 : decode cX6_layOffsets 14 = .ok (.iload_n 3, 1) := by decide +kernel
theorem dX6_layOffsets_15 : decode cX6_layOffsets 15 = .ok (.iadd, 1) := by decide +kernel
theorem dX6_layOffsets_16 : decode cX6_layOffsets 16 = .ok (.istore 4, 2) := by decide +kernel
theorem dX6_layOffsets_18 : decode cX6_layOffsets 18 = .ok (.aload_n 0, 1) := by decide +kernel
theorem dX6_layOffsets_19 : decode cX6_layOffsets 19 = .ok (.getfield 21, 3) := by decide +kernel
theorem dX6_layOffsets_22 : decode cX6_layOffsets 22 = .ok (.iload_n 1, 1) := by decide +kernel
theorem dX6_layOffsets_23 : decode cX6_layOffsets 23 = .ok (.iaload, 1) := by decide +kernel
theorem dX6_layOffsets_24 : decode cX6_layOffsets 24 = .ok (.iload_n 3, 1) := by decide +kernel
theorem dX6_layOffsets_25 : decode cX6_layOffsets 25 = .ok (.isub, 1) := by decide +kernel
theorem dX6_layOffsets_26 : decode cX6_layOffsets 26 = .ok (.aload_n 2, 1) := by decide +kernel
theorem dX6_layOffsets_27 : decode cX6_layOffsets 27 = .ok (.getfield 35, 3) := by decide +kernel
theorem dX6_layOffsets_30 : decode cX6_layOffsets 30 = .ok (.invokestatic 89, 3) := by decide +kernel
theorem dX6_layOffsets_33 : decode cX6_layOffsets 33 = .ok (.istore 5, 2) := by decide +kernel
theorem dX6_layOffsets_35 : decode cX6_layOffsets 35 = .ok (.aload_n 0, 1) := by decide +kernel
theorem dX6_layOffsets_36 : decode cX6_layOffsets 36 = .ok (.getfield 24, 3) := by decide +kernel
theorem dX6_layOffsets_39 : decode cX6_layOffsets 39 = .ok (.iload 4, 2) := by decide +kernel
theorem dX6_layOffsets_41 : decode cX6_layOffsets 41 = .ok (.lconst 0, 1) := by decide +kernel
theorem dX6_layOffsets_42 : decode cX6_layOffsets 42 = .ok (.lastore, 1) := by decide +kernel
theorem dX6_layOffsets_43 : decode cX6_layOffsets 43 = .ok (.aload_n 0, 1) := by decide +kernel
theorem dX6_layOffsets_44 : decode cX6_layOffsets 44 = .ok (.getfield 28, 3) := by decide +kernel
theorem dX6_layOffsets_47 : decode cX6_layOffsets 47 = .ok (.iload 4, 2) := by decide +kernel
theorem dX6_layOffsets_49 : decode cX6_layOffsets 49 = .ok (.lconst 0, 1) := by decide +kernel
theorem dX6_layOffsets_50 : decode cX6_layOffsets 50 = .ok (.lastore, 1) := by decide +kernel
theorem dX6_layOffsets_51 : decode cX6_layOffsets 51 = .ok (.iconst 0, 1) := by decide +kernel
theorem dX6_layOffsets_52 : decode cX6_layOffsets 52 = .ok (.istore 6, 2) := by decide +kernel
theorem dX6_layOffsets_54 : decode cX6_layOffsets 54 = .ok (.iload 6, 2) := by decide +kernel
theorem dX6_layOffsets_56 : decode cX6_layOffsets 56 = .ok (.aload_n 2, 1) := by decide +kernel
theorem dX6_layOffsets_57 : decode cX6_layOffsets 57 = .ok (.getfield 35, 3) := by decide +kernel
theorem dX6_layOffsets_60 : decode cX6_layOffsets 60 = .ok (.if_icmp .ge 92, 3) := by decide +kernel
theorem dX6_layOffsets_63 : decode cX6_layOffsets 63 = .ok (.aload_n 2, 1) := by decide +kernel
theorem dX6_layOffsets_64 : decode cX6_layOffsets 64 = .ok (.getfield 92, 3) := by decide +kernel
theorem dX6_layOffsets_67 : decode cX6_layOffsets 67 = .ok (.iload 5, 2) := by decide +kernel
theorem dX6_layOffsets_69 : decode cX6_layOffsets 69 = .ok (.iaload, 1) := by decide +kernel
theorem dX6_layOffsets_70 : decode cX6_layOffsets 70 = .ok (.aload_n 0, 1) := by decide +kernel
theorem dX6_layOffsets_71 : decode cX6_layOffsets 71 = .ok (.getfield 17, 3) := by decide +kernel
theorem dX6_layOffsets_74 : decode cX6_layOffsets 74 = .ok (.iload_n 1, 1) := by decide +kernel
theorem dX6_layOffsets_75 : decode cX6_layOffsets 75 = .ok (.iaload, 1) := by decide +kernel
theorem dX6_layOffsets_76 : decode cX6_layOffsets 76 = .ok (.ishr, 1) := by decide +kernel
theorem dX6_layOffsets_77 : decode cX6_layOffsets 77 = .ok (.iconst 1, 1) := by decide +kernel
theorem dX6_layOffsets_78 : decode cX6_layOffsets 78 = .ok (.iand, 1) := by decide +kernel
theorem dX6_layOffsets_79 : decode cX6_layOffsets 79 = .ok (.i2l, 1) := by decide +kernel
theorem dX6_layOffsets_80 : decode cX6_layOffsets 80 = .ok (.lstore 7, 2) := by decide +kernel
theorem dX6_layOffsets_82 : decode cX6_layOffsets 82 = .ok (.iload 6, 2) := by decide +kernel
theorem dX6_layOffsets_84 : decode cX6_layOffsets 84 = .ok (.bipush 45, 2) := by decide +kernel
theorem dX6_layOffsets_86 : decode cX6_layOffsets 86 = .ok (.if_icmp .ge 21, 3) := by decide +kernel
theorem dX6_layOffsets_89 : decode cX6_layOffsets 89 = .ok (.aload_n 0, 1) := by decide +kernel
theorem dX6_layOffsets_90 : decode cX6_layOffsets 90 = .ok (.getfield 24, 3) := by decide +kernel
theorem dX6_layOffsets_93 : decode cX6_layOffsets 93 = .ok (.iload 4, 2) := by decide +kernel
theorem dX6_layOffsets_95 : decode cX6_layOffsets 95 = .ok (.dup2, 1) := by decide +kernel
theorem dX6_layOffsets_96 : decode cX6_layOffsets 96 = .ok (.laload, 1) := by decide +kernel
theorem dX6_layOffsets_97 : decode cX6_layOffsets 97 = .ok (.lload 7, 2) := by decide +kernel
theorem dX6_layOffsets_99 : decode cX6_layOffsets 99 = .ok (.iload 6, 2) := by decide +kernel
theorem dX6_layOffsets_101 : decode cX6_layOffsets 101 = .ok (.lshl, 1) := by decide +kernel
theorem dX6_layOffsets_102 : decode cX6_layOffsets 102 = .ok (.lor, 1) := by decide +kernel
theorem dX6_layOffsets_103 : decode cX6_layOffsets 103 = .ok (.lastore, 1) := by decide +kernel
theorem dX6_layOffsets_104 : decode cX6_layOffsets 104 = .ok (.goto 21, 3) := by decide +kernel
theorem dX6_layOffsets_107 : decode cX6_layOffsets 107 = .ok (.aload_n 0, 1) := by decide +kernel
theorem dX6_layOffsets_108 : decode cX6_layOffsets 108 = .ok (.getfield 28, 3) := by decide +kernel
theorem dX6_layOffsets_111 : decode cX6_layOffsets 111 = .ok (.iload 4, 2) := by decide +kernel
theorem dX6_layOffsets_113 : decode cX6_layOffsets 113 = .ok (.dup2, 1) := by decide +kernel
theorem dX6_layOffsets_114 : decode cX6_layOffsets 114 = .ok (.laload, 1) := by decide +kernel
theorem dX6_layOffsets_115 : decode cX6_layOffsets 115 = .ok (.lload 7, 2) := by decide +kernel
theorem dX6_layOffsets_117 : decode cX6_layOffsets 117 = .ok (.iload 6, 2) := by decide +kernel
theorem dX6_layOffsets_119 : decode cX6_layOffsets 119 = .ok (.bipush 45, 2) := by decide +kernel
theorem dX6_layOffsets_121 : decode cX6_layOffsets 121 = .ok (.isub, 1) := by decide +kernel
theorem dX6_layOffsets_122 : decode cX6_layOffsets 122 = .ok (.lshl, 1) := by decide +kernel
theorem dX6_layOffsets_123 : decode cX6_layOffsets 123 = .ok (.lor, 1) := by decide +kernel
theorem dX6_layOffsets_124 : decode cX6_layOffsets 124 = .ok (.lastore, 1) := by decide +kernel
theorem dX6_layOffsets_125 : decode cX6_layOffsets 125 = .ok (.iload 5, 2) := by decide +kernel
theorem dX6_layOffsets_127 : decode cX6_layOffsets 127 = .ok (.iconst 1, 1) := by decide +kernel
theorem dX6_layOffsets_128 : decode cX6_layOffsets 128 = .ok (.iadd, 1) := by decide +kernel
theorem dX6_layOffsets_129 : decode cX6_layOffsets 129 = .ok (.aload_n 2, 1) := by decide +kernel
theorem dX6_layOffsets_130 : decode cX6_layOffsets 130 = .ok (.getfield 35, 3) := by decide +kernel
theorem dX6_layOffsets_133 : decode cX6_layOffsets 133 = .ok (.if_icmp .ge 10, 3) := by decide +kernel
theorem dX6_layOffsets_136 : decode cX6_layOffsets 136 = .ok (.iload 5, 2) := by decide +kernel
theorem dX6_layOffsets_138 : decode cX6_layOffsets 138 = .ok (.iconst 1, 1) := by decide +kernel
theorem dX6_layOffsets_139 : decode cX6_layOffsets 139 = .ok (.iadd, 1) := by decide +kernel
theorem dX6_layOffsets_140 : decode cX6_layOffsets 140 = .ok (.goto 4, 3) := by decide +kernel
theorem dX6_layOffsets_143 : decode cX6_layOffsets 143 = .ok (.iconst 0, 1) := by decide +kernel
theorem dX6_layOffsets_144 : decode cX6_layOffsets 144 = .ok (.istore 5, 2) := by decide +kernel
theorem dX6_layOffsets_146 : decode cX6_layOffsets 146 = .ok (.iinc 6 1, 3) := by decide +kernel
theorem dX6_layOffsets_149 : decode cX6_layOffsets 149 = .ok (.goto (-95), 3) := by decide +kernel
theorem dX6_layOffsets_152 : decode cX6_layOffsets 152 = .ok (.iinc 3 1, 3) := by decide +kernel
theorem dX6_layOffsets_155 : decode cX6_layOffsets 155 = .ok (.goto (-153), 3) := by decide +kernel
theorem dX6_layOffsets_158 : decode cX6_layOffsets 158 = .ok (.return_, 1) := by decide +kernel
theorem dX7_init_0 : decode cX7_init 0 = .ok (.aload_n 0, 1) := by decide +kernel
theorem dX7_init_1 : decode cX7_init 1 = .ok (.invokespecial 1, 3) := by decide +kernel
theorem dX7_init_4 : decode cX7_init 4 = .ok (.aload_n 0, 1) := by decide +kernel
theorem dX7_init_5 : decode cX7_init 5 = .ok (.bipush 8, 2) := by decide +kernel
theorem dX7_init_7 : decode cX7_init 7 = .ok (.anewarray 9, 3) := by decide +kernel
theorem dX7_init_10 : decode cX7_init 10 = .ok (.putfield 11, 3) := by decide +kernel
theorem dX7_init_13 : decode cX7_init 13 = .ok (.aload_n 0, 1) := by decide +kernel
theorem dX7_init_14 : decode cX7_init 14 = .ok (.new 15, 3) := by decide +kernel
theorem dX7_init_17 : decode cX7_init 17 = .ok (.dup, 1) := by decide +kernel
theorem dX7_init_18 : decode cX7_init 18 = .ok (.invokespecial 17, 3) := by decide +kernel
theorem dX7_init_21 : decode cX7_init 21 = .ok (.putfield 18, 3) := by decide +kernel
theorem dX7_init_24 : decode cX7_init 24 = .ok (.aload_n 0, 1) := by decide +kernel
theorem dX7_init_25 : decode cX7_init 25 = .ok (.new 22, 3) := by decide +kernel
theorem dX7_init_28 : decode cX7_init 28 = .ok (.dup, 1) := by decide +kernel
theorem dX7_init_29 : decode cX7_init 29 = .ok (.invokespecial 24, 3) := by decide +kernel
theorem dX7_init_32 : decode cX7_init 32 = .ok (.putfield 25, 3) := by decide +kernel
theorem dX7_init_35 : decode cX7_init 35 = .ok (.aload_n 0, 1) := by decide +kernel
theorem dX7_init_36 : decode cX7_init 36 = .ok (.new 29, 3) := by decide +kernel
theorem dX7_init_39 : decode cX7_init 39 = .ok (.dup, 1) := by decide +kernel
theorem dX7_init_40 : decode cX7_init 40 = .ok (.invokespecial 31, 3) := by decide +kernel
theorem dX7_init_43 : decode cX7_init 43 = .ok (.putfield 32, 3) := by decide +kernel
theorem dX7_init_46 : decode cX7_init 46 = .ok (.aload_n 0, 1) := by decide +kernel
theorem dX7_init_47 : decode cX7_init 47 = .ok (.iconst (-1), 1) := by decide +kernel
theorem dX7_init_48 : decode cX7_init 48 = .ok (.putfield 36, 3) := by decide +kernel
theorem dX7_init_51 : decode cX7_init 51 = .ok (.aload_n 0, 1) := by decide +kernel
theorem dX7_init_52 : decode cX7_init 52 = .ok (.iconst (-1), 1) := by decide +kernel
theorem dX7_init_53 : decode cX7_init 53 = .ok (.putfield 40, 3) := by decide +kernel
theorem dX7_init_56 : decode cX7_init 56 = .ok (.aload_n 0, 1) := by decide +kernel
theorem dX7_init_57 : decode cX7_init 57 = .ok (.iconst (-1), 1) := by decide +kernel
theorem dX7_init_58 : decode cX7_init 58 = .ok (.putfield 43, 3) := by decide +kernel
theorem dX7_init_61 : decode cX7_init 61 = .ok (.return_, 1) := by decide +kernel
theorem dX7_junction_0 : decode cX7_junction 0 = .ok (.aload_n 0, 1) := by decide +kernel
theorem dX7_junction_1 : decode cX7_junction 1 = .ok (.getfield 46, 3) := by decide +kernel
theorem dX7_junction_4 : decode cX7_junction 4 = .ok (.bipush 8, 2) := by decide +kernel
theorem dX7_junction_6 : decode cX7_junction 6 = .ok (.if_icmp .ge 10, 3) := by decide +kernel
theorem dX7_junction_9 : decode cX7_junction 9 = .ok (.aload_n 0, 1) := by decide +kernel
theorem dX7_junction_10 : decode cX7_junction 10 = .ok (.getfield 49, 3) := by decide +kernel
theorem dX7_junction_13 : decode cX7_junction 13 = .ok (.ifCond .eq 5, 3) := by decide +kernel
theorem dX7_junction_16 : decode cX7_junction 16 = .ok (.iconst (-1), 1) := by decide +kernel
theorem dX7_junction_17 : decode cX7_junction 17 = .ok (.ireturn, 1) := by decide +kernel
theorem dX7_junction_18 : decode cX7_junction 18 = .ok (.aload_n 0, 1) := by decide +kernel
theorem dX7_junction_19 : decode cX7_junction 19 = .ok (.getfield 11, 3) := by decide +kernel
theorem dX7_junction_22 : decode cX7_junction 22 = .ok (.aload_n 0, 1) := by decide +kernel
theorem dX7_junction_23 : decode cX7_junction 23 = .ok (.getfield 46, 3) := by decide +kernel
theorem dX7_junction_26 : decode cX7_junction 26 = .ok (.new 9, 3) := by decide +kernel
theorem dX7_junction_29 : decode cX7_junction 29 = .ok (.dup, 1) := by decide +kernel
theorem dX7_junction_30 : decode cX7_junction 30 = .ok (.invokespecial 52, 3) := by decide +kernel
theorem dX7_junction_33 : decode cX7_junction 33 = .ok (.aastore, 1) := by decide +kernel
theorem dX7_junction_34 : decode cX7_junction 34 = .ok (.aload_n 0, 1) := by decide +kernel
theorem dX7_junction_35 : decode cX7_junction 35 = .ok (.dup, 1) := by decide +kernel
theorem dX7_junction_36 : decode cX7_junction 36 = .ok (.getfield 46, 3) := by decide +kernel
theorem dX7_junction_39 : decode cX7_junction 39 = .ok (.iconst 1, 1) := by decide +kernel
theorem dX7_junction_40 : decode cX7_junction 40 = .ok (.iadd, 1) := by decide +kernel
theorem dX7_junction_41 : decode cX7_junction 41 = .ok (.putfield 46, 3) := by decide +kernel
theorem dX7_junction_44 : decode cX7_junction 44 = .ok (.aload_n 0, 1) := by decide +kernel
theorem dX7_junction_45 : decode cX7_junction 45 = .ok (.getfield 46, 3) := by decide +kernel
theorem dX7_junction_48 : decode cX7_junction 48 = .ok (.iconst 1, 1) := by decide +kernel
theorem dX7_junction_49 : decode cX7_junction 49 = .ok (.isub, 1) := by decide +kernel
theorem dX7_junction_50 : decode cX7_junction 50 = .ok (.ireturn, 1) := by decide +kernel
theorem dX7_stream_0 : decode cX7_stream 0 = .ok (.aload_n 0, 1) := by decide +kernel
theorem dX7_stream_1 : decode cX7_stream 1 = .ok (.iload_n 1, 1) := by decide +kernel
theorem dX7_stream_2 : decode cX7_stream 2 = .ok (.invokevirtual 53, 3) := by decide +kernel
theorem dX7_stream_5 : decode cX7_stream 5 = .ok (.astore 6, 2) := by decide +kernel
theorem dX7_stream_7 : decode cX7_stream 7 = .ok (.aload 6, 2) := by decide +kernel
theorem dX7_stream_9 : decode cX7_stream 9 = .ok (.ifnull 28, 3) := by decide +kernel
theorem dX7_stream_12 : decode cX7_stream 12 = .ok (.aload_n 0, 1) := by decide +kernel
theorem dX7_stream_13 : decode cX7_stream 13 = .ok (.getfield 49, 3) := by decide +kernel
theorem dX7_stream_16 : decode cX7_stream 16 = .ok (.ifCond .ne 21, 3) := by decide +kernel
theorem dX7_stream_19 : decode cX7_stream 19 = .ok (.aload 6, 2) := by decide +kernel
theorem dX7_stream_21 : decode cX7_stream 21 = .ok (.getfield 57, 3) := by decide +kernel
theorem dX7_stream_24 : decode cX7_stream 24 = .ok (.bipush 8, 2) := by decide +kernel
theorem dX7_stream_26 : decode cX7_stream 26 = .ok (.if_icmp .ge 11, 3) := by decide +kernel
theorem dX7_stream_29 : decode cX7_stream 29 = .ok (.aload 6, 2) := by decide +kernel
theorem dX7_stream_31 : decode cX7_stream 31 = .ok (.invokevirtual 60, 3) := by decide +kernel
theorem dX7_stream_34 : decode cX7_stream 34 = .ok (.ifCond .eq 5, 3) := by decide +kernel
theorem dX7_stream_37 : decode cX7_stream 37 = .ok (.iconst (-1), 1) := by decide +kernel
theorem dX7_stream_38 : decode cX7_stream 38 = .ok (.ireturn, 1) := by decide +kernel
theorem dX7_stream_39 : decode cX7_stream 39 = .ok (.iload_n 2, 1) := by decide +kernel
theorem dX7_stream_40 : decode cX7_stream 40 = .ok (.iconst 2, 1) := by decide +kernel
theorem dX7_stream_41 : decode cX7_stream 41 = .ok (.if_icmp .eq 12, 3) := by decide +kernel
theorem dX7_stream_44 : decode cX7_stream 44 = .ok (.iload_n 2, 1) := by decide +kernel
theorem dX7_stream_45 : decode cX7_stream 45 = .ok (.iconst 3, 1) := by decide +kernel
theorem dX7_stream_46 : decode cX7_stream 46 = .ok (.if_icmp .eq 7, 3) := by decide +kernel
theorem dX7_stream_49 : decode cX7_stream 49 = .ok (.iconst 1, 1) := by decide +kernel
theorem dX7_stream_50 : decode cX7_stream 50 = .ok (.goto 4, 3) := by decide +kernel
theorem dX7_stream_53 : decode cX7_stream 53 = .ok (.iconst 0, 1) := by decide +kernel
theorem dX7_stream_54 : decode cX7_stream 54 = .ok (.istore 7, 2) := by decide +kernel
theorem dX7_stream_56 : decode cX7_stream 56 = .ok (.iload_n 2, 1) := by decide +kernel
theorem dX7_stream_57 : decode cX7_stream 57 = .ok (.iconst 0, 1) := by decide +kernel
theorem dX7_stream_58 : decode cX7_stream 58 = .ok (.iconst 3, 1) := by decide +kernel
theorem dX7_stream_59 : decode cX7_stream 59 = .ok (.invokestatic 64, 3) := by decide +kernel
theorem dX7_stream_62 : decode cX7_stream 62 = .ok (.ifCond .ne 44, 3) := by decide +kernel
theorem dX7_stream_65 : decode cX7_stream 65 = .ok (.iload_n 3, 1) := by decide +kernel
theorem dX7_stream_66 : decode cX7_stream 66 = .ok (.iconst 0, 1) := by decide +kernel
theorem dX7_stream_67 : decode cX7_stream 67 = .ok (.sipush 3600, 3) := by decide +kernel
theorem dX7_stream_70 : decode cX7_stream 70 = .ok (.invokestatic 64, 3) := by decide +kernel
theorem dX7_stream_73 : decode cX7_stream 73 = .ok (.ifCond .ne 33, 3) := by decide +kernel
theorem dX7_stream_76 : decode cX7_stream 76 = .ok (.iload 5, 2) := by decide +kernel
theorem dX7_stream_78 : decode cX7_stream 78 = .ok (.iconst 4, 1) := by decide +kernel
theorem dX7_stream_79 : decode cX7_stream 79 = .ok (.bipush 30, 2) := by decide +kernel
theorem dX7_stream_81 : decode cX7_stream 81 = .ok (.invokestatic 64, 3) := by decide +kernel
theorem dX7_stream_84 : decode cX7_stream 84 = .ok (.ifCond .ne 22, 3) := by decide +kernel
theorem dX7_stream_87 : decode cX7_stream 87 = .ok (.iload 7, 2) := by decide +kernel
theorem dX7_stream_89 : decode cX7_stream 89 = .ok (.ifCond .eq 19, 3) := by decide +kernel
theorem dX7_stream_92 : decode cX7_stream 92 = .ok (.iload 4, 2) := by decide +kernel
theorem dX7_stream_94 : decode cX7_stream 94 = .ok (.sipush 600, 3) := by decide +kernel
theorem dX7_stream_97 : decode cX7_stream 97 = .ok (.sipush 3600, 3) := by decide +kernel
theorem dX7_stream_100 : decode cX7_stream 100 = .ok (.invokestatic 64, 3) := by decide +kernel
theorem dX7_stream_103 : decode cX7_stream 103 = .ok (.ifCond .eq 5, 3) := by decide +kernel
theorem dX7_stream_106 : decode cX7_stream 106 = .ok (.iconst (-1), 1) := by decide +kernel
theorem dX7_stream_107 : decode cX7_stream 107 = .ok (.ireturn, 1) := by decide +kernel
theorem dX7_stream_108 : decode cX7_stream 108 = .ok (.aload 6, 2) := by decide +kernel
theorem dX7_stream_110 : decode cX7_stream 110 = .ok (.new 68, 3) := by decide +kernel
theorem dX7_stream_113 : decode cX7_stream 113 = .ok (.dup, 1) := by decide +kernel
theorem dX7_stream_114 : decode cX7_stream 114 = .ok (.iload_n 2, 1) := by decide +kernel
theorem dX7_stream_115 : decode cX7_stream 115 = .ok (.iload_n 3, 1) := by decide +kernel
theorem dX7_stream_116 : decode cX7_stream 116 = .ok (.iload 4, 2) := by decide +kernel
theorem dX7_stream_118 : decode cX7_stream 118 = .ok (.iload 5, 2) := by decide +kernel
theorem dX7_stream_120 : decode cX7_stream 120 = .ok (.invokespecial 70, 3) := by decide +kernel
theorem dX7_stream_123 : decode cX7_stream 123 = .ok (.invokevirtual 73, 3) := by decide +kernel
theorem dX7_stream_126 : decode cX7_stream 126 = .ok (.ireturn, 1) := by decide +kernel
theorem dX7_against_0 : decode cX7_against 0 = .ok (.aload_n 0, 1) := by decide +kernel
theorem dX7_against_1 : decode cX7_against 1 = .ok (.iload_n 1, 1) := by decide +kernel
theorem dX7_against_2 : decode cX7_against 2 = .ok (.invokevirtual 53, 3) := by decide +kernel
theorem dX7_against_5 : decode cX7_against 5 = .ok (.astore 6, 2) := by decide +kernel
theorem dX7_against_7 : decode cX7_against 7 = .ok (.aload 6, 2) := by decide +kernel
theorem dX7_against_9 : decode cX7_against 9 = .ok (.ifnull 56, 3) := by decide +kernel
theorem dX7_against_12 : decode cX7_against 12 = .ok (.aload 6, 2) := by decide +kernel
theorem dX7_against_14 : decode cX7_against 14 = .ok (.invokevirtual 60, 3) := by decide +kernel
theorem dX7_against_17 : decode cX7_against 17 = .ok (.ifCond .ne 48, 3) := by decide +kernel
theorem dX7_against_20 : decode cX7_against 20 = .ok (.aload 6, 2) := by decide +kernel
theorem dX7_against_22 : decode cX7_against 22 = .ok (.iload_n 2, 1) := by decide +kernel
theorem dX7_against_23 : decode cX7_against 23 = .ok (.invokevirtual 77, 3) := by decide +kernel
theorem dX7_against_26 : decode cX7_against 26 = .ok (.ifnull 39, 3) := by decide +kernel
theorem dX7_against_29 : decode cX7_against 29 = .ok (.aload 6, 2) := by decide +kernel
theorem dX7_against_31 : decode cX7_against 31 = .ok (.iload_n 3, 1) := by decide +kernel
theorem dX7_against_32 : decode cX7_against 32 = .ok (.invokevirtual 77, 3) := by decide +kernel
theorem dX7_against_35 : decode cX7_against 35 = .ok (.ifnull 30, 3) := by decide +kernel
theorem dX7_against_38 : decode cX7_against 38 = .ok (.iload_n 2, 1) := by decide +kernel
theorem dX7_against_39 : decode cX7_against 39 = .ok (.iload_n 3, 1) := by decide +kernel
theorem dX7_against_40 : decode cX7_against 40 = .ok (.if_icmp .eq 25, 3) := by decide +kernel
theorem dX7_against_43 : decode cX7_against 43 = .ok (.iload 4, 2) := by decide +kernel
theorem dX7_against_45 : decode cX7_against 45 = .ok (.iconst 1, 1) := by decide +kernel
theorem dX7_against_46 : decode cX7_against 46 = .ok (.bipush 20, 2) := by decide +kernel
theorem dX7_against_48 : decode cX7_against 48 = .ok (.invokestatic 64, 3) := by decide +kernel
theorem dX7_against_51 : decode cX7_against 51 = .ok (.ifCond .ne 14, 3) := by decide +kernel
theorem dX7_against_54 : decode cX7_against 54 = .ok (.iload 5, 2) := by decide +kernel
theorem dX7_against_56 : decode cX7_against 56 = .ok (.iconst 1, 1) := by decide +kernel
theorem dX7_against_57 : decode cX7_against 57 = .ok (.bipush 20, 2) := by decide +kernel
theorem dX7_against_59 : decode cX7_against 59 = .ok (.invokestatic 64, 3) := by decide +kernel
theorem dX7_against_62 : decode cX7_against 62 = .ok (.ifCond .eq 5, 3) := by decide +kernel
theorem dX7_against_65 : decode cX7_against 65 = .ok (.iconst 0, 1) := by decide +kernel
theorem dX7_against_66 : decode cX7_against 66 = .ok (.ireturn, 1) := by decide +kernel
theorem dX7_against_67 : decode cX7_against 67 = .ok (.aload 6, 2) := by decide +kernel
theorem dX7_against_69 : decode cX7_against 69 = .ok (.iload_n 2, 1) := by decide +kernel
theorem dX7_against_70 : decode cX7_against 70 = .ok (.iload_n 3, 1) := by decide +kernel
theorem dX7_against_71 : decode cX7_against 71 = .ok (.iload 4, 2) := by decide +kernel
theorem dX7_against_73 : decode cX7_against 73 = .ok (.iload 5, 2) := by decide +kernel
theorem dX7_against_75 : decode cX7_against 75 = .ok (.invokevirtual 81, 3) := by decide +kernel
theorem dX7_against_78 : decode cX7_against 78 = .ok (.iconst 1, 1) := by decide +kernel
theorem dX7_against_79 : decode cX7_against 79 = .ok (.ireturn, 1) := by decide +kernel
theorem dX7_yields_0 : decode cX7_yields 0 = .ok (.aload_n 0, 1) := by decide +kernel
theorem dX7_yields_1 : decode cX7_yields 1 = .ok (.iload_n 1, 1) := by decide +kernel
theorem dX7_yields_2 : decode cX7_yields 2 = .ok (.invokevirtual 53, 3) := by decide +kernel
theorem dX7_yields_5 : decode cX7_yields 5 = .ok (.astore 4, 2) := by decide +kernel
theorem dX7_yields_7 : decode cX7_yields 7 = .ok (.aload 4, 2) := by decide +kernel
theorem dX7_yields_9 : decode cX7_yields 9 = .ok (.ifnull 21, 3) := by decide +kernel
theorem dX7_yields_12 : decode cX7_yields 12 = .ok (.aload 4, 2) := by decide +kernel
theorem dX7_yields_14 : decode cX7_yields 14 = .ok (.invokevirtual 60, 3) := by decide +kernel
theorem dX7_yields_17 : decode cX7_yields 17 = .ok (.ifCond .ne 13, 3) := by decide +kernel
theorem dX7_yields_20 : decode cX7_yields 20 = .ok (.aload 4, 2) := by decide +kernel
theorem dX7_yields_22 : decode cX7_yields 22 = .ok (.iload_n 2, 1) := by decide +kernel
theorem dX7_yields_23 : decode cX7_yields 23 = .ok (.iload_n 3, 1) := by decide +kernel
theorem dX7_yields_24 : decode cX7_yields 24 = .ok (.invokevirtual 84, 3) := by decide +kernel
theorem dX7_yields_27 : decode cX7_yields 27 = .ok (.ifCond .ne 5, 3) := by decide +kernel
theorem dX7_yields_30 : decode cX7_yields 30 = .ok (.iconst 0, 1) := by decide +kernel
theorem dX7_yields_31 : decode cX7_yields 31 = .ok (.ireturn, 1) := by decide +kernel
theorem dX7_yields_32 : decode cX7_yields 32 = .ok (.aload 4, 2) := by decide +kernel
theorem dX7_yields_34 : decode cX7_yields 34 = .ok (.iload_n 2, 1) := by decide +kernel
theorem dX7_yields_35 : decode cX7_yields 35 = .ok (.iload_n 3, 1) := by decide +kernel
theorem dX7_yields_36 : decode cX7_yields 36 = .ok (.invokevirtual 88, 3) := by decide +kernel
theorem dX7_yields_39 : decode cX7_yields 39 = .ok (.iconst 1, 1) := by decide +kernel
theorem dX7_yields_40 : decode cX7_yields 40 = .ok (.ireturn, 1) := by decide +kernel
theorem dX7_street_0 : decode cX7_street 0 = .ok (.aload_n 0, 1) := by decide +kernel
theorem dX7_street_1 : decode cX7_street 1 = .ok (.iload_n 1, 1) := by decide +kernel
theorem dX7_street_2 : decode cX7_street 2 = .ok (.iload_n 2, 1) := by decide +kernel
theorem dX7_street_3 : decode cX7_street 3 = .ok (.invokevirtual 92, 3) := by decide +kernel
theorem dX7_street_6 : decode cX7_street 6 = .ok (.astore 7, 2) := by decide +kernel
theorem dX7_street_8 : decode cX7_street 8 = .ok (.aload_n 0, 1) := by decide +kernel
theorem dX7_street_9 : decode cX7_street 9 = .ok (.iload_n 3, 1) := by decide +kernel
theorem dX7_street_10 : decode cX7_street 10 = .ok (.iload 4, 2) := by decide +kernel
theorem dX7_street_12 : decode cX7_street 12 = .ok (.invokevirtual 92, 3) := by decide +kernel
theorem dX7_street_15 : decode cX7_street 15 = .ok (.astore 8, 2) := by decide +kernel
theorem dX7_street_17 : decode cX7_street 17 = .ok (.aload 7, 2) := by decide +kernel
theorem dX7_street_19 : decode cX7_street 19 = .ok (.ifnull 50, 3) := by decide +kernel
theorem dX7_street_22 : decode cX7_street 22 = .ok (.aload 8, 2) := by decide +kernel
theorem dX7_street_24 : decode cX7_street 24 = .ok (.ifnull 45, 3) := by decide +kernel
theorem dX7_street_27 : decode cX7_street 27 = .ok (.iload_n 1, 1) := by decide +kernel
theorem dX7_street_28 : decode cX7_street 28 = .ok (.iload_n 3, 1) := by decide +kernel
theorem dX7_street_29 : decode cX7_street 29 = .ok (.if_icmp .eq 40, 3) := by decide +kernel
theorem dX7_street_32 : decode cX7_street 32 = .ok (.aload 7, 2) := by decide +kernel
theorem dX7_street_34 : decode cX7_street 34 = .ok (.getfield 96, 3) := by decide +kernel
theorem dX7_street_37 : decode cX7_street 37 = .ok (.ifnonnull 32, 3) := by decide +kernel
theorem dX7_street_40 : decode cX7_street 40 = .ok (.aload_n 0, 1) := by decide +kernel
theorem dX7_street_41 : decode cX7_street 41 = .ok (.getfield 49, 3) := by decide +kernel
theorem dX7_street_44 : decode cX7_street 44 = .ok (.ifCond .ne 25, 3) := by decide +kernel
theorem dX7_street_47 : decode cX7_street 47 = .ok (.iload 5, 2) := by decide +kernel
theorem dX7_street_49 : decode cX7_street 49 = .ok (.iconst 1, 1) := by decide +kernel
theorem dX7_street_50 : decode cX7_street 50 = .ok (.bipush 60, 2) := by decide +kernel
theorem dX7_street_52 : decode cX7_street 52 = .ok (.invokestatic 64, 3) := by decide +kernel
theorem dX7_street_55 : decode cX7_street 55 = .ok (.ifCond .ne 14, 3) := by decide +kernel
theorem dX7_street_58 : decode cX7_street 58 = .ok (.iload 6, 2) := by decide +kernel
theorem dX7_street_60 : decode cX7_street 60 = .ok (.iconst 1, 1) := by decide +kernel
theorem dX7_street_61 : decode cX7_street 61 = .ok (.bipush 60, 2) := by decide +kernel
theorem dX7_street_63 : decode cX7_street 63 = .ok (.invokestatic 64, 3) := by decide +kernel
theorem dX7_street_66 : decode cX7_street 66 = .ok (.ifCond .eq 5, 3) := by decide +kernel
theorem dX7_street_69 : decode cX7_street 69 = .ok (.iconst 0, 1) := by decide +kernel
theorem dX7_street_70 : decode cX7_street 70 = .ok (.ireturn, 1) := by decide +kernel
theorem dX7_street_71 : decode cX7_street 71 = .ok (.aload 7, 2) := by decide +kernel
theorem dX7_street_73 : decode cX7_street 73 = .ok (.new 100, 3) := by decide +kernel
theorem dX7_street_76 : decode cX7_street 76 = .ok (.dup, 1) := by decide +kernel
theorem dX7_street_77 : decode cX7_street 77 = .ok (.aload 8, 2) := by decide +kernel
theorem dX7_street_79 : decode cX7_street 79 = .ok (.iload 5, 2) := by decide +kernel
theorem dX7_street_81 : decode cX7_street 81 = .ok (.iload 6, 2) := by decide +kernel
theorem dX7_street_83 : decode cX7_street 83 = .ok (.invokespecial 102, 3) := by decide +kernel
theorem dX7_street_86 : decode cX7_street 86 = .ok (.putfield 96, 3) := by decide +kernel
theorem dX7_street_89 : decode cX7_street 89 = .ok (.aload 8, 2) := by decide +kernel
theorem dX7_street_91 : decode cX7_street 91 = .ok (.aload 7, 2) := by decide +kernel
theorem dX7_street_93 : decode cX7_street 93 = .ok (.getfield 96, 3) := by decide +kernel
theorem dX7_street_96 : decode cX7_street 96 = .ok (.putfield 105, 3) := by decide +kernel
theorem dX7_street_99 : decode cX7_street 99 = .ok (.iconst 1, 1) := by decide +kernel
theorem dX7_street_100 : decode cX7_street 100 = .ok (.ireturn, 1) := by decide +kernel
theorem dX7_sets_0 : decode cX7_sets 0 = .ok (.aload_n 0, 1) := by decide +kernel
theorem dX7_sets_1 : decode cX7_sets 1 = .ok (.iload_n 1, 1) := by decide +kernel
theorem dX7_sets_2 : decode cX7_sets 2 = .ok (.invokevirtual 53, 3) := by decide +kernel
theorem dX7_sets_5 : decode cX7_sets 5 = .ok (.astore_n 2, 1) := by decide +kernel
theorem dX7_sets_6 : decode cX7_sets 6 = .ok (.aload_n 2, 1) := by decide +kernel
theorem dX7_sets_7 : decode cX7_sets 7 = .ok (.ifnonnull 7, 3) := by decide +kernel
theorem dX7_sets_10 : decode cX7_sets 10 = .ok (.iconst (-1), 1) := by decide +kernel
theorem dX7_sets_11 : decode cX7_sets 11 = .ok (.goto 7, 3) := by decide +kernel
theorem dX7_sets_14 : decode cX7_sets 14 = .ok (.aload_n 2, 1) := by decide +kernel
theorem dX7_sets_15 : decode cX7_sets 15 = .ok (.invokevirtual 108, 3) := by decide +kernel
theorem dX7_sets_18 : decode cX7_sets 18 = .ok (.ireturn, 1) := by decide +kernel
theorem dX7_set_0 : decode cX7_set 0 = .ok (.aload_n 0, 1) := by decide +kernel
theorem dX7_set_1 : decode cX7_set 1 = .ok (.iload_n 1, 1) := by decide +kernel
theorem dX7_set_2 : decode cX7_set 2 = .ok (.invokevirtual 53, 3) := by decide +kernel
theorem dX7_set_5 : decode cX7_set 5 = .ok (.astore_n 3, 1) := by decide +kernel
theorem dX7_set_6 : decode cX7_set 6 = .ok (.aload_n 3, 1) := by decide +kernel
theorem dX7_set_7 : decode cX7_set 7 = .ok (.ifnonnull 7, 3) := by decide +kernel
theorem dX7_set_10 : decode cX7_set 10 = .ok (.iconst (-1), 1) := by decide +kernel
theorem dX7_set_11 : decode cX7_set 11 = .ok (.goto 8, 3) := by decide +kernel
theorem dX7_set_14 : decode cX7_set 14 = .ok (.aload_n 3, 1) := by decide +kernel
theorem dX7_set_15 : decode cX7_set 15 = .ok (.iload_n 2, 1) := by decide +kernel
theorem dX7_set_16 : decode cX7_set 16 = .ok (.invokevirtual 112, 3) := by decide +kernel
theorem dX7_set_19 : decode cX7_set 19 = .ok (.ireturn, 1) := by decide +kernel
theorem dX7_goes_0 : decode cX7_goes 0 = .ok (.aload_n 0, 1) := by decide +kernel
theorem dX7_goes_1 : decode cX7_goes 1 = .ok (.iload_n 1, 1) := by decide +kernel
theorem dX7_goes_2 : decode cX7_goes 2 = .ok (.invokevirtual 53, 3) := by decide +kernel
theorem dX7_goes_5 : decode cX7_goes 5 = .ok (.astore_n 3, 1) := by decide +kernel
theorem dX7_goes_6 : decode cX7_goes 6 = .ok (.aload_n 3, 1) := by decide +kernel
theorem dX7_goes_7 : decode cX7_goes 7 = .ok (.ifnull 15, 3) := by decide +kernel
theorem dX7_goes_10 : decode cX7_goes 10 = .ok (.aload_n 3, 1) := by decide +kernel
theorem dX7_goes_11 : decode cX7_goes 11 = .ok (.iload_n 2, 1) := by decide +kernel
theorem dX7_goes_12 : decode cX7_goes 12 = .ok (.invokevirtual 116, 3) := by decide +kernel
theorem dX7_goes_15 : decode cX7_goes 15 = .ok (.ifCond .eq 7, 3) := by decide +kernel
theorem dX7_goes_18 : decode cX7_goes 18 = .ok (.iconst 1, 1) := by decide +kernel
theorem dX7_goes_19 : decode cX7_goes 19 = .ok (.goto 4, 3) := by decide +kernel
theorem dX7_goes_22 : decode cX7_goes 22 = .ok (.iconst 0, 1) := by decide +kernel
theorem dX7_goes_23 : decode cX7_goes 23 = .ok (.ireturn, 1) := by decide +kernel
theorem dX7_plan_0 : decode cX7_plan 0 = .ok (.aload_n 0, 1) := by decide +kernel
theorem dX7_plan_1 : decode cX7_plan 1 = .ok (.iload_n 1, 1) := by decide +kernel
theorem dX7_plan_2 : decode cX7_plan 2 = .ok (.invokevirtual 53, 3) := by decide +kernel
theorem dX7_plan_5 : decode cX7_plan 5 = .ok (.astore_n 3, 1) := by decide +kernel
theorem dX7_plan_6 : decode cX7_plan 6 = .ok (.aload_n 3, 1) := by decide +kernel
theorem dX7_plan_7 : decode cX7_plan 7 = .ok (.ifnull 14, 3) := by decide +kernel
theorem dX7_plan_10 : decode cX7_plan 10 = .ok (.iload_n 2, 1) := by decide +kernel
theorem dX7_plan_11 : decode cX7_plan 11 = .ok (.bipush 20, 2) := by decide +kernel
theorem dX7_plan_13 : decode cX7_plan 13 = .ok (.bipush 90, 2) := by decide +kernel
theorem dX7_plan_15 : decode cX7_plan 15 = .ok (.invokestatic 64, 3) := by decide +kernel
theorem dX7_plan_18 : decode cX7_plan 18 = .ok (.ifCond .eq 5, 3) := by decide +kernel
theorem dX7_plan_21 : decode cX7_plan 21 = .ok (.iconst 0, 1) := by decide +kernel
theorem dX7_plan_22 : decode cX7_plan 22 = .ok (.ireturn, 1) := by decide +kernel
theorem dX7_plan_23 : decode cX7_plan 23 = .ok (.aload_n 3, 1) := by decide +kernel
theorem dX7_plan_24 : decode cX7_plan 24 = .ok (.getfield 120, 3) := by decide +kernel
theorem dX7_plan_27 : decode cX7_plan 27 = .ok (.ifnonnull 14, 3) := by decide +kernel
theorem dX7_plan_30 : decode cX7_plan 30 = .ok (.aload_n 3, 1) := by decide +kernel
theorem dX7_plan_31 : decode cX7_plan 31 = .ok (.new 124, 3) := by decide +kernel
theorem dX7_plan_34 : decode cX7_plan 34 = .ok (.dup, 1) := by decide +kernel
theorem dX7_plan_35 : decode cX7_plan 35 = .ok (.invokespecial 126, 3) := by decide +kernel
theorem dX7_plan_38 : decode cX7_plan 38 = .ok (.putfield 120, 3) := by decide +kernel
theorem dX7_plan_41 : decode cX7_plan 41 = .ok (.aload_n 3, 1) := by decide +kernel
theorem dX7_plan_42 : decode cX7_plan 42 = .ok (.getfield 120, 3) := by decide +kernel
theorem dX7_plan_45 : decode cX7_plan 45 = .ok (.iload_n 2, 1) := by decide +kernel
theorem dX7_plan_46 : decode cX7_plan 46 = .ok (.putfield 127, 3) := by decide +kernel
theorem dX7_plan_49 : decode cX7_plan 49 = .ok (.aload_n 3, 1) := by decide +kernel
theorem dX7_plan_50 : decode cX7_plan 50 = .ok (.getfield 120, 3) := by decide +kernel
theorem dX7_plan_53 : decode cX7_plan 53 = .ok (.iconst 0, 1) := by decide +kernel
theorem dX7_plan_54 : decode cX7_plan 54 = .ok (.putfield 130, 3) := by decide +kernel
theorem dX7_plan_57 : decode cX7_plan 57 = .ok (.iconst 1, 1) := by decide +kernel
theorem dX7_plan_58 : decode cX7_plan 58 = .ok (.ireturn, 1) := by decide +kernel
theorem dX7_stage_0 : decode cX7_stage 0 = .ok (.aload_n 0, 1) := by decide +kernel
theorem dX7_stage_1 : decode cX7_stage 1 = .ok (.iload_n 1, 1) := by decide +kernel
theorem dX7_stage_2 : decode cX7_stage 2 = .ok (.invokevirtual 53, 3) := by decide +kernel
theorem dX7_stage_5 : decode cX7_stage 5 = .ok (.astore 4, 2) := by decide +kernel
theorem dX7_stage_7 : decode cX7_stage 7 = .ok (.aload_n 0, 1) := by decide +kernel
theorem dX7_stage_8 : decode cX7_stage 8 = .ok (.iload_n 1, 1) := by decide +kernel
theorem dX7_stage_9 : decode cX7_stage 9 = .ok (.invokevirtual 133, 3) := by decide +kernel
theorem dX7_stage_12 : decode cX7_stage 12 = .ok (.astore 5, 2) := by decide +kernel
theorem dX7_stage_14 : decode cX7_stage 14 = .ok (.aload 4, 2) := by decide +kernel
theorem dX7_stage_16 : decode cX7_stage 16 = .ok (.ifnull 40, 3) := by decide +kernel
theorem dX7_stage_19 : decode cX7_stage 19 = .ok (.aload 5, 2) := by decide +kernel
theorem dX7_stage_21 : decode cX7_stage 21 = .ok (.ifnull 35, 3) := by decide +kernel
theorem dX7_stage_24 : decode cX7_stage 24 = .ok (.aload 5, 2) := by decide +kernel
theorem dX7_stage_26 : decode cX7_stage 26 = .ok (.getfield 130, 3) := by decide +kernel
theorem dX7_stage_29 : decode cX7_stage 29 = .ok (.iconst 4, 1) := by decide +kernel
theorem dX7_stage_30 : decode cX7_stage 30 = .ok (.if_icmp .ge 26, 3) := by decide +kernel
theorem dX7_stage_33 : decode cX7_stage 33 = .ok (.iload_n 2, 1) := by decide +kernel
theorem dX7_stage_34 : decode cX7_stage 34 = .ok (.ifCond .eq 22, 3) := by decide +kernel
theorem dX7_stage_37 : decode cX7_stage 37 = .ok (.aload 4, 2) := by decide +kernel
theorem dX7_stage_39 : decode cX7_stage 39 = .ok (.iload_n 2, 1) := by decide +kernel
theorem dX7_stage_40 : decode cX7_stage 40 = .ok (.invokevirtual 116, 3) := by decide +kernel
theorem dX7_stage_43 : decode cX7_stage 43 = .ok (.ifCond .eq 13, 3) := by decide +kernel
theorem dX7_stage_46 : decode cX7_stage 46 = .ok (.iload_n 3, 1) := by decide +kernel
theorem dX7_stage_47 : decode cX7_stage 47 = .ok (.iconst 0, 1) := by decide +kernel
theorem dX7_stage_48 : decode cX7_stage 48 = .ok (.bipush 90, 2) := by decide +kernel
theorem dX7_stage_50 : decode cX7_stage 50 = .ok (.invokestatic 64, 3) := by decide +kernel
theorem dX7_stage_53 : decode cX7_stage 53 = .ok (.ifCond .eq 5, 3) := by decide +kernel
theorem dX7_stage_56 : decode cX7_stage 56 = .ok (.iconst (-1), 1) := by decide +kernel
theorem dX7_stage_57 : decode cX7_stage 57 = .ok (.ireturn, 1) := by decide +kernel
theorem dX7_stage_58 : decode cX7_stage 58 = .ok (.aload 5, 2) := by decide +kernel
theorem dX7_stage_60 : decode cX7_stage 60 = .ok (.iload_n 2, 1) := by decide +kernel
theorem dX7_stage_61 : decode cX7_stage 61 = .ok (.iload_n 3, 1) := by decide +kernel
theorem dX7_stage_62 : decode cX7_stage 62 = .ok (.invokevirtual 137, 3) := by decide +kernel
theorem dX7_stage_65 : decode cX7_stage 65 = .ok (.aload 4, 2) := by decide +kernel
theorem dX7_stage_67 : decode cX7_stage 67 = .ok (.aload 5, 2) := by decide +kernel
theorem dX7_stage_69 : decode cX7_stage 69 = .ok (.invokevirtual 139, 3) := by decide +kernel
theorem dX7_stage_72 : decode cX7_stage 72 = .ok (.aload 5, 2) := by decide +kernel
theorem dX7_stage_74 : decode cX7_stage 74 = .ok (.getfield 130, 3) := by decide +kernel
theorem dX7_stage_77 : decode cX7_stage 77 = .ok (.iconst 1, 1) := by decide +kernel
theorem dX7_stage_78 : decode cX7_stage 78 = .ok (.isub, 1) := by decide +kernel
theorem dX7_stage_79 : decode cX7_stage 79 = .ok (.ireturn, 1) := by decide +kernel
theorem dX7_take_0 : decode cX7_take 0 = .ok (.aload_n 0, 1) := by decide +kernel
theorem dX7_take_1 : decode cX7_take 1 = .ok (.iload_n 1, 1) := by decide +kernel
theorem dX7_take_2 : decode cX7_take 2 = .ok (.invokevirtual 53, 3) := by decide +kernel
theorem dX7_take_5 : decode cX7_take 5 = .ok (.astore_n 3, 1) := by decide +kernel
theorem dX7_take_6 : decode cX7_take 6 = .ok (.aload_n 0, 1) := by decide +kernel
theorem dX7_take_7 : decode cX7_take 7 = .ok (.iload_n 1, 1) := by decide +kernel
theorem dX7_take_8 : decode cX7_take 8 = .ok (.invokevirtual 133, 3) := by decide +kernel
theorem dX7_take_11 : decode cX7_take 11 = .ok (.astore 4, 2) := by decide +kernel
theorem dX7_take_13 : decode cX7_take 13 = .ok (.aload_n 3, 1) := by decide +kernel
theorem dX7_take_14 : decode cX7_take 14 = .ok (.ifnull 23, 3) := by decide +kernel
theorem dX7_take_17 : decode cX7_take 17 = .ok (.aload 4, 2) := by decide +kernel
theorem dX7_take_19 : decode cX7_take 19 = .ok (.ifnull 18, 3) := by decide +kernel
theorem dX7_take_22 : decode cX7_take 22 = .ok (.iload_n 2, 1) := by decide +kernel
theorem dX7_take_23 : decode cX7_take 23 = .ok (.iconst 0, 1) := by decide +kernel
theorem dX7_take_24 : decode cX7_take 24 = .ok (.aload 4, 2) := by decide +kernel
theorem dX7_take_26 : decode cX7_take 26 = .ok (.getfield 127, 3) := by decide +kernel
theorem dX7_take_29 : decode cX7_take 29 = .ok (.iconst 1, 1) := by decide +kernel
theorem dX7_take_30 : decode cX7_take 30 = .ok (.isub, 1) := by decide +kernel
theorem dX7_take_31 : decode cX7_take 31 = .ok (.invokestatic 64, 3) := by decide +kernel
theorem dX7_take_34 : decode cX7_take 34 = .ok (.ifCond .eq 5, 3) := by decide +kernel
theorem dX7_take_37 : decode cX7_take 37 = .ok (.iconst 1, 1) := by decide +kernel
theorem dX7_take_38 : decode cX7_take 38 = .ok (.ireturn, 1) := by decide +kernel
theorem dX7_take_39 : decode cX7_take 39 = .ok (.aload 4, 2) := by decide +kernel
theorem dX7_take_41 : decode cX7_take 41 = .ok (.getfield 130, 3) := by decide +kernel
theorem dX7_take_44 : decode cX7_take 44 = .ok (.iconst 2, 1) := by decide +kernel
theorem dX7_take_45 : decode cX7_take 45 = .ok (.if_icmp .ge 5, 3) := by decide +kernel
theorem dX7_take_48 : decode cX7_take 48 = .ok (.iconst 2, 1) := by decide +kernel
theorem dX7_take_49 : decode cX7_take 49 = .ok (.ireturn, 1) := by decide +kernel
theorem dX7_take_50 : decode cX7_take 50 = .ok (.aload 4, 2) := by decide +kernel
theorem dX7_take_52 : decode cX7_take 52 = .ok (.invokevirtual 143, 3) := by decide +kernel
theorem dX7_take_55 : decode cX7_take 55 = .ok (.ifCond .eq 5, 3) := by decide +kernel
theorem dX7_take_58 : decode cX7_take 58 = .ok (.iconst 3, 1) := by decide +kernel
theorem dX7_take_59 : decode cX7_take 59 = .ok (.ireturn, 1) := by decide +kernel
theorem dX7_take_60 : decode cX7_take 60 = .ok (.aload 4, 2) := by decide +kernel
theorem dX7_take_62 : decode cX7_take 62 = .ok (.invokevirtual 146, 3) := by decide +kernel
theorem dX7_take_65 : decode cX7_take 65 = .ok (.aload 4, 2) := by decide +kernel
theorem dX7_take_67 : decode cX7_take 67 = .ok (.invokevirtual 149, 3) := by decide +kernel
theorem dX7_take_70 : decode cX7_take 70 = .ok (.iadd, 1) := by decide +kernel
theorem dX7_take_71 : decode cX7_take 71 = .ok (.aload 4, 2) := by decide +kernel
theorem dX7_take_73 : decode cX7_take 73 = .ok (.getfield 127, 3) := by decide +kernel
theorem dX7_take_76 : decode cX7_take 76 = .ok (.if_icmp .eq 5, 3) := by decide +kernel
theorem dX7_take_79 : decode cX7_take 79 = .ok (.iconst 4, 1) := by decide +kernel
theorem dX7_take_80 : decode cX7_take 80 = .ok (.ireturn, 1) := by decide +kernel
theorem dX7_take_81 : decode cX7_take 81 = .ok (.aload 4, 2) := by decide +kernel
theorem dX7_take_83 : decode cX7_take 83 = .ok (.invokevirtual 152, 3) := by decide +kernel
theorem dX7_take_86 : decode cX7_take 86 = .ok (.aload_n 0, 1) := by decide +kernel
theorem dX7_take_87 : decode cX7_take 87 = .ok (.aload_n 3, 1) := by decide +kernel
theorem dX7_take_88 : decode cX7_take 88 = .ok (.aload 4, 2) := by decide +kernel
theorem dX7_take_90 : decode cX7_take 90 = .ok (.invokevirtual 155, 3) := by decide +kernel
theorem dX7_take_93 : decode cX7_take 93 = .ok (.ifCond .eq 5, 3) := by decide +kernel
theorem dX7_take_96 : decode cX7_take 96 = .ok (.iconst 5, 1) := by decide +kernel
theorem dX7_take_97 : decode cX7_take 97 = .ok (.ireturn, 1) := by decide +kernel
theorem dX7_take_98 : decode cX7_take 98 = .ok (.aload_n 0, 1) := by decide +kernel
theorem dX7_take_99 : decode cX7_take 99 = .ok (.aload_n 3, 1) := by decide +kernel
theorem dX7_take_100 : decode cX7_take 100 = .ok (.aload 4, 2) := by decide +kernel
theorem dX7_take_102 : decode cX7_take 102 = .ok (.invokevirtual 159, 3) := by decide +kernel
theorem dX7_take_105 : decode cX7_take 105 = .ok (.ifCond .eq 6, 3) := by decide +kernel
theorem dX7_take_108 : decode cX7_take 108 = .ok (.bipush 6, 2) := by decide +kernel
theorem dX7_take_110 : decode cX7_take 110 = .ok (.ireturn, 1) := by decide +kernel
theorem dX7_take_111 : decode cX7_take 111 = .ok (.aload_n 3, 1) := by decide +kernel
theorem dX7_take_112 : decode cX7_take 112 = .ok (.iload_n 2, 1) := by decide +kernel
theorem dX7_take_113 : decode cX7_take 113 = .ok (.aload_n 0, 1) := by decide +kernel
theorem dX7_take_114 : decode cX7_take 114 = .ok (.getfield 49, 3) := by decide +kernel
theorem dX7_take_117 : decode cX7_take 117 = .ok (.invokevirtual 162, 3) := by decide +kernel
theorem dX7_take_120 : decode cX7_take 120 = .ok (.iconst 0, 1) := by decide +kernel
theorem dX7_take_121 : decode cX7_take 121 = .ok (.ireturn, 1) := by decide +kernel
theorem dX7_why_0 : decode cX7_why 0 = .ok (.iload_n 1, 1) := by decide +kernel
theorem dX7_why_1 : decode cX7_why 1 = .ok (.tableswitch 42 0 2 #[27, 32, 37], 27) := by decide +kernel
theorem dX7_why_28 : decode cX7_why 28 = .ok (.aload_n 0, 1) := by decide +kernel
theorem dX7_why_29 : decode cX7_why 29 = .ok (.getfield 36, 3) := by decide +kernel
theorem dX7_why_32 : decode cX7_why 32 = .ok (.ireturn, 1) := by decide +kernel
theorem dX7_why_33 : decode cX7_why 33 = .ok (.aload_n 0, 1) := by decide +kernel
theorem dX7_why_34 : decode cX7_why 34 = .ok (.getfield 40, 3) := by decide +kernel
theorem dX7_why_37 : decode cX7_why 37 = .ok (.ireturn, 1) := by decide +kernel
theorem dX7_why_38 : decode cX7_why 38 = .ok (.aload_n 0, 1) := by decide +kernel
theorem dX7_why_39 : decode cX7_why 39 = .ok (.getfield 43, 3) := by decide +kernel
theorem dX7_why_42 : decode cX7_why 42 = .ok (.ireturn, 1) := by decide +kernel
theorem dX7_why_43 : decode cX7_why 43 = .ok (.iconst (-1), 1) := by decide +kernel
theorem dX7_why_44 : decode cX7_why 44 = .ok (.ireturn, 1) := by decide +kernel
theorem dX7_told_0 : decode cX7_told 0 = .ok (.aload_n 0, 1) := by decide +kernel
theorem dX7_told_1 : decode cX7_told 1 = .ok (.iload_n 1, 1) := by decide +kernel
theorem dX7_told_2 : decode cX7_told 2 = .ok (.invokevirtual 165, 3) := by decide +kernel
theorem dX7_told_5 : decode cX7_told 5 = .ok (.astore_n 3, 1) := by decide +kernel
theorem dX7_told_6 : decode cX7_told 6 = .ok (.aload_n 3, 1) := by decide +kernel
theorem dX7_told_7 : decode cX7_told 7 = .ok (.ifnonnull 5, 3) := by decide +kernel
theorem dX7_told_10 : decode cX7_told 10 = .ok (.iconst (-1), 1) := by decide +kernel
theorem dX7_told_11 : decode cX7_told 11 = .ok (.ireturn, 1) := by decide +kernel
theorem dX7_told_12 : decode cX7_told 12 = .ok (.iload_n 2, 1) := by decide +kernel
theorem dX7_told_13 : decode cX7_told 13 = .ok (.tableswitch 51 0 3 #[31, 36, 41, 46], 31) := by decide +kernel
theorem dX7_told_44 : decode cX7_told 44 = .ok (.aload_n 3, 1) := by decide +kernel
theorem dX7_told_45 : decode cX7_told 45 = .ok (.getfield 127, 3) := by decide +kernel
theorem dX7_told_48 : decode cX7_told 48 = .ok (.ireturn, 1) := by decide +kernel
theorem dX7_told_49 : decode cX7_told 49 = .ok (.aload_n 3, 1) := by decide +kernel
theorem dX7_told_50 : decode cX7_told 50 = .ok (.getfield 168, 3) := by decide +kernel
theorem dX7_told_53 : decode cX7_told 53 = .ok (.ireturn, 1) := by decide +kernel
theorem dX7_told_54 : decode cX7_told 54 = .ok (.aload_n 3, 1) := by decide +kernel
theorem dX7_told_55 : decode cX7_told 55 = .ok (.getfield 130, 3) := by decide +kernel
theorem dX7_told_58 : decode cX7_told 58 = .ok (.ireturn, 1) := by decide +kernel
theorem dX7_told_59 : decode cX7_told 59 = .ok (.aload_n 3, 1) := by decide +kernel
theorem dX7_told_60 : decode cX7_told 60 = .ok (.invokevirtual 149, 3) := by decide +kernel
theorem dX7_told_63 : decode cX7_told 63 = .ok (.ireturn, 1) := by decide +kernel
theorem dX7_told_64 : decode cX7_told 64 = .ok (.aload_n 3, 1) := by decide +kernel
theorem dX7_told_65 : decode cX7_told 65 = .ok (.iload_n 2, 1) := by decide +kernel
theorem dX7_told_66 : decode cX7_told 66 = .ok (.bipush 10, 2) := by decide +kernel
theorem dX7_told_68 : decode cX7_told 68 = .ok (.idiv, 1) := by decide +kernel
theorem dX7_told_69 : decode cX7_told 69 = .ok (.iload_n 2, 1) := by decide +kernel
theorem dX7_told_70 : decode cX7_told 70 = .ok (.bipush 10, 2) := by decide +kernel
theorem dX7_told_72 : decode cX7_told 72 = .ok (.irem, 1) := by decide +kernel
theorem dX7_told_73 : decode cX7_told 73 = .ok (.invokevirtual 171, 3) := by decide +kernel
theorem dX7_told_76 : decode cX7_told 76 = .ok (.ireturn, 1) := by decide +kernel
theorem dX7_offset_0 : decode cX7_offset 0 = .ok (.aload_n 0, 1) := by decide +kernel
theorem dX7_offset_1 : decode cX7_offset 1 = .ok (.iload_n 1, 1) := by decide +kernel
theorem dX7_offset_2 : decode cX7_offset 2 = .ok (.invokevirtual 53, 3) := by decide +kernel
theorem dX7_offset_5 : decode cX7_offset 5 = .ok (.astore_n 3, 1) := by decide +kernel
theorem dX7_offset_6 : decode cX7_offset 6 = .ok (.aload_n 0, 1) := by decide +kernel
theorem dX7_offset_7 : decode cX7_offset 7 = .ok (.iload_n 1, 1) := by decide +kernel
theorem dX7_offset_8 : decode cX7_offset 8 = .ok (.invokevirtual 165, 3) := by decide +kernel
theorem dX7_offset_11 : decode cX7_offset 11 = .ok (.astore 4, 2) := by decide +kernel
theorem dX7_offset_13 : decode cX7_offset 13 = .ok (.aload_n 3, 1) := by decide +kernel
theorem dX7_offset_14 : decode cX7_offset 14 = .ok (.ifnull 32, 3) := by decide +kernel
theorem dX7_offset_17 : decode cX7_offset 17 = .ok (.aload 4, 2) := by decide +kernel
theorem dX7_offset_19 : decode cX7_offset 19 = .ok (.ifnull 27, 3) := by decide +kernel
theorem dX7_offset_22 : decode cX7_offset 22 = .ok (.iload_n 2, 1) := by decide +kernel
theorem dX7_offset_23 : decode cX7_offset 23 = .ok (.iconst 0, 1) := by decide +kernel
theorem dX7_offset_24 : decode cX7_offset 24 = .ok (.aload 4, 2) := by decide +kernel
theorem dX7_offset_26 : decode cX7_offset 26 = .ok (.getfield 127, 3) := by decide +kernel
theorem dX7_offset_29 : decode cX7_offset 29 = .ok (.iconst 1, 1) := by decide +kernel
theorem dX7_offset_30 : decode cX7_offset 30 = .ok (.isub, 1) := by decide +kernel
theorem dX7_offset_31 : decode cX7_offset 31 = .ok (.invokestatic 64, 3) := by decide +kernel
theorem dX7_offset_34 : decode cX7_offset 34 = .ok (.ifCond .ne 12, 3) := by decide +kernel
theorem dX7_offset_37 : decode cX7_offset 37 = .ok (.iload_n 2, 1) := by decide +kernel
theorem dX7_offset_38 : decode cX7_offset 38 = .ok (.aload 4, 2) := by decide +kernel
theorem dX7_offset_40 : decode cX7_offset 40 = .ok (.getfield 168, 3) := by decide +kernel
theorem dX7_offset_43 : decode cX7_offset 43 = .ok (.if_icmp .ne 5, 3) := by decide +kernel
theorem dX7_offset_46 : decode cX7_offset 46 = .ok (.iconst 0, 1) := by decide +kernel
theorem dX7_offset_47 : decode cX7_offset 47 = .ok (.ireturn, 1) := by decide +kernel
theorem dX7_offset_48 : decode cX7_offset 48 = .ok (.aload 4, 2) := by decide +kernel
theorem dX7_offset_50 : decode cX7_offset 50 = .ok (.iload_n 2, 1) := by decide +kernel
theorem dX7_offset_51 : decode cX7_offset 51 = .ok (.putfield 168, 3) := by decide +kernel
theorem dX7_offset_54 : decode cX7_offset 54 = .ok (.aload_n 3, 1) := by decide +kernel
theorem dX7_offset_55 : decode cX7_offset 55 = .ok (.aload_n 0, 1) := by decide +kernel
theorem dX7_offset_56 : decode cX7_offset 56 = .ok (.getfield 49, 3) := by decide +kernel
theorem dX7_offset_59 : decode cX7_offset 59 = .ok (.invokevirtual 175, 3) := by decide +kernel
theorem dX7_offset_62 : decode cX7_offset 62 = .ok (.iconst 1, 1) := by decide +kernel
theorem dX7_offset_63 : decode cX7_offset 63 = .ok (.ireturn, 1) := by decide +kernel
theorem dX7_tear_0 : decode cX7_tear 0 = .ok (.aload_n 0, 1) := by decide +kernel
theorem dX7_tear_1 : decode cX7_tear 1 = .ok (.iload_n 1, 1) := by decide +kernel
theorem dX7_tear_2 : decode cX7_tear 2 = .ok (.invokevirtual 165, 3) := by decide +kernel
theorem dX7_tear_5 : decode cX7_tear 5 = .ok (.astore_n 3, 1) := by decide +kernel
theorem dX7_tear_6 : decode cX7_tear 6 = .ok (.aload_n 3, 1) := by decide +kernel
theorem dX7_tear_7 : decode cX7_tear 7 = .ok (.ifnull 15, 3) := by decide +kernel
theorem dX7_tear_10 : decode cX7_tear 10 = .ok (.iload_n 2, 1) := by decide +kernel
theorem dX7_tear_11 : decode cX7_tear 11 = .ok (.iconst 0, 1) := by decide +kernel
theorem dX7_tear_12 : decode cX7_tear 12 = .ok (.aload_n 3, 1) := by decide +kernel
theorem dX7_tear_13 : decode cX7_tear 13 = .ok (.getfield 130, 3) := by decide +kernel
theorem dX7_tear_16 : decode cX7_tear 16 = .ok (.invokestatic 64, 3) := by decide +kernel
theorem dX7_tear_19 : decode cX7_tear 19 = .ok (.ifCond .eq 5, 3) := by decide +kernel
theorem dX7_tear_22 : decode cX7_tear 22 = .ok (.iconst 0, 1) := by decide +kernel
theorem dX7_tear_23 : decode cX7_tear 23 = .ok (.ireturn, 1) := by decide +kernel
theorem dX7_tear_24 : decode cX7_tear 24 = .ok (.aload_n 3, 1) := by decide +kernel
theorem dX7_tear_25 : decode cX7_tear 25 = .ok (.aload_n 3, 1) := by decide +kernel
theorem dX7_tear_26 : decode cX7_tear 26 = .ok (.getfield 179, 3) := by decide +kernel
theorem dX7_tear_29 : decode cX7_tear 29 = .ok (.iload_n 2, 1) := by decide +kernel
theorem dX7_tear_30 : decode cX7_tear 30 = .ok (.invokestatic 182, 3) := by decide +kernel
theorem dX7_tear_33 : decode cX7_tear 33 = .ok (.putfield 179, 3) := by decide +kernel
theorem dX7_tear_36 : decode cX7_tear 36 = .ok (.iconst 1, 1) := by decide +kernel
theorem dX7_tear_37 : decode cX7_tear 37 = .ok (.ireturn, 1) := by decide +kernel
theorem dX7_share_0 : decode cX7_share 0 = .ok (.aload_n 0, 1) := by decide +kernel
theorem dX7_share_1 : decode cX7_share 1 = .ok (.iload_n 1, 1) := by decide +kernel
theorem dX7_share_2 : decode cX7_share 2 = .ok (.invokevirtual 53, 3) := by decide +kernel
theorem dX7_share_5 : decode cX7_share 5 = .ok (.astore_n 2, 1) := by decide +kernel
theorem dX7_share_6 : decode cX7_share 6 = .ok (.aload_n 0, 1) := by decide +kernel
theorem dX7_share_7 : decode cX7_share 7 = .ok (.iload_n 1, 1) := by decide +kernel
theorem dX7_share_8 : decode cX7_share 8 = .ok (.invokevirtual 133, 3) := by decide +kernel
theorem dX7_share_11 : decode cX7_share 11 = .ok (.astore_n 3, 1) := by decide +kernel
theorem dX7_share_12 : decode cX7_share 12 = .ok (.aload_n 2, 1) := by decide +kernel
theorem dX7_share_13 : decode cX7_share 13 = .ok (.ifnull 15, 3) := by decide +kernel
theorem dX7_share_16 : decode cX7_share 16 = .ok (.aload_n 3, 1) := by decide +kernel
theorem dX7_share_17 : decode cX7_share 17 = .ok (.ifnull 11, 3) := by decide +kernel
theorem dX7_share_20 : decode cX7_share 20 = .ok (.aload_n 3, 1) := by decide +kernel
theorem dX7_share_21 : decode cX7_share 21 = .ok (.getfield 130, 3) := by decide +kernel
theorem dX7_share_24 : decode cX7_share 24 = .ok (.iconst 2, 1) := by decide +kernel
theorem dX7_share_25 : decode cX7_share 25 = .ok (.if_icmp .ge 5, 3) := by decide +kernel
theorem dX7_share_28 : decode cX7_share 28 = .ok (.iconst (-1), 1) := by decide +kernel
theorem dX7_share_29 : decode cX7_share 29 = .ok (.ireturn, 1) := by decide +kernel
theorem dX7_share_30 : decode cX7_share 30 = .ok (.aload_n 0, 1) := by decide +kernel
theorem dX7_share_31 : decode cX7_share 31 = .ok (.getfield 25, 3) := by decide +kernel
theorem dX7_share_34 : decode cX7_share 34 = .ok (.aload_n 2, 1) := by decide +kernel
theorem dX7_share_35 : decode cX7_share 35 = .ok (.aload_n 3, 1) := by decide +kernel
theorem dX7_share_36 : decode cX7_share 36 = .ok (.invokevirtual 187, 3) := by decide +kernel
theorem dX7_share_39 : decode cX7_share 39 = .ok (.ireturn, 1) := by decide +kernel
theorem dX7_fit_0 : decode cX7_fit 0 = .ok (.aload_n 0, 1) := by decide +kernel
theorem dX7_fit_1 : decode cX7_fit 1 = .ok (.iload_n 1, 1) := by decide +kernel
theorem dX7_fit_2 : decode cX7_fit 2 = .ok (.invokevirtual 53, 3) := by decide +kernel
theorem dX7_fit_5 : decode cX7_fit 5 = .ok (.astore_n 3, 1) := by decide +kernel
theorem dX7_fit_6 : decode cX7_fit 6 = .ok (.aload_n 0, 1) := by decide +kernel
theorem dX7_fit_7 : decode cX7_fit 7 = .ok (.iload_n 1, 1) := by decide +kernel
theorem dX7_fit_8 : decode cX7_fit 8 = .ok (.invokevirtual 133, 3) := by decide +kernel
theorem dX7_fit_11 : decode cX7_fit 11 = .ok (.astore 4, 2) := by decide +kernel
theorem dX7_fit_13 : decode cX7_fit 13 = .ok (.aload_n 3, 1) := by decide +kernel
theorem dX7_fit_14 : decode cX7_fit 14 = .ok (.ifnull 43, 3) := by decide +kernel
theorem dX7_fit_17 : decode cX7_fit 17 = .ok (.aload 4, 2) := by decide +kernel
theorem dX7_fit_19 : decode cX7_fit 19 = .ok (.ifnull 38, 3) := by decide +kernel
theorem dX7_fit_22 : decode cX7_fit 22 = .ok (.aload 4, 2) := by decide +kernel
theorem dX7_fit_24 : decode cX7_fit 24 = .ok (.getfield 130, 3) := by decide +kernel
theorem dX7_fit_27 : decode cX7_fit 27 = .ok (.iconst 2, 1) := by decide +kernel
theorem dX7_fit_28 : decode cX7_fit 28 = .ok (.if_icmp .lt 29, 3) := by decide +kernel
theorem dX7_fit_31 : decode cX7_fit 31 = .ok (.iload_n 2, 1) := by decide +kernel
theorem dX7_fit_32 : decode cX7_fit 32 = .ok (.bipush 20, 2) := by decide +kernel
theorem dX7_fit_34 : decode cX7_fit 34 = .ok (.bipush 90, 2) := by decide +kernel
theorem dX7_fit_36 : decode cX7_fit 36 = .ok (.invokestatic 64, 3) := by decide +kernel
theorem dX7_fit_39 : decode cX7_fit 39 = .ok (.ifCond .ne 18, 3) := by decide +kernel
theorem dX7_fit_42 : decode cX7_fit 42 = .ok (.iload_n 2, 1) := by decide +kernel
theorem dX7_fit_43 : decode cX7_fit 43 = .ok (.aload 4, 2) := by decide +kernel
theorem dX7_fit_45 : decode cX7_fit 45 = .ok (.invokevirtual 149, 3) := by decide +kernel
theorem dX7_fit_48 : decode cX7_fit 48 = .ok (.isub, 1) := by decide +kernel
theorem dX7_fit_49 : decode cX7_fit 49 = .ok (.aload 4, 2) := by decide +kernel
theorem dX7_fit_51 : decode cX7_fit 51 = .ok (.getfield 130, 3) := by decide +kernel
theorem dX7_fit_54 : decode cX7_fit 54 = .ok (.if_icmp .ge 5, 3) := by decide +kernel
theorem dX7_fit_57 : decode cX7_fit 57 = .ok (.iconst 0, 1) := by decide +kernel
theorem dX7_fit_58 : decode cX7_fit 58 = .ok (.ireturn, 1) := by decide +kernel
theorem dX7_fit_59 : decode cX7_fit 59 = .ok (.aload_n 0, 1) := by decide +kernel
theorem dX7_fit_60 : decode cX7_fit 60 = .ok (.getfield 25, 3) := by decide +kernel
theorem dX7_fit_63 : decode cX7_fit 63 = .ok (.aload_n 3, 1) := by decide +kernel
theorem dX7_fit_64 : decode cX7_fit 64 = .ok (.aload 4, 2) := by decide +kernel
theorem dX7_fit_66 : decode cX7_fit 66 = .ok (.iload_n 2, 1) := by decide +kernel
theorem dX7_fit_67 : decode cX7_fit 67 = .ok (.aload 4, 2) := by decide +kernel
theorem dX7_fit_69 : decode cX7_fit 69 = .ok (.invokevirtual 149, 3) := by decide +kernel
theorem dX7_fit_72 : decode cX7_fit 72 = .ok (.isub, 1) := by decide +kernel
theorem dX7_fit_73 : decode cX7_fit 73 = .ok (.invokevirtual 191, 3) := by decide +kernel
theorem dX7_fit_76 : decode cX7_fit 76 = .ok (.iconst 0, 1) := by decide +kernel
theorem dX7_fit_77 : decode cX7_fit 77 = .ok (.istore 5, 2) := by decide +kernel
theorem dX7_fit_79 : decode cX7_fit 79 = .ok (.iload 5, 2) := by decide +kernel
theorem dX7_fit_81 : decode cX7_fit 81 = .ok (.aload 4, 2) := by decide +kernel
theorem dX7_fit_83 : decode cX7_fit 83 = .ok (.getfield 130, 3) := by decide +kernel
theorem dX7_fit_86 : decode cX7_fit 86 = .ok (.if_icmp .ge 27, 3) := by decide +kernel
theorem dX7_fit_89 : decode cX7_fit 89 = .ok (.aload 4, 2) := by decide +kernel
theorem dX7_fit_91 : decode cX7_fit 91 = .ok (.getfield 195, 3) := by decide +kernel
theorem dX7_fit_94 : decode cX7_fit 94 = .ok (.iload 5, 2) := by decide +kernel
theorem dX7_fit_96 : decode cX7_fit 96 = .ok (.aload_n 0, 1) := by decide +kernel
theorem dX7_fit_97 : decode cX7_fit 97 = .ok (.getfield 25, 3) := by decide +kernel
theorem dX7_fit_100 : decode cX7_fit 100 = .ok (.getfield 199, 3) := by decide +kernel
theorem dX7_fit_103 : decode cX7_fit 103 = .ok (.iload 5, 2) := by decide +kernel
theorem dX7_fit_105 : decode cX7_fit 105 = .ok (.iaload, 1) := by decide +kernel
theorem dX7_fit_106 : decode cX7_fit 106 = .ok (.iastore, 1) := by decide +kernel
theorem dX7_fit_107 : decode cX7_fit 107 = .ok (.iinc 5 1, 3) := by decide +kernel
theorem dX7_fit_110 : decode cX7_fit 110 = .ok (.goto (-31), 3) := by decide +kernel
theorem dX7_fit_113 : decode cX7_fit 113 = .ok (.aload 4, 2) := by decide +kernel
theorem dX7_fit_115 : decode cX7_fit 115 = .ok (.iload_n 2, 1) := by decide +kernel
theorem dX7_fit_116 : decode cX7_fit 116 = .ok (.putfield 127, 3) := by decide +kernel
theorem dX7_fit_119 : decode cX7_fit 119 = .ok (.iconst 1, 1) := by decide +kernel
theorem dX7_fit_120 : decode cX7_fit 120 = .ok (.ireturn, 1) := by decide +kernel
theorem dX7_green_0 : decode cX7_green 0 = .ok (.aload_n 0, 1) := by decide +kernel
theorem dX7_green_1 : decode cX7_green 1 = .ok (.iload_n 1, 1) := by decide +kernel
theorem dX7_green_2 : decode cX7_green 2 = .ok (.invokevirtual 133, 3) := by decide +kernel
theorem dX7_green_5 : decode cX7_green 5 = .ok (.astore_n 3, 1) := by decide +kernel
theorem dX7_green_6 : decode cX7_green 6 = .ok (.aload_n 3, 1) := by decide +kernel
theorem dX7_green_7 : decode cX7_green 7 = .ok (.ifnull 17, 3) := by decide +kernel
theorem dX7_green_10 : decode cX7_green 10 = .ok (.iload_n 2, 1) := by decide +kernel
theorem dX7_green_11 : decode cX7_green 11 = .ok (.iconst 0, 1) := by decide +kernel
theorem dX7_green_12 : decode cX7_green 12 = .ok (.aload_n 3, 1) := by decide +kernel
theorem dX7_green_13 : decode cX7_green 13 = .ok (.getfield 130, 3) := by decide +kernel
theorem dX7_green_16 : decode cX7_green 16 = .ok (.iconst 1, 1) := by decide +kernel
theorem dX7_green_17 : decode cX7_green 17 = .ok (.isub, 1) := by decide +kernel
theorem dX7_green_18 : decode cX7_green 18 = .ok (.invokestatic 64, 3) := by decide +kernel
theorem dX7_green_21 : decode cX7_green 21 = .ok (.ifCond .eq 7, 3) := by decide +kernel
theorem dX7_green_24 : decode cX7_green 24 = .ok (.iconst (-1), 1) := by decide +kernel
theorem dX7_green_25 : decode cX7_green 25 = .ok (.goto 9, 3) := by decide +kernel
theorem dX7_green_28 : decode cX7_green 28 = .ok (.aload_n 3, 1) := by decide +kernel
theorem dX7_green_29 : decode cX7_green 29 = .ok (.getfield 195, 3) := by decide +kernel
theorem dX7_green_32 : decode cX7_green 32 = .ok (.iload_n 2, 1) := by decide +kernel
theorem dX7_green_33 : decode cX7_green 33 = .ok (.iaload, 1) := by decide +kernel
theorem dX7_green_34 : decode cX7_green 34 = .ok (.ireturn, 1) := by decide +kernel
theorem dX7_lamp_0 : decode cX7_lamp 0 = .ok (.aload_n 0, 1) := by decide +kernel
theorem dX7_lamp_1 : decode cX7_lamp 1 = .ok (.iload_n 1, 1) := by decide +kernel
theorem dX7_lamp_2 : decode cX7_lamp 2 = .ok (.invokevirtual 53, 3) := by decide +kernel
theorem dX7_lamp_5 : decode cX7_lamp 5 = .ok (.astore 4, 2) := by decide +kernel
theorem dX7_lamp_7 : decode cX7_lamp 7 = .ok (.aload 4, 2) := by decide +kernel
theorem dX7_lamp_9 : decode cX7_lamp 9 = .ok (.ifnull 22, 3) := by decide +kernel
theorem dX7_lamp_12 : decode cX7_lamp 12 = .ok (.aload 4, 2) := by decide +kernel
theorem dX7_lamp_14 : decode cX7_lamp 14 = .ok (.iload_n 2, 1) := by decide +kernel
theorem dX7_lamp_15 : decode cX7_lamp 15 = .ok (.invokevirtual 77, 3) := by decide +kernel
theorem dX7_lamp_18 : decode cX7_lamp 18 = .ok (.ifnull 13, 3) := by decide +kernel
theorem dX7_lamp_21 : decode cX7_lamp 21 = .ok (.iload_n 3, 1) := by decide +kernel
theorem dX7_lamp_22 : decode cX7_lamp 22 = .ok (.iconst 0, 1) := by decide +kernel
theorem dX7_lamp_23 : decode cX7_lamp 23 = .ok (.ldc 202, 2) := by decide +kernel
theorem dX7_lamp_25 : decode cX7_lamp 25 = .ok (.invokestatic 64, 3) := by decide +kernel
theorem dX7_lamp_28 : decode cX7_lamp 28 = .ok (.ifCond .eq 5, 3) := by decide +kernel
theorem dX7_lamp_31 : decode cX7_lamp 31 = .ok (.iconst (-1), 1) := by decide +kernel
theorem dX7_lamp_32 : decode cX7_lamp 32 = .ok (.ireturn, 1) := by decide +kernel
theorem dX7_lamp_33 : decode cX7_lamp 33 = .ok (.aload 4, 2) := by decide +kernel
theorem dX7_lamp_35 : decode cX7_lamp 35 = .ok (.getfield 203, 3) := by decide +kernel
theorem dX7_lamp_38 : decode cX7_lamp 38 = .ok (.ifnull 20, 3) := by decide +kernel
theorem dX7_lamp_41 : decode cX7_lamp 41 = .ok (.aload 4, 2) := by decide +kernel
theorem dX7_lamp_43 : decode cX7_lamp 43 = .ok (.getfield 203, 3) := by decide +kernel
theorem dX7_lamp_46 : decode cX7_lamp 46 = .ok (.iload_n 2, 1) := by decide +kernel
theorem dX7_lamp_47 : decode cX7_lamp 47 = .ok (.iload_n 3, 1) := by decide +kernel
theorem dX7_lamp_48 : decode cX7_lamp 48 = .ok (.invokevirtual 206, 3) := by decide +kernel
theorem dX7_lamp_51 : decode cX7_lamp 51 = .ok (.ifCond .eq 7, 3) := by decide +kernel
theorem dX7_lamp_54 : decode cX7_lamp 54 = .ok (.iconst 1, 1) := by decide +kernel
theorem dX7_lamp_55 : decode cX7_lamp 55 = .ok (.goto 4, 3) := by decide +kernel
theorem dX7_lamp_58 : decode cX7_lamp 58 = .ok (.iconst 0, 1) := by decide +kernel
theorem dX7_lamp_59 : decode cX7_lamp 59 = .ok (.ireturn, 1) := by decide +kernel
theorem dX7_run_0 : decode cX7_run 0 = .ok (.iload_n 1, 1) := by decide +kernel
theorem dX7_run_1 : decode cX7_run 1 = .ok (.iconst 0, 1) := by decide +kernel
theorem dX7_run_2 : decode cX7_run 2 = .ok (.sipush 300, 3) := by decide +kernel
theorem dX7_run_5 : decode cX7_run 5 = .ok (.invokestatic 64, 3) := by decide +kernel
theorem dX7_run_8 : decode cX7_run 8 = .ok (.ifCond .ne 14, 3) := by decide +kernel
theorem dX7_run_11 : decode cX7_run 11 = .ok (.aload_n 0, 1) := by decide +kernel
theorem dX7_run_12 : decode cX7_run 12 = .ok (.getfield 49, 3) := by decide +kernel
theorem dX7_run_15 : decode cX7_run 15 = .ok (.iload_n 1, 1) := by decide +kernel
theorem dX7_run_16 : decode cX7_run 16 = .ok (.iadd, 1) := by decide +kernel
theorem dX7_run_17 : decode cX7_run 17 = .ok (.ldc 209, 2) := by decide +kernel
theorem dX7_run_19 : decode cX7_run 19 = .ok (.if_icmp .le 5, 3) := by decide +kernel
theorem dX7_run_22 : decode cX7_run 22 = .ok (.iconst (-1), 1) := by decide +kernel
theorem dX7_run_23 : decode cX7_run 23 = .ok (.ireturn, 1) := by decide +kernel
theorem dX7_run_24 : decode cX7_run 24 = .ok (.iconst 0, 1) := by decide +kernel
theorem dX7_run_25 : decode cX7_run 25 = .ok (.istore_n 2, 1) := by decide +kernel
theorem dX7_run_26 : decode cX7_run 26 = .ok (.iload_n 2, 1) := by decide +kernel
theorem dX7_run_27 : decode cX7_run 27 = .ok (.iload_n 1, 1) := by decide +kernel
theorem dX7_run_28 : decode cX7_run 28 = .ok (.if_icmp .ge 48, 3) := by decide +kernel
theorem dX7_run_31 : decode cX7_run 31 = .ok (.iconst 0, 1) := by decide +kernel
theorem dX7_run_32 : decode cX7_run 32 = .ok (.istore_n 3, 1) := by decide +kernel
theorem dX7_run_33 : decode cX7_run 33 = .ok (.iload_n 3, 1) := by decide +kernel
theorem dX7_run_34 : decode cX7_run 34 = .ok (.aload_n 0, 1) := by decide +kernel
theorem dX7_run_35 : decode cX7_run 35 = .ok (.getfield 46, 3) := by decide +kernel
theorem dX7_run_38 : decode cX7_run 38 = .ok (.if_icmp .ge 22, 3) := by decide +kernel
theorem dX7_run_41 : decode cX7_run 41 = .ok (.aload_n 0, 1) := by decide +kernel
theorem dX7_run_42 : decode cX7_run 42 = .ok (.getfield 11, 3) := by decide +kernel
theorem dX7_run_45 : decode cX7_run 45 = .ok (.iload_n 3, 1) := by decide +kernel
theorem dX7_run_46 : decode cX7_run 46 = .ok (.aaload, 1) := by decide +kernel
theorem dX7_run_47 : decode cX7_run 47 = .ok (.aload_n 0, 1) := by decide +kernel
theorem dX7_run_48 : decode cX7_run 48 = .ok (.getfield 49, 3) := by decide +kernel
theorem dX7_run_51 : decode cX7_run 51 = .ok (.invokevirtual 210, 3) := by decide +kernel
theorem dX7_run_54 : decode cX7_run 54 = .ok (.iinc 3 1, 3) := by decide +kernel
theorem dX7_run_57 : decode cX7_run 57 = .ok (.goto (-24), 3) := by decide +kernel
theorem dX7_run_60 : decode cX7_run 60 = .ok (.aload_n 0, 1) := by decide +kernel
theorem dX7_run_61 : decode cX7_run 61 = .ok (.dup, 1) := by decide +kernel
theorem dX7_run_62 : decode cX7_run 62 = .ok (.getfield 49, 3) := by decide +kernel
theorem dX7_run_65 : decode cX7_run 65 = .ok (.iconst 1, 1) := by decide +kernel
theorem dX7_run_66 : decode cX7_run 66 = .ok (.iadd, 1) := by decide +kernel
theorem dX7_run_67 : decode cX7_run 67 = .ok (.putfield 49, 3) := by decide +kernel
theorem dX7_run_70 : decode cX7_run 70 = .ok (.iinc 2 1, 3) := by decide +kernel
theorem dX7_run_73 : decode cX7_run 73 = .ok (.goto (-47), 3) := by decide +kernel
theorem dX7_run_76 : decode cX7_run 76 = .ok (.aload_n 0, 1) := by decide +kernel
theorem dX7_run_77 : decode cX7_run 77 = .ok (.getfield 49, 3) := by decide +kernel
theorem dX7_run_80 : decode cX7_run 80 = .ok (.ireturn, 1) := by decide +kernel
theorem dX7_queue_0 : decode cX7_queue 0 = .ok (.aload_n 0, 1) := by decide +kernel
theorem dX7_queue_1 : decode cX7_queue 1 = .ok (.iload_n 1, 1) := by decide +kernel
theorem dX7_queue_2 : decode cX7_queue 2 = .ok (.invokevirtual 53, 3) := by decide +kernel
theorem dX7_queue_5 : decode cX7_queue 5 = .ok (.astore 4, 2) := by decide +kernel
theorem dX7_queue_7 : decode cX7_queue 7 = .ok (.aload_n 0, 1) := by decide +kernel
theorem dX7_queue_8 : decode cX7_queue 8 = .ok (.iload_n 1, 1) := by decide +kernel
theorem dX7_queue_9 : decode cX7_queue 9 = .ok (.iload_n 2, 1) := by decide +kernel
theorem dX7_queue_10 : decode cX7_queue 10 = .ok (.invokevirtual 92, 3) := by decide +kernel
theorem dX7_queue_13 : decode cX7_queue 13 = .ok (.astore 5, 2) := by decide +kernel
theorem dX7_queue_15 : decode cX7_queue 15 = .ok (.aload 4, 2) := by decide +kernel
theorem dX7_queue_17 : decode cX7_queue 17 = .ok (.ifnull 8, 3) := by decide +kernel
theorem dX7_queue_20 : decode cX7_queue 20 = .ok (.aload 5, 2) := by decide +kernel
theorem dX7_queue_22 : decode cX7_queue 22 = .ok (.ifnonnull 7, 3) := by decide +kernel
theorem dX7_queue_25 : decode cX7_queue 25 = .ok (.ldc2_w 213, 3) := by decide +kernel
theorem dX7_queue_28 : decode cX7_queue 28 = .ok (.lreturn, 1) := by decide +kernel
theorem dX7_queue_29 : decode cX7_queue 29 = .ok (.iload_n 3, 1) := by decide +kernel
theorem dX7_queue_30 : decode cX7_queue 30 = .ok (.bipush 11, 2) := by decide +kernel
theorem dX7_queue_32 : decode cX7_queue 32 = .ok (.if_icmp .ne 16, 3) := by decide +kernel
theorem dX7_queue_35 : decode cX7_queue 35 = .ok (.aload 4, 2) := by decide +kernel
theorem dX7_queue_37 : decode cX7_queue 37 = .ok (.getfield 215, 3) := by decide +kernel
theorem dX7_queue_40 : decode cX7_queue 40 = .ok (.iload_n 2, 1) := by decide +kernel
theorem dX7_queue_41 : decode cX7_queue 41 = .ok (.ishr, 1) := by decide +kernel
theorem dX7_queue_42 : decode cX7_queue 42 = .ok (.iconst 1, 1) := by decide +kernel
theorem dX7_queue_43 : decode cX7_queue 43 = .ok (.iand, 1) := by decide +kernel
theorem dX7_queue_44 : decode cX7_queue 44 = .ok (.i2l, 1) := by decide +kernel
theorem dX7_queue_45 : decode cX7_queue 45 = .ok (.goto 9, 3) := by decide +kernel
theorem dX7_queue_48 : decode cX7_queue 48 = .ok (.aload 5, 2) := by decide +kernel
theorem dX7_queue_50 : decode cX7_queue 50 = .ok (.iload_n 3, 1) := by decide +kernel
theorem dX7_queue_51 : decode cX7_queue 51 = .ok (.invokevirtual 218, 3) := by decide +kernel
theorem dX7_queue_54 : decode cX7_queue 54 = .ok (.lreturn, 1) := by decide +kernel
theorem dX7_count_0 : decode cX7_count 0 = .ok (.iload_n 1, 1) := by decide +kernel
theorem dX7_count_1 : decode cX7_count 1 = .ok (.tableswitch 42 0 2 #[27, 32, 37], 27) := by decide +kernel
theorem dX7_count_28 : decode cX7_count 28 = .ok (.aload_n 0, 1) := by decide +kernel
theorem dX7_count_29 : decode cX7_count 29 = .ok (.getfield 46, 3) := by decide +kernel
theorem dX7_count_32 : decode cX7_count 32 = .ok (.ireturn, 1) := by decide +kernel
theorem dX7_count_33 : decode cX7_count 33 = .ok (.aload_n 0, 1) := by decide +kernel
theorem dX7_count_34 : decode cX7_count 34 = .ok (.getfield 49, 3) := by decide +kernel
theorem dX7_count_37 : decode cX7_count 37 = .ok (.ireturn, 1) := by decide +kernel
theorem dX7_count_38 : decode cX7_count 38 = .ok (.aload_n 0, 1) := by decide +kernel
theorem dX7_count_39 : decode cX7_count 39 = .ok (.invokevirtual 222, 3) := by decide +kernel
theorem dX7_count_42 : decode cX7_count 42 = .ok (.ireturn, 1) := by decide +kernel
theorem dX7_count_43 : decode cX7_count 43 = .ok (.iconst (-1), 1) := by decide +kernel
theorem dX7_count_44 : decode cX7_count 44 = .ok (.ireturn, 1) := by decide +kernel
theorem dX7_flashes_0 : decode cX7_flashes 0 = .ok (.aload_n 0, 1) := by decide +kernel
theorem dX7_flashes_1 : decode cX7_flashes 1 = .ok (.iload_n 1, 1) := by decide +kernel
theorem dX7_flashes_2 : decode cX7_flashes 2 = .ok (.invokevirtual 53, 3) := by decide +kernel
theorem dX7_flashes_5 : decode cX7_flashes 5 = .ok (.astore_n 2, 1) := by decide +kernel
theorem dX7_flashes_6 : decode cX7_flashes 6 = .ok (.aload_n 2, 1) := by decide +kernel
theorem dX7_flashes_7 : decode cX7_flashes 7 = .ok (.ifnull 14, 3) := by decide +kernel
theorem dX7_flashes_10 : decode cX7_flashes 10 = .ok (.aload_n 2, 1) := by decide +kernel
theorem dX7_flashes_11 : decode cX7_flashes 11 = .ok (.getfield 225, 3) := by decide +kernel
theorem dX7_flashes_14 : decode cX7_flashes 14 = .ok (.ifCond .eq 7, 3) := by decide +kernel
theorem dX7_flashes_17 : decode cX7_flashes 17 = .ok (.iconst 1, 1) := by decide +kernel
theorem dX7_flashes_18 : decode cX7_flashes 18 = .ok (.goto 4, 3) := by decide +kernel
theorem dX7_flashes_21 : decode cX7_flashes 21 = .ok (.iconst 0, 1) := by decide +kernel
theorem dX7_flashes_22 : decode cX7_flashes 22 = .ok (.ireturn, 1) := by decide +kernel
theorem dX7_width_0 : decode cX7_width 0 = .ok (.iload 8, 2) := by decide +kernel
theorem dX7_width_2 : decode cX7_width 2 = .ok (.iconst 0, 1) := by decide +kernel
theorem dX7_width_3 : decode cX7_width 3 = .ok (.iconst 1, 1) := by decide +kernel
theorem dX7_width_4 : decode cX7_width 4 = .ok (.invokestatic 64, 3) := by decide +kernel
theorem dX7_width_7 : decode cX7_width 7 = .ok (.ifCond .ne 21, 3) := by decide +kernel
theorem dX7_width_10 : decode cX7_width 10 = .ok (.aload_n 0, 1) := by decide +kernel
theorem dX7_width_11 : decode cX7_width 11 = .ok (.iload_n 1, 1) := by decide +kernel
theorem dX7_width_12 : decode cX7_width 12 = .ok (.iload_n 2, 1) := by decide +kernel
theorem dX7_width_13 : decode cX7_width 13 = .ok (.iload_n 3, 1) := by decide +kernel
theorem dX7_width_14 : decode cX7_width 14 = .ok (.iload 4, 2) := by decide +kernel
theorem dX7_width_16 : decode cX7_width 16 = .ok (.iload 5, 2) := by decide +kernel
theorem dX7_width_18 : decode cX7_width 18 = .ok (.iload 6, 2) := by decide +kernel
theorem dX7_width_20 : decode cX7_width 20 = .ok (.iload 7, 2) := by decide +kernel
theorem dX7_width_22 : decode cX7_width 22 = .ok (.invokevirtual 228, 3) := by decide +kernel
theorem dX7_width_25 : decode cX7_width 25 = .ok (.ifCond .ne 5, 3) := by decide +kernel
theorem dX7_width_28 : decode cX7_width 28 = .ok (.iconst (-1), 1) := by decide +kernel
theorem dX7_width_29 : decode cX7_width 29 = .ok (.ireturn, 1) := by decide +kernel
theorem dX7_width_30 : decode cX7_width 30 = .ok (.aload_n 0, 1) := by decide +kernel
theorem dX7_width_31 : decode cX7_width 31 = .ok (.getfield 32, 3) := by decide +kernel
theorem dX7_width_34 : decode cX7_width 34 = .ok (.iload 8, 2) := by decide +kernel
theorem dX7_width_36 : decode cX7_width 36 = .ok (.invokevirtual 232, 3) := by decide +kernel
theorem dX7_width_39 : decode cX7_width 39 = .ok (.ireturn, 1) := by decide +kernel
theorem dX7_wave_0 : decode cX7_wave 0 = .ok (.iload 8, 2) := by decide +kernel
theorem dX7_wave_2 : decode cX7_wave 2 = .ok (.iconst 0, 1) := by decide +kernel
theorem dX7_wave_3 : decode cX7_wave 3 = .ok (.iconst 2, 1) := by decide +kernel
theorem dX7_wave_4 : decode cX7_wave 4 = .ok (.invokestatic 64, 3) := by decide +kernel
theorem dX7_wave_7 : decode cX7_wave 7 = .ok (.ifCond .ne 21, 3) := by decide +kernel
theorem dX7_wave_10 : decode cX7_wave 10 = .ok (.aload_n 0, 1) := by decide +kernel
theorem dX7_wave_11 : decode cX7_wave 11 = .ok (.iload_n 1, 1) := by decide +kernel
theorem dX7_wave_12 : decode cX7_wave 12 = .ok (.iload_n 2, 1) := by decide +kernel
theorem dX7_wave_13 : decode cX7_wave 13 = .ok (.iload_n 3, 1) := by decide +kernel
theorem dX7_wave_14 : decode cX7_wave 14 = .ok (.iload 4, 2) := by decide +kernel
theorem dX7_wave_16 : decode cX7_wave 16 = .ok (.iload 5, 2) := by decide +kernel
theorem dX7_wave_18 : decode cX7_wave 18 = .ok (.iload 6, 2) := by decide +kernel
theorem dX7_wave_20 : decode cX7_wave 20 = .ok (.iload 7, 2) := by decide +kernel
theorem dX7_wave_22 : decode cX7_wave 22 = .ok (.invokevirtual 228, 3) := by decide +kernel
theorem dX7_wave_25 : decode cX7_wave 25 = .ok (.ifCond .ne 5, 3) := by decide +kernel
theorem dX7_wave_28 : decode cX7_wave 28 = .ok (.iconst (-1), 1) := by decide +kernel
theorem dX7_wave_29 : decode cX7_wave 29 = .ok (.ireturn, 1) := by decide +kernel
theorem dX7_wave_30 : decode cX7_wave 30 = .ok (.aload_n 0, 1) := by decide +kernel
theorem dX7_wave_31 : decode cX7_wave 31 = .ok (.getfield 32, 3) := by decide +kernel
theorem dX7_wave_34 : decode cX7_wave 34 = .ok (.invokevirtual 235, 3) := by decide +kernel
theorem dX7_wave_37 : decode cX7_wave 37 = .ok (.iload 8, 2) := by decide +kernel
theorem dX7_wave_39 : decode cX7_wave 39 = .ok (.ifCond .ne 11, 3) := by decide +kernel
theorem dX7_wave_42 : decode cX7_wave 42 = .ok (.aload_n 0, 1) := by decide +kernel
theorem dX7_wave_43 : decode cX7_wave 43 = .ok (.getfield 32, 3) := by decide +kernel
theorem dX7_wave_46 : decode cX7_wave 46 = .ok (.getfield 238, 3) := by decide +kernel
theorem dX7_wave_49 : decode cX7_wave 49 = .ok (.ireturn, 1) := by decide +kernel
theorem dX7_wave_50 : decode cX7_wave 50 = .ok (.iload 8, 2) := by decide +kernel
theorem dX7_wave_52 : decode cX7_wave 52 = .ok (.iconst 1, 1) := by decide +kernel
theorem dX7_wave_53 : decode cX7_wave 53 = .ok (.if_icmp .ne 11, 3) := by decide +kernel
theorem dX7_wave_56 : decode cX7_wave 56 = .ok (.aload_n 0, 1) := by decide +kernel
theorem dX7_wave_57 : decode cX7_wave 57 = .ok (.getfield 32, 3) := by decide +kernel
theorem dX7_wave_60 : decode cX7_wave 60 = .ok (.getfield 241, 3) := by decide +kernel
theorem dX7_wave_63 : decode cX7_wave 63 = .ok (.ireturn, 1) := by decide +kernel
theorem dX7_wave_64 : decode cX7_wave 64 = .ok (.aload_n 0, 1) := by decide +kernel
theorem dX7_wave_65 : decode cX7_wave 65 = .ok (.getfield 32, 3) := by decide +kernel
theorem dX7_wave_68 : decode cX7_wave 68 = .ok (.getfield 244, 3) := by decide +kernel
theorem dX7_wave_71 : decode cX7_wave 71 = .ok (.iconst 3, 1) := by decide +kernel
theorem dX7_wave_72 : decode cX7_wave 72 = .ok (.if_icmp .ne 13, 3) := by decide +kernel
theorem dX7_wave_75 : decode cX7_wave 75 = .ok (.aload_n 0, 1) := by decide +kernel
theorem dX7_wave_76 : decode cX7_wave 76 = .ok (.getfield 32, 3) := by decide +kernel
theorem dX7_wave_79 : decode cX7_wave 79 = .ok (.getfield 247, 3) := by decide +kernel
theorem dX7_wave_82 : decode cX7_wave 82 = .ok (.goto 4, 3) := by decide +kernel
theorem dX7_wave_85 : decode cX7_wave 85 = .ok (.iconst (-1), 1) := by decide +kernel
theorem dX7_wave_86 : decode cX7_wave 86 = .ok (.ireturn, 1) := by decide +kernel
theorem dX7_check_0 : decode cX7_check 0 = .ok (.aload_n 0, 1) := by decide +kernel
theorem dX7_check_1 : decode cX7_check 1 = .ok (.iload_n 1, 1) := by decide +kernel
theorem dX7_check_2 : decode cX7_check 2 = .ok (.invokevirtual 53, 3) := by decide +kernel
theorem dX7_check_5 : decode cX7_check 5 = .ok (.astore 4, 2) := by decide +kernel
theorem dX7_check_7 : decode cX7_check 7 = .ok (.aload 4, 2) := by decide +kernel
theorem dX7_check_9 : decode cX7_check 9 = .ok (.ifnonnull 6, 3) := by decide +kernel
theorem dX7_check_12 : decode cX7_check 12 = .ok (.bipush (-2), 2) := by decide +kernel
theorem dX7_check_14 : decode cX7_check 14 = .ok (.ireturn, 1) := by decide +kernel
theorem dX7_check_15 : decode cX7_check 15 = .ok (.iconst 0, 1) := by decide +kernel
theorem dX7_check_16 : decode cX7_check 16 = .ok (.aload_n 0, 1) := by decide +kernel
theorem dX7_check_17 : decode cX7_check 17 = .ok (.getfield 49, 3) := by decide +kernel
theorem dX7_check_20 : decode cX7_check 20 = .ok (.sipush 200, 3) := by decide +kernel
theorem dX7_check_23 : decode cX7_check 23 = .ok (.isub, 1) := by decide +kernel
theorem dX7_check_24 : decode cX7_check 24 = .ok (.invokestatic 250, 3) := by decide +kernel
theorem dX7_check_27 : decode cX7_check 27 = .ok (.istore 5, 2) := by decide +kernel
theorem dX7_check_29 : decode cX7_check 29 = .ok (.iload_n 3, 1) := by decide +kernel
theorem dX7_check_30 : decode cX7_check 30 = .ok (.iconst (-1), 1) := by decide +kernel
theorem dX7_check_31 : decode cX7_check 31 = .ok (.if_icmp .ne 21, 3) := by decide +kernel
theorem dX7_check_34 : decode cX7_check 34 = .ok (.aload_n 0, 1) := by decide +kernel
theorem dX7_check_35 : decode cX7_check 35 = .ok (.getfield 18, 3) := by decide +kernel
theorem dX7_check_38 : decode cX7_check 38 = .ok (.aload 4, 2) := by decide +kernel
theorem dX7_check_40 : decode cX7_check 40 = .ok (.iload 5, 2) := by decide +kernel
theorem dX7_check_42 : decode cX7_check 42 = .ok (.aload_n 0, 1) := by decide +kernel
theorem dX7_check_43 : decode cX7_check 43 = .ok (.getfield 49, 3) := by decide +kernel
theorem dX7_check_46 : decode cX7_check 46 = .ok (.iconst (-1), 1) := by decide +kernel
theorem dX7_check_47 : decode cX7_check 47 = .ok (.iconst 0, 1) := by decide +kernel
theorem dX7_check_48 : decode cX7_check 48 = .ok (.invokevirtual 253, 3) := by decide +kernel
theorem dX7_check_51 : decode cX7_check 51 = .ok (.ireturn, 1) := by decide +kernel
theorem dX7_check_52 : decode cX7_check 52 = .ok (.aload 4, 2) := by decide +kernel
theorem dX7_check_54 : decode cX7_check 54 = .ok (.iload_n 2, 1) := by decide +kernel
theorem dX7_check_55 : decode cX7_check 55 = .ok (.invokevirtual 77, 3) := by decide +kernel
theorem dX7_check_58 : decode cX7_check 58 = .ok (.ifnull 18, 3) := by decide +kernel
theorem dX7_check_61 : decode cX7_check 61 = .ok (.iload_n 3, 1) := by decide +kernel
theorem dX7_check_62 : decode cX7_check 62 = .ok (.iload 5, 2) := by decide +kernel
theorem dX7_check_64 : decode cX7_check 64 = .ok (.aload_n 0, 1) := by decide +kernel
theorem dX7_check_65 : decode cX7_check 65 = .ok (.getfield 49, 3) := by decide +kernel
theorem dX7_check_68 : decode cX7_check 68 = .ok (.iconst 1, 1) := by decide +kernel
theorem dX7_check_69 : decode cX7_check 69 = .ok (.isub, 1) := by decide +kernel
theorem dX7_check_70 : decode cX7_check 70 = .ok (.invokestatic 64, 3) := by decide +kernel
theorem dX7_check_73 : decode cX7_check 73 = .ok (.ifCond .eq 6, 3) := by decide +kernel
theorem dX7_check_76 : decode cX7_check 76 = .ok (.bipush (-2), 2) := by decide +kernel
theorem dX7_check_78 : decode cX7_check 78 = .ok (.ireturn, 1) := by decide +kernel
theorem dX7_check_79 : decode cX7_check 79 = .ok (.aload_n 0, 1) := by decide +kernel
theorem dX7_check_80 : decode cX7_check 80 = .ok (.getfield 18, 3) := by decide +kernel
theorem dX7_check_83 : decode cX7_check 83 = .ok (.aload 4, 2) := by decide +kernel
theorem dX7_check_85 : decode cX7_check 85 = .ok (.iload 5, 2) := by decide +kernel
theorem dX7_check_87 : decode cX7_check 87 = .ok (.aload_n 0, 1) := by decide +kernel
theorem dX7_check_88 : decode cX7_check 88 = .ok (.getfield 49, 3) := by decide +kernel
theorem dX7_check_91 : decode cX7_check 91 = .ok (.iload_n 3, 1) := by decide +kernel
theorem dX7_check_92 : decode cX7_check 92 = .ok (.iconst 1, 1) := by decide +kernel
theorem dX7_check_93 : decode cX7_check 93 = .ok (.iload_n 2, 1) := by decide +kernel
theorem dX7_check_94 : decode cX7_check 94 = .ok (.ishl, 1) := by decide +kernel
theorem dX7_check_95 : decode cX7_check 95 = .ok (.invokevirtual 253, 3) := by decide +kernel
theorem dX7_check_98 : decode cX7_check 98 = .ok (.ireturn, 1) := by decide +kernel
theorem dX7_outside_0 : decode cX7_outside 0 = .ok (.iload_n 0, 1) := by decide +kernel
theorem dX7_outside_1 : decode cX7_outside 1 = .ok (.iload_n 1, 1) := by decide +kernel
theorem dX7_outside_2 : decode cX7_outside 2 = .ok (.if_icmp .lt 8, 3) := by decide +kernel
theorem dX7_outside_5 : decode cX7_outside 5 = .ok (.iload_n 0, 1) := by decide +kernel
theorem dX7_outside_6 : decode cX7_outside 6 = .ok (.iload_n 2, 1) := by decide +kernel
theorem dX7_outside_7 : decode cX7_outside 7 = .ok (.if_icmp .le 7, 3) := by decide +kernel
theorem dX7_outside_10 : decode cX7_outside 10 = .ok (.iconst 1, 1) := by decide +kernel
theorem dX7_outside_11 : decode cX7_outside 11 = .ok (.goto 4, 3) := by decide +kernel
theorem dX7_outside_14 : decode cX7_outside 14 = .ok (.iconst 0, 1) := by decide +kernel
theorem dX7_outside_15 : decode cX7_outside 15 = .ok (.ireturn, 1) := by decide +kernel
theorem dX7_junctionAt_0 : decode cX7_junctionAt 0 = .ok (.iload_n 1, 1) := by decide +kernel
theorem dX7_junctionAt_1 : decode cX7_junctionAt 1 = .ok (.iconst 0, 1) := by decide +kernel
theorem dX7_junctionAt_2 : decode cX7_junctionAt 2 = .ok (.aload_n 0, 1) := by decide +kernel
theorem dX7_junctionAt_3 : decode cX7_junctionAt 3 = .ok (.getfield 46, 3) := by decide +kernel
theorem dX7_junctionAt_6 : decode cX7_junctionAt 6 = .ok (.iconst 1, 1) := by decide +kernel
theorem dX7_junctionAt_7 : decode cX7_junctionAt 7 = .ok (.isub, 1) := by decide +kernel
theorem dX7_junctionAt_8 : decode cX7_junctionAt 8 = .ok (.invokestatic 64, 3) := by decide +kernel
theorem dX7_junctionAt_11 : decode cX7_junctionAt 11 = .ok (.ifCond .eq 7, 3) := by decide +kernel
theorem dX7_junctionAt_14 : decode cX7_junctionAt 14 = .ok (.aconst_null, 1) := by decide +kernel
theorem dX7_junctionAt_15 : decode cX7_junctionAt 15 = .ok (.goto 9, 3) := by decide +kernel
theorem dX7_junctionAt_18 : decode cX7_junctionAt 18 = .ok (.aload_n 0, 1) := by decide +kernel
theorem dX7_junctionAt_19 : decode cX7_junctionAt 19 = .ok (.getfield 11, 3) := by decide +kernel
theorem dX7_junctionAt_22 : decode cX7_junctionAt 22 = .ok (.iload_n 1, 1) := by decide +kernel
theorem dX7_junctionAt_23 : decode cX7_junctionAt 23 = .ok (.aaload, 1) := by decide +kernel
theorem dX7_junctionAt_24 : decode cX7_junctionAt 24 = .ok (.areturn, 1) := by decide +kernel
theorem dX7_streamAt_0 : decode cX7_streamAt 0 = .ok (.aload_n 0, 1) := by decide +kernel
theorem dX7_streamAt_1 : decode cX7_streamAt 1 = .ok (.iload_n 1, 1) := by decide +kernel
theorem dX7_streamAt_2 : decode cX7_streamAt 2 = .ok (.invokevirtual 53, 3) := by decide +kernel
theorem dX7_streamAt_5 : decode cX7_streamAt 5 = .ok (.astore_n 3, 1) := by decide +kernel
theorem dX7_streamAt_6 : decode cX7_streamAt 6 = .ok (.aload_n 3, 1) := by decide +kernel
theorem dX7_streamAt_7 : decode cX7_streamAt 7 = .ok (.ifnonnull 7, 3) := by decide +kernel
theorem dX7_streamAt_10 : decode cX7_streamAt 10 = .ok (.aconst_null, 1) := by decide +kernel
theorem dX7_streamAt_11 : decode cX7_streamAt 11 = .ok (.goto 8, 3) := by decide +kernel
theorem dX7_streamAt_14 : decode cX7_streamAt 14 = .ok (.aload_n 3, 1) := by decide +kernel
theorem dX7_streamAt_15 : decode cX7_streamAt 15 = .ok (.iload_n 2, 1) := by decide +kernel
theorem dX7_streamAt_16 : decode cX7_streamAt 16 = .ok (.invokevirtual 77, 3) := by decide +kernel
theorem dX7_streamAt_19 : decode cX7_streamAt 19 = .ok (.areturn, 1) := by decide +kernel
theorem dX7_begunAt_0 : decode cX7_begunAt 0 = .ok (.aload_n 0, 1) := by decide +kernel
theorem dX7_begunAt_1 : decode cX7_begunAt 1 = .ok (.iload_n 1, 1) := by decide +kernel
theorem dX7_begunAt_2 : decode cX7_begunAt 2 = .ok (.invokevirtual 53, 3) := by decide +kernel
theorem dX7_begunAt_5 : decode cX7_begunAt 5 = .ok (.astore_n 2, 1) := by decide +kernel
theorem dX7_begunAt_6 : decode cX7_begunAt 6 = .ok (.aload_n 2, 1) := by decide +kernel
theorem dX7_begunAt_7 : decode cX7_begunAt 7 = .ok (.ifnonnull 7, 3) := by decide +kernel
theorem dX7_begunAt_10 : decode cX7_begunAt 10 = .ok (.aconst_null, 1) := by decide +kernel
theorem dX7_begunAt_11 : decode cX7_begunAt 11 = .ok (.goto 7, 3) := by decide +kernel
theorem dX7_begunAt_14 : decode cX7_begunAt 14 = .ok (.aload_n 2, 1) := by decide +kernel
theorem dX7_begunAt_15 : decode cX7_begunAt 15 = .ok (.getfield 120, 3) := by decide +kernel
theorem dX7_begunAt_18 : decode cX7_begunAt 18 = .ok (.areturn, 1) := by decide +kernel
theorem dX7_takenAt_0 : decode cX7_takenAt 0 = .ok (.aload_n 0, 1) := by decide +kernel
theorem dX7_takenAt_1 : decode cX7_takenAt 1 = .ok (.iload_n 1, 1) := by decide +kernel
theorem dX7_takenAt_2 : decode cX7_takenAt 2 = .ok (.invokevirtual 53, 3) := by decide +kernel
theorem dX7_takenAt_5 : decode cX7_takenAt 5 = .ok (.astore_n 2, 1) := by decide +kernel
theorem dX7_takenAt_6 : decode cX7_takenAt 6 = .ok (.aload_n 2, 1) := by decide +kernel
