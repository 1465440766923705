theorem dX0_init_0 : decode cX0_init 0 = .ok (.aload_n 0, 1) := by decide +kernel
theorem dX0_init_1 : decode cX0_init 1 = .ok (.invokespecial 1, 3) := by decide +kernel
theorem dX0_init_4 : decode cX0_init 4 = .ok (.aload_n 0, 1) := by decide +kernel
theorem dX0_init_5 : decode cX0_init 5 = .ok (.aload_n 1, 1) := by decide +kernel
theorem dX0_init_6 : decode cX0_init 6 = .ok (.putfield 7, 3) := by decide +kernel
theorem dX0_init_9 : decode cX0_init 9 = .ok (.aload_n 0, 1) := by decide +kernel
theorem dX0_init_10 : decode cX0_init 10 = .ok (.iload_n 2, 1) := by decide +kernel
theorem dX0_init_11 : decode cX0_init 11 = .ok (.putfield 13, 3) := by decide +kernel
theorem dX0_init_14 : decode cX0_init 14 = .ok (.aload_n 0, 1) := by decide +kernel
theorem dX0_init_15 : decode cX0_init 15 = .ok (.iload_n 3, 1) := by decide +kernel
theorem dX0_init_16 : decode cX0_init 16 = .ok (.putfield 17, 3) := by decide +kernel
theorem dX0_init_19 : decode cX0_init 19 = .ok (.aload_n 0, 1) := by decide +kernel
theorem dX0_init_20 : decode cX0_init 20 = .ok (.iload 4, 2) := by decide +kernel
theorem dX0_init_22 : decode cX0_init 22 = .ok (.putfield 20, 3) := by decide +kernel
theorem dX0_init_25 : decode cX0_init 25 = .ok (.aload_n 0, 1) := by decide +kernel
theorem dX0_init_26 : decode cX0_init 26 = .ok (.iload 5, 2) := by decide +kernel
theorem dX0_init_28 : decode cX0_init 28 = .ok (.putfield 23, 3) := by decide +kernel
theorem dX0_init_31 : decode cX0_init 31 = .ok (.return_, 1) := by decide +kernel
theorem dX0_isSchool_0 : decode cX0_isSchool 0 = .ok (.aload_n 0, 1) := by decide +kernel
theorem dX0_isSchool_1 : decode cX0_isSchool 1 = .ok (.getfield 23, 3) := by decide +kernel
theorem dX0_isSchool_4 : decode cX0_isSchool 4 = .ok (.ifCond .le 7, 3) := by decide +kernel
theorem dX0_isSchool_7 : decode cX0_isSchool 7 = .ok (.iconst 1, 1) := by decide +kernel
theorem dX0_isSchool_8 : decode cX0_isSchool 8 = .ok (.goto 4, 3) := by decide +kernel
theorem dX0_isSchool_11 : decode cX0_isSchool 11 = .ok (.iconst 0, 1) := by decide +kernel
theorem dX0_isSchool_12 : decode cX0_isSchool 12 = .ok (.ireturn, 1) := by decide +kernel
theorem dX0_isThere_0 : decode cX0_isThere 0 = .ok (.iload_n 1, 1) := by decide +kernel
theorem dX0_isThere_1 : decode cX0_isThere 1 = .ok (.aload_n 0, 1) := by decide +kernel
theorem dX0_isThere_2 : decode cX0_isThere 2 = .ok (.getfield 17, 3) := by decide +kernel
theorem dX0_isThere_5 : decode cX0_isThere 5 = .ok (.if_icmp .lt 15, 3) := by decide +kernel
theorem dX0_isThere_8 : decode cX0_isThere 8 = .ok (.iload_n 1, 1) := by decide +kernel
theorem dX0_isThere_9 : decode cX0_isThere 9 = .ok (.aload_n 0, 1) := by decide +kernel
theorem dX0_isThere_10 : decode cX0_isThere 10 = .ok (.getfield 20, 3) := by decide +kernel
theorem dX0_isThere_13 : decode cX0_isThere 13 = .ok (.if_icmp .ge 7, 3) := by decide +kernel
theorem dX0_isThere_16 : decode cX0_isThere 16 = .ok (.iconst 1, 1) := by decide +kernel
theorem dX0_isThere_17 : decode cX0_isThere 17 = .ok (.goto 4, 3) := by decide +kernel
theorem dX0_isThere_20 : decode cX0_isThere 20 = .ok (.iconst 0, 1) := by decide +kernel
theorem dX0_isThere_21 : decode cX0_isThere 21 = .ok (.ireturn, 1) := by decide +kernel
theorem dX0_clashesWith_0 : decode cX0_clashesWith 0 = .ok (.aload_n 0, 1) := by decide +kernel
theorem dX0_clashesWith_1 : decode cX0_clashesWith 1 = .ok (.getfield 7, 3) := by decide +kernel
theorem dX0_clashesWith_4 : decode cX0_clashesWith 4 = .ok (.aload_n 1, 1) := by decide +kernel
theorem dX0_clashesWith_5 : decode cX0_clashesWith 5 = .ok (.getfield 7, 3) := by decide +kernel
theorem dX0_clashesWith_8 : decode cX0_clashesWith 8 = .ok (.if_acmp .ne 44, 3) := by decide +kernel
theorem dX0_clashesWith_11 : decode cX0_clashesWith 11 = .ok (.aload_n 0, 1) := by decide +kernel
theorem dX0_clashesWith_12 : decode cX0_clashesWith 12 = .ok (.getfield 13, 3) := by decide +kernel
theorem dX0_clashesWith_15 : decode cX0_clashesWith 15 = .ok (.aload_n 1, 1) := by decide +kernel
theorem dX0_clashesWith_16 : decode cX0_clashesWith 16 = .ok (.getfield 13, 3) := by decide +kernel
theorem dX0_clashesWith_19 : decode cX0_clashesWith 19 = .ok (.iand, 1) := by decide +kernel
theorem dX0_clashesWith_20 : decode cX0_clashesWith 20 = .ok (.ifCond .eq 32, 3) := by decide +kernel
theorem dX0_clashesWith_23 : decode cX0_clashesWith 23 = .ok (.aload_n 0, 1) := by decide +kernel
theorem dX0_clashesWith_24 : decode cX0_clashesWith 24 = .ok (.getfield 17, 3) := by decide +kernel
theorem dX0_clashesWith_27 : decode cX0_clashesWith 27 = .ok (.aload_n 1, 1) := by decide +kernel
theorem dX0_clashesWith_28 : decode cX0_clashesWith 28 = .ok (.getfield 17, 3) := by decide +kernel
theorem dX0_clashesWith_31 : decode cX0_clashesWith 31 = .ok (.invokestatic 26, 3) := by decide +kernel
theorem dX0_clashesWith_34 : decode cX0_clashesWith 34 = .ok (.aload_n 0, 1) := by decide +kernel
theorem dX0_clashesWith_35 : decode cX0_clashesWith 35 = .ok (.getfield 20, 3) := by decide +kernel
theorem dX0_clashesWith_38 : decode cX0_clashesWith 38 = .ok (.aload_n 1, 1) := by decide +kernel
theorem dX0_clashesWith_39 : decode cX0_clashesWith 39 = .ok (.getfield 20, 3) := by decide +kernel
theorem dX0_clashesWith_42 : decode cX0_clashesWith 42 = .ok (.invokestatic 32, 3) := by decide +kernel
theorem dX0_clashesWith_45 : decode cX0_clashesWith 45 = .ok (.if_icmp .ge 7, 3) := by decide +kernel
theorem dX0_clashesWith_48 : decode cX0_clashesWith 48 = .ok (.iconst 1, 1) := by decide +kernel
theorem dX0_clashesWith_49 : decode cX0_clashesWith 49 = .ok (.goto 4, 3) := by decide +kernel
theorem dX0_clashesWith_52 : decode cX0_clashesWith 52 = .ok (.iconst 0, 1) := by decide +kernel
theorem dX0_clashesWith_53 : decode cX0_clashesWith 53 = .ok (.ireturn, 1) := by decide +kernel
theorem dX0_pass_0 : decode cX0_pass 0 = .ok (.iload_n 1, 1) := by decide +kernel
theorem dX0_pass_1 : decode cX0_pass 1 = .ok (.ifCond .eq 16, 3) := by decide +kernel
theorem dX0_pass_4 : decode cX0_pass 4 = .ok (.aload_n 0, 1) := by decide +kernel
theorem dX0_pass_5 : decode cX0_pass 5 = .ok (.dup, 1) := by decide +kernel
theorem dX0_pass_6 : decode cX0_pass 6 = .ok (.getfield 35, 3) := by decide +kernel
theorem dX0_pass_9 : decode cX0_pass 9 = .ok (.iload_n 2, 1) := by decide +kernel
theorem dX0_pass_10 : decode cX0_pass 10 = .ok (.iadd, 1) := by decide +kernel
theorem dX0_pass_11 : decode cX0_pass 11 = .ok (.putfield 35, 3) := by decide +kernel
theorem dX0_pass_14 : decode cX0_pass 14 = .ok (.goto 13, 3) := by decide +kernel
theorem dX0_pass_17 : decode cX0_pass 17 = .ok (.aload_n 0, 1) := by decide +kernel
theorem dX0_pass_18 : decode cX0_pass 18 = .ok (.dup, 1) := by decide +kernel
theorem dX0_pass_19 : decode cX0_pass 19 = .ok (.getfield 38, 3) := by decide +kernel
theorem dX0_pass_22 : decode cX0_pass 22 = .ok (.iload_n 2, 1) := by decide +kernel
theorem dX0_pass_23 : decode cX0_pass 23 = .ok (.iadd, 1) := by decide +kernel
theorem dX0_pass_24 : decode cX0_pass 24 = .ok (.putfield 38, 3) := by decide +kernel
theorem dX0_pass_27 : decode cX0_pass 27 = .ok (.return_, 1) := by decide +kernel
theorem dX1_init_0 : decode cX1_init 0 = .ok (.aload_n 0, 1) := by decide +kernel
theorem dX1_init_1 : decode cX1_init 1 = .ok (.invokespecial 3, 3) := by decide +kernel
theorem dX1_init_4 : decode cX1_init 4 = .ok (.aload_n 0, 1) := by decide +kernel
theorem dX1_init_5 : decode cX1_init 5 = .ok (.iconst 1, 1) := by decide +kernel
theorem dX1_init_6 : decode cX1_init 6 = .ok (.putfield 9, 3) := by decide +kernel
theorem dX1_init_9 : decode cX1_init 9 = .ok (.return_, 1) := by decide +kernel
theorem dX1_turnEye_0 : decode cX1_turnEye 0 = .ok (.aload_n 0, 1) := by decide +kernel
theorem dX1_turnEye_1 : decode cX1_turnEye 1 = .ok (.iload_n 1, 1) := by decide +kernel
theorem dX1_turnEye_2 : decode cX1_turnEye 2 = .ok (.putfield 9, 3) := by decide +kernel
theorem dX1_turnEye_5 : decode cX1_turnEye 5 = .ok (.aload_n 0, 1) := by decide +kernel
theorem dX1_turnEye_6 : decode cX1_turnEye 6 = .ok (.iconst 1, 1) := by decide +kernel
theorem dX1_turnEye_7 : decode cX1_turnEye 7 = .ok (.putfield 15, 3) := by decide +kernel
theorem dX1_turnEye_10 : decode cX1_turnEye 10 = .ok (.return_, 1) := by decide +kernel
theorem dX1_leastNow_0 : decode cX1_leastNow 0 = .ok (.iconst 0, 1) := by decide +kernel
theorem dX1_leastNow_1 : decode cX1_leastNow 1 = .ok (.aload_n 0, 1) := by decide +kernel
theorem dX1_leastNow_2 : decode cX1_leastNow 2 = .ok (.getfield 15, 3) := by decide +kernel
theorem dX1_leastNow_5 : decode cX1_leastNow 5 = .ok (.ifCond .eq 12, 3) := by decide +kernel
theorem dX1_leastNow_8 : decode cX1_leastNow 8 = .ok (.aload_n 0, 1) := by decide +kernel
theorem dX1_leastNow_9 : decode cX1_leastNow 9 = .ok (.getfield 18, 3) := by decide +kernel
theorem dX1_leastNow_12 : decode cX1_leastNow 12 = .ok (.iconst 3, 1) := by decide +kernel
theorem dX1_leastNow_13 : decode cX1_leastNow 13 = .ok (.isub, 1) := by decide +kernel
theorem dX1_leastNow_14 : decode cX1_leastNow 14 = .ok (.goto 12, 3) := by decide +kernel
theorem dX1_leastNow_17 : decode cX1_leastNow 17 = .ok (.aload_n 0, 1) := by decide +kernel
theorem dX1_leastNow_18 : decode cX1_leastNow 18 = .ok (.getfield 18, 3) := by decide +kernel
theorem dX1_leastNow_21 : decode cX1_leastNow 21 = .ok (.aload_n 0, 1) := by decide +kernel
theorem dX1_leastNow_22 : decode cX1_leastNow 22 = .ok (.getfield 22, 3) := by decide +kernel
theorem dX1_leastNow_25 : decode cX1_leastNow 25 = .ok (.iadd, 1) := by decide +kernel
theorem dX1_leastNow_26 : decode cX1_leastNow 26 = .ok (.invokestatic 25, 3) := by decide +kernel
theorem dX1_leastNow_29 : decode cX1_leastNow 29 = .ok (.ireturn, 1) := by decide +kernel
theorem dX1_mostNow_0 : decode cX1_mostNow 0 = .ok (.aload_n 0, 1) := by decide +kernel
theorem dX1_mostNow_1 : decode cX1_mostNow 1 = .ok (.getfield 15, 3) := by decide +kernel
theorem dX1_mostNow_4 : decode cX1_mostNow 4 = .ok (.ifCond .eq 12, 3) := by decide +kernel
theorem dX1_mostNow_7 : decode cX1_mostNow 7 = .ok (.aload_n 0, 1) := by decide +kernel
theorem dX1_mostNow_8 : decode cX1_mostNow 8 = .ok (.getfield 31, 3) := by decide +kernel
theorem dX1_mostNow_11 : decode cX1_mostNow 11 = .ok (.iconst 3, 1) := by decide +kernel
theorem dX1_mostNow_12 : decode cX1_mostNow 12 = .ok (.iadd, 1) := by decide +kernel
theorem dX1_mostNow_13 : decode cX1_mostNow 13 = .ok (.goto 12, 3) := by decide +kernel
theorem dX1_mostNow_16 : decode cX1_mostNow 16 = .ok (.aload_n 0, 1) := by decide +kernel
theorem dX1_mostNow_17 : decode cX1_mostNow 17 = .ok (.getfield 31, 3) := by decide +kernel
theorem dX1_mostNow_20 : decode cX1_mostNow 20 = .ok (.aload_n 0, 1) := by decide +kernel
theorem dX1_mostNow_21 : decode cX1_mostNow 21 = .ok (.getfield 22, 3) := by decide +kernel
theorem dX1_mostNow_24 : decode cX1_mostNow 24 = .ok (.iadd, 1) := by decide +kernel
theorem dX1_mostNow_25 : decode cX1_mostNow 25 = .ok (.ireturn, 1) := by decide +kernel
theorem dX1_startFrom_0 : decode cX1_startFrom 0 = .ok (.aload_n 0, 1) := by decide +kernel
theorem dX1_startFrom_1 : decode cX1_startFrom 1 = .ok (.iload_n 1, 1) := by decide +kernel
theorem dX1_startFrom_2 : decode cX1_startFrom 2 = .ok (.putfield 18, 3) := by decide +kernel
theorem dX1_startFrom_5 : decode cX1_startFrom 5 = .ok (.aload_n 0, 1) := by decide +kernel
theorem dX1_startFrom_6 : decode cX1_startFrom 6 = .ok (.iload_n 2, 1) := by decide +kernel
theorem dX1_startFrom_7 : decode cX1_startFrom 7 = .ok (.putfield 31, 3) := by decide +kernel
theorem dX1_startFrom_10 : decode cX1_startFrom 10 = .ok (.aload_n 0, 1) := by decide +kernel
theorem dX1_startFrom_11 : decode cX1_startFrom 11 = .ok (.iconst 0, 1) := by decide +kernel
theorem dX1_startFrom_12 : decode cX1_startFrom 12 = .ok (.putfield 22, 3) := by decide +kernel
theorem dX1_startFrom_15 : decode cX1_startFrom 15 = .ok (.aload_n 0, 1) := by decide +kernel
theorem dX1_startFrom_16 : decode cX1_startFrom 16 = .ok (.aload_n 0, 1) := by decide +kernel
theorem dX1_startFrom_17 : decode cX1_startFrom 17 = .ok (.getfield 9, 3) := by decide +kernel
theorem dX1_startFrom_20 : decode cX1_startFrom 20 = .ok (.ifCond .ne 7, 3) := by decide +kernel
theorem dX1_startFrom_23 : decode cX1_startFrom 23 = .ok (.iconst 1, 1) := by decide +kernel
theorem dX1_startFrom_24 : decode cX1_startFrom 24 = .ok (.goto 4, 3) := by decide +kernel
theorem dX1_startFrom_27 : decode cX1_startFrom 27 = .ok (.iconst 0, 1) := by decide +kernel
theorem dX1_startFrom_28 : decode cX1_startFrom 28 = .ok (.putfield 15, 3) := by decide +kernel
theorem dX1_startFrom_31 : decode cX1_startFrom 31 = .ok (.return_, 1) := by decide +kernel
theorem dX1_endMinute_0 : decode cX1_endMinute 0 = .ok (.aload_n 0, 1) := by decide +kernel
theorem dX1_endMinute_1 : decode cX1_endMinute 1 = .ok (.aload_n 0, 1) := by decide +kernel
theorem dX1_endMinute_2 : decode cX1_endMinute 2 = .ok (.invokevirtual 34, 3) := by decide +kernel
theorem dX1_endMinute_5 : decode cX1_endMinute 5 = .ok (.aload_n 0, 1) := by decide +kernel
theorem dX1_endMinute_6 : decode cX1_endMinute 6 = .ok (.invokevirtual 38, 3) := by decide +kernel
theorem dX1_endMinute_9 : decode cX1_endMinute 9 = .ok (.invokevirtual 41, 3) := by decide +kernel
theorem dX1_endMinute_12 : decode cX1_endMinute 12 = .ok (.aload_n 0, 1) := by decide +kernel
theorem dX1_endMinute_13 : decode cX1_endMinute 13 = .ok (.iconst 0, 1) := by decide +kernel
theorem dX1_endMinute_14 : decode cX1_endMinute 14 = .ok (.putfield 45, 3) := by decide +kernel
theorem dX1_endMinute_17 : decode cX1_endMinute 17 = .ok (.aload_n 0, 1) := by decide +kernel
theorem dX1_endMinute_18 : decode cX1_endMinute 18 = .ok (.iconst 0, 1) := by decide +kernel
theorem dX1_endMinute_19 : decode cX1_endMinute 19 = .ok (.putfield 48, 3) := by decide +kernel
theorem dX1_endMinute_22 : decode cX1_endMinute 22 = .ok (.return_, 1) := by decide +kernel
theorem dX2_init_0 : decode cX2_init 0 = .ok (.aload_n 0, 1) := by decide +kernel
theorem dX2_init_1 : decode cX2_init 1 = .ok (.invokespecial 3, 3) := by decide +kernel
theorem dX2_init_4 : decode cX2_init 4 = .ok (.aload_n 0, 1) := by decide +kernel
theorem dX2_init_5 : decode cX2_init 5 = .ok (.bipush 30, 2) := by decide +kernel
theorem dX2_init_7 : decode cX2_init 7 = .ok (.newarray .int, 2) := by decide +kernel
theorem dX2_init_9 : decode cX2_init 9 = .ok (.putfield 9, 3) := by decide +kernel
theorem dX2_init_12 : decode cX2_init 12 = .ok (.aload_n 0, 1) := by decide +kernel
theorem dX2_init_13 : decode cX2_init 13 = .ok (.bipush 30, 2) := by decide +kernel
theorem dX2_init_15 : decode cX2_init 15 = .ok (.newarray .boolean, 2) := by decide +kernel
theorem dX2_init_17 : decode cX2_init 17 = .ok (.putfield 15, 3) := by decide +kernel
theorem dX2_init_20 : decode cX2_init 20 = .ok (.iconst 0, 1) := by decide +kernel
theorem dX2_init_21 : decode cX2_init 21 = .ok (.istore_n 1, 1) := by decide +kernel
theorem dX2_init_22 : decode cX2_init 22 = .ok (.iload_n 1, 1) := by decide +kernel
theorem dX2_init_23 : decode cX2_init 23 = .ok (.bipush 30, 2) := by decide +kernel
theorem dX2_init_25 : decode cX2_init 25 = .ok (.if_icmp .ge 16, 3) := by decide +kernel
theorem dX2_init_28 : decode cX2_init 28 = .ok (.aload_n 0, 1) := by decide +kernel
theorem dX2_init_29 : decode cX2_init 29 = .ok (.getfield 9, 3) := by decide +kernel
theorem dX2_init_32 : decode cX2_init 32 = .ok (.iload_n 1, 1) := by decide +kernel
theorem dX2_init_33 : decode cX2_init 33 = .ok (.iconst (-1), 1) := by decide +kernel
theorem dX2_init_34 : decode cX2_init 34 = .ok (.iastore, 1) := by decide +kernel
theorem dX2_init_35 : decode cX2_init 35 = .ok (.iinc 1 1, 3) := by decide +kernel
theorem dX2_init_38 : decode cX2_init 38 = .ok (.goto (-16), 3) := by decide +kernel
theorem dX2_init_41 : decode cX2_init 41 = .ok (.return_, 1) := by decide +kernel
theorem dX2_isLocker_0 : decode cX2_isLocker 0 = .ok (.iload_n 0, 1) := by decide +kernel
theorem dX2_isLocker_1 : decode cX2_isLocker 1 = .ok (.ifCond .lt 13, 3) := by decide +kernel
theorem dX2_isLocker_4 : decode cX2_isLocker 4 = .ok (.iload_n 0, 1) := by decide +kernel
theorem dX2_isLocker_5 : decode cX2_isLocker 5 = .ok (.bipush 30, 2) := by decide +kernel
theorem dX2_isLocker_7 : decode cX2_isLocker 7 = .ok (.if_icmp .ge 7, 3) := by decide +kernel
theorem dX2_isLocker_10 : decode cX2_isLocker 10 = .ok (.iconst 1, 1) := by decide +kernel
theorem dX2_isLocker_11 : decode cX2_isLocker 11 = .ok (.goto 4, 3) := by decide +kernel
theorem dX2_isLocker_14 : decode cX2_isLocker 14 = .ok (.iconst 0, 1) := by decide +kernel
theorem dX2_isLocker_15 : decode cX2_isLocker 15 = .ok (.ireturn, 1) := by decide +kernel
theorem dX2_takeLowest_0 : decode cX2_takeLowest 0 = .ok (.iconst 0, 1) := by decide +kernel
theorem dX2_takeLowest_1 : decode cX2_takeLowest 1 = .ok (.istore_n 2, 1) := by decide +kernel
theorem dX2_takeLowest_2 : decode cX2_takeLowest 2 = .ok (.iload_n 2, 1) := by decide +kernel
theorem dX2_takeLowest_3 : decode cX2_takeLowest 3 = .ok (.bipush 30, 2) := by decide +kernel
theorem dX2_takeLowest_5 : decode cX2_takeLowest 5 = .ok (.if_icmp .ge 28, 3) := by decide +kernel
theorem dX2_takeLowest_8 : decode cX2_takeLowest 8 = .ok (.aload_n 0, 1) := by decide +kernel
theorem dX2_takeLowest_9 : decode cX2_takeLowest 9 = .ok (.getfield 9, 3) := by decide +kernel
theorem dX2_takeLowest_12 : decode cX2_takeLowest 12 = .ok (.iload_n 2, 1) := by decide +kernel
theorem dX2_takeLowest_13 : decode cX2_takeLowest 13 = .ok (.iaload, 1) := by decide +kernel
theorem dX2_takeLowest_14 : decode cX2_takeLowest 14 = .ok (.iconst (-1), 1) := by decide +kernel
theorem dX2_takeLowest_15 : decode cX2_takeLowest 15 = .ok (.if_icmp .ne 12, 3) := by decide +kernel
theorem dX2_takeLowest_18 : decode cX2_takeLowest 18 = .ok (.aload_n 0, 1) := by decide +kernel
theorem dX2_takeLowest_19 : decode cX2_takeLowest 19 = .ok (.getfield 9, 3) := by decide +kernel
theorem dX2_takeLowest_22 : decode cX2_takeLowest 22 = .ok (.iload_n 2, 1) := by decide +kernel
theorem dX2_takeLowest_23 : decode cX2_takeLowest 23 = .ok (.iload_n 1, 1) := by decide +kernel
theorem dX2_takeLowest_24 : decode cX2_takeLowest 24 = .ok (.iastore, 1) := by decide +kernel
theorem dX2_takeLowest_25 : decode cX2_takeLowest 25 = .ok (.iload_n 2, 1) := by decide +kernel
theorem dX2_takeLowest_26 : decode cX2_takeLowest 26 = .ok (.ireturn, 1) := by decide +kernel
theorem dX2_takeLowest_27 : decode cX2_takeLowest 27 = .ok (.iinc 2 1, 3) := by decide +kernel
theorem dX2_takeLowest_30 : decode cX2_takeLowest 30 = .ok (.goto (-28), 3) := by decide +kernel
theorem dX2_takeLowest_33 : decode cX2_takeLowest 33 = .ok (.iconst (-1), 1) := by decide +kernel
theorem dX2_takeLowest_34 : decode cX2_takeLowest 34 = .ok (.ireturn, 1) := by decide +kernel
theorem dX2_hangKey_0 : decode cX2_hangKey 0 = .ok (.iload_n 1, 1) := by decide +kernel
theorem dX2_hangKey_1 : decode cX2_hangKey 1 = .ok (.invokestatic 19, 3) := by decide +kernel
theorem dX2_hangKey_4 : decode cX2_hangKey 4 = .ok (.ifCond .eq 17, 3) := by decide +kernel
theorem dX2_hangKey_7 : decode cX2_hangKey 7 = .ok (.aload_n 0, 1) := by decide +kernel
theorem dX2_hangKey_8 : decode cX2_hangKey 8 = .ok (.getfield 9, 3) := by decide +kernel
theorem dX2_hangKey_11 : decode cX2_hangKey 11 = .ok (.iload_n 1, 1) := by decide +kernel
theorem dX2_hangKey_12 : decode cX2_hangKey 12 = .ok (.iconst (-1), 1) := by decide +kernel
theorem dX2_hangKey_13 : decode cX2_hangKey 13 = .ok (.iastore, 1) := by decide +kernel
theorem dX2_hangKey_14 : decode cX2_hangKey 14 = .ok (.aload_n 0, 1) := by decide +kernel
theorem dX2_hangKey_15 : decode cX2_hangKey 15 = .ok (.getfield 15, 3) := by decide +kernel
theorem dX2_hangKey_18 : decode cX2_hangKey 18 = .ok (.iload_n 1, 1) := by decide +kernel
theorem dX2_hangKey_19 : decode cX2_hangKey 19 = .ok (.iconst 0, 1) := by decide +kernel
theorem dX2_hangKey_20 : decode cX2_hangKey 20 = .ok (.bastore, 1) := by decide +kernel
theorem dX2_hangKey_21 : decode cX2_hangKey 21 = .ok (.return_, 1) := by decide +kernel
theorem dX2_lose_0 : decode cX2_lose 0 = .ok (.iload_n 1, 1) := by decide +kernel
theorem dX2_lose_1 : decode cX2_lose 1 = .ok (.invokestatic 19, 3) := by decide +kernel
theorem dX2_lose_4 : decode cX2_lose 4 = .ok (.ifCond .eq 10, 3) := by decide +kernel
theorem dX2_lose_7 : decode cX2_lose 7 = .ok (.aload_n 0, 1) := by decide +kernel
theorem dX2_lose_8 : decode cX2_lose 8 = .ok (.getfield 15, 3) := by decide +kernel
theorem dX2_lose_11 : decode cX2_lose 11 = .ok (.iload_n 1, 1) := by decide +kernel
theorem dX2_lose_12 : decode cX2_lose 12 = .ok (.iconst 1, 1) := by decide +kernel
theorem dX2_lose_13 : decode cX2_lose 13 = .ok (.bastore, 1) := by decide +kernel
theorem dX2_lose_14 : decode cX2_lose 14 = .ok (.return_, 1) := by decide +kernel
theorem dX2_lostOnes_0 : decode cX2_lostOnes 0 = .ok (.iconst 0, 1) := by decide +kernel
theorem dX2_lostOnes_1 : decode cX2_lostOnes 1 = .ok (.istore_n 1, 1) := by decide +kernel
theorem dX2_lostOnes_2 : decode cX2_lostOnes 2 = .ok (.iconst 0, 1) := by decide +kernel
theorem dX2_lostOnes_3 : decode cX2_lostOnes 3 = .ok (.istore_n 2, 1) := by decide +kernel
theorem dX2_lostOnes_4 : decode cX2_lostOnes 4 = .ok (.iload_n 2, 1) := by decide +kernel
theorem dX2_lostOnes_5 : decode cX2_lostOnes 5 = .ok (.bipush 30, 2) := by decide +kernel
theorem dX2_lostOnes_7 : decode cX2_lostOnes 7 = .ok (.if_icmp .ge 26, 3) := by decide +kernel
theorem dX2_lostOnes_10 : decode cX2_lostOnes 10 = .ok (.iload_n 1, 1) := by decide +kernel
theorem dX2_lostOnes_11 : decode cX2_lostOnes 11 = .ok (.aload_n 0, 1) := by decide +kernel
theorem dX2_lostOnes_12 : decode cX2_lostOnes 12 = .ok (.getfield 15, 3) := by decide +kernel
theorem dX2_lostOnes_15 : decode cX2_lostOnes 15 = .ok (.iload_n 2, 1) := by decide +kernel
theorem dX2_lostOnes_16 : decode cX2_lostOnes 16 = .ok (.baload, 1) := by decide +kernel
theorem dX2_lostOnes_17 : decode cX2_lostOnes 17 = .ok (.ifCond .eq 7, 3) := by decide +kernel
theorem dX2_lostOnes_20 : decode cX2_lostOnes 20 = .ok (.iconst 1, 1) := by decide +kernel
theorem dX2_lostOnes_21 : decode cX2_lostOnes 21 = .ok (.goto 4, 3) := by decide +kernel
theorem dX2_lostOnes_24 : decode cX2_lostOnes 24 = .ok (.iconst 0, 1) := by decide +kernel
theorem dX2_lostOnes_25 : decode cX2_lostOnes 25 = .ok (.iadd, 1) := by decide +kernel
theorem dX2_lostOnes_26 : decode cX2_lostOnes 26 = .ok (.istore_n 1, 1) := by decide +kernel
theorem dX2_lostOnes_27 : decode cX2_lostOnes 27 = .ok (.iinc 2 1, 3) := by decide +kernel
theorem dX2_lostOnes_30 : decode cX2_lostOnes 30 = .ok (.goto (-26), 3) := by decide +kernel
theorem dX2_lostOnes_33 : decode cX2_lostOnes 33 = .ok (.iload_n 1, 1) := by decide +kernel
theorem dX2_lostOnes_34 : decode cX2_lostOnes 34 = .ok (.ireturn, 1) := by decide +kernel
theorem dX2_keysOut_0 : decode cX2_keysOut 0 = .ok (.iconst 0, 1) := by decide +kernel
theorem dX2_keysOut_1 : decode cX2_keysOut 1 = .ok (.istore_n 1, 1) := by decide +kernel
theorem dX2_keysOut_2 : decode cX2_keysOut 2 = .ok (.iconst 0, 1) := by decide +kernel
theorem dX2_keysOut_3 : decode cX2_keysOut 3 = .ok (.istore_n 2, 1) := by decide +kernel
theorem dX2_keysOut_4 : decode cX2_keysOut 4 = .ok (.iload_n 2, 1) := by decide +kernel
theorem dX2_keysOut_5 : decode cX2_keysOut 5 = .ok (.bipush 30, 2) := by decide +kernel
theorem dX2_keysOut_7 : decode cX2_keysOut 7 = .ok (.if_icmp .ge 36, 3) := by decide +kernel
theorem dX2_keysOut_10 : decode cX2_keysOut 10 = .ok (.iload_n 1, 1) := by decide +kernel
theorem dX2_keysOut_11 : decode cX2_keysOut 11 = .ok (.aload_n 0, 1) := by decide +kernel
theorem dX2_keysOut_12 : decode cX2_keysOut 12 = .ok (.getfield 9, 3) := by decide +kernel
theorem dX2_keysOut_15 : decode cX2_keysOut 15 = .ok (.iload_n 2, 1) := by decide +kernel
theorem dX2_keysOut_16 : decode cX2_keysOut 16 = .ok (.iaload, 1) := by decide +kernel
theorem dX2_keysOut_17 : decode cX2_keysOut 17 = .ok (.iconst (-1), 1) := by decide +kernel
theorem dX2_keysOut_18 : decode cX2_keysOut 18 = .ok (.if_icmp .eq 16, 3) := by decide +kernel
theorem dX2_keysOut_21 : decode cX2_keysOut 21 = .ok (.aload_n 0, 1) := by decide +kernel
theorem dX2_keysOut_22 : decode cX2_keysOut 22 = .ok (.getfield 15, 3) := by decide +kernel
theorem dX2_keysOut_25 : decode cX2_keysOut 25 = .ok (.iload_n 2, 1) := by decide +kernel
theorem dX2_keysOut_26 : decode cX2_keysOut 26 = .ok (.baload, 1) := by decide +kernel
theorem dX2_keysOut_27 : decode cX2_keysOut 27 = .ok (.ifCond .ne 7, 3) := by decide +kernel
theorem dX2_keysOut_30 : decode cX2_keysOut 30 = .ok (.iconst 1, 1) := by decide +kernel
theorem dX2_keysOut_31 : decode cX2_keysOut 31 = .ok (.goto 4, 3) := by decide +kernel
theorem dX2_keysOut_34 : decode cX2_keysOut 34 = .ok (.iconst 0, 1) := by decide +kernel
theorem dX2_keysOut_35 : decode cX2_keysOut 35 = .ok (.iadd, 1) := by decide +kernel
theorem dX2_keysOut_36 : decode cX2_keysOut 36 = .ok (.istore_n 1, 1) := by decide +kernel
theorem dX2_keysOut_37 : decode cX2_keysOut 37 = .ok (.iinc 2 1, 3) := by decide +kernel
theorem dX2_keysOut_40 : decode cX2_keysOut 40 = .ok (.goto (-36), 3) := by decide +kernel
theorem dX2_keysOut_43 : decode cX2_keysOut 43 = .ok (.iload_n 1, 1) := by decide +kernel
theorem dX2_keysOut_44 : decode cX2_keysOut 44 = .ok (.ireturn, 1) := by decide +kernel
theorem dX3_init_0 : decode cX3_init 0 = .ok (.aload_n 0, 1) := by decide +kernel
theorem dX3_init_1 : decode cX3_init 1 = .ok (.invokespecial 3, 3) := by decide +kernel
theorem dX3_init_4 : decode cX3_init 4 = .ok (.aload_n 0, 1) := by decide +kernel
theorem dX3_init_5 : decode cX3_init 5 = .ok (.iconst 3, 1) := by decide +kernel
theorem dX3_init_6 : decode cX3_init 6 = .ok (.anewarray 9, 3) := by decide +kernel
theorem dX3_init_9 : decode cX3_init 9 = .ok (.putfield 11, 3) := by decide +kernel
theorem dX3_init_12 : decode cX3_init 12 = .ok (.aload_n 0, 1) := by decide +kernel
theorem dX3_init_13 : decode cX3_init 13 = .ok (.new 17, 3) := by decide +kernel
theorem dX3_init_16 : decode cX3_init 16 = .ok (.dup, 1) := by decide +kernel
theorem dX3_init_17 : decode cX3_init 17 = .ok (.invokespecial 19, 3) := by decide +kernel
theorem dX3_init_20 : decode cX3_init 20 = .ok (.putfield 20, 3) := by decide +kernel
theorem dX3_init_23 : decode cX3_init 23 = .ok (.aload_n 0, 1) := by decide +kernel
theorem dX3_init_24 : decode cX3_init 24 = .ok (.iload_n 1, 1) := by decide +kernel
theorem dX3_init_25 : decode cX3_init 25 = .ok (.putfield 24, 3) := by decide +kernel
theorem dX3_init_28 : decode cX3_init 28 = .ok (.aload_n 0, 1) := by decide +kernel
theorem dX3_init_29 : decode cX3_init 29 = .ok (.iload_n 2, 1) := by decide +kernel
theorem dX3_init_30 : decode cX3_init 30 = .ok (.putfield 28, 3) := by decide +kernel
theorem dX3_init_33 : decode cX3_init 33 = .ok (.aload_n 0, 1) := by decide +kernel
theorem dX3_init_34 : decode cX3_init 34 = .ok (.iload_n 3, 1) := by decide +kernel
theorem dX3_init_35 : decode cX3_init 35 = .ok (.putfield 31, 3) := by decide +kernel
theorem dX3_init_38 : decode cX3_init 38 = .ok (.aload_n 0, 1) := by decide +kernel
theorem dX3_init_39 : decode cX3_init 39 = .ok (.iconst 0, 1) := by decide +kernel
theorem dX3_init_40 : decode cX3_init 40 = .ok (.iload 4, 2) := by decide +kernel
theorem dX3_init_42 : decode cX3_init 42 = .ok (.invokestatic 34, 3) := by decide +kernel
theorem dX3_init_45 : decode cX3_init 45 = .ok (.anewarray 40, 3) := by decide +kernel
theorem dX3_init_48 : decode cX3_init 48 = .ok (.putfield 42, 3) := by decide +kernel
theorem dX3_init_51 : decode cX3_init 51 = .ok (.iconst 0, 1) := by decide +kernel
theorem dX3_init_52 : decode cX3_init 52 = .ok (.istore 5, 2) := by decide +kernel
theorem dX3_init_54 : decode cX3_init 54 = .ok (.iload 5, 2) := by decide +kernel
theorem dX3_init_56 : decode cX3_init 56 = .ok (.aload_n 0, 1) := by decide +kernel
theorem dX3_init_57 : decode cX3_init 57 = .ok (.getfield 42, 3) := by decide +kernel
theorem dX3_init_60 : decode cX3_init 60 = .ok (.arraylength, 1) := by decide +kernel
theorem dX3_init_61 : decode cX3_init 61 = .ok (.if_icmp .ge 23, 3) := by decide +kernel
theorem dX3_init_64 : decode cX3_init 64 = .ok (.aload_n 0, 1) := by decide +kernel
theorem dX3_init_65 : decode cX3_init 65 = .ok (.getfield 42, 3) := by decide +kernel
theorem dX3_init_68 : decode cX3_init 68 = .ok (.iload 5, 2) := by decide +kernel
theorem dX3_init_70 : decode cX3_init 70 = .ok (.new 40, 3) := by decide +kernel
theorem dX3_init_73 : decode cX3_init 73 = .ok (.dup, 1) := by decide +kernel
theorem dX3_init_74 : decode cX3_init 74 = .ok (.invokespecial 46, 3) := by decide +kernel
theorem dX3_init_77 : decode cX3_init 77 = .ok (.aastore, 1) := by decide +kernel
theorem dX3_init_78 : decode cX3_init 78 = .ok (.iinc 5 1, 3) := by decide +kernel
theorem dX3_init_81 : decode cX3_init 81 = .ok (.goto (-27), 3) := by decide +kernel
theorem dX3_init_84 : decode cX3_init 84 = .ok (.iconst 0, 1) := by decide +kernel
theorem dX3_init_85 : decode cX3_init 85 = .ok (.istore 5, 2) := by decide +kernel
theorem dX3_init_87 : decode cX3_init 87 = .ok (.iload 5, 2) := by decide +kernel
theorem dX3_init_89 : decode cX3_init 89 = .ok (.iconst 3, 1) := by decide +kernel
theorem dX3_init_90 : decode cX3_init 90 = .ok (.if_icmp .ge 23, 3) := by decide +kernel
theorem dX3_init_93 : decode cX3_init 93 = .ok (.aload_n 0, 1) := by decide +kernel
theorem dX3_init_94 : decode cX3_init 94 = .ok (.getfield 11, 3) := by decide +kernel
theorem dX3_init_97 : decode cX3_init 97 = .ok (.iload 5, 2) := by decide +kernel
theorem dX3_init_99 : decode cX3_init 99 = .ok (.new 9, 3) := by decide +kernel
theorem dX3_init_102 : decode cX3_init 102 = .ok (.dup, 1) := by decide +kernel
theorem dX3_init_103 : decode cX3_init 103 = .ok (.invokespecial 47, 3) := by decide +kernel
theorem dX3_init_106 : decode cX3_init 106 = .ok (.aastore, 1) := by decide +kernel
theorem dX3_init_107 : decode cX3_init 107 = .ok (.iinc 5 1, 3) := by decide +kernel
theorem dX3_init_110 : decode cX3_init 110 = .ok (.goto (-23), 3) := by decide +kernel
theorem dX3_init_113 : decode cX3_init 113 = .ok (.return_, 1) := by decide +kernel
theorem dX3_hasLanes_0 : decode cX3_hasLanes 0 = .ok (.iload_n 1, 1) := by decide +kernel
theorem dX3_hasLanes_1 : decode cX3_hasLanes 1 = .ok (.ifCond .le 17, 3) := by decide +kernel
theorem dX3_hasLanes_4 : decode cX3_hasLanes 4 = .ok (.iload_n 1, 1) := by decide +kernel
theorem dX3_hasLanes_5 : decode cX3_hasLanes 5 = .ok (.iconst 1, 1) := by decide +kernel
theorem dX3_hasLanes_6 : decode cX3_hasLanes 6 = .ok (.aload_n 0, 1) := by decide +kernel
theorem dX3_hasLanes_7 : decode cX3_hasLanes 7 = .ok (.getfield 31, 3) := by decide +kernel
theorem dX3_hasLanes_10 : decode cX3_hasLanes 10 = .ok (.ishl, 1) := by decide +kernel
theorem dX3_hasLanes_11 : decode cX3_hasLanes 11 = .ok (.if_icmp .ge 7, 3) := by decide +kernel
theorem dX3_hasLanes_14 : decode cX3_hasLanes 14 = .ok (.iconst 1, 1) := by decide +kernel
theorem dX3_hasLanes_15 : decode cX3_hasLanes 15 = .ok (.goto 4, 3) := by decide +kernel
theorem dX3_hasLanes_18 : decode cX3_hasLanes 18 = .ok (.iconst 0, 1) := by decide +kernel
theorem dX3_hasLanes_19 : decode cX3_hasLanes 19 = .ok (.ireturn, 1) := by decide +kernel
theorem dX3_letIn_0 : decode cX3_letIn 0 = .ok (.aload_n 0, 1) := by decide +kernel
theorem dX3_letIn_1 : decode cX3_letIn 1 = .ok (.dup, 1) := by decide +kernel
theorem dX3_letIn_2 : decode cX3_letIn 2 = .ok (.getfield 48, 3) := by decide +kernel
theorem dX3_letIn_5 : decode cX3_letIn 5 = .ok (.iconst 1, 1) := by decide +kernel
theorem dX3_letIn_6 : decode cX3_letIn 6 = .ok (.iadd, 1) := by decide +kernel
theorem dX3_letIn_7 : decode cX3_letIn 7 = .ok (.putfield 48, 3) := by decide +kernel
theorem dX3_letIn_10 : decode cX3_letIn 10 = .ok (.aload_n 0, 1) := by decide +kernel
theorem dX3_letIn_11 : decode cX3_letIn 11 = .ok (.dup, 1) := by decide +kernel
theorem dX3_letIn_12 : decode cX3_letIn 12 = .ok (.getfield 51, 3) := by decide +kernel
theorem dX3_letIn_15 : decode cX3_letIn 15 = .ok (.aload_n 1, 1) := by decide +kernel
theorem dX3_letIn_16 : decode cX3_letIn 16 = .ok (.getfield 54, 3) := by decide +kernel
theorem dX3_letIn_19 : decode cX3_letIn 19 = .ok (.iconst 5, 1) := by decide +kernel
theorem dX3_letIn_20 : decode cX3_letIn 20 = .ok (.if_icmp .ne 7, 3) := by decide +kernel
theorem dX3_letIn_23 : decode cX3_letIn 23 = .ok (.iconst 1, 1) := by decide +kernel
theorem dX3_letIn_24 : decode cX3_letIn 24 = .ok (.goto 4, 3) := by decide +kernel
theorem dX3_letIn_27 : decode cX3_letIn 27 = .ok (.iconst 0, 1) := by decide +kernel
theorem dX3_letIn_28 : decode cX3_letIn 28 = .ok (.iadd, 1) := by decide +kernel
theorem dX3_letIn_29 : decode cX3_letIn 29 = .ok (.putfield 51, 3) := by decide +kernel
theorem dX3_letIn_32 : decode cX3_letIn 32 = .ok (.aload_n 0, 1) := by decide +kernel
theorem dX3_letIn_33 : decode cX3_letIn 33 = .ok (.getfield 20, 3) := by decide +kernel
theorem dX3_letIn_36 : decode cX3_letIn 36 = .ok (.dup, 1) := by decide +kernel
theorem dX3_letIn_37 : decode cX3_letIn 37 = .ok (.getfield 59, 3) := by decide +kernel
theorem dX3_letIn_40 : decode cX3_letIn 40 = .ok (.iconst 1, 1) := by decide +kernel
theorem dX3_letIn_41 : decode cX3_letIn 41 = .ok (.iadd, 1) := by decide +kernel
theorem dX3_letIn_42 : decode cX3_letIn 42 = .ok (.putfield 59, 3) := by decide +kernel
theorem dX3_letIn_45 : decode cX3_letIn 45 = .ok (.aload_n 0, 1) := by decide +kernel
theorem dX3_letIn_46 : decode cX3_letIn 46 = .ok (.getfield 20, 3) := by decide +kernel
theorem dX3_letIn_49 : decode cX3_letIn 49 = .ok (.dup, 1) := by decide +kernel
theorem dX3_letIn_50 : decode cX3_letIn 50 = .ok (.getfield 62, 3) := by decide +kernel
theorem dX3_letIn_53 : decode cX3_letIn 53 = .ok (.iconst 1, 1) := by decide +kernel
theorem dX3_letIn_54 : decode cX3_letIn 54 = .ok (.iadd, 1) := by decide +kernel
theorem dX3_letIn_55 : decode cX3_letIn 55 = .ok (.putfield 62, 3) := by decide +kernel
theorem dX3_letIn_58 : decode cX3_letIn 58 = .ok (.return_, 1) := by decide +kernel
theorem dX3_letOut_0 : decode cX3_letOut 0 = .ok (.aload_n 0, 1) := by decide +kernel
theorem dX3_letOut_1 : decode cX3_letOut 1 = .ok (.dup, 1) := by decide +kernel
theorem dX3_letOut_2 : decode cX3_letOut 2 = .ok (.getfield 48, 3) := by decide +kernel
theorem dX3_letOut_5 : decode cX3_letOut 5 = .ok (.iconst 1, 1) := by decide +kernel
theorem dX3_letOut_6 : decode cX3_letOut 6 = .ok (.isub, 1) := by decide +kernel
theorem dX3_letOut_7 : decode cX3_letOut 7 = .ok (.putfield 48, 3) := by decide +kernel
theorem dX3_letOut_10 : decode cX3_letOut 10 = .ok (.aload_n 0, 1) := by decide +kernel
theorem dX3_letOut_11 : decode cX3_letOut 11 = .ok (.dup, 1) := by decide +kernel
theorem dX3_letOut_12 : decode cX3_letOut 12 = .ok (.getfield 51, 3) := by decide +kernel
theorem dX3_letOut_15 : decode cX3_letOut 15 = .ok (.aload_n 1, 1) := by decide +kernel
theorem dX3_letOut_16 : decode cX3_letOut 16 = .ok (.getfield 54, 3) := by decide +kernel
theorem dX3_letOut_19 : decode cX3_letOut 19 = .ok (.iconst 5, 1) := by decide +kernel
theorem dX3_letOut_20 : decode cX3_letOut 20 = .ok (.if_icmp .ne 7, 3) := by decide +kernel
theorem dX3_letOut_23 : decode cX3_letOut 23 = .ok (.iconst 1, 1) := by decide +kernel
theorem dX3_letOut_24 : decode cX3_letOut 24 = .ok (.goto 4, 3) := by decide +kernel
theorem dX3_letOut_27 : decode cX3_letOut 27 = .ok (.iconst 0, 1) := by decide +kernel
theorem dX3_letOut_28 : decode cX3_letOut 28 = .ok (.isub, 1) := by decide +kernel
theorem dX3_letOut_29 : decode cX3_letOut 29 = .ok (.putfield 51, 3) := by decide +kernel
theorem dX3_letOut_32 : decode cX3_letOut 32 = .ok (.aload_n 0, 1) := by decide +kernel
theorem dX3_letOut_33 : decode cX3_letOut 33 = .ok (.getfield 20, 3) := by decide +kernel
theorem dX3_letOut_36 : decode cX3_letOut 36 = .ok (.dup, 1) := by decide +kernel
theorem dX3_letOut_37 : decode cX3_letOut 37 = .ok (.getfield 65, 3) := by decide +kernel
theorem dX3_letOut_40 : decode cX3_letOut 40 = .ok (.iconst 1, 1) := by decide +kernel
theorem dX3_letOut_41 : decode cX3_letOut 41 = .ok (.iadd, 1) := by decide +kernel
theorem dX3_letOut_42 : decode cX3_letOut 42 = .ok (.putfield 65, 3) := by decide +kernel
theorem dX3_letOut_45 : decode cX3_letOut 45 = .ok (.aload_n 0, 1) := by decide +kernel
theorem dX3_letOut_46 : decode cX3_letOut 46 = .ok (.getfield 20, 3) := by decide +kernel
theorem dX3_letOut_49 : decode cX3_letOut 49 = .ok (.dup, 1) := by decide +kernel
theorem dX3_letOut_50 : decode cX3_letOut 50 = .ok (.getfield 62, 3) := by decide +kernel
theorem dX3_letOut_53 : decode cX3_letOut 53 = .ok (.iconst 1, 1) := by decide +kernel
theorem dX3_letOut_54 : decode cX3_letOut 54 = .ok (.isub, 1) := by decide +kernel
theorem dX3_letOut_55 : decode cX3_letOut 55 = .ok (.putfield 62, 3) := by decide +kernel
theorem dX3_letOut_58 : decode cX3_letOut 58 = .ok (.return_, 1) := by decide +kernel
theorem dX3_filledPosts_0 : decode cX3_filledPosts 0 = .ok (.iconst 0, 1) := by decide +kernel
theorem dX3_filledPosts_1 : decode cX3_filledPosts 1 = .ok (.istore_n 2, 1) := by decide +kernel
theorem dX3_filledPosts_2 : decode cX3_filledPosts 2 = .ok (.iconst 0, 1) := by decide +kernel
theorem dX3_filledPosts_3 : decode cX3_filledPosts 3 = .ok (.istore_n 3, 1) := by decide +kernel
theorem dX3_filledPosts_4 : decode cX3_filledPosts 4 = .ok (.iload_n 3, 1) := by decide +kernel
theorem dX3_filledPosts_5 : decode cX3_filledPosts 5 = .ok (.aload_n 0, 1) := by decide +kernel
theorem dX3_filledPosts_6 : decode cX3_filledPosts 6 = .ok (.getfield 42, 3) := by decide +kernel
theorem dX3_filledPosts_9 : decode cX3_filledPosts 9 = .ok (.arraylength, 1) := by decide +kernel
theorem dX3_filledPosts_10 : decode cX3_filledPosts 10 = .ok (.if_icmp .ge 30, 3) := by decide +kernel
theorem dX3_filledPosts_13 : decode cX3_filledPosts 13 = .ok (.iload_n 2, 1) := by decide +kernel
theorem dX3_filledPosts_14 : decode cX3_filledPosts 14 = .ok (.aload_n 0, 1) := by decide +kernel
theorem dX3_filledPosts_15 : decode cX3_filledPosts 15 = .ok (.getfield 42, 3) := by decide +kernel
theorem dX3_filledPosts_18 : decode cX3_filledPosts 18 = .ok (.iload_n 3, 1) := by decide +kernel
theorem dX3_filledPosts_19 : decode cX3_filledPosts 19 = .ok (.aaload, 1) := by decide +kernel
theorem dX3_filledPosts_20 : decode cX3_filledPosts 20 = .ok (.iload_n 1, 1) := by decide +kernel
theorem dX3_filledPosts_21 : decode cX3_filledPosts 21 = .ok (.invokevirtual 68, 3) := by decide +kernel
theorem dX3_filledPosts_24 : decode cX3_filledPosts 24 = .ok (.ifCond .eq 7, 3) := by decide +kernel
theorem dX3_filledPosts_27 : decode cX3_filledPosts 27 = .ok (.iconst 1, 1) := by decide +kernel
theorem dX3_filledPosts_28 : decode cX3_filledPosts 28 = .ok (.goto 4, 3) := by decide +kernel
theorem dX3_filledPosts_31 : decode cX3_filledPosts 31 = .ok (.iconst 0, 1) := by decide +kernel
theorem dX3_filledPosts_32 : decode cX3_filledPosts 32 = .ok (.iadd, 1) := by decide +kernel
theorem dX3_filledPosts_33 : decode cX3_filledPosts 33 = .ok (.istore_n 2, 1) := by decide +kernel
theorem dX3_filledPosts_34 : decode cX3_filledPosts 34 = .ok (.iinc 3 1, 3) := by decide +kernel
theorem dX3_filledPosts_37 : decode cX3_filledPosts 37 = .ok (.goto (-33), 3) := by decide +kernel
theorem dX3_filledPosts_40 : decode cX3_filledPosts 40 = .ok (.iload_n 2, 1) := by decide +kernel
theorem dX3_filledPosts_41 : decode cX3_filledPosts 41 = .ok (.ireturn, 1) := by decide +kernel
theorem dX3_reasonsIn_0 : decode cX3_reasonsIn 0 = .ok (.iload_n 1, 1) := by decide +kernel
theorem dX3_reasonsIn_1 : decode cX3_reasonsIn 1 = .ok (.aload_n 0, 1) := by decide +kernel
theorem dX3_reasonsIn_2 : decode cX3_reasonsIn 2 = .ok (.getfield 72, 3) := by decide +kernel
theorem dX3_reasonsIn_5 : decode cX3_reasonsIn 5 = .ok (.if_icmp .ge 8, 3) := by decide +kernel
theorem dX3_reasonsIn_8 : decode cX3_reasonsIn 8 = .ok (.bipush 16, 2) := by decide +kernel
theorem dX3_reasonsIn_10 : decode cX3_reasonsIn 10 = .ok (.goto 4, 3) := by decide +kernel
theorem dX3_reasonsIn_13 : decode cX3_reasonsIn 13 = .ok (.iconst 0, 1) := by decide +kernel
theorem dX3_reasonsIn_14 : decode cX3_reasonsIn 14 = .ok (.istore_n 2, 1) := by decide +kernel
theorem dX3_reasonsIn_15 : decode cX3_reasonsIn 15 = .ok (.iconst 0, 1) := by decide +kernel
theorem dX3_reasonsIn_16 : decode cX3_reasonsIn 16 = .ok (.istore_n 3, 1) := by decide +kernel
theorem dX3_reasonsIn_17 : decode cX3_reasonsIn 17 = .ok (.iload_n 3, 1) := by decide +kernel
theorem dX3_reasonsIn_18 : decode cX3_reasonsIn 18 = .ok (.iconst 3, 1) := by decide +kernel
theorem dX3_reasonsIn_19 : decode cX3_reasonsIn 19 = .ok (.if_icmp .ge 53, 3) := by decide +kernel
theorem dX3_reasonsIn_22 : decode cX3_reasonsIn 22 = .ok (.iload_n 2, 1) := by decide +kernel
theorem dX3_reasonsIn_23 : decode cX3_reasonsIn 23 = .ok (.aload_n 0, 1) := by decide +kernel
theorem dX3_reasonsIn_24 : decode cX3_reasonsIn 24 = .ok (.getfield 11, 3) := by decide +kernel
theorem dX3_reasonsIn_27 : decode cX3_reasonsIn 27 = .ok (.iload_n 3, 1) := by decide +kernel
theorem dX3_reasonsIn_28 : decode cX3_reasonsIn 28 = .ok (.aaload, 1) := by decide +kernel
theorem dX3_reasonsIn_29 : decode cX3_reasonsIn 29 = .ok (.invokevirtual 75, 3) := by decide +kernel
theorem dX3_reasonsIn_32 : decode cX3_reasonsIn 32 = .ok (.ifCond .eq 7, 3) := by decide +kernel
theorem dX3_reasonsIn_35 : decode cX3_reasonsIn 35 = .ok (.iconst 0, 1) := by decide +kernel
theorem dX3_reasonsIn_36 : decode cX3_reasonsIn 36 = .ok (.goto 6, 3) := by decide +kernel
theorem dX3_reasonsIn_39 : decode cX3_reasonsIn 39 = .ok (.iconst 1, 1) := by decide +kernel
theorem dX3_reasonsIn_40 : decode cX3_reasonsIn 40 = .ok (.iload_n 3, 1) := by decide +kernel
theorem dX3_reasonsIn_41 : decode cX3_reasonsIn 41 = .ok (.ishl, 1) := by decide +kernel
theorem dX3_reasonsIn_42 : decode cX3_reasonsIn 42 = .ok (.ior, 1) := by decide +kernel
theorem dX3_reasonsIn_43 : decode cX3_reasonsIn 43 = .ok (.istore_n 2, 1) := by decide +kernel
theorem dX3_reasonsIn_44 : decode cX3_reasonsIn 44 = .ok (.iload_n 2, 1) := by decide +kernel
theorem dX3_reasonsIn_45 : decode cX3_reasonsIn 45 = .ok (.aload_n 0, 1) := by decide +kernel
theorem dX3_reasonsIn_46 : decode cX3_reasonsIn 46 = .ok (.getfield 11, 3) := by decide +kernel
theorem dX3_reasonsIn_49 : decode cX3_reasonsIn 49 = .ok (.iload_n 3, 1) := by decide +kernel
theorem dX3_reasonsIn_50 : decode cX3_reasonsIn 50 = .ok (.aaload, 1) := by decide +kernel
theorem dX3_reasonsIn_51 : decode cX3_reasonsIn 51 = .ok (.iload_n 1, 1) := by decide +kernel
theorem dX3_reasonsIn_52 : decode cX3_reasonsIn 52 = .ok (.invokevirtual 79, 3) := by decide +kernel
theorem dX3_reasonsIn_55 : decode cX3_reasonsIn 55 = .ok (.ifCond .eq 8, 3) := by decide +kernel
theorem dX3_reasonsIn_58 : decode cX3_reasonsIn 58 = .ok (.bipush 8, 2) := by decide +kernel
theorem dX3_reasonsIn_60 : decode cX3_reasonsIn 60 = .ok (.goto 4, 3) := by decide +kernel
theorem dX3_reasonsIn_63 : decode cX3_reasonsIn 63 = .ok (.iconst 0, 1) := by decide +kernel
theorem dX3_reasonsIn_64 : decode cX3_reasonsIn 64 = .ok (.ior, 1) := by decide +kernel
theorem dX3_reasonsIn_65 : decode cX3_reasonsIn 65 = .ok (.istore_n 2, 1) := by decide +kernel
theorem dX3_reasonsIn_66 : decode cX3_reasonsIn 66 = .ok (.iinc 3 1, 3) := by decide +kernel
theorem dX3_reasonsIn_69 : decode cX3_reasonsIn 69 = .ok (.goto (-52), 3) := by decide +kernel
theorem dX3_reasonsIn_72 : decode cX3_reasonsIn 72 = .ok (.iload_n 2, 1) := by decide +kernel
theorem dX3_reasonsIn_73 : decode cX3_reasonsIn 73 = .ok (.aload_n 0, 1) := by decide +kernel
theorem dX3_reasonsIn_74 : decode cX3_reasonsIn 74 = .ok (.iload_n 1, 1) := by decide +kernel
theorem dX3_reasonsIn_75 : decode cX3_reasonsIn 75 = .ok (.invokevirtual 82, 3) := by decide +kernel
theorem dX3_reasonsIn_78 : decode cX3_reasonsIn 78 = .ok (.aload_n 0, 1) := by decide +kernel
theorem dX3_reasonsIn_79 : decode cX3_reasonsIn 79 = .ok (.getfield 42, 3) := by decide +kernel
theorem dX3_reasonsIn_82 : decode cX3_reasonsIn 82 = .ok (.arraylength, 1) := by decide +kernel
theorem dX3_reasonsIn_83 : decode cX3_reasonsIn 83 = .ok (.if_icmp .ge 8, 3) := by decide +kernel
theorem dX3_reasonsIn_86 : decode cX3_reasonsIn 86 = .ok (.bipush 32, 2) := by decide +kernel
theorem dX3_reasonsIn_88 : decode cX3_reasonsIn 88 = .ok (.goto 4, 3) := by decide +kernel
theorem dX3_reasonsIn_91 : decode cX3_reasonsIn 91 = .ok (.iconst 0, 1) := by decide +kernel
theorem dX3_reasonsIn_92 : decode cX3_reasonsIn 92 = .ok (.ior, 1) := by decide +kernel
theorem dX3_reasonsIn_93 : decode cX3_reasonsIn 93 = .ok (.istore_n 2, 1) := by decide +kernel
theorem dX3_reasonsIn_94 : decode cX3_reasonsIn 94 = .ok (.iload_n 2, 1) := by decide +kernel
theorem dX3_reasonsIn_95 : decode cX3_reasonsIn 95 = .ok (.ireturn, 1) := by decide +kernel
theorem dX3_endMinute_0 : decode cX3_endMinute 0 = .ok (.aload_n 0, 1) := by decide +kernel
theorem dX3_endMinute_1 : decode cX3_endMinute 1 = .ok (.dup, 1) := by decide +kernel
theorem dX3_endMinute_2 : decode cX3_endMinute 2 = .ok (.getfield 86, 3) := by decide +kernel
theorem dX3_endMinute_5 : decode cX3_endMinute 5 = .ok (.aload_n 0, 1) := by decide +kernel
theorem dX3_endMinute_6 : decode cX3_endMinute 6 = .ok (.iload_n 1, 1) := by decide +kernel
theorem dX3_endMinute_7 : decode cX3_endMinute 7 = .ok (.invokevirtual 89, 3) := by decide +kernel
theorem dX3_endMinute_10 : decode cX3_endMinute 10 = .ok (.ifCond .eq 7, 3) := by decide +kernel
theorem dX3_endMinute_13 : decode cX3_endMinute 13 = .ok (.iconst 1, 1) := by decide +kernel
theorem dX3_endMinute_14 : decode cX3_endMinute 14 = .ok (.goto 4, 3) := by decide +kernel
theorem dX3_endMinute_17 : decode cX3_endMinute 17 = .ok (.iconst 0, 1) := by decide +kernel
theorem dX3_endMinute_18 : decode cX3_endMinute 18 = .ok (.iadd, 1) := by decide +kernel
theorem dX3_endMinute_19 : decode cX3_endMinute 19 = .ok (.putfield 86, 3) := by decide +kernel
theorem dX3_endMinute_22 : decode cX3_endMinute 22 = .ok (.aload_n 0, 1) := by decide +kernel
theorem dX3_endMinute_23 : decode cX3_endMinute 23 = .ok (.getfield 20, 3) := by decide +kernel
theorem dX3_endMinute_26 : decode cX3_endMinute 26 = .ok (.invokevirtual 92, 3) := by decide +kernel
theorem dX3_endMinute_29 : decode cX3_endMinute 29 = .ok (.return_, 1) := by decide +kernel
theorem dX4_init_0 : decode cX4_init 0 = .ok (.aload_n 0, 1) := by decide +kernel
theorem dX4_init_1 : decode cX4_init 1 = .ok (.invokespecial 3, 3) := by decide +kernel
theorem dX4_init_4 : decode cX4_init 4 = .ok (.return_, 1) := by decide +kernel
theorem dX4_isFilled_0 : decode cX4_isFilled 0 = .ok (.aload_n 0, 1) := by decide +kernel
theorem dX4_isFilled_1 : decode cX4_isFilled 1 = .ok (.getfield 9, 3) := by decide +kernel
theorem dX4_isFilled_4 : decode cX4_isFilled 4 = .ok (.ifnull 18, 3) := by decide +kernel
theorem dX4_isFilled_7 : decode cX4_isFilled 7 = .ok (.iload_n 1, 1) := by decide +kernel
theorem dX4_isFilled_8 : decode cX4_isFilled 8 = .ok (.aload_n 0, 1) := by decide +kernel
theorem dX4_isFilled_9 : decode cX4_isFilled 9 = .ok (.getfield 15, 3) := by decide +kernel
theorem dX4_isFilled_12 : decode cX4_isFilled 12 = .ok (.isub, 1) := by decide +kernel
theorem dX4_isFilled_13 : decode cX4_isFilled 13 = .ok (.bipush 60, 2) := by decide +kernel
theorem dX4_isFilled_15 : decode cX4_isFilled 15 = .ok (.if_icmp .ge 7, 3) := by decide +kernel
theorem dX4_isFilled_18 : decode cX4_isFilled 18 = .ok (.iconst 1, 1) := by decide +kernel
theorem dX4_isFilled_19 : decode cX4_isFilled 19 = .ok (.goto 4, 3) := by decide +kernel
theorem dX4_isFilled_22 : decode cX4_isFilled 22 = .ok (.iconst 0, 1) := by decide +kernel
theorem dX4_isFilled_23 : decode cX4_isFilled 23 = .ok (.ireturn, 1) := by decide +kernel
theorem dX5_init_0 : decode cX5_init 0 = .ok (.aload_n 0, 1) := by decide +kernel
theorem dX5_init_1 : decode cX5_init 1 = .ok (.invokespecial 3, 3) := by decide +kernel
theorem dX5_init_4 : decode cX5_init 4 = .ok (.aload_n 0, 1) := by decide +kernel
theorem dX5_init_5 : decode cX5_init 5 = .ok (.bipush 24, 2) := by decide +kernel
theorem dX5_init_7 : decode cX5_init 7 = .ok (.newarray .int, 2) := by decide +kernel
theorem dX5_init_9 : decode cX5_init 9 = .ok (.putfield 9, 3) := by decide +kernel
theorem dX5_init_12 : decode cX5_init 12 = .ok (.aload_n 0, 1) := by decide +kernel
theorem dX5_init_13 : decode cX5_init 13 = .ok (.bipush 24, 2) := by decide +kernel
theorem dX5_init_15 : decode cX5_init 15 = .ok (.newarray .boolean, 2) := by decide +kernel
theorem dX5_init_17 : decode cX5_init 17 = .ok (.putfield 15, 3) := by decide +kernel
theorem dX5_init_20 : decode cX5_init 20 = .ok (.iconst 0, 1) := by decide +kernel
theorem dX5_init_21 : decode cX5_init 21 = .ok (.istore_n 1, 1) := by decide +kernel
theorem dX5_init_22 : decode cX5_init 22 = .ok (.iload_n 1, 1) := by decide +kernel
theorem dX5_init_23 : decode cX5_init 23 = .ok (.bipush 24, 2) := by decide +kernel
theorem dX5_init_25 : decode cX5_init 25 = .ok (.if_icmp .ge 16, 3) := by decide +kernel
theorem dX5_init_28 : decode cX5_init 28 = .ok (.aload_n 0, 1) := by decide +kernel
theorem dX5_init_29 : decode cX5_init 29 = .ok (.getfield 9, 3) := by decide +kernel
theorem dX5_init_32 : decode cX5_init 32 = .ok (.iload_n 1, 1) := by decide +kernel
theorem dX5_init_33 : decode cX5_init 33 = .ok (.iconst 1, 1) := by decide +kernel
theorem dX5_init_34 : decode cX5_init 34 = .ok (.iastore, 1) := by decide +kernel
theorem dX5_init_35 : decode cX5_init 35 = .ok (.iinc 1 1, 3) := by decide +kernel
theorem dX5_init_38 : decode cX5_init 38 = .ok (.goto (-16), 3) := by decide +kernel
theorem dX5_init_41 : decode cX5_init 41 = .ok (.return_, 1) := by decide +kernel
theorem dX5_takeCheapest_0 : decode cX5_takeCheapest 0 = .ok (.aload_n 0, 1) := by decide +kernel
theorem dX5_takeCheapest_1 : decode cX5_takeCheapest 1 = .ok (.iconst 1, 1) := by decide +kernel
theorem dX5_takeCheapest_2 : decode cX5_takeCheapest 2 = .ok (.putfield 19, 3) := by decide +kernel
theorem dX5_takeCheapest_5 : decode cX5_takeCheapest 5 = .ok (.aload_n 0, 1) := by decide +kernel
theorem dX5_takeCheapest_6 : decode cX5_takeCheapest 6 = .ok (.iconst 0, 1) := by decide +kernel
theorem dX5_takeCheapest_7 : decode cX5_takeCheapest 7 = .ok (.putfield 23, 3) := by decide +kernel
theorem dX5_takeCheapest_10 : decode cX5_takeCheapest 10 = .ok (.iconst 0, 1) := by decide +kernel
theorem dX5_takeCheapest_11 : decode cX5_takeCheapest 11 = .ok (.istore_n 2, 1) := by decide +kernel
theorem dX5_takeCheapest_12 : decode cX5_takeCheapest 12 = .ok (.iload_n 2, 1) := by decide +kernel
theorem dX5_takeCheapest_13 : decode cX5_takeCheapest 13 = .ok (.bipush 24, 2) := by decide +kernel
theorem dX5_takeCheapest_15 : decode cX5_takeCheapest 15 = .ok (.if_icmp .ge 16, 3) := by decide +kernel
theorem dX5_takeCheapest_18 : decode cX5_takeCheapest 18 = .ok (.aload_n 0, 1) := by decide +kernel
theorem dX5_takeCheapest_19 : decode cX5_takeCheapest 19 = .ok (.getfield 15, 3) := by decide +kernel
theorem dX5_takeCheapest_22 : decode cX5_takeCheapest 22 = .ok (.iload_n 2, 1) := by decide +kernel
theorem dX5_takeCheapest_23 : decode cX5_takeCheapest 23 = .ok (.iconst 0, 1) := by decide +kernel
theorem dX5_takeCheapest_24 : decode cX5_takeCheapest 24 = .ok (.bastore, 1) := by decide +kernel
theorem dX5_takeCheapest_25 : decode cX5_takeCheapest 25 = .ok (.iinc 2 1, 3) := by decide +kernel
theorem dX5_takeCheapest_28 : decode cX5_takeCheapest 28 = .ok (.goto (-16), 3) := by decide +kernel
theorem dX5_takeCheapest_31 : decode cX5_takeCheapest 31 = .ok (.iconst 0, 1) := by decide +kernel
theorem dX5_takeCheapest_32 : decode cX5_takeCheapest 32 = .ok (.istore_n 2, 1) := by decide +kernel
theorem dX5_takeCheapest_33 : decode cX5_takeCheapest 33 = .ok (.iload_n 2, 1) := by decide +kernel
theorem dX5_takeCheapest_34 : decode cX5_takeCheapest 34 = .ok (.iload_n 1, 1) := by decide +kernel
theorem dX5_takeCheapest_35 : decode cX5_takeCheapest 35 = .ok (.if_icmp .ge 13, 3) := by decide +kernel
theorem dX5_takeCheapest_38 : decode cX5_takeCheapest 38 = .ok (.aload_n 0, 1) := by decide +kernel
theorem dX5_takeCheapest_39 : decode cX5_takeCheapest 39 = .ok (.invokevirtual 27, 3) := by decide +kernel
theorem dX5_takeCheapest_42 : decode cX5_takeCheapest 42 = .ok (.iinc 2 1, 3) := by decide +kernel
theorem dX5_takeCheapest_45 : decode cX5_takeCheapest 45 = .ok (.goto (-12), 3) := by decide +kernel
theorem dX5_takeCheapest_48 : decode cX5_takeCheapest 48 = .ok (.return_, 1) := by decide +kernel
theorem dX5_takeNext_0 : decode cX5_takeNext 0 = .ok (.iconst (-1), 1) := by decide +kernel
theorem dX5_takeNext_1 : decode cX5_takeNext 1 = .ok (.istore_n 1, 1) := by decide +kernel
theorem dX5_takeNext_2 : decode cX5_takeNext 2 = .ok (.iconst 0, 1) := by decide +kernel
theorem dX5_takeNext_3 : decode cX5_takeNext 3 = .ok (.istore_n 2, 1) := by decide +kernel
theorem dX5_takeNext_4 : decode cX5_takeNext 4 = .ok (.iload_n 2, 1) := by decide +kernel
theorem dX5_takeNext_5 : decode cX5_takeNext 5 = .ok (.bipush 24, 2) := by decide +kernel
theorem dX5_takeNext_7 : decode cX5_takeNext 7 = .ok (.if_icmp .ge 40, 3) := by decide +kernel
theorem dX5_takeNext_10 : decode cX5_takeNext 10 = .ok (.aload_n 0, 1) := by decide +kernel
theorem dX5_takeNext_11 : decode cX5_takeNext 11 = .ok (.getfield 15, 3) := by decide +kernel
theorem dX5_takeNext_14 : decode cX5_takeNext 14 = .ok (.iload_n 2, 1) := by decide +kernel
theorem dX5_takeNext_15 : decode cX5_takeNext 15 = .ok (.baload, 1) := by decide +kernel
theorem dX5_takeNext_16 : decode cX5_takeNext 16 = .ok (.ifCond .ne 25, 3) := by decide +kernel
theorem dX5_takeNext_19 : decode cX5_takeNext 19 = .ok (.iload_n 1, 1) := by decide +kernel
theorem dX5_takeNext_20 : decode cX5_takeNext 20 = .ok (.iconst (-1), 1) := by decide +kernel
theorem dX5_takeNext_21 : decode cX5_takeNext 21 = .ok (.if_icmp .eq 18, 3) := by decide +kernel
theorem dX5_takeNext_24 : decode cX5_takeNext 24 = .ok (.aload_n 0, 1) := by decide +kernel
theorem dX5_takeNext_25 : decode cX5_takeNext 25 = .ok (.getfield 9, 3) := by decide +kernel
theorem dX5_takeNext_28 : decode cX5_takeNext 28 = .ok (.iload_n 2, 1) := by decide +kernel
theorem dX5_takeNext_29 : decode cX5_takeNext 29 = .ok (.iaload, 1) := by decide +kernel
theorem dX5_takeNext_30 : decode cX5_takeNext 30 = .ok (.aload_n 0, 1) := by decide +kernel
theorem dX5_takeNext_31 : decode cX5_takeNext 31 = .ok (.getfield 9, 3) := by decide +kernel
theorem dX5_takeNext_34 : decode cX5_takeNext 34 = .ok (.iload_n 1, 1) := by decide +kernel
theorem dX5_takeNext_35 : decode cX5_takeNext 35 = .ok (.iaload, 1) := by decide +kernel
theorem dX5_takeNext_36 : decode cX5_takeNext 36 = .ok (.if_icmp .ge 5, 3) := by decide +kernel
theorem dX5_takeNext_39 : decode cX5_takeNext 39 = .ok (.iload_n 2, 1) := by decide +kernel
theorem dX5_takeNext_40 : decode cX5_takeNext 40 = .ok (.istore_n 1, 1) := by decide +kernel
theorem dX5_takeNext_41 : decode cX5_takeNext 41 = .ok (.iinc 2 1, 3) := by decide +kernel
theorem dX5_takeNext_44 : decode cX5_takeNext 44 = .ok (.goto (-40), 3) := by decide +kernel
theorem dX5_takeNext_47 : decode cX5_takeNext 47 = .ok (.iload_n 1, 1) := by decide +kernel
theorem dX5_takeNext_48 : decode cX5_takeNext 48 = .ok (.iconst (-1), 1) := by decide +kernel
theorem dX5_takeNext_49 : decode cX5_takeNext 49 = .ok (.if_icmp .eq 25, 3) := by decide +kernel
theorem dX5_takeNext_52 : decode cX5_takeNext 52 = .ok (.aload_n 0, 1) := by decide +kernel
theorem dX5_takeNext_53 : decode cX5_takeNext 53 = .ok (.getfield 15, 3) := by decide +kernel
theorem dX5_takeNext_56 : decode cX5_takeNext 56 = .ok (.iload_n 1, 1) := by decide +kernel
theorem dX5_takeNext_57 : decode cX5_takeNext 57 = .ok (.iconst 1, 1) := by decide +kernel
theorem dX5_takeNext_58 : decode cX5_takeNext 58 = .ok (.bastore, 1) := by decide +kernel
theorem dX5_takeNext_59 : decode cX5_takeNext 59 = .ok (.aload_n 0, 1) := by decide +kernel
theorem dX5_takeNext_60 : decode cX5_takeNext 60 = .ok (.dup, 1) := by decide +kernel
theorem dX5_takeNext_61 : decode cX5_takeNext 61 = .ok (.getfield 23, 3) := by decide +kernel
theorem dX5_takeNext_64 : decode cX5_takeNext 64 = .ok (.aload_n 0, 1) := by decide +kernel
theorem dX5_takeNext_65 : decode cX5_takeNext 65 = .ok (.getfield 9, 3) := by decide +kernel
theorem dX5_takeNext_68 : decode cX5_takeNext 68 = .ok (.iload_n 1, 1) := by decide +kernel
theorem dX5_takeNext_69 : decode cX5_takeNext 69 = .ok (.iaload, 1) := by decide +kernel
theorem dX5_takeNext_70 : decode cX5_takeNext 70 = .ok (.iadd, 1) := by decide +kernel
theorem dX5_takeNext_71 : decode cX5_takeNext 71 = .ok (.putfield 23, 3) := by decide +kernel
theorem dX5_takeNext_74 : decode cX5_takeNext 74 = .ok (.return_, 1) := by decide +kernel
theorem dX6_init_0 : decode cX6_init 0 = .ok (.aload_n 0, 1) := by decide +kernel
theorem dX6_init_1 : decode cX6_init 1 = .ok (.invokespecial 3, 3) := by decide +kernel
theorem dX6_init_4 : decode cX6_init 4 = .ok (.aload_n 0, 1) := by decide +kernel
theorem dX6_init_5 : decode cX6_init 5 = .ok (.iconst 0, 1) := by decide +kernel
theorem dX6_init_6 : decode cX6_init 6 = .ok (.putfield 9, 3) := by decide +kernel
theorem dX6_init_9 : decode cX6_init 9 = .ok (.aload_n 0, 1) := by decide +kernel
theorem dX6_init_10 : decode cX6_init 10 = .ok (.bipush 100, 2) := by decide +kernel
theorem dX6_init_12 : decode cX6_init 12 = .ok (.putfield 15, 3) := by decide +kernel
theorem dX6_init_15 : decode cX6_init 15 = .ok (.return_, 1) := by decide +kernel
theorem dX6_takeMeasure_0 : decode cX6_takeMeasure 0 = .ok (.aload_n 0, 1) := by decide +kernel
theorem dX6_takeMeasure_1 : decode cX6_takeMeasure 1 = .ok (.iload_n 1, 1) := by decide +kernel
theorem dX6_takeMeasure_2 : decode cX6_takeMeasure 2 = .ok (.putfield 18, 3) := by decide +kernel
theorem dX6_takeMeasure_5 : decode cX6_takeMeasure 5 = .ok (.aload_n 0, 1) := by decide +kernel
theorem dX6_takeMeasure_6 : decode cX6_takeMeasure 6 = .ok (.iload_n 2, 1) := by decide +kernel
theorem dX6_takeMeasure_7 : decode cX6_takeMeasure 7 = .ok (.putfield 21, 3) := by decide +kernel
theorem dX6_takeMeasure_10 : decode cX6_takeMeasure 10 = .ok (.aload_n 0, 1) := by decide +kernel
theorem dX6_takeMeasure_11 : decode cX6_takeMeasure 11 = .ok (.iconst 1, 1) := by decide +kernel
theorem dX6_takeMeasure_12 : decode cX6_takeMeasure 12 = .ok (.putfield 24, 3) := by decide +kernel
theorem dX6_takeMeasure_15 : decode cX6_takeMeasure 15 = .ok (.return_, 1) := by decide +kernel
theorem dX6_isRight_0 : decode cX6_isRight 0 = .ok (.aload_n 0, 1) := by decide +kernel
theorem dX6_isRight_1 : decode cX6_isRight 1 = .ok (.getfield 24, 3) := by decide +kernel
theorem dX6_isRight_4 : decode cX6_isRight 4 = .ok (.ifCond .eq 25, 3) := by decide +kernel
theorem dX6_isRight_7 : decode cX6_isRight 7 = .ok (.aload_n 0, 1) := by decide +kernel
theorem dX6_isRight_8 : decode cX6_isRight 8 = .ok (.getfield 18, 3) := by decide +kernel
theorem dX6_isRight_11 : decode cX6_isRight 11 = .ok (.aload_n 0, 1) := by decide +kernel
theorem dX6_isRight_12 : decode cX6_isRight 12 = .ok (.getfield 9, 3) := by decide +kernel
theorem dX6_isRight_15 : decode cX6_isRight 15 = .ok (.if_icmp .lt 18, 3) := by decide +kernel
theorem dX6_isRight_18 : decode cX6_isRight 18 = .ok (.aload_n 0, 1) := by decide +kernel
theorem dX6_isRight_19 : decode cX6_isRight 19 = .ok (.getfield 18, 3) := by decide +kernel
theorem dX6_isRight_22 : decode cX6_isRight 22 = .ok (.aload_n 0, 1) := by decide +kernel
theorem dX6_isRight_23 : decode cX6_isRight 23 = .ok (.getfield 15, 3) := by decide +kernel
theorem dX6_isRight_26 : decode cX6_isRight 26 = .ok (.if_icmp .gt 7, 3) := by decide +kernel
theorem dX6_isRight_29 : decode cX6_isRight 29 = .ok (.iconst 1, 1) := by decide +kernel
theorem dX6_isRight_30 : decode cX6_isRight 30 = .ok (.goto 4, 3) := by decide +kernel
theorem dX6_isRight_33 : decode cX6_isRight 33 = .ok (.iconst 0, 1) := by decide +kernel
theorem dX6_isRight_34 : decode cX6_isRight 34 = .ok (.ireturn, 1) := by decide +kernel
theorem dX6_isStale_0 : decode cX6_isStale 0 = .ok (.iload_n 1, 1) := by decide +kernel
theorem dX6_isStale_1 : decode cX6_isStale 1 = .ok (.aload_n 0, 1) := by decide +kernel
theorem dX6_isStale_2 : decode cX6_isStale 2 = .ok (.getfield 21, 3) := by decide +kernel
theorem dX6_isStale_5 : decode cX6_isStale 5 = .ok (.isub, 1) := by decide +kernel
theorem dX6_isStale_6 : decode cX6_isStale 6 = .ok (.bipush 120, 2) := by decide +kernel
theorem dX6_isStale_8 : decode cX6_isStale 8 = .ok (.if_icmp .lt 7, 3) := by decide +kernel
theorem dX6_isStale_11 : decode cX6_isStale 11 = .ok (.iconst 1, 1) := by decide +kernel
theorem dX6_isStale_12 : decode cX6_isStale 12 = .ok (.goto 4, 3) := by decide +kernel
theorem dX6_isStale_15 : decode cX6_isStale 15 = .ok (.iconst 0, 1) := by decide +kernel
theorem dX6_isStale_16 : decode cX6_isStale 16 = .ok (.ireturn, 1) := by decide +kernel
theorem dX7_init_0 : decode cX7_init 0 = .ok (.aload_n 0, 1) := by decide +kernel
theorem dX7_init_1 : decode cX7_init 1 = .ok (.invokespecial 3, 3) := by decide +kernel
theorem dX7_init_4 : decode cX7_init 4 = .ok (.aload_n 0, 1) := by decide +kernel
theorem dX7_init_5 : decode cX7_init 5 = .ok (.iconst (-1), 1) := by decide +kernel
theorem dX7_init_6 : decode cX7_init 6 = .ok (.putfield 9, 3) := by decide +kernel
theorem dX7_init_9 : decode cX7_init 9 = .ok (.aload_n 0, 1) := by decide +kernel
theorem dX7_init_10 : decode cX7_init 10 = .ok (.iconst (-1), 1) := by decide +kernel
theorem dX7_init_11 : decode cX7_init 11 = .ok (.putfield 15, 3) := by decide +kernel
theorem dX7_init_14 : decode cX7_init 14 = .ok (.aload_n 0, 1) := by decide +kernel
theorem dX7_init_15 : decode cX7_init 15 = .ok (.bipush (-20), 2) := by decide +kernel
theorem dX7_init_17 : decode cX7_init 17 = .ok (.putfield 18, 3) := by decide +kernel
theorem dX7_init_20 : decode cX7_init 20 = .ok (.aload_n 0, 1) := by decide +kernel
theorem dX7_init_21 : decode cX7_init 21 = .ok (.iload_n 1, 1) := by decide +kernel
theorem dX7_init_22 : decode cX7_init 22 = .ok (.putfield 21, 3) := by decide +kernel
theorem dX7_init_25 : decode cX7_init 25 = .ok (.aload_n 0, 1) := by decide +kernel
theorem dX7_init_26 : decode cX7_init 26 = .ok (.aload_n 2, 1) := by decide +kernel
theorem dX7_init_27 : decode cX7_init 27 = .ok (.putfield 24, 3) := by decide +kernel
theorem dX7_init_30 : decode cX7_init 30 = .ok (.aload_n 0, 1) := by decide +kernel
theorem dX7_init_31 : decode cX7_init 31 = .ok (.iload_n 3, 1) := by decide +kernel
theorem dX7_init_32 : decode cX7_init 32 = .ok (.putfield 28, 3) := by decide +kernel
theorem dX7_init_35 : decode cX7_init 35 = .ok (.aload_n 0, 1) := by decide +kernel
theorem dX7_init_36 : decode cX7_init 36 = .ok (.iload 4, 2) := by decide +kernel
theorem dX7_init_38 : decode cX7_init 38 = .ok (.putfield 31, 3) := by decide +kernel
theorem dX7_init_41 : decode cX7_init 41 = .ok (.aload_n 0, 1) := by decide +kernel
theorem dX7_init_42 : decode cX7_init 42 = .ok (.aload 5, 2) := by decide +kernel
theorem dX7_init_44 : decode cX7_init 44 = .ok (.putfield 34, 3) := by decide +kernel
theorem dX7_init_47 : decode cX7_init 47 = .ok (.aload_n 0, 1) := by decide +kernel
theorem dX7_init_48 : decode cX7_init 48 = .ok (.iload 6, 2) := by decide +kernel
theorem dX7_init_50 : decode cX7_init 50 = .ok (.putfield 38, 3) := by decide +kernel
theorem dX7_init_53 : decode cX7_init 53 = .ok (.return_, 1) := by decide +kernel
theorem dX7_isItsTime_0 : decode cX7_isItsTime 0 = .ok (.aload_n 0, 1) := by decide +kernel
theorem dX7_isItsTime_1 : decode cX7_isItsTime 1 = .ok (.getfield 34, 3) := by decide +kernel
theorem dX7_isItsTime_4 : decode cX7_isItsTime 4 = .ok (.ifnull 12, 3) := by decide +kernel
theorem dX7_isItsTime_7 : decode cX7_isItsTime 7 = .ok (.aload_n 0, 1) := by decide +kernel
theorem dX7_isItsTime_8 : decode cX7_isItsTime 8 = .ok (.getfield 34, 3) := by decide +kernel
theorem dX7_isItsTime_11 : decode cX7_isItsTime 11 = .ok (.iload_n 1, 1) := by decide +kernel
theorem dX7_isItsTime_12 : decode cX7_isItsTime 12 = .ok (.invokevirtual 42, 3) := by decide +kernel
theorem dX7_isItsTime_15 : decode cX7_isItsTime 15 = .ok (.ireturn, 1) := by decide +kernel
theorem dX7_isItsTime_16 : decode cX7_isItsTime 16 = .ok (.aload_n 0, 1) := by decide +kernel
theorem dX7_isItsTime_17 : decode cX7_isItsTime 17 = .ok (.getfield 28, 3) := by decide +kernel
theorem dX7_isItsTime_20 : decode cX7_isItsTime 20 = .ok (.iconst 4, 1) := by decide +kernel
theorem dX7_isItsTime_21 : decode cX7_isItsTime 21 = .ok (.if_icmp .ne 10, 3) := by decide +kernel
theorem dX7_isItsTime_24 : decode cX7_isItsTime 24 = .ok (.aload_n 0, 1) := by decide +kernel
theorem dX7_isItsTime_25 : decode cX7_isItsTime 25 = .ok (.getfield 48, 3) := by decide +kernel
theorem dX7_isItsTime_28 : decode cX7_isItsTime 28 = .ok (.ifCond .ne 7, 3) := by decide +kernel
theorem dX7_isItsTime_31 : decode cX7_isItsTime 31 = .ok (.iconst 1, 1) := by decide +kernel
theorem dX7_isItsTime_32 : decode cX7_isItsTime 32 = .ok (.goto 4, 3) := by decide +kernel
theorem dX7_isItsTime_35 : decode cX7_isItsTime 35 = .ok (.iconst 0, 1) := by decide +kernel
theorem dX7_isItsTime_36 : decode cX7_isItsTime 36 = .ok (.ireturn, 1) := by decide +kernel
theorem dX7_lacksTeacher_0 : decode cX7_lacksTeacher 0 = .ok (.aload_n 0, 1) := by decide +kernel
theorem dX7_lacksTeacher_1 : decode cX7_lacksTeacher 1 = .ok (.getfield 28, 3) := by decide +kernel
theorem dX7_lacksTeacher_4 : decode cX7_lacksTeacher 4 = .ok (.iconst 3, 1) := by decide +kernel
theorem dX7_lacksTeacher_5 : decode cX7_lacksTeacher 5 = .ok (.if_icmp .ne 48, 3) := by decide +kernel
theorem dX7_lacksTeacher_8 : decode cX7_lacksTeacher 8 = .ok (.aload_n 0, 1) := by decide +kernel
theorem dX7_lacksTeacher_9 : decode cX7_lacksTeacher 9 = .ok (.getfield 34, 3) := by decide +kernel
theorem dX7_lacksTeacher_12 : decode cX7_lacksTeacher 12 = .ok (.ifnull 41, 3) := by decide +kernel
theorem dX7_lacksTeacher_15 : decode cX7_lacksTeacher 15 = .ok (.aload_n 0, 1) := by decide +kernel
theorem dX7_lacksTeacher_16 : decode cX7_lacksTeacher 16 = .ok (.getfield 38, 3) := by decide +kernel
theorem dX7_lacksTeacher_19 : decode cX7_lacksTeacher 19 = .ok (.ifCond .ne 34, 3) := by decide +kernel
theorem dX7_lacksTeacher_22 : decode cX7_lacksTeacher 22 = .ok (.aload_n 0, 1) := by decide +kernel
theorem dX7_lacksTeacher_23 : decode cX7_lacksTeacher 23 = .ok (.getfield 34, 3) := by decide +kernel
theorem dX7_lacksTeacher_26 : decode cX7_lacksTeacher 26 = .ok (.getfield 51, 3) := by decide +kernel
theorem dX7_lacksTeacher_29 : decode cX7_lacksTeacher 29 = .ok (.iconst 1, 1) := by decide +kernel
theorem dX7_lacksTeacher_30 : decode cX7_lacksTeacher 30 = .ok (.iadd, 1) := by decide +kernel
theorem dX7_lacksTeacher_31 : decode cX7_lacksTeacher 31 = .ok (.aload_n 0, 1) := by decide +kernel
theorem dX7_lacksTeacher_32 : decode cX7_lacksTeacher 32 = .ok (.getfield 34, 3) := by decide +kernel
theorem dX7_lacksTeacher_35 : decode cX7_lacksTeacher 35 = .ok (.getfield 54, 3) := by decide +kernel
theorem dX7_lacksTeacher_38 : decode cX7_lacksTeacher 38 = .ok (.aload_n 0, 1) := by decide +kernel
theorem dX7_lacksTeacher_39 : decode cX7_lacksTeacher 39 = .ok (.getfield 34, 3) := by decide +kernel
theorem dX7_lacksTeacher_42 : decode cX7_lacksTeacher 42 = .ok (.getfield 57, 3) := by decide +kernel
theorem dX7_lacksTeacher_45 : decode cX7_lacksTeacher 45 = .ok (.imul, 1) := by decide +kernel
theorem dX7_lacksTeacher_46 : decode cX7_lacksTeacher 46 = .ok (.if_icmp .le 7, 3) := by decide +kernel
theorem dX7_lacksTeacher_49 : decode cX7_lacksTeacher 49 = .ok (.iconst 1, 1) := by decide +kernel
theorem dX7_lacksTeacher_50 : decode cX7_lacksTeacher 50 = .ok (.goto 4, 3) := by decide +kernel
theorem dX7_lacksTeacher_53 : decode cX7_lacksTeacher 53 = .ok (.iconst 0, 1) := by decide +kernel
theorem dX7_lacksTeacher_54 : decode cX7_lacksTeacher 54 = .ok (.ireturn, 1) := by decide +kernel
theorem dX7_comeIn_0 : decode cX7_comeIn 0 = .ok (.aload_n 0, 1) := by decide +kernel
theorem dX7_comeIn_1 : decode cX7_comeIn 1 = .ok (.iconst 1, 1) := by decide +kernel
theorem dX7_comeIn_2 : decode cX7_comeIn 2 = .ok (.putfield 60, 3) := by decide +kernel
theorem dX7_comeIn_5 : decode cX7_comeIn 5 = .ok (.aload_n 0, 1) := by decide +kernel
theorem dX7_comeIn_6 : decode cX7_comeIn 6 = .ok (.iload_n 1, 1) := by decide +kernel
theorem dX7_comeIn_7 : decode cX7_comeIn 7 = .ok (.putfield 9, 3) := by decide +kernel
theorem dX7_comeIn_10 : decode cX7_comeIn 10 = .ok (.aload_n 0, 1) := by decide +kernel
theorem dX7_comeIn_11 : decode cX7_comeIn 11 = .ok (.aload_n 0, 1) := by decide +kernel
theorem dX7_comeIn_12 : decode cX7_comeIn 12 = .ok (.getfield 34, 3) := by decide +kernel
theorem dX7_comeIn_15 : decode cX7_comeIn 15 = .ok (.ifnull 15, 3) := by decide +kernel
theorem dX7_comeIn_18 : decode cX7_comeIn 18 = .ok (.aload_n 0, 1) := by decide +kernel
theorem dX7_comeIn_19 : decode cX7_comeIn 19 = .ok (.getfield 34, 3) := by decide +kernel
theorem dX7_comeIn_22 : decode cX7_comeIn 22 = .ok (.getfield 63, 3) := by decide +kernel
theorem dX7_comeIn_25 : decode cX7_comeIn 25 = .ok (.iload_n 1, 1) := by decide +kernel
theorem dX7_comeIn_26 : decode cX7_comeIn 26 = .ok (.isub, 1) := by decide +kernel
theorem dX7_comeIn_27 : decode cX7_comeIn 27 = .ok (.goto 7, 3) := by decide +kernel
theorem dX7_comeIn_30 : decode cX7_comeIn 30 = .ok (.aload_n 0, 1) := by decide +kernel
theorem dX7_comeIn_31 : decode cX7_comeIn 31 = .ok (.getfield 31, 3) := by decide +kernel
theorem dX7_comeIn_34 : decode cX7_comeIn 34 = .ok (.putfield 66, 3) := by decide +kernel
theorem dX7_comeIn_37 : decode cX7_comeIn 37 = .ok (.aload_n 0, 1) := by decide +kernel
theorem dX7_comeIn_38 : decode cX7_comeIn 38 = .ok (.dup, 1) := by decide +kernel
theorem dX7_comeIn_39 : decode cX7_comeIn 39 = .ok (.getfield 48, 3) := by decide +kernel
theorem dX7_comeIn_42 : decode cX7_comeIn 42 = .ok (.iconst 1, 1) := by decide +kernel
theorem dX7_comeIn_43 : decode cX7_comeIn 43 = .ok (.iadd, 1) := by decide +kernel
theorem dX7_comeIn_44 : decode cX7_comeIn 44 = .ok (.putfield 48, 3) := by decide +kernel
theorem dX7_comeIn_47 : decode cX7_comeIn 47 = .ok (.aload_n 0, 1) := by decide +kernel
theorem dX7_comeIn_48 : decode cX7_comeIn 48 = .ok (.getfield 34, 3) := by decide +kernel
theorem dX7_comeIn_51 : decode cX7_comeIn 51 = .ok (.ifnull 15, 3) := by decide +kernel
theorem dX7_comeIn_54 : decode cX7_comeIn 54 = .ok (.aload_n 0, 1) := by decide +kernel
theorem dX7_comeIn_55 : decode cX7_comeIn 55 = .ok (.getfield 34, 3) := by decide +kernel
theorem dX7_comeIn_58 : decode cX7_comeIn 58 = .ok (.aload_n 0, 1) := by decide +kernel
theorem dX7_comeIn_59 : decode cX7_comeIn 59 = .ok (.getfield 38, 3) := by decide +kernel
theorem dX7_comeIn_62 : decode cX7_comeIn 62 = .ok (.iconst 1, 1) := by decide +kernel
theorem dX7_comeIn_63 : decode cX7_comeIn 63 = .ok (.invokevirtual 69, 3) := by decide +kernel
theorem dX7_comeIn_66 : decode cX7_comeIn 66 = .ok (.return_, 1) := by decide +kernel
theorem dX7_goOut_0 : decode cX7_goOut 0 = .ok (.aload_n 0, 1) := by decide +kernel
theorem dX7_goOut_1 : decode cX7_goOut 1 = .ok (.iconst 0, 1) := by decide +kernel
theorem dX7_goOut_2 : decode cX7_goOut 2 = .ok (.putfield 60, 3) := by decide +kernel
theorem dX7_goOut_5 : decode cX7_goOut 5 = .ok (.aload_n 0, 1) := by decide +kernel
theorem dX7_goOut_6 : decode cX7_goOut 6 = .ok (.dup, 1) := by decide +kernel
theorem dX7_goOut_7 : decode cX7_goOut 7 = .ok (.getfield 73, 3) := by decide +kernel
theorem dX7_goOut_10 : decode cX7_goOut 10 = .ok (.iload_n 2, 1) := by decide +kernel
theorem dX7_goOut_11 : decode cX7_goOut 11 = .ok (.iadd, 1) := by decide +kernel
theorem dX7_goOut_12 : decode cX7_goOut 12 = .ok (.putfield 73, 3) := by decide +kernel
theorem dX7_goOut_15 : decode cX7_goOut 15 = .ok (.aload_n 0, 1) := by decide +kernel
theorem dX7_goOut_16 : decode cX7_goOut 16 = .ok (.getfield 34, 3) := by decide +kernel
theorem dX7_goOut_19 : decode cX7_goOut 19 = .ok (.ifnull 15, 3) := by decide +kernel
theorem dX7_goOut_22 : decode cX7_goOut 22 = .ok (.aload_n 0, 1) := by decide +kernel
theorem dX7_goOut_23 : decode cX7_goOut 23 = .ok (.getfield 34, 3) := by decide +kernel
theorem dX7_goOut_26 : decode cX7_goOut 26 = .ok (.aload_n 0, 1) := by decide +kernel
theorem dX7_goOut_27 : decode cX7_goOut 27 = .ok (.getfield 38, 3) := by decide +kernel
theorem dX7_goOut_30 : decode cX7_goOut 30 = .ok (.iconst (-1), 1) := by decide +kernel
theorem dX7_goOut_31 : decode cX7_goOut 31 = .ok (.invokevirtual 69, 3) := by decide +kernel
theorem dX7_goOut_34 : decode cX7_goOut 34 = .ok (.aload_n 0, 1) := by decide +kernel
theorem dX7_goOut_35 : decode cX7_goOut 35 = .ok (.iload_n 1, 1) := by decide +kernel
theorem dX7_goOut_36 : decode cX7_goOut 36 = .ok (.invokevirtual 76, 3) := by decide +kernel
theorem dX7_goOut_39 : decode cX7_goOut 39 = .ok (.return_, 1) := by decide +kernel
theorem dX7_minutesLeft_0 : decode cX7_minutesLeft 0 = .ok (.aload_n 0, 1) := by decide +kernel
theorem dX7_minutesLeft_1 : decode cX7_minutesLeft 1 = .ok (.getfield 60, 3) := by decide +kernel
theorem dX7_minutesLeft_4 : decode cX7_minutesLeft 4 = .ok (.ifCond .eq 18, 3) := by decide +kernel
theorem dX7_minutesLeft_7 : decode cX7_minutesLeft 7 = .ok (.aload_n 0, 1) := by decide +kernel
theorem dX7_minutesLeft_8 : decode cX7_minutesLeft 8 = .ok (.getfield 28, 3) := by decide +kernel
theorem dX7_minutesLeft_11 : decode cX7_minutesLeft 11 = .ok (.iconst 1, 1) := by decide +kernel
theorem dX7_minutesLeft_12 : decode cX7_minutesLeft 12 = .ok (.if_icmp .eq 12, 3) := by decide +kernel
theorem dX7_minutesLeft_15 : decode cX7_minutesLeft 15 = .ok (.aload_n 0, 1) := by decide +kernel
theorem dX7_minutesLeft_16 : decode cX7_minutesLeft 16 = .ok (.getfield 34, 3) := by decide +kernel
theorem dX7_minutesLeft_19 : decode cX7_minutesLeft 19 = .ok (.ifnonnull 5, 3) := by decide +kernel
theorem dX7_minutesLeft_22 : decode cX7_minutesLeft 22 = .ok (.iconst 0, 1) := by decide +kernel
theorem dX7_minutesLeft_23 : decode cX7_minutesLeft 23 = .ok (.ireturn, 1) := by decide +kernel
theorem dX7_minutesLeft_24 : decode cX7_minutesLeft 24 = .ok (.aload_n 0, 1) := by decide +kernel
theorem dX7_minutesLeft_25 : decode cX7_minutesLeft 25 = .ok (.getfield 9, 3) := by decide +kernel
theorem dX7_minutesLeft_28 : decode cX7_minutesLeft 28 = .ok (.aload_n 0, 1) := by decide +kernel
theorem dX7_minutesLeft_29 : decode cX7_minutesLeft 29 = .ok (.getfield 66, 3) := by decide +kernel
theorem dX7_minutesLeft_32 : decode cX7_minutesLeft 32 = .ok (.iadd, 1) := by decide +kernel
theorem dX7_minutesLeft_33 : decode cX7_minutesLeft 33 = .ok (.iload_n 1, 1) := by decide +kernel
theorem dX7_minutesLeft_34 : decode cX7_minutesLeft 34 = .ok (.isub, 1) := by decide +kernel
theorem dX7_minutesLeft_35 : decode cX7_minutesLeft 35 = .ok (.iconst 1, 1) := by decide +kernel
theorem dX7_minutesLeft_36 : decode cX7_minutesLeft 36 = .ok (.isub, 1) := by decide +kernel
theorem dX7_minutesLeft_37 : decode cX7_minutesLeft 37 = .ok (.ireturn, 1) := by decide +kernel
theorem dX7_owes_0 : decode cX7_owes 0 = .ok (.aload_n 0, 1) := by decide +kernel
theorem dX7_owes_1 : decode cX7_owes 1 = .ok (.iload_n 1, 1) := by decide +kernel
theorem dX7_owes_2 : decode cX7_owes 2 = .ok (.invokevirtual 80, 3) := by decide +kernel
theorem dX7_owes_5 : decode cX7_owes 5 = .ok (.ineg, 1) := by decide +kernel
theorem dX7_owes_6 : decode cX7_owes 6 = .ok (.istore_n 2, 1) := by decide +kernel
theorem dX7_owes_7 : decode cX7_owes 7 = .ok (.iload_n 2, 1) := by decide +kernel
theorem dX7_owes_8 : decode cX7_owes 8 = .ok (.ifCond .le 18, 3) := by decide +kernel
theorem dX7_owes_11 : decode cX7_owes 11 = .ok (.iload_n 2, 1) := by decide +kernel
theorem dX7_owes_12 : decode cX7_owes 12 = .ok (.bipush 15, 2) := by decide +kernel
theorem dX7_owes_14 : decode cX7_owes 14 = .ok (.iadd, 1) := by decide +kernel
theorem dX7_owes_15 : decode cX7_owes 15 = .ok (.iconst 1, 1) := by decide +kernel
theorem dX7_owes_16 : decode cX7_owes 16 = .ok (.isub, 1) := by decide +kernel
theorem dX7_owes_17 : decode cX7_owes 17 = .ok (.bipush 15, 2) := by decide +kernel
theorem dX7_owes_19 : decode cX7_owes 19 = .ok (.idiv, 1) := by decide +kernel
theorem dX7_owes_20 : decode cX7_owes 20 = .ok (.bipush 20, 2) := by decide +kernel
theorem dX7_owes_22 : decode cX7_owes 22 = .ok (.imul, 1) := by decide +kernel
theorem dX7_owes_23 : decode cX7_owes 23 = .ok (.goto 4, 3) := by decide +kernel
theorem dX7_owes_26 : decode cX7_owes 26 = .ok (.iconst 0, 1) := by decide +kernel
theorem dX7_owes_27 : decode cX7_owes 27 = .ok (.ireturn, 1) := by decide +kernel
theorem dX7_mayStand_0 : decode cX7_mayStand 0 = .ok (.aload_n 0, 1) := by decide +kernel
theorem dX7_mayStand_1 : decode cX7_mayStand 1 = .ok (.getfield 28, 3) := by decide +kernel
theorem dX7_mayStand_4 : decode cX7_mayStand 4 = .ok (.iconst 5, 1) := by decide +kernel
theorem dX7_mayStand_5 : decode cX7_mayStand 5 = .ok (.if_icmp .ne 32, 3) := by decide +kernel
theorem dX7_mayStand_8 : decode cX7_mayStand 8 = .ok (.aload_n 0, 1) := by decide +kernel
theorem dX7_mayStand_9 : decode cX7_mayStand 9 = .ok (.getfield 60, 3) := by decide +kernel
theorem dX7_mayStand_12 : decode cX7_mayStand 12 = .ok (.ifCond .eq 25, 3) := by decide +kernel
theorem dX7_mayStand_15 : decode cX7_mayStand 15 = .ok (.aload_n 0, 1) := by decide +kernel
theorem dX7_mayStand_16 : decode cX7_mayStand 16 = .ok (.getfield 84, 3) := by decide +kernel
theorem dX7_mayStand_19 : decode cX7_mayStand 19 = .ok (.ifnonnull 18, 3) := by decide +kernel
theorem dX7_mayStand_22 : decode cX7_mayStand 22 = .ok (.iload_n 1, 1) := by decide +kernel
theorem dX7_mayStand_23 : decode cX7_mayStand 23 = .ok (.aload_n 0, 1) := by decide +kernel
theorem dX7_mayStand_24 : decode cX7_mayStand 24 = .ok (.getfield 18, 3) := by decide +kernel
theorem dX7_mayStand_27 : decode cX7_mayStand 27 = .ok (.isub, 1) := by decide +kernel
theorem dX7_mayStand_28 : decode cX7_mayStand 28 = .ok (.bipush 20, 2) := by decide +kernel
theorem dX7_mayStand_30 : decode cX7_mayStand 30 = .ok (.if_icmp .lt 7, 3) := by decide +kernel
theorem dX7_mayStand_33 : decode cX7_mayStand 33 = .ok (.iconst 1, 1) := by decide +kernel
theorem dX7_mayStand_34 : decode cX7_mayStand 34 = .ok (.goto 4, 3) := by decide +kernel
theorem dX7_mayStand_37 : decode cX7_mayStand 37 = .ok (.iconst 0, 1) := by decide +kernel
theorem dX7_mayStand_38 : decode cX7_mayStand 38 = .ok (.ireturn, 1) := by decide +kernel
theorem dX7_standAt_0 : decode cX7_standAt 0 = .ok (.aload_n 0, 1) := by decide +kernel
theorem dX7_standAt_1 : decode cX7_standAt 1 = .ok (.aload_n 1, 1) := by decide +kernel
theorem dX7_standAt_2 : decode cX7_standAt 2 = .ok (.putfield 84, 3) := by decide +kernel
theorem dX7_standAt_5 : decode cX7_standAt 5 = .ok (.aload_n 1, 1) := by decide +kernel
theorem dX7_standAt_6 : decode cX7_standAt 6 = .ok (.aload_n 0, 1) := by decide +kernel
theorem dX7_standAt_7 : decode cX7_standAt 7 = .ok (.putfield 88, 3) := by decide +kernel
theorem dX7_standAt_10 : decode cX7_standAt 10 = .ok (.aload_n 1, 1) := by decide +kernel
theorem dX7_standAt_11 : decode cX7_standAt 11 = .ok (.iload_n 2, 1) := by decide +kernel
theorem dX7_standAt_12 : decode cX7_standAt 12 = .ok (.putfield 94, 3) := by decide +kernel
theorem dX7_standAt_15 : decode cX7_standAt 15 = .ok (.return_, 1) := by decide +kernel
theorem dX7_leavePost_0 : decode cX7_leavePost 0 = .ok (.aload_n 0, 1) := by decide +kernel
theorem dX7_leavePost_1 : decode cX7_leavePost 1 = .ok (.getfield 84, 3) := by decide +kernel
theorem dX7_leavePost_4 : decode cX7_leavePost 4 = .ok (.ifnull 21, 3) := by decide +kernel
theorem dX7_leavePost_7 : decode cX7_leavePost 7 = .ok (.aload_n 0, 1) := by decide +kernel
theorem dX7_leavePost_8 : decode cX7_leavePost 8 = .ok (.getfield 84, 3) := by decide +kernel
theorem dX7_leavePost_11 : decode cX7_leavePost 11 = .ok (.aconst_null, 1) := by decide +kernel
theorem dX7_leavePost_12 : decode cX7_leavePost 12 = .ok (.putfield 88, 3) := by decide +kernel
theorem dX7_leavePost_15 : decode cX7_leavePost 15 = .ok (.aload_n 0, 1) := by decide +kernel
theorem dX7_leavePost_16 : decode cX7_leavePost 16 = .ok (.aconst_null, 1) := by decide +kernel
theorem dX7_leavePost_17 : decode cX7_leavePost 17 = .ok (.putfield 84, 3) := by decide +kernel
theorem dX7_leavePost_20 : decode cX7_leavePost 20 = .ok (.aload_n 0, 1) := by decide +kernel
theorem dX7_leavePost_21 : decode cX7_leavePost 21 = .ok (.iload_n 1, 1) := by decide +kernel
theorem dX7_leavePost_22 : decode cX7_leavePost 22 = .ok (.putfield 18, 3) := by decide +kernel
theorem dX7_leavePost_25 : decode cX7_leavePost 25 = .ok (.return_, 1) := by decide +kernel
theorem dX8_init_0 : decode cX8_init 0 = .ok (.aload_n 0, 1) := by decide +kernel
theorem dX8_init_1 : decode cX8_init 1 = .ok (.invokespecial 1, 3) := by decide +kernel
theorem dX8_init_4 : decode cX8_init 4 = .ok (.aload_n 0, 1) := by decide +kernel
theorem dX8_init_5 : decode cX8_init 5 = .ok (.iconst 4, 1) := by decide +kernel
theorem dX8_init_6 : decode cX8_init 6 = .ok (.anewarray 9, 3) := by decide +kernel
theorem dX8_init_9 : decode cX8_init 9 = .ok (.putfield 11, 3) := by decide +kernel
theorem dX8_init_12 : decode cX8_init 12 = .ok (.aload_n 0, 1) := by decide +kernel
theorem dX8_init_13 : decode cX8_init 13 = .ok (.sipush 200, 3) := by decide +kernel
theorem dX8_init_16 : decode cX8_init 16 = .ok (.anewarray 15, 3) := by decide +kernel
theorem dX8_init_19 : decode cX8_init 19 = .ok (.putfield 17, 3) := by decide +kernel
theorem dX8_init_22 : decode cX8_init 22 = .ok (.aload_n 0, 1) := by decide +kernel
theorem dX8_init_23 : decode cX8_init 23 = .ok (.bipush 20, 2) := by decide +kernel
theorem dX8_init_25 : decode cX8_init 25 = .ok (.anewarray 21, 3) := by decide +kernel
theorem dX8_init_28 : decode cX8_init 28 = .ok (.putfield 23, 3) := by decide +kernel
theorem dX8_init_31 : decode cX8_init 31 = .ok (.aload_n 0, 1) := by decide +kernel
theorem dX8_init_32 : decode cX8_init 32 = .ok (.new 27, 3) := by decide +kernel
theorem dX8_init_35 : decode cX8_init 35 = .ok (.dup, 1) := by decide +kernel
theorem dX8_init_36 : decode cX8_init 36 = .ok (.invokespecial 29, 3) := by decide +kernel
theorem dX8_init_39 : decode cX8_init 39 = .ok (.putfield 30, 3) := by decide +kernel
theorem dX8_init_42 : decode cX8_init 42 = .ok (.aload_n 0, 1) := by decide +kernel
theorem dX8_init_43 : decode cX8_init 43 = .ok (.new 34, 3) := by decide +kernel
theorem dX8_init_46 : decode cX8_init 46 = .ok (.dup, 1) := by decide +kernel
theorem dX8_init_47 : decode cX8_init 47 = .ok (.invokespecial 36, 3) := by decide +kernel
theorem dX8_init_50 : decode cX8_init 50 = .ok (.putfield 37, 3) := by decide +kernel
theorem dX8_init_53 : decode cX8_init 53 = .ok (.aload_n 0, 1) := by decide +kernel
theorem dX8_init_54 : decode cX8_init 54 = .ok (.iconst (-1), 1) := by decide +kernel
theorem dX8_init_55 : decode cX8_init 55 = .ok (.putfield 41, 3) := by decide +kernel
theorem dX8_init_58 : decode cX8_init 58 = .ok (.return_, 1) := by decide +kernel
theorem dX8_pool_0 : decode cX8_pool 0 = .ok (.aload_n 0, 1) := by decide +kernel
theorem dX8_pool_1 : decode cX8_pool 1 = .ok (.getfield 45, 3) := by decide +kernel
theorem dX8_pool_4 : decode cX8_pool 4 = .ok (.ifCond .ne 21, 3) := by decide +kernel
theorem dX8_pool_7 : decode cX8_pool 7 = .ok (.iload_n 1, 1) := by decide +kernel
theorem dX8_pool_8 : decode cX8_pool 8 = .ok (.iconst 0, 1) := by decide +kernel
theorem dX8_pool_9 : decode cX8_pool 9 = .ok (.iconst 3, 1) := by decide +kernel
theorem dX8_pool_10 : decode cX8_pool 10 = .ok (.invokestatic 48, 3) := by decide +kernel
theorem dX8_pool_13 : decode cX8_pool 13 = .ok (.ifCond .eq 12, 3) := by decide +kernel
theorem dX8_pool_16 : decode cX8_pool 16 = .ok (.aload_n 0, 1) := by decide +kernel
theorem dX8_pool_17 : decode cX8_pool 17 = .ok (.getfield 11, 3) := by decide +kernel
theorem dX8_pool_20 : decode cX8_pool 20 = .ok (.iload_n 1, 1) := by decide +kernel
theorem dX8_pool_21 : decode cX8_pool 21 = .ok (.aaload, 1) := by decide +kernel
theorem dX8_pool_22 : decode cX8_pool 22 = .ok (.ifnull 5, 3) := by decide +kernel
theorem dX8_pool_25 : decode cX8_pool 25 = .ok (.iconst 0, 1) := by decide +kernel
theorem dX8_pool_26 : decode cX8_pool 26 = .ok (.ireturn, 1) := by decide +kernel
theorem dX8_pool_27 : decode cX8_pool 27 = .ok (.iload_n 2, 1) := by decide +kernel
theorem dX8_pool_28 : decode cX8_pool 28 = .ok (.iconst 1, 1) := by decide +kernel
theorem dX8_pool_29 : decode cX8_pool 29 = .ok (.sipush 200, 3) := by decide +kernel
theorem dX8_pool_32 : decode cX8_pool 32 = .ok (.invokestatic 48, 3) := by decide +kernel
theorem dX8_pool_35 : decode cX8_pool 35 = .ok (.ifCond .eq 23, 3) := by decide +kernel
theorem dX8_pool_38 : decode cX8_pool 38 = .ok (.iload_n 3, 1) := by decide +kernel
theorem dX8_pool_39 : decode cX8_pool 39 = .ok (.iconst 1, 1) := by decide +kernel
theorem dX8_pool_40 : decode cX8_pool 40 = .ok (.bipush 8, 2) := by decide +kernel
theorem dX8_pool_42 : decode cX8_pool 42 = .ok (.invokestatic 48, 3) := by decide +kernel
theorem dX8_pool_45 : decode cX8_pool 45 = .ok (.ifCond .eq 13, 3) := by decide +kernel
theorem dX8_pool_48 : decode cX8_pool 48 = .ok (.iload 4, 2) := by decide +kernel
theorem dX8_pool_50 : decode cX8_pool 50 = .ok (.iconst 0, 1) := by decide +kernel
theorem dX8_pool_51 : decode cX8_pool 51 = .ok (.iconst 3, 1) := by decide +kernel
theorem dX8_pool_52 : decode cX8_pool 52 = .ok (.invokestatic 48, 3) := by decide +kernel
theorem dX8_pool_55 : decode cX8_pool 55 = .ok (.ifCond .ne 5, 3) := by decide +kernel
theorem dX8_pool_58 : decode cX8_pool 58 = .ok (.iconst 0, 1) := by decide +kernel
theorem dX8_pool_59 : decode cX8_pool 59 = .ok (.ireturn, 1) := by decide +kernel
theorem dX8_pool_60 : decode cX8_pool 60 = .ok (.aload_n 0, 1) := by decide +kernel
theorem dX8_pool_61 : decode cX8_pool 61 = .ok (.getfield 11, 3) := by decide +kernel
theorem dX8_pool_64 : decode cX8_pool 64 = .ok (.iload_n 1, 1) := by decide +kernel
theorem dX8_pool_65 : decode cX8_pool 65 = .ok (.new 9, 3) := by decide +kernel
theorem dX8_pool_68 : decode cX8_pool 68 = .ok (.dup, 1) := by decide +kernel
theorem dX8_pool_69 : decode cX8_pool 69 = .ok (.iload_n 1, 1) := by decide +kernel
theorem dX8_pool_70 : decode cX8_pool 70 = .ok (.iload_n 2, 1) := by decide +kernel
theorem dX8_pool_71 : decode cX8_pool 71 = .ok (.iload_n 3, 1) := by decide +kernel
theorem dX8_pool_72 : decode cX8_pool 72 = .ok (.iload 4, 2) := by decide +kernel
theorem dX8_pool_74 : decode cX8_pool 74 = .ok (.invokespecial 52, 3) := by decide +kernel
theorem dX8_pool_77 : decode cX8_pool 77 = .ok (.aastore, 1) := by decide +kernel
theorem dX8_pool_78 : decode cX8_pool 78 = .ok (.iconst 1, 1) := by decide +kernel
theorem dX8_pool_79 : decode cX8_pool 79 = .ok (.ireturn, 1) := by decide +kernel
theorem dX8_go_0 : decode cX8_go 0 = .ok (.iload_n 1, 1) := by decide +kernel
theorem dX8_go_1 : decode cX8_go 1 = .ok (.iconst 1, 1) := by decide +kernel
theorem dX8_go_2 : decode cX8_go 2 = .ok (.sipush 240, 3) := by decide +kernel
theorem dX8_go_5 : decode cX8_go 5 = .ok (.invokestatic 48, 3) := by decide +kernel
theorem dX8_go_8 : decode cX8_go 8 = .ok (.ifCond .eq 15, 3) := by decide +kernel
theorem dX8_go_11 : decode cX8_go 11 = .ok (.aload_n 0, 1) := by decide +kernel
theorem dX8_go_12 : decode cX8_go 12 = .ok (.getfield 45, 3) := by decide +kernel
theorem dX8_go_15 : decode cX8_go 15 = .ok (.iload_n 1, 1) := by decide +kernel
theorem dX8_go_16 : decode cX8_go 16 = .ok (.iadd, 1) := by decide +kernel
theorem dX8_go_17 : decode cX8_go 17 = .ok (.sipush 1440, 3) := by decide +kernel
theorem dX8_go_20 : decode cX8_go 20 = .ok (.if_icmp .lt 5, 3) := by decide +kernel
theorem dX8_go_23 : decode cX8_go 23 = .ok (.iconst (-1), 1) := by decide +kernel
theorem dX8_go_24 : decode cX8_go 24 = .ok (.ireturn, 1) := by decide +kernel
theorem dX8_go_25 : decode cX8_go 25 = .ok (.iconst 0, 1) := by decide +kernel
theorem dX8_go_26 : decode cX8_go 26 = .ok (.istore_n 2, 1) := by decide +kernel
theorem dX8_go_27 : decode cX8_go 27 = .ok (.iload_n 2, 1) := by decide +kernel
theorem dX8_go_28 : decode cX8_go 28 = .ok (.iload_n 1, 1) := by decide +kernel
theorem dX8_go_29 : decode cX8_go 29 = .ok (.if_icmp .ge 23, 3) := by decide +kernel
theorem dX8_go_32 : decode cX8_go 32 = .ok (.aload_n 0, 1) := by decide +kernel
theorem dX8_go_33 : decode cX8_go 33 = .ok (.invokevirtual 55, 3) := by decide +kernel
theorem dX8_go_36 : decode cX8_go 36 = .ok (.aload_n 0, 1) := by decide +kernel
theorem dX8_go_37 : decode cX8_go 37 = .ok (.dup, 1) := by decide +kernel
theorem dX8_go_38 : decode cX8_go 38 = .ok (.getfield 45, 3) := by decide +kernel
theorem dX8_go_41 : decode cX8_go 41 = .ok (.iconst 1, 1) := by decide +kernel
theorem dX8_go_42 : decode cX8_go 42 = .ok (.iadd, 1) := by decide +kernel
theorem dX8_go_43 : decode cX8_go 43 = .ok (.putfield 45, 3) := by decide +kernel
theorem dX8_go_46 : decode cX8_go 46 = .ok (.iinc 2 1, 3) := by decide +kernel
theorem dX8_go_49 : decode cX8_go 49 = .ok (.goto (-22), 3) := by decide +kernel
theorem dX8_go_52 : decode cX8_go 52 = .ok (.aload_n 0, 1) := by decide +kernel
theorem dX8_go_53 : decode cX8_go 53 = .ok (.getfield 45, 3) := by decide +kernel
theorem dX8_go_56 : decode cX8_go 56 = .ok (.ireturn, 1) := by decide +kernel
theorem dX8_ticket_0 : decode cX8_ticket 0 = .ok (.aload_n 0, 1) := by decide +kernel
theorem dX8_ticket_1 : decode cX8_ticket 1 = .ok (.iload_n 1, 1) := by decide +kernel
theorem dX8_ticket_2 : decode cX8_ticket 2 = .ok (.invokevirtual 58, 3) := by decide +kernel
theorem dX8_ticket_5 : decode cX8_ticket 5 = .ok (.astore 5, 2) := by decide +kernel
theorem dX8_ticket_7 : decode cX8_ticket 7 = .ok (.aload_n 0, 1) := by decide +kernel
theorem dX8_ticket_8 : decode cX8_ticket 8 = .ok (.getfield 62, 3) := by decide +kernel
theorem dX8_ticket_11 : decode cX8_ticket 11 = .ok (.sipush 200, 3) := by decide +kernel
theorem dX8_ticket_14 : decode cX8_ticket 14 = .ok (.if_icmp .ge 19, 3) := by decide +kernel
theorem dX8_ticket_17 : decode cX8_ticket 17 = .ok (.aload 5, 2) := by decide +kernel
theorem dX8_ticket_19 : decode cX8_ticket 19 = .ok (.ifnull 14, 3) := by decide +kernel
theorem dX8_ticket_22 : decode cX8_ticket 22 = .ok (.aload_n 0, 1) := by decide +kernel
theorem dX8_ticket_23 : decode cX8_ticket 23 = .ok (.aload 5, 2) := by decide +kernel
theorem dX8_ticket_25 : decode cX8_ticket 25 = .ok (.iload_n 2, 1) := by decide +kernel
theorem dX8_ticket_26 : decode cX8_ticket 26 = .ok (.iload_n 3, 1) := by decide +kernel
theorem dX8_ticket_27 : decode cX8_ticket 27 = .ok (.invokevirtual 65, 3) := by decide +kernel
theorem dX8_ticket_30 : decode cX8_ticket 30 = .ok (.ifCond .ne 5, 3) := by decide +kernel
theorem dX8_ticket_33 : decode cX8_ticket 33 = .ok (.iconst (-1), 1) := by decide +kernel
theorem dX8_ticket_34 : decode cX8_ticket 34 = .ok (.ireturn, 1) := by decide +kernel
theorem dX8_ticket_35 : decode cX8_ticket 35 = .ok (.aload_n 0, 1) := by decide +kernel
theorem dX8_ticket_36 : decode cX8_ticket 36 = .ok (.getfield 62, 3) := by decide +kernel
theorem dX8_ticket_39 : decode cX8_ticket 39 = .ok (.istore 6, 2) := by decide +kernel
theorem dX8_ticket_41 : decode cX8_ticket 41 = .ok (.iload_n 2, 1) := by decide +kernel
theorem dX8_ticket_42 : decode cX8_ticket 42 = .ok (.invokestatic 69, 3) := by decide +kernel
theorem dX8_ticket_45 : decode cX8_ticket 45 = .ok (.ifCond .eq 11, 3) := by decide +kernel
theorem dX8_ticket_48 : decode cX8_ticket 48 = .ok (.aload_n 0, 1) := by decide +kernel
theorem dX8_ticket_49 : decode cX8_ticket 49 = .ok (.iload_n 3, 1) := by decide +kernel
theorem dX8_ticket_50 : decode cX8_ticket 50 = .ok (.invokevirtual 73, 3) := by decide +kernel
theorem dX8_ticket_53 : decode cX8_ticket 53 = .ok (.goto 4, 3) := by decide +kernel
theorem dX8_ticket_56 : decode cX8_ticket 56 = .ok (.aconst_null, 1) := by decide +kernel
theorem dX8_ticket_57 : decode cX8_ticket 57 = .ok (.astore 7, 2) := by decide +kernel
theorem dX8_ticket_59 : decode cX8_ticket 59 = .ok (.aload_n 0, 1) := by decide +kernel
theorem dX8_ticket_60 : decode cX8_ticket 60 = .ok (.getfield 17, 3) := by decide +kernel
theorem dX8_ticket_63 : decode cX8_ticket 63 = .ok (.iload 6, 2) := by decide +kernel
theorem dX8_ticket_65 : decode cX8_ticket 65 = .ok (.new 15, 3) := by decide +kernel
theorem dX8_ticket_68 : decode cX8_ticket 68 = .ok (.dup, 1) := by decide +kernel
theorem dX8_ticket_69 : decode cX8_ticket 69 = .ok (.iload 6, 2) := by decide +kernel
theorem dX8_ticket_71 : decode cX8_ticket 71 = .ok (.aload 5, 2) := by decide +kernel
theorem dX8_ticket_73 : decode cX8_ticket 73 = .ok (.iload_n 2, 1) := by decide +kernel
theorem dX8_ticket_74 : decode cX8_ticket 74 = .ok (.iload_n 3, 1) := by decide +kernel
theorem dX8_ticket_75 : decode cX8_ticket 75 = .ok (.aload 7, 2) := by decide +kernel
theorem dX8_ticket_77 : decode cX8_ticket 77 = .ok (.iload 4, 2) := by decide +kernel
theorem dX8_ticket_79 : decode cX8_ticket 79 = .ok (.invokespecial 77, 3) := by decide +kernel
theorem dX8_ticket_82 : decode cX8_ticket 82 = .ok (.aastore, 1) := by decide +kernel
theorem dX8_ticket_83 : decode cX8_ticket 83 = .ok (.aload_n 0, 1) := by decide +kernel
theorem dX8_ticket_84 : decode cX8_ticket 84 = .ok (.dup, 1) := by decide +kernel
theorem dX8_ticket_85 : decode cX8_ticket 85 = .ok (.getfield 62, 3) := by decide +kernel
theorem dX8_ticket_88 : decode cX8_ticket 88 = .ok (.iconst 1, 1) := by decide +kernel
theorem dX8_ticket_89 : decode cX8_ticket 89 = .ok (.iadd, 1) := by decide +kernel
theorem dX8_ticket_90 : decode cX8_ticket 90 = .ok (.putfield 62, 3) := by decide +kernel
theorem dX8_ticket_93 : decode cX8_ticket 93 = .ok (.iload 6, 2) := by decide +kernel
theorem dX8_ticket_95 : decode cX8_ticket 95 = .ok (.ireturn, 1) := by decide +kernel
theorem dX8_club_0 : decode cX8_club 0 = .ok (.aload_n 0, 1) := by decide +kernel
theorem dX8_club_1 : decode cX8_club 1 = .ok (.iload_n 1, 1) := by decide +kernel
theorem dX8_club_2 : decode cX8_club 2 = .ok (.invokevirtual 58, 3) := by decide +kernel
theorem dX8_club_5 : decode cX8_club 5 = .ok (.astore 6, 2) := by decide +kernel
theorem dX8_club_7 : decode cX8_club 7 = .ok (.aload_n 0, 1) := by decide +kernel
theorem dX8_club_8 : decode cX8_club 8 = .ok (.getfield 80, 3) := by decide +kernel
theorem dX8_club_11 : decode cX8_club 11 = .ok (.bipush 20, 2) := by decide +kernel
theorem dX8_club_13 : decode cX8_club 13 = .ok (.if_icmp .ge 53, 3) := by decide +kernel
theorem dX8_club_16 : decode cX8_club 16 = .ok (.aload 6, 2) := by decide +kernel
theorem dX8_club_18 : decode cX8_club 18 = .ok (.ifnull 48, 3) := by decide +kernel
theorem dX8_club_21 : decode cX8_club 21 = .ok (.aload 6, 2) := by decide +kernel
theorem dX8_club_23 : decode cX8_club 23 = .ok (.iload_n 2, 1) := by decide +kernel
theorem dX8_club_24 : decode cX8_club 24 = .ok (.invokevirtual 83, 3) := by decide +kernel
theorem dX8_club_27 : decode cX8_club 27 = .ok (.ifCond .eq 39, 3) := by decide +kernel
theorem dX8_club_30 : decode cX8_club 30 = .ok (.iload_n 3, 1) := by decide +kernel
theorem dX8_club_31 : decode cX8_club 31 = .ok (.iconst 0, 1) := by decide +kernel
theorem dX8_club_32 : decode cX8_club 32 = .ok (.sipush 1439, 3) := by decide +kernel
theorem dX8_club_35 : decode cX8_club 35 = .ok (.invokestatic 48, 3) := by decide +kernel
theorem dX8_club_38 : decode cX8_club 38 = .ok (.ifCond .eq 28, 3) := by decide +kernel
theorem dX8_club_41 : decode cX8_club 41 = .ok (.iload 4, 2) := by decide +kernel
theorem dX8_club_43 : decode cX8_club 43 = .ok (.iload_n 3, 1) := by decide +kernel
theorem dX8_club_44 : decode cX8_club 44 = .ok (.if_icmp .le 22, 3) := by decide +kernel
theorem dX8_club_47 : decode cX8_club 47 = .ok (.iload 4, 2) := by decide +kernel
theorem dX8_club_49 : decode cX8_club 49 = .ok (.sipush 1440, 3) := by decide +kernel
theorem dX8_club_52 : decode cX8_club 52 = .ok (.if_icmp .gt 14, 3) := by decide +kernel
theorem dX8_club_55 : decode cX8_club 55 = .ok (.iload 5, 2) := by decide +kernel
theorem dX8_club_57 : decode cX8_club 57 = .ok (.iconst 0, 1) := by decide +kernel
theorem dX8_club_58 : decode cX8_club 58 = .ok (.bipush 30, 2) := by decide +kernel
theorem dX8_club_60 : decode cX8_club 60 = .ok (.invokestatic 48, 3) := by decide +kernel
theorem dX8_club_63 : decode cX8_club 63 = .ok (.ifCond .ne 5, 3) := by decide +kernel
theorem dX8_club_66 : decode cX8_club 66 = .ok (.iconst (-1), 1) := by decide +kernel
theorem dX8_club_67 : decode cX8_club 67 = .ok (.ireturn, 1) := by decide +kernel
theorem dX8_club_68 : decode cX8_club 68 = .ok (.new 21, 3) := by decide +kernel
theorem dX8_club_71 : decode cX8_club 71 = .ok (.dup, 1) := by decide +kernel
theorem dX8_club_72 : decode cX8_club 72 = .ok (.aload 6, 2) := by decide +kernel
theorem dX8_club_74 : decode cX8_club 74 = .ok (.iload_n 2, 1) := by decide +kernel
theorem dX8_club_75 : decode cX8_club 75 = .ok (.iload_n 3, 1) := by decide +kernel
theorem dX8_club_76 : decode cX8_club 76 = .ok (.iload 4, 2) := by decide +kernel
theorem dX8_club_78 : decode cX8_club 78 = .ok (.iload 5, 2) := by decide +kernel
theorem dX8_club_80 : decode cX8_club 80 = .ok (.invokespecial 86, 3) := by decide +kernel
theorem dX8_club_83 : decode cX8_club 83 = .ok (.astore 7, 2) := by decide +kernel
theorem dX8_club_85 : decode cX8_club 85 = .ok (.aload_n 0, 1) := by decide +kernel
theorem dX8_club_86 : decode cX8_club 86 = .ok (.aload 7, 2) := by decide +kernel
theorem dX8_club_88 : decode cX8_club 88 = .ok (.invokevirtual 89, 3) := by decide +kernel
theorem dX8_club_91 : decode cX8_club 91 = .ok (.istore 8, 2) := by decide +kernel
theorem dX8_club_93 : decode cX8_club 93 = .ok (.iload 8, 2) := by decide +kernel
theorem dX8_club_95 : decode cX8_club 95 = .ok (.iconst (-1), 1) := by decide +kernel
theorem dX8_club_96 : decode cX8_club 96 = .ok (.if_icmp .eq 11, 3) := by decide +kernel
theorem dX8_club_99 : decode cX8_club 99 = .ok (.aload_n 0, 1) := by decide +kernel
theorem dX8_club_100 : decode cX8_club 100 = .ok (.iload 8, 2) := by decide +kernel
theorem dX8_club_102 : decode cX8_club 102 = .ok (.putfield 41, 3) := by decide +kernel
theorem dX8_club_105 : decode cX8_club 105 = .ok (.iconst (-1), 1) := by decide +kernel
theorem dX8_club_106 : decode cX8_club 106 = .ok (.ireturn, 1) := by decide +kernel
theorem dX8_club_107 : decode cX8_club 107 = .ok (.aload_n 0, 1) := by decide +kernel
theorem dX8_club_108 : decode cX8_club 108 = .ok (.getfield 80, 3) := by decide +kernel
theorem dX8_club_111 : decode cX8_club 111 = .ok (.istore 9, 2) := by decide +kernel
theorem dX8_club_113 : decode cX8_club 113 = .ok (.aload_n 0, 1) := by decide +kernel
theorem dX8_club_114 : decode cX8_club 114 = .ok (.getfield 23, 3) := by decide +kernel
theorem dX8_club_117 : decode cX8_club 117 = .ok (.iload 9, 2) := by decide +kernel
theorem dX8_club_119 : decode cX8_club 119 = .ok (.aload 7, 2) := by decide +kernel
theorem dX8_club_121 : decode cX8_club 121 = .ok (.aastore, 1) := by decide +kernel
theorem dX8_club_122 : decode cX8_club 122 = .ok (.aload_n 0, 1) := by decide +kernel
theorem dX8_club_123 : decode cX8_club 123 = .ok (.dup, 1) := by decide +kernel
theorem dX8_club_124 : decode cX8_club 124 = .ok (.getfield 80, 3) := by decide +kernel
theorem dX8_club_127 : decode cX8_club 127 = .ok (.iconst 1, 1) := by decide +kernel
theorem dX8_club_128 : decode cX8_club 128 = .ok (.iadd, 1) := by decide +kernel
theorem dX8_club_129 : decode cX8_club 129 = .ok (.putfield 80, 3) := by decide +kernel
theorem dX8_club_132 : decode cX8_club 132 = .ok (.iload 9, 2) := by decide +kernel
theorem dX8_club_134 : decode cX8_club 134 = .ok (.ireturn, 1) := by decide +kernel
theorem dX8_clash_0 : decode cX8_clash 0 = .ok (.aload_n 0, 1) := by decide +kernel
theorem dX8_clash_1 : decode cX8_clash 1 = .ok (.getfield 41, 3) := by decide +kernel
theorem dX8_clash_4 : decode cX8_clash 4 = .ok (.ireturn, 1) := by decide +kernel
theorem dX8_leave_0 : decode cX8_leave 0 = .ok (.aload_n 0, 1) := by decide +kernel
theorem dX8_leave_1 : decode cX8_leave 1 = .ok (.iload_n 1, 1) := by decide +kernel
theorem dX8_leave_2 : decode cX8_leave 2 = .ok (.invokevirtual 73, 3) := by decide +kernel
theorem dX8_leave_5 : decode cX8_leave 5 = .ok (.astore_n 2, 1) := by decide +kernel
theorem dX8_leave_6 : decode cX8_leave 6 = .ok (.aload_n 2, 1) := by decide +kernel
theorem dX8_leave_7 : decode cX8_leave 7 = .ok (.ifnull 14, 3) := by decide +kernel
theorem dX8_leave_10 : decode cX8_leave 10 = .ok (.aload_n 0, 1) := by decide +kernel
theorem dX8_leave_11 : decode cX8_leave 11 = .ok (.getfield 45, 3) := by decide +kernel
theorem dX8_leave_14 : decode cX8_leave 14 = .ok (.aload_n 2, 1) := by decide +kernel
theorem dX8_leave_15 : decode cX8_leave 15 = .ok (.getfield 93, 3) := by decide +kernel
theorem dX8_leave_18 : decode cX8_leave 18 = .ok (.if_icmp .lt 5, 3) := by decide +kernel
theorem dX8_leave_21 : decode cX8_leave 21 = .ok (.iconst 0, 1) := by decide +kernel
theorem dX8_leave_22 : decode cX8_leave 22 = .ok (.ireturn, 1) := by decide +kernel
theorem dX8_leave_23 : decode cX8_leave 23 = .ok (.aload_n 2, 1) := by decide +kernel
theorem dX8_leave_24 : decode cX8_leave 24 = .ok (.aload_n 0, 1) := by decide +kernel
theorem dX8_leave_25 : decode cX8_leave 25 = .ok (.getfield 45, 3) := by decide +kernel
theorem dX8_leave_28 : decode cX8_leave 28 = .ok (.putfield 93, 3) := by decide +kernel
theorem dX8_leave_31 : decode cX8_leave 31 = .ok (.iconst 1, 1) := by decide +kernel
theorem dX8_leave_32 : decode cX8_leave 32 = .ok (.ireturn, 1) := by decide +kernel
theorem dX8_may_0 : decode cX8_may 0 = .ok (.aload_n 0, 1) := by decide +kernel
theorem dX8_may_1 : decode cX8_may 1 = .ok (.iload_n 1, 1) := by decide +kernel
theorem dX8_may_2 : decode cX8_may 2 = .ok (.invokevirtual 96, 3) := by decide +kernel
theorem dX8_may_5 : decode cX8_may 5 = .ok (.astore_n 2, 1) := by decide +kernel
theorem dX8_may_6 : decode cX8_may 6 = .ok (.aload_n 2, 1) := by decide +kernel
theorem dX8_may_7 : decode cX8_may 7 = .ok (.ifnonnull 7, 3) := by decide +kernel
theorem dX8_may_10 : decode cX8_may 10 = .ok (.iconst (-1), 1) := by decide +kernel
theorem dX8_may_11 : decode cX8_may 11 = .ok (.goto 8, 3) := by decide +kernel
theorem dX8_may_14 : decode cX8_may 14 = .ok (.aload_n 0, 1) := by decide +kernel
theorem dX8_may_15 : decode cX8_may 15 = .ok (.aload_n 2, 1) := by decide +kernel
theorem dX8_may_16 : decode cX8_may 16 = .ok (.invokevirtual 100, 3) := by decide +kernel
theorem dX8_may_19 : decode cX8_may 19 = .ok (.ireturn, 1) := by decide +kernel
theorem dX8_in_0 : decode cX8_in 0 = .ok (.aload_n 0, 1) := by decide +kernel
theorem dX8_in_1 : decode cX8_in 1 = .ok (.iload_n 1, 1) := by decide +kernel
theorem dX8_in_2 : decode cX8_in 2 = .ok (.invokevirtual 96, 3) := by decide +kernel
theorem dX8_in_5 : decode cX8_in 5 = .ok (.astore_n 2, 1) := by decide +kernel
theorem dX8_in_6 : decode cX8_in 6 = .ok (.aload_n 2, 1) := by decide +kernel
theorem dX8_in_7 : decode cX8_in 7 = .ok (.ifnonnull 5, 3) := by decide +kernel
theorem dX8_in_10 : decode cX8_in 10 = .ok (.iconst (-1), 1) := by decide +kernel
theorem dX8_in_11 : decode cX8_in 11 = .ok (.ireturn, 1) := by decide +kernel
theorem dX8_in_12 : decode cX8_in 12 = .ok (.aload_n 0, 1) := by decide +kernel
theorem dX8_in_13 : decode cX8_in 13 = .ok (.aload_n 2, 1) := by decide +kernel
theorem dX8_in_14 : decode cX8_in 14 = .ok (.invokevirtual 100, 3) := by decide +kernel
theorem dX8_in_17 : decode cX8_in 17 = .ok (.istore_n 3, 1) := by decide +kernel
theorem dX8_in_18 : decode cX8_in 18 = .ok (.iload_n 3, 1) := by decide +kernel
theorem dX8_in_19 : decode cX8_in 19 = .ok (.ifCond .ne 19, 3) := by decide +kernel
theorem dX8_in_22 : decode cX8_in 22 = .ok (.aload_n 2, 1) := by decide +kernel
theorem dX8_in_23 : decode cX8_in 23 = .ok (.aload_n 0, 1) := by decide +kernel
theorem dX8_in_24 : decode cX8_in 24 = .ok (.getfield 45, 3) := by decide +kernel
theorem dX8_in_27 : decode cX8_in 27 = .ok (.invokevirtual 104, 3) := by decide +kernel
theorem dX8_in_30 : decode cX8_in 30 = .ok (.aload_n 2, 1) := by decide +kernel
theorem dX8_in_31 : decode cX8_in 31 = .ok (.getfield 108, 3) := by decide +kernel
theorem dX8_in_34 : decode cX8_in 34 = .ok (.aload_n 2, 1) := by decide +kernel
theorem dX8_in_35 : decode cX8_in 35 = .ok (.invokevirtual 112, 3) := by decide +kernel
theorem dX8_in_38 : decode cX8_in 38 = .ok (.iload_n 3, 1) := by decide +kernel
theorem dX8_in_39 : decode cX8_in 39 = .ok (.ireturn, 1) := by decide +kernel
theorem dX8_out_0 : decode cX8_out 0 = .ok (.aload_n 0, 1) := by decide +kernel
theorem dX8_out_1 : decode cX8_out 1 = .ok (.iload_n 1, 1) := by decide +kernel
theorem dX8_out_2 : decode cX8_out 2 = .ok (.invokevirtual 96, 3) := by decide +kernel
theorem dX8_out_5 : decode cX8_out 5 = .ok (.astore_n 2, 1) := by decide +kernel
theorem dX8_out_6 : decode cX8_out 6 = .ok (.aload_n 2, 1) := by decide +kernel
theorem dX8_out_7 : decode cX8_out 7 = .ok (.ifnull 10, 3) := by decide +kernel
theorem dX8_out_10 : decode cX8_out 10 = .ok (.aload_n 2, 1) := by decide +kernel
theorem dX8_out_11 : decode cX8_out 11 = .ok (.getfield 116, 3) := by decide +kernel
theorem dX8_out_14 : decode cX8_out 14 = .ok (.ifCond .ne 5, 3) := by decide +kernel
theorem dX8_out_17 : decode cX8_out 17 = .ok (.iconst (-1), 1) := by decide +kernel
theorem dX8_out_18 : decode cX8_out 18 = .ok (.ireturn, 1) := by decide +kernel
theorem dX8_out_19 : decode cX8_out 19 = .ok (.aload_n 2, 1) := by decide +kernel
theorem dX8_out_20 : decode cX8_out 20 = .ok (.getfield 108, 3) := by decide +kernel
theorem dX8_out_23 : decode cX8_out 23 = .ok (.getfield 120, 3) := by decide +kernel
theorem dX8_out_26 : decode cX8_out 26 = .ok (.getfield 124, 3) := by decide +kernel
theorem dX8_out_29 : decode cX8_out 29 = .ok (.iconst 3, 1) := by decide +kernel
theorem dX8_out_30 : decode cX8_out 30 = .ok (.if_icmp .lt 6, 3) := by decide +kernel
theorem dX8_out_33 : decode cX8_out 33 = .ok (.bipush (-2), 2) := by decide +kernel
theorem dX8_out_35 : decode cX8_out 35 = .ok (.ireturn, 1) := by decide +kernel
theorem dX8_out_36 : decode cX8_out 36 = .ok (.aload_n 2, 1) := by decide +kernel
theorem dX8_out_37 : decode cX8_out 37 = .ok (.aload_n 0, 1) := by decide +kernel
theorem dX8_out_38 : decode cX8_out 38 = .ok (.getfield 45, 3) := by decide +kernel
theorem dX8_out_41 : decode cX8_out 41 = .ok (.invokevirtual 129, 3) := by decide +kernel
theorem dX8_out_44 : decode cX8_out 44 = .ok (.istore_n 3, 1) := by decide +kernel
theorem dX8_out_45 : decode cX8_out 45 = .ok (.aload_n 0, 1) := by decide +kernel
theorem dX8_out_46 : decode cX8_out 46 = .ok (.dup, 1) := by decide +kernel
theorem dX8_out_47 : decode cX8_out 47 = .ok (.getfield 133, 3) := by decide +kernel
theorem dX8_out_50 : decode cX8_out 50 = .ok (.iload_n 3, 1) := by decide +kernel
theorem dX8_out_51 : decode cX8_out 51 = .ok (.iadd, 1) := by decide +kernel
theorem dX8_out_52 : decode cX8_out 52 = .ok (.putfield 133, 3) := by decide +kernel
theorem dX8_out_55 : decode cX8_out 55 = .ok (.aload_n 2, 1) := by decide +kernel
theorem dX8_out_56 : decode cX8_out 56 = .ok (.aload_n 0, 1) := by decide +kernel
theorem dX8_out_57 : decode cX8_out 57 = .ok (.getfield 45, 3) := by decide +kernel
theorem dX8_out_60 : decode cX8_out 60 = .ok (.iload_n 3, 1) := by decide +kernel
theorem dX8_out_61 : decode cX8_out 61 = .ok (.invokevirtual 136, 3) := by decide +kernel
theorem dX8_out_64 : decode cX8_out 64 = .ok (.aload_n 2, 1) := by decide +kernel
theorem dX8_out_65 : decode cX8_out 65 = .ok (.getfield 108, 3) := by decide +kernel
theorem dX8_out_68 : decode cX8_out 68 = .ok (.aload_n 2, 1) := by decide +kernel
theorem dX8_out_69 : decode cX8_out 69 = .ok (.invokevirtual 140, 3) := by decide +kernel
theorem dX8_out_72 : decode cX8_out 72 = .ok (.aload_n 0, 1) := by decide +kernel
theorem dX8_out_73 : decode cX8_out 73 = .ok (.getfield 30, 3) := by decide +kernel
theorem dX8_out_76 : decode cX8_out 76 = .ok (.aload_n 2, 1) := by decide +kernel
theorem dX8_out_77 : decode cX8_out 77 = .ok (.getfield 143, 3) := by decide +kernel
theorem dX8_out_80 : decode cX8_out 80 = .ok (.invokevirtual 146, 3) := by decide +kernel
theorem dX8_out_83 : decode cX8_out 83 = .ok (.aload_n 2, 1) := by decide +kernel
theorem dX8_out_84 : decode cX8_out 84 = .ok (.iconst (-1), 1) := by decide +kernel
theorem dX8_out_85 : decode cX8_out 85 = .ok (.putfield 143, 3) := by decide +kernel
theorem dX8_out_88 : decode cX8_out 88 = .ok (.iload_n 3, 1) := by decide +kernel
theorem dX8_out_89 : decode cX8_out 89 = .ok (.ireturn, 1) := by decide +kernel
theorem dX8_eye_0 : decode cX8_eye 0 = .ok (.aload_n 0, 1) := by decide +kernel
theorem dX8_eye_1 : decode cX8_eye 1 = .ok (.iload_n 1, 1) := by decide +kernel
theorem dX8_eye_2 : decode cX8_eye 2 = .ok (.invokevirtual 58, 3) := by decide +kernel
theorem dX8_eye_5 : decode cX8_eye 5 = .ok (.astore_n 3, 1) := by decide +kernel
theorem dX8_eye_6 : decode cX8_eye 6 = .ok (.aload_n 3, 1) := by decide +kernel
theorem dX8_eye_7 : decode cX8_eye 7 = .ok (.ifnull 14, 3) := by decide +kernel
theorem dX8_eye_10 : decode cX8_eye 10 = .ok (.aload_n 3, 1) := by decide +kernel
theorem dX8_eye_11 : decode cX8_eye 11 = .ok (.getfield 120, 3) := by decide +kernel
theorem dX8_eye_14 : decode cX8_eye 14 = .ok (.getfield 149, 3) := by decide +kernel
theorem dX8_eye_17 : decode cX8_eye 17 = .ok (.iload_n 2, 1) := by decide +kernel
theorem dX8_eye_18 : decode cX8_eye 18 = .ok (.if_icmp .ne 5, 3) := by decide +kernel
theorem dX8_eye_21 : decode cX8_eye 21 = .ok (.iconst 0, 1) := by decide +kernel
theorem dX8_eye_22 : decode cX8_eye 22 = .ok (.ireturn, 1) := by decide +kernel
theorem dX8_eye_23 : decode cX8_eye 23 = .ok (.aload_n 3, 1) := by decide +kernel
theorem dX8_eye_24 : decode cX8_eye 24 = .ok (.getfield 120, 3) := by decide +kernel
theorem dX8_eye_27 : decode cX8_eye 27 = .ok (.iload_n 2, 1) := by decide +kernel
theorem dX8_eye_28 : decode cX8_eye 28 = .ok (.invokevirtual 152, 3) := by decide +kernel
theorem dX8_eye_31 : decode cX8_eye 31 = .ok (.iconst 1, 1) := by decide +kernel
theorem dX8_eye_32 : decode cX8_eye 32 = .ok (.ireturn, 1) := by decide +kernel
theorem dX8_hand_0 : decode cX8_hand 0 = .ok (.aload_n 0, 1) := by decide +kernel
theorem dX8_hand_1 : decode cX8_hand 1 = .ok (.iload_n 1, 1) := by decide +kernel
theorem dX8_hand_2 : decode cX8_hand 2 = .ok (.invokevirtual 58, 3) := by decide +kernel
theorem dX8_hand_5 : decode cX8_hand 5 = .ok (.astore_n 2, 1) := by decide +kernel
theorem dX8_hand_6 : decode cX8_hand 6 = .ok (.aload_n 2, 1) := by decide +kernel
theorem dX8_hand_7 : decode cX8_hand 7 = .ok (.ifnonnull 5, 3) := by decide +kernel
theorem dX8_hand_10 : decode cX8_hand 10 = .ok (.iconst (-1), 1) := by decide +kernel
theorem dX8_hand_11 : decode cX8_hand 11 = .ok (.ireturn, 1) := by decide +kernel
theorem dX8_hand_12 : decode cX8_hand 12 = .ok (.aload_n 2, 1) := by decide +kernel
theorem dX8_hand_13 : decode cX8_hand 13 = .ok (.getfield 120, 3) := by decide +kernel
theorem dX8_hand_16 : decode cX8_hand 16 = .ok (.aload_n 2, 1) := by decide +kernel
theorem dX8_hand_17 : decode cX8_hand 17 = .ok (.getfield 156, 3) := by decide +kernel
theorem dX8_hand_20 : decode cX8_hand 20 = .ok (.aload_n 2, 1) := by decide +kernel
theorem dX8_hand_21 : decode cX8_hand 21 = .ok (.getfield 156, 3) := by decide +kernel
theorem dX8_hand_24 : decode cX8_hand 24 = .ok (.invokevirtual 159, 3) := by decide +kernel
theorem dX8_hand_27 : decode cX8_hand 27 = .ok (.aload_n 2, 1) := by decide +kernel
theorem dX8_hand_28 : decode cX8_hand 28 = .ok (.getfield 156, 3) := by decide +kernel
theorem dX8_hand_31 : decode cX8_hand 31 = .ok (.ireturn, 1) := by decide +kernel
theorem dX8_count_0 : decode cX8_count 0 = .ok (.aload_n 0, 1) := by decide +kernel
theorem dX8_count_1 : decode cX8_count 1 = .ok (.iload_n 1, 1) := by decide +kernel
theorem dX8_count_2 : decode cX8_count 2 = .ok (.invokevirtual 58, 3) := by decide +kernel
theorem dX8_count_5 : decode cX8_count 5 = .ok (.astore_n 3, 1) := by decide +kernel
theorem dX8_count_6 : decode cX8_count 6 = .ok (.aload_n 3, 1) := by decide +kernel
theorem dX8_count_7 : decode cX8_count 7 = .ok (.ifnonnull 5, 3) := by decide +kernel
theorem dX8_count_10 : decode cX8_count 10 = .ok (.iconst (-1), 1) := by decide +kernel
theorem dX8_count_11 : decode cX8_count 11 = .ok (.ireturn, 1) := by decide +kernel
theorem dX8_count_12 : decode cX8_count 12 = .ok (.iload_n 2, 1) := by decide +kernel
theorem dX8_count_13 : decode cX8_count 13 = .ok (.tableswitch 109 0 7 #[47, 55, 63, 68, 73, 78, 84, 93], 47) := by decide +kernel
theorem dX8_count_60 : decode cX8_count 60 = .ok (.aload_n 3, 1) := by decide +kernel
theorem dX8_count_61 : decode cX8_count 61 = .ok (.getfield 120, 3) := by decide +kernel
theorem dX8_count_64 : decode cX8_count 64 = .ok (.invokevirtual 162, 3) := by decide +kernel
theorem dX8_count_67 : decode cX8_count 67 = .ok (.ireturn, 1) := by decide +kernel
theorem dX8_count_68 : decode cX8_count 68 = .ok (.aload_n 3, 1) := by decide +kernel
theorem dX8_count_69 : decode cX8_count 69 = .ok (.getfield 120, 3) := by decide +kernel
theorem dX8_count_72 : decode cX8_count 72 = .ok (.invokevirtual 166, 3) := by decide +kernel
theorem dX8_count_75 : decode cX8_count 75 = .ok (.ireturn, 1) := by decide +kernel
theorem dX8_count_76 : decode cX8_count 76 = .ok (.aload_n 3, 1) := by decide +kernel
theorem dX8_count_77 : decode cX8_count 77 = .ok (.getfield 156, 3) := by decide +kernel
theorem dX8_count_80 : decode cX8_count 80 = .ok (.ireturn, 1) := by decide +kernel
theorem dX8_count_81 : decode cX8_count 81 = .ok (.aload_n 3, 1) := by decide +kernel
theorem dX8_count_82 : decode cX8_count 82 = .ok (.getfield 169, 3) := by decide +kernel
theorem dX8_count_85 : decode cX8_count 85 = .ok (.ireturn, 1) := by decide +kernel
theorem dX8_count_86 : decode cX8_count 86 = .ok (.aload_n 3, 1) := by decide +kernel
theorem dX8_count_87 : decode cX8_count 87 = .ok (.getfield 172, 3) := by decide +kernel
theorem dX8_count_90 : decode cX8_count 90 = .ok (.ireturn, 1) := by decide +kernel
theorem dX8_count_91 : decode cX8_count 91 = .ok (.aload_n 0, 1) := by decide +kernel
theorem dX8_count_92 : decode cX8_count 92 = .ok (.aload_n 3, 1) := by decide +kernel
theorem dX8_count_93 : decode cX8_count 93 = .ok (.invokevirtual 175, 3) := by decide +kernel
theorem dX8_count_96 : decode cX8_count 96 = .ok (.ireturn, 1) := by decide +kernel
theorem dX8_count_97 : decode cX8_count 97 = .ok (.aload_n 3, 1) := by decide +kernel
theorem dX8_count_98 : decode cX8_count 98 = .ok (.aload_n 0, 1) := by decide +kernel
theorem dX8_count_99 : decode cX8_count 99 = .ok (.getfield 45, 3) := by decide +kernel
theorem dX8_count_102 : decode cX8_count 102 = .ok (.invokevirtual 179, 3) := by decide +kernel
theorem dX8_count_105 : decode cX8_count 105 = .ok (.ireturn, 1) := by decide +kernel
theorem dX8_count_106 : decode cX8_count 106 = .ok (.aload_n 3, 1) := by decide +kernel
theorem dX8_count_107 : decode cX8_count 107 = .ok (.getfield 120, 3) := by decide +kernel
theorem dX8_count_110 : decode cX8_count 110 = .ok (.getfield 149, 3) := by decide +kernel
theorem dX8_count_113 : decode cX8_count 113 = .ok (.ifCond .eq 7, 3) := by decide +kernel
theorem dX8_count_116 : decode cX8_count 116 = .ok (.iconst 1, 1) := by decide +kernel
theorem dX8_count_117 : decode cX8_count 117 = .ok (.goto 4, 3) := by decide +kernel
theorem dX8_count_120 : decode cX8_count 120 = .ok (.iconst 0, 1) := by decide +kernel
theorem dX8_count_121 : decode cX8_count 121 = .ok (.ireturn, 1) := by decide +kernel
theorem dX8_count_122 : decode cX8_count 122 = .ok (.iconst (-1), 1) := by decide +kernel
theorem dX8_count_123 : decode cX8_count 123 = .ok (.ireturn, 1) := by decide +kernel
theorem dX8_bounds_0 : decode cX8_bounds 0 = .ok (.aload_n 0, 1) := by decide +kernel
theorem dX8_bounds_1 : decode cX8_bounds 1 = .ok (.iload_n 1, 1) := by decide +kernel
theorem dX8_bounds_2 : decode cX8_bounds 2 = .ok (.iload_n 2, 1) := by decide +kernel
theorem dX8_bounds_3 : decode cX8_bounds 3 = .ok (.invokevirtual 182, 3) := by decide +kernel
theorem dX8_bounds_6 : decode cX8_bounds 6 = .ok (.astore 5, 2) := by decide +kernel
theorem dX8_bounds_8 : decode cX8_bounds 8 = .ok (.aload 5, 2) := by decide +kernel
theorem dX8_bounds_10 : decode cX8_bounds 10 = .ok (.ifnull 22, 3) := by decide +kernel
theorem dX8_bounds_13 : decode cX8_bounds 13 = .ok (.iload_n 3, 1) := by decide +kernel
theorem dX8_bounds_14 : decode cX8_bounds 14 = .ok (.ldc 186, 2) := by decide +kernel
theorem dX8_bounds_16 : decode cX8_bounds 16 = .ok (.if_icmp .lt 16, 3) := by decide +kernel
theorem dX8_bounds_19 : decode cX8_bounds 19 = .ok (.iload 4, 2) := by decide +kernel
theorem dX8_bounds_21 : decode cX8_bounds 21 = .ok (.ldc 187, 2) := by decide +kernel
theorem dX8_bounds_23 : decode cX8_bounds 23 = .ok (.if_icmp .gt 9, 3) := by decide +kernel
theorem dX8_bounds_26 : decode cX8_bounds 26 = .ok (.iload_n 3, 1) := by decide +kernel
theorem dX8_bounds_27 : decode cX8_bounds 27 = .ok (.iload 4, 2) := by decide +kernel
theorem dX8_bounds_29 : decode cX8_bounds 29 = .ok (.if_icmp .le 5, 3) := by decide +kernel
theorem dX8_bounds_32 : decode cX8_bounds 32 = .ok (.iconst 0, 1) := by decide +kernel
theorem dX8_bounds_33 : decode cX8_bounds 33 = .ok (.ireturn, 1) := by decide +kernel
theorem dX8_bounds_34 : decode cX8_bounds 34 = .ok (.aload 5, 2) := by decide +kernel
theorem dX8_bounds_36 : decode cX8_bounds 36 = .ok (.iload_n 3, 1) := by decide +kernel
theorem dX8_bounds_37 : decode cX8_bounds 37 = .ok (.putfield 188, 3) := by decide +kernel
theorem dX8_bounds_40 : decode cX8_bounds 40 = .ok (.aload 5, 2) := by decide +kernel
theorem dX8_bounds_42 : decode cX8_bounds 42 = .ok (.iload 4, 2) := by decide +kernel
theorem dX8_bounds_44 : decode cX8_bounds 44 = .ok (.putfield 193, 3) := by decide +kernel
theorem dX8_bounds_47 : decode cX8_bounds 47 = .ok (.iconst 1, 1) := by decide +kernel
theorem dX8_bounds_48 : decode cX8_bounds 48 = .ok (.ireturn, 1) := by decide +kernel
theorem dX8_measure_0 : decode cX8_measure 0 = .ok (.aload_n 0, 1) := by decide +kernel
theorem dX8_measure_1 : decode cX8_measure 1 = .ok (.iload_n 1, 1) := by decide +kernel
theorem dX8_measure_2 : decode cX8_measure 2 = .ok (.iload_n 2, 1) := by decide +kernel
theorem dX8_measure_3 : decode cX8_measure 3 = .ok (.invokevirtual 182, 3) := by decide +kernel
theorem dX8_measure_6 : decode cX8_measure 6 = .ok (.astore 4, 2) := by decide +kernel
theorem dX8_measure_8 : decode cX8_measure 8 = .ok (.aload 4, 2) := by decide +kernel
theorem dX8_measure_10 : decode cX8_measure 10 = .ok (.ifnonnull 6, 3) := by decide +kernel
theorem dX8_measure_13 : decode cX8_measure 13 = .ok (.ldc 196, 2) := by decide +kernel
theorem dX8_measure_15 : decode cX8_measure 15 = .ok (.ireturn, 1) := by decide +kernel
theorem dX8_measure_16 : decode cX8_measure 16 = .ok (.fload_n 3, 1) := by decide +kernel
theorem dX8_measure_17 : decode cX8_measure 17 = .ok (.fload_n 3, 1) := by decide +kernel
theorem dX8_measure_18 : decode cX8_measure 18 = .ok (.fcmp .l, 1) := by decide +kernel
theorem dX8_measure_19 : decode cX8_measure 19 = .ok (.ifCond .ne 17, 3) := by decide +kernel
theorem dX8_measure_22 : decode cX8_measure 22 = .ok (.fload_n 3, 1) := by decide +kernel
theorem dX8_measure_23 : decode cX8_measure 23 = .ok (.ldc 197, 2) := by decide +kernel
theorem dX8_measure_25 : decode cX8_measure 25 = .ok (.fcmp .l, 1) := by decide +kernel
theorem dX8_measure_26 : decode cX8_measure 26 = .ok (.ifCond .gt 10, 3) := by decide +kernel
theorem dX8_measure_29 : decode cX8_measure 29 = .ok (.fload_n 3, 1) := by decide +kernel
theorem dX8_measure_30 : decode cX8_measure 30 = .ok (.ldc 198, 2) := by decide +kernel
theorem dX8_measure_32 : decode cX8_measure 32 = .ok (.fcmp .g, 1) := by decide +kernel
theorem dX8_measure_33 : decode cX8_measure 33 = .ok (.ifCond .ge 6, 3) := by decide +kernel
theorem dX8_measure_36 : decode cX8_measure 36 = .ok (.ldc 199, 2) := by decide +kernel
theorem dX8_measure_38 : decode cX8_measure 38 = .ok (.ireturn, 1) := by decide +kernel
theorem dX8_measure_39 : decode cX8_measure 39 = .ok (.fload_n 3, 1) := by decide +kernel
theorem dX8_measure_40 : decode cX8_measure 40 = .ok (.ldc 200, 2) := by decide +kernel
theorem dX8_measure_42 : decode cX8_measure 42 = .ok (.fmul, 1) := by decide +kernel
theorem dX8_measure_43 : decode cX8_measure 43 = .ok (.f2i, 1) := by decide +kernel
theorem dX8_measure_44 : decode cX8_measure 44 = .ok (.istore 5, 2) := by decide +kernel
theorem dX8_measure_46 : decode cX8_measure 46 = .ok (.aload 4, 2) := by decide +kernel
theorem dX8_measure_48 : decode cX8_measure 48 = .ok (.iload 5, 2) := by decide +kernel
theorem dX8_measure_50 : decode cX8_measure 50 = .ok (.aload_n 0, 1) := by decide +kernel
theorem dX8_measure_51 : decode cX8_measure 51 = .ok (.getfield 45, 3) := by decide +kernel
theorem dX8_measure_54 : decode cX8_measure 54 = .ok (.invokevirtual 201, 3) := by decide +kernel
theorem dX8_measure_57 : decode cX8_measure 57 = .ok (.iload 5, 2) := by decide +kernel
theorem dX8_measure_59 : decode cX8_measure 59 = .ok (.ireturn, 1) := by decide +kernel
theorem dX8_put_0 : decode cX8_put 0 = .ok (.aload_n 0, 1) := by decide +kernel
theorem dX8_put_1 : decode cX8_put 1 = .ok (.iload_n 1, 1) := by decide +kernel
theorem dX8_put_2 : decode cX8_put 2 = .ok (.invokevirtual 58, 3) := by decide +kernel
theorem dX8_put_5 : decode cX8_put 5 = .ok (.astore_n 3, 1) := by decide +kernel
theorem dX8_put_6 : decode cX8_put 6 = .ok (.aload_n 3, 1) := by decide +kernel
theorem dX8_put_7 : decode cX8_put 7 = .ok (.ifnull 14, 3) := by decide +kernel
theorem dX8_put_10 : decode cX8_put 10 = .ok (.iload_n 2, 1) := by decide +kernel
theorem dX8_put_11 : decode cX8_put 11 = .ok (.iconst 1, 1) := by decide +kernel
theorem dX8_put_12 : decode cX8_put 12 = .ok (.sipush 240, 3) := by decide +kernel
theorem dX8_put_15 : decode cX8_put 15 = .ok (.invokestatic 48, 3) := by decide +kernel
theorem dX8_put_18 : decode cX8_put 18 = .ok (.ifCond .ne 5, 3) := by decide +kernel
theorem dX8_put_21 : decode cX8_put 21 = .ok (.iconst 0, 1) := by decide +kernel
theorem dX8_put_22 : decode cX8_put 22 = .ok (.ireturn, 1) := by decide +kernel
theorem dX8_put_23 : decode cX8_put 23 = .ok (.aload_n 3, 1) := by decide +kernel
theorem dX8_put_24 : decode cX8_put 24 = .ok (.aload_n 3, 1) := by decide +kernel
theorem dX8_put_25 : decode cX8_put 25 = .ok (.getfield 204, 3) := by decide +kernel
theorem dX8_put_28 : decode cX8_put 28 = .ok (.aload_n 0, 1) := by decide +kernel
theorem dX8_put_29 : decode cX8_put 29 = .ok (.getfield 45, 3) := by decide +kernel
theorem dX8_put_32 : decode cX8_put 32 = .ok (.iload_n 2, 1) := by decide +kernel
theorem dX8_put_33 : decode cX8_put 33 = .ok (.iadd, 1) := by decide +kernel
theorem dX8_put_34 : decode cX8_put 34 = .ok (.invokestatic 207, 3) := by decide +kernel
theorem dX8_put_37 : decode cX8_put 37 = .ok (.putfield 204, 3) := by decide +kernel
theorem dX8_put_40 : decode cX8_put 40 = .ok (.iconst 1, 1) := by decide +kernel
theorem dX8_put_41 : decode cX8_put 41 = .ok (.ireturn, 1) := by decide +kernel
theorem dX8_shut_0 : decode cX8_shut 0 = .ok (.aload_n 0, 1) := by decide +kernel
theorem dX8_shut_1 : decode cX8_shut 1 = .ok (.iload_n 1, 1) := by decide +kernel
theorem dX8_shut_2 : decode cX8_shut 2 = .ok (.invokevirtual 58, 3) := by decide +kernel
theorem dX8_shut_5 : decode cX8_shut 5 = .ok (.astore_n 2, 1) := by decide +kernel
theorem dX8_shut_6 : decode cX8_shut 6 = .ok (.aload_n 2, 1) := by decide +kernel
theorem dX8_shut_7 : decode cX8_shut 7 = .ok (.ifnonnull 7, 3) := by decide +kernel
theorem dX8_shut_10 : decode cX8_shut 10 = .ok (.iconst (-1), 1) := by decide +kernel
theorem dX8_shut_11 : decode cX8_shut 11 = .ok (.goto 11, 3) := by decide +kernel
theorem dX8_shut_14 : decode cX8_shut 14 = .ok (.aload_n 2, 1) := by decide +kernel
theorem dX8_shut_15 : decode cX8_shut 15 = .ok (.aload_n 0, 1) := by decide +kernel
theorem dX8_shut_16 : decode cX8_shut 16 = .ok (.getfield 45, 3) := by decide +kernel
theorem dX8_shut_19 : decode cX8_shut 19 = .ok (.invokevirtual 213, 3) := by decide +kernel
theorem dX8_shut_22 : decode cX8_shut 22 = .ok (.ireturn, 1) := by decide +kernel
theorem dX8_minutes_0 : decode cX8_minutes 0 = .ok (.aload_n 0, 1) := by decide +kernel
theorem dX8_minutes_1 : decode cX8_minutes 1 = .ok (.iload_n 1, 1) := by decide +kernel
theorem dX8_minutes_2 : decode cX8_minutes 2 = .ok (.invokevirtual 58, 3) := by decide +kernel
theorem dX8_minutes_5 : decode cX8_minutes 5 = .ok (.astore_n 2, 1) := by decide +kernel
theorem dX8_minutes_6 : decode cX8_minutes 6 = .ok (.aload_n 2, 1) := by decide +kernel
theorem dX8_minutes_7 : decode cX8_minutes 7 = .ok (.ifnonnull 7, 3) := by decide +kernel
theorem dX8_minutes_10 : decode cX8_minutes 10 = .ok (.iconst (-1), 1) := by decide +kernel
theorem dX8_minutes_11 : decode cX8_minutes 11 = .ok (.goto 7, 3) := by decide +kernel
theorem dX8_minutes_14 : decode cX8_minutes 14 = .ok (.aload_n 2, 1) := by decide +kernel
theorem dX8_minutes_15 : decode cX8_minutes 15 = .ok (.getfield 216, 3) := by decide +kernel
theorem dX8_minutes_18 : decode cX8_minutes 18 = .ok (.ireturn, 1) := by decide +kernel
theorem dX8_post_0 : decode cX8_post 0 = .ok (.aload_n 0, 1) := by decide +kernel
theorem dX8_post_1 : decode cX8_post 1 = .ok (.iload_n 1, 1) := by decide +kernel
theorem dX8_post_2 : decode cX8_post 2 = .ok (.iload_n 2, 1) := by decide +kernel
theorem dX8_post_3 : decode cX8_post 3 = .ok (.invokevirtual 219, 3) := by decide +kernel
theorem dX8_post_6 : decode cX8_post 6 = .ok (.astore 4, 2) := by decide +kernel
theorem dX8_post_8 : decode cX8_post 8 = .ok (.aload_n 0, 1) := by decide +kernel
theorem dX8_post_9 : decode cX8_post 9 = .ok (.iload_n 3, 1) := by decide +kernel
theorem dX8_post_10 : decode cX8_post 10 = .ok (.invokevirtual 96, 3) := by decide +kernel
theorem dX8_post_13 : decode cX8_post 13 = .ok (.astore 5, 2) := by decide +kernel
theorem dX8_post_15 : decode cX8_post 15 = .ok (.aload 4, 2) := by decide +kernel
theorem dX8_post_17 : decode cX8_post 17 = .ok (.ifnull 33, 3) := by decide +kernel
theorem dX8_post_20 : decode cX8_post 20 = .ok (.aload 5, 2) := by decide +kernel
theorem dX8_post_22 : decode cX8_post 22 = .ok (.ifnull 28, 3) := by decide +kernel
theorem dX8_post_25 : decode cX8_post 25 = .ok (.aload 5, 2) := by decide +kernel
theorem dX8_post_27 : decode cX8_post 27 = .ok (.getfield 108, 3) := by decide +kernel
theorem dX8_post_30 : decode cX8_post 30 = .ok (.aload_n 0, 1) := by decide +kernel
theorem dX8_post_31 : decode cX8_post 31 = .ok (.iload_n 1, 1) := by decide +kernel
theorem dX8_post_32 : decode cX8_post 32 = .ok (.invokevirtual 58, 3) := by decide +kernel
theorem dX8_post_35 : decode cX8_post 35 = .ok (.if_acmp .ne 15, 3) := by decide +kernel
theorem dX8_post_38 : decode cX8_post 38 = .ok (.aload 5, 2) := by decide +kernel
theorem dX8_post_40 : decode cX8_post 40 = .ok (.aload_n 0, 1) := by decide +kernel
theorem dX8_post_41 : decode cX8_post 41 = .ok (.getfield 45, 3) := by decide +kernel
theorem dX8_post_44 : decode cX8_post 44 = .ok (.invokevirtual 223, 3) := by decide +kernel
theorem dX8_post_47 : decode cX8_post 47 = .ok (.ifCond .ne 6, 3) := by decide +kernel
theorem dX8_post_50 : decode cX8_post 50 = .ok (.bipush (-2), 2) := by decide +kernel
theorem dX8_post_52 : decode cX8_post 52 = .ok (.ireturn, 1) := by decide +kernel
theorem dX8_post_53 : decode cX8_post 53 = .ok (.aload 4, 2) := by decide +kernel
theorem dX8_post_55 : decode cX8_post 55 = .ok (.getfield 226, 3) := by decide +kernel
theorem dX8_post_58 : decode cX8_post 58 = .ok (.astore 6, 2) := by decide +kernel
theorem dX8_post_60 : decode cX8_post 60 = .ok (.aload 6, 2) := by decide +kernel
theorem dX8_post_62 : decode cX8_post 62 = .ok (.ifnull 12, 3) := by decide +kernel
theorem dX8_post_65 : decode cX8_post 65 = .ok (.aload 6, 2) := by decide +kernel
theorem dX8_post_67 : decode cX8_post 67 = .ok (.aload_n 0, 1) := by decide +kernel
theorem dX8_post_68 : decode cX8_post 68 = .ok (.getfield 45, 3) := by decide +kernel
theorem dX8_post_71 : decode cX8_post 71 = .ok (.invokevirtual 232, 3) := by decide +kernel
theorem dX8_post_74 : decode cX8_post 74 = .ok (.aload 5, 2) := by decide +kernel
theorem dX8_post_76 : decode cX8_post 76 = .ok (.aload 4, 2) := by decide +kernel
theorem dX8_post_78 : decode cX8_post 78 = .ok (.aload_n 0, 1) := by decide +kernel
theorem dX8_post_79 : decode cX8_post 79 = .ok (.getfield 45, 3) := by decide +kernel
theorem dX8_post_82 : decode cX8_post 82 = .ok (.invokevirtual 235, 3) := by decide +kernel
theorem dX8_post_85 : decode cX8_post 85 = .ok (.aload 6, 2) := by decide +kernel
theorem dX8_post_87 : decode cX8_post 87 = .ok (.invokestatic 239, 3) := by decide +kernel
theorem dX8_post_90 : decode cX8_post 90 = .ok (.ireturn, 1) := by decide +kernel
theorem dX8_watcher_0 : decode cX8_watcher 0 = .ok (.aload_n 0, 1) := by decide +kernel
theorem dX8_watcher_1 : decode cX8_watcher 1 = .ok (.iload_n 1, 1) := by decide +kernel
theorem dX8_watcher_2 : decode cX8_watcher 2 = .ok (.iload_n 2, 1) := by decide +kernel
theorem dX8_watcher_3 : decode cX8_watcher 3 = .ok (.invokevirtual 219, 3) := by decide +kernel
theorem dX8_watcher_6 : decode cX8_watcher 6 = .ok (.astore_n 3, 1) := by decide +kernel
theorem dX8_watcher_7 : decode cX8_watcher 7 = .ok (.aload_n 3, 1) := by decide +kernel
theorem dX8_watcher_8 : decode cX8_watcher 8 = .ok (.ifnonnull 7, 3) := by decide +kernel
theorem dX8_watcher_11 : decode cX8_watcher 11 = .ok (.iconst (-1), 1) := by decide +kernel
theorem dX8_watcher_12 : decode cX8_watcher 12 = .ok (.goto 10, 3) := by decide +kernel
theorem dX8_watcher_15 : decode cX8_watcher 15 = .ok (.aload_n 3, 1) := by decide +kernel
theorem dX8_watcher_16 : decode cX8_watcher 16 = .ok (.getfield 226, 3) := by decide +kernel
theorem dX8_watcher_19 : decode cX8_watcher 19 = .ok (.invokestatic 239, 3) := by decide +kernel
theorem dX8_watcher_22 : decode cX8_watcher 22 = .ok (.ireturn, 1) := by decide +kernel
theorem dX8_key_0 : decode cX8_key 0 = .ok (.aload_n 0, 1) := by decide +kernel
theorem dX8_key_1 : decode cX8_key 1 = .ok (.iload_n 1, 1) := by decide +kernel
theorem dX8_key_2 : decode cX8_key 2 = .ok (.invokevirtual 96, 3) := by decide +kernel
theorem dX8_key_5 : decode cX8_key 5 = .ok (.astore_n 2, 1) := by decide +kernel
theorem dX8_key_6 : decode cX8_key 6 = .ok (.aload_n 2, 1) := by decide +kernel
theorem dX8_key_7 : decode cX8_key 7 = .ok (.ifnull 18, 3) := by decide +kernel
theorem dX8_key_10 : decode cX8_key 10 = .ok (.aload_n 2, 1) := by decide +kernel
theorem dX8_key_11 : decode cX8_key 11 = .ok (.getfield 116, 3) := by decide +kernel
theorem dX8_key_14 : decode cX8_key 14 = .ok (.ifCond .eq 11, 3) := by decide +kernel
theorem dX8_key_17 : decode cX8_key 17 = .ok (.aload_n 2, 1) := by decide +kernel
theorem dX8_key_18 : decode cX8_key 18 = .ok (.getfield 143, 3) := by decide +kernel
theorem dX8_key_21 : decode cX8_key 21 = .ok (.iconst (-1), 1) := by decide +kernel
theorem dX8_key_22 : decode cX8_key 22 = .ok (.if_icmp .eq 5, 3) := by decide +kernel
theorem dX8_key_25 : decode cX8_key 25 = .ok (.iconst (-1), 1) := by decide +kernel
theorem dX8_key_26 : decode cX8_key 26 = .ok (.ireturn, 1) := by decide +kernel
theorem dX8_key_27 : decode cX8_key 27 = .ok (.aload_n 2, 1) := by decide +kernel
theorem dX8_key_28 : decode cX8_key 28 = .ok (.aload_n 0, 1) := by decide +kernel
theorem dX8_key_29 : decode cX8_key 29 = .ok (.getfield 30, 3) := by decide +kernel
theorem dX8_key_32 : decode cX8_key 32 = .ok (.iload_n 1, 1) := by decide +kernel
theorem dX8_key_33 : decode cX8_key 33 = .ok (.invokevirtual 242, 3) := by decide +kernel
theorem dX8_key_36 : decode cX8_key 36 = .ok (.putfield 143, 3) := by decide +kernel
theorem dX8_key_39 : decode cX8_key 39 = .ok (.aload_n 2, 1) := by decide +kernel
theorem dX8_key_40 : decode cX8_key 40 = .ok (.getfield 143, 3) := by decide +kernel
theorem dX8_key_43 : decode cX8_key 43 = .ok (.ireturn, 1) := by decide +kernel
theorem dX8_give_0 : decode cX8_give 0 = .ok (.aload_n 0, 1) := by decide +kernel
theorem dX8_give_1 : decode cX8_give 1 = .ok (.iload_n 1, 1) := by decide +kernel
theorem dX8_give_2 : decode cX8_give 2 = .ok (.invokevirtual 96, 3) := by decide +kernel
theorem dX8_give_5 : decode cX8_give 5 = .ok (.astore_n 2, 1) := by decide +kernel
theorem dX8_give_6 : decode cX8_give 6 = .ok (.aload_n 2, 1) := by decide +kernel
theorem dX8_give_7 : decode cX8_give 7 = .ok (.ifnonnull 5, 3) := by decide +kernel
theorem dX8_give_10 : decode cX8_give 10 = .ok (.iconst (-1), 1) := by decide +kernel
theorem dX8_give_11 : decode cX8_give 11 = .ok (.ireturn, 1) := by decide +kernel
theorem dX8_give_12 : decode cX8_give 12 = .ok (.aload_n 2, 1) := by decide +kernel
theorem dX8_give_13 : decode cX8_give 13 = .ok (.getfield 143, 3) := by decide +kernel
theorem dX8_give_16 : decode cX8_give 16 = .ok (.istore_n 3, 1) := by decide +kernel
theorem dX8_give_17 : decode cX8_give 17 = .ok (.aload_n 0, 1) := by decide +kernel
theorem dX8_give_18 : decode cX8_give 18 = .ok (.getfield 30, 3) := by decide +kernel
theorem dX8_give_21 : decode cX8_give 21 = .ok (.iload_n 3, 1) := by decide +kernel
theorem dX8_give_22 : decode cX8_give 22 = .ok (.invokevirtual 245, 3) := by decide +kernel
theorem dX8_give_25 : decode cX8_give 25 = .ok (.aload_n 2, 1) := by decide +kernel
theorem dX8_give_26 : decode cX8_give 26 = .ok (.iconst (-1), 1) := by decide +kernel
theorem dX8_give_27 : decode cX8_give 27 = .ok (.putfield 143, 3) := by decide +kernel
theorem dX8_give_30 : decode cX8_give 30 = .ok (.iload_n 3, 1) := by decide +kernel
theorem dX8_give_31 : decode cX8_give 31 = .ok (.ireturn, 1) := by decide +kernel
theorem dX8_mend_0 : decode cX8_mend 0 = .ok (.iload_n 1, 1) := by decide +kernel
theorem dX8_mend_1 : decode cX8_mend 1 = .ok (.invokestatic 248, 3) := by decide +kernel
theorem dX8_mend_4 : decode cX8_mend 4 = .ok (.ifCond .eq 15, 3) := by decide +kernel
theorem dX8_mend_7 : decode cX8_mend 7 = .ok (.aload_n 0, 1) := by decide +kernel
theorem dX8_mend_8 : decode cX8_mend 8 = .ok (.getfield 30, 3) := by decide +kernel
theorem dX8_mend_11 : decode cX8_mend 11 = .ok (.getfield 251, 3) := by decide +kernel
theorem dX8_mend_14 : decode cX8_mend 14 = .ok (.iload_n 1, 1) := by decide +kernel
theorem dX8_mend_15 : decode cX8_mend 15 = .ok (.baload, 1) := by decide +kernel
theorem dX8_mend_16 : decode cX8_mend 16 = .ok (.ifCond .ne 5, 3) := by decide +kernel
theorem dX8_mend_19 : decode cX8_mend 19 = .ok (.iconst (-1), 1) := by decide +kernel
theorem dX8_mend_20 : decode cX8_mend 20 = .ok (.ireturn, 1) := by decide +kernel
theorem dX8_mend_21 : decode cX8_mend 21 = .ok (.aload_n 0, 1) := by decide +kernel
theorem dX8_mend_22 : decode cX8_mend 22 = .ok (.getfield 30, 3) := by decide +kernel
theorem dX8_mend_25 : decode cX8_mend 25 = .ok (.getfield 255, 3) := by decide +kernel
theorem dX8_mend_28 : decode cX8_mend 28 = .ok (.iload_n 1, 1) := by decide +kernel
theorem dX8_mend_29 : decode cX8_mend 29 = .ok (.iaload, 1) := by decide +kernel
theorem dX8_mend_30 : decode cX8_mend 30 = .ok (.istore_n 2, 1) := by decide +kernel
theorem dX8_mend_31 : decode cX8_mend 31 = .ok (.aload_n 0, 1) := by decide +kernel
theorem dX8_mend_32 : decode cX8_mend 32 = .ok (.getfield 30, 3) := by decide +kernel
theorem dX8_mend_35 : decode cX8_mend 35 = .ok (.iload_n 1, 1) := by decide +kernel
theorem dX8_mend_36 : decode cX8_mend 36 = .ok (.invokevirtual 245, 3) := by decide +kernel
theorem dX8_mend_39 : decode cX8_mend 39 = .ok (.iload_n 2, 1) := by decide +kernel
theorem dX8_mend_40 : decode cX8_mend 40 = .ok (.ireturn, 1) := by decide +kernel
theorem dX8_locker_0 : decode cX8_locker 0 = .ok (.iload_n 1, 1) := by decide +kernel
theorem dX8_locker_1 : decode cX8_locker 1 = .ok (.invokestatic 248, 3) := by decide +kernel
theorem dX8_locker_4 : decode cX8_locker 4 = .ok (.ifCond .ne 6, 3) := by decide +kernel
theorem dX8_locker_7 : decode cX8_locker 7 = .ok (.bipush (-3), 2) := by decide +kernel
theorem dX8_locker_9 : decode cX8_locker 9 = .ok (.ireturn, 1) := by decide +kernel
theorem dX8_locker_10 : decode cX8_locker 10 = .ok (.aload_n 0, 1) := by decide +kernel
theorem dX8_locker_11 : decode cX8_locker 11 = .ok (.getfield 30, 3) := by decide +kernel
theorem dX8_locker_14 : decode cX8_locker 14 = .ok (.getfield 251, 3) := by decide +kernel
theorem dX8_locker_17 : decode cX8_locker 17 = .ok (.iload_n 1, 1) := by decide +kernel
theorem dX8_locker_18 : decode cX8_locker 18 = .ok (.baload, 1) := by decide +kernel
theorem dX8_locker_19 : decode cX8_locker 19 = .ok (.ifCond .eq 8, 3) := by decide +kernel
theorem dX8_locker_22 : decode cX8_locker 22 = .ok (.bipush (-2), 2) := by decide +kernel
theorem dX8_locker_24 : decode cX8_locker 24 = .ok (.goto 12, 3) := by decide +kernel
theorem dX8_locker_27 : decode cX8_locker 27 = .ok (.aload_n 0, 1) := by decide +kernel
theorem dX8_locker_28 : decode cX8_locker 28 = .ok (.getfield 30, 3) := by decide +kernel
theorem dX8_locker_31 : decode cX8_locker 31 = .ok (.getfield 255, 3) := by decide +kernel
theorem dX8_locker_34 : decode cX8_locker 34 = .ok (.iload_n 1, 1) := by decide +kernel
theorem dX8_locker_35 : decode cX8_locker 35 = .ok (.iaload, 1) := by decide +kernel
theorem dX8_locker_36 : decode cX8_locker 36 = .ok (.ireturn, 1) := by decide +kernel
theorem dX8_told_0 : decode cX8_told 0 = .ok (.aload_n 0, 1) := by decide +kernel
theorem dX8_told_1 : decode cX8_told 1 = .ok (.iload_n 1, 1) := by decide +kernel
theorem dX8_told_2 : decode cX8_told 2 = .ok (.invokevirtual 96, 3) := by decide +kernel
theorem dX8_told_5 : decode cX8_told 5 = .ok (.astore_n 3, 1) := by decide +kernel
theorem dX8_told_6 : decode cX8_told 6 = .ok (.aload_n 3, 1) := by decide +kernel
theorem dX8_told_7 : decode cX8_told 7 = .ok (.ifnonnull 5, 3) := by decide +kernel
theorem dX8_told_10 : decode cX8_told 10 = .ok (.iconst (-1), 1) := by decide +kernel
theorem dX8_told_11 : decode cX8_told 11 = .ok (.ireturn, 1) := by decide +kernel
theorem dX8_told_12 : decode cX8_told 12 = .ok (.iload_n 2, 1) := by decide +kernel
theorem dX8_told_13 : decode cX8_told 13 = .ok (.tableswitch 102 0 7 #[47, 55, 60, 65, 78, 83, 88, 93], 47) := by decide +kernel
theorem dX8_told_60 : decode cX8_told 60 = .ok (.aload_n 3, 1) := by decide +kernel
theorem dX8_told_61 : decode cX8_told 61 = .ok (.getfield 108, 3) := by decide +kernel
theorem dX8_told_64 : decode cX8_told 64 = .ok (.getfield 259, 3) := by decide +kernel
theorem dX8_told_67 : decode cX8_told 67 = .ok (.ireturn, 1) := by decide +kernel
theorem dX8_told_68 : decode cX8_told 68 = .ok (.aload_n 3, 1) := by decide +kernel
theorem dX8_told_69 : decode cX8_told 69 = .ok (.getfield 262, 3) := by decide +kernel
theorem dX8_told_72 : decode cX8_told 72 = .ok (.ireturn, 1) := by decide +kernel
theorem dX8_told_73 : decode cX8_told 73 = .ok (.aload_n 3, 1) := by decide +kernel
theorem dX8_told_74 : decode cX8_told 74 = .ok (.getfield 265, 3) := by decide +kernel
theorem dX8_told_77 : decode cX8_told 77 = .ok (.ireturn, 1) := by decide +kernel
theorem dX8_told_78 : decode cX8_told 78 = .ok (.aload_n 3, 1) := by decide +kernel
theorem dX8_told_79 : decode cX8_told 79 = .ok (.getfield 116, 3) := by decide +kernel
theorem dX8_told_82 : decode cX8_told 82 = .ok (.ifCond .eq 7, 3) := by decide +kernel
theorem dX8_told_85 : decode cX8_told 85 = .ok (.iconst 1, 1) := by decide +kernel
theorem dX8_told_86 : decode cX8_told 86 = .ok (.goto 4, 3) := by decide +kernel
theorem dX8_told_89 : decode cX8_told 89 = .ok (.iconst 0, 1) := by decide +kernel
theorem dX8_told_90 : decode cX8_told 90 = .ok (.ireturn, 1) := by decide +kernel
theorem dX8_told_91 : decode cX8_told 91 = .ok (.aload_n 3, 1) := by decide +kernel
theorem dX8_told_92 : decode cX8_told 92 = .ok (.getfield 143, 3) := by decide +kernel
theorem dX8_told_95 : decode cX8_told 95 = .ok (.ireturn, 1) := by decide +kernel
theorem dX8_told_96 : decode cX8_told 96 = .ok (.aload_n 3, 1) := by decide +kernel
theorem dX8_told_97 : decode cX8_told 97 = .ok (.getfield 268, 3) := by decide +kernel
theorem dX8_told_100 : decode cX8_told 100 = .ok (.ireturn, 1) := by decide +kernel
theorem dX8_told_101 : decode cX8_told 101 = .ok (.aload_n 3, 1) := by decide +kernel
theorem dX8_told_102 : decode cX8_told 102 = .ok (.getfield 271, 3) := by decide +kernel
theorem dX8_told_105 : decode cX8_told 105 = .ok (.ireturn, 1) := by decide +kernel
theorem dX8_told_106 : decode cX8_told 106 = .ok (.aload_n 3, 1) := by decide +kernel
theorem dX8_told_107 : decode cX8_told 107 = .ok (.aload_n 0, 1) := by decide +kernel
theorem dX8_told_108 : decode cX8_told 108 = .ok (.getfield 45, 3) := by decide +kernel
theorem dX8_told_111 : decode cX8_told 111 = .ok (.invokevirtual 274, 3) := by decide +kernel
theorem dX8_told_114 : decode cX8_told 114 = .ok (.ireturn, 1) := by decide +kernel
theorem dX8_told_115 : decode cX8_told 115 = .ok (.iconst (-1), 1) := by decide +kernel
theorem dX8_told_116 : decode cX8_told 116 = .ok (.ireturn, 1) := by decide +kernel
theorem dX8_pump_0 : decode cX8_pump 0 = .ok (.aload_n 0, 1) := by decide +kernel
theorem dX8_pump_1 : decode cX8_pump 1 = .ok (.iload_n 1, 1) := by decide +kernel
theorem dX8_pump_2 : decode cX8_pump 2 = .ok (.invokevirtual 58, 3) := by decide +kernel
theorem dX8_pump_5 : decode cX8_pump 5 = .ok (.astore 4, 2) := by decide +kernel
theorem dX8_pump_7 : decode cX8_pump 7 = .ok (.aload 4, 2) := by decide +kernel
theorem dX8_pump_9 : decode cX8_pump 9 = .ok (.ifnull 24, 3) := by decide +kernel
theorem dX8_pump_12 : decode cX8_pump 12 = .ok (.iload_n 2, 1) := by decide +kernel
theorem dX8_pump_13 : decode cX8_pump 13 = .ok (.iconst 1, 1) := by decide +kernel
theorem dX8_pump_14 : decode cX8_pump 14 = .ok (.ldc 187, 2) := by decide +kernel
theorem dX8_pump_16 : decode cX8_pump 16 = .ok (.invokestatic 48, 3) := by decide +kernel
theorem dX8_pump_19 : decode cX8_pump 19 = .ok (.ifCond .eq 14, 3) := by decide +kernel
theorem dX8_pump_22 : decode cX8_pump 22 = .ok (.iload_n 3, 1) := by decide +kernel
theorem dX8_pump_23 : decode cX8_pump 23 = .ok (.iconst 1, 1) := by decide +kernel
theorem dX8_pump_24 : decode cX8_pump 24 = .ok (.sipush 10000, 3) := by decide +kernel
theorem dX8_pump_27 : decode cX8_pump 27 = .ok (.invokestatic 48, 3) := by decide +kernel
theorem dX8_pump_30 : decode cX8_pump 30 = .ok (.ifCond .ne 5, 3) := by decide +kernel
theorem dX8_pump_33 : decode cX8_pump 33 = .ok (.iconst 0, 1) := by decide +kernel
theorem dX8_pump_34 : decode cX8_pump 34 = .ok (.ireturn, 1) := by decide +kernel
theorem dX8_pump_35 : decode cX8_pump 35 = .ok (.aload 4, 2) := by decide +kernel
theorem dX8_pump_37 : decode cX8_pump 37 = .ok (.iload_n 2, 1) := by decide +kernel
theorem dX8_pump_38 : decode cX8_pump 38 = .ok (.putfield 277, 3) := by decide +kernel
theorem dX8_pump_41 : decode cX8_pump 41 = .ok (.aload 4, 2) := by decide +kernel
theorem dX8_pump_43 : decode cX8_pump 43 = .ok (.iload_n 3, 1) := by decide +kernel
theorem dX8_pump_44 : decode cX8_pump 44 = .ok (.putfield 280, 3) := by decide +kernel
theorem dX8_pump_47 : decode cX8_pump 47 = .ok (.iconst 1, 1) := by decide +kernel
theorem dX8_pump_48 : decode cX8_pump 48 = .ok (.ireturn, 1) := by decide +kernel
theorem dX8_price_0 : decode cX8_price 0 = .ok (.iload_n 1, 1) := by decide +kernel
theorem dX8_price_1 : decode cX8_price 1 = .ok (.iconst 0, 1) := by decide +kernel
theorem dX8_price_2 : decode cX8_price 2 = .ok (.bipush 23, 2) := by decide +kernel
theorem dX8_price_4 : decode cX8_price 4 = .ok (.invokestatic 48, 3) := by decide +kernel
theorem dX8_price_7 : decode cX8_price 7 = .ok (.ifCond .eq 14, 3) := by decide +kernel
theorem dX8_price_10 : decode cX8_price 10 = .ok (.iload_n 2, 1) := by decide +kernel
theorem dX8_price_11 : decode cX8_price 11 = .ok (.iconst 0, 1) := by decide +kernel
theorem dX8_price_12 : decode cX8_price 12 = .ok (.sipush 10000, 3) := by decide +kernel
theorem dX8_price_15 : decode cX8_price 15 = .ok (.invokestatic 48, 3) := by decide +kernel
theorem dX8_price_18 : decode cX8_price 18 = .ok (.ifCond .ne 5, 3) := by decide +kernel
theorem dX8_price_21 : decode cX8_price 21 = .ok (.iconst 0, 1) := by decide +kernel
theorem dX8_price_22 : decode cX8_price 22 = .ok (.ireturn, 1) := by decide +kernel
theorem dX8_price_23 : decode cX8_price 23 = .ok (.aload_n 0, 1) := by decide +kernel
theorem dX8_price_24 : decode cX8_price 24 = .ok (.getfield 37, 3) := by decide +kernel
theorem dX8_price_27 : decode cX8_price 27 = .ok (.getfield 283, 3) := by decide +kernel
theorem dX8_price_30 : decode cX8_price 30 = .ok (.iload_n 1, 1) := by decide +kernel
theorem dX8_price_31 : decode cX8_price 31 = .ok (.iload_n 2, 1) := by decide +kernel
theorem dX8_price_32 : decode cX8_price 32 = .ok (.iastore, 1) := by decide +kernel
theorem dX8_price_33 : decode cX8_price 33 = .ok (.iconst 1, 1) := by decide +kernel
theorem dX8_price_34 : decode cX8_price 34 = .ok (.ireturn, 1) := by decide +kernel
theorem dX8_turn_0 : decode cX8_turn 0 = .ok (.aload_n 0, 1) := by decide +kernel
theorem dX8_turn_1 : decode cX8_turn 1 = .ok (.iload_n 1, 1) := by decide +kernel
theorem dX8_turn_2 : decode cX8_turn 2 = .ok (.invokevirtual 58, 3) := by decide +kernel
theorem dX8_turn_5 : decode cX8_turn 5 = .ok (.astore_n 3, 1) := by decide +kernel
theorem dX8_turn_6 : decode cX8_turn 6 = .ok (.aload_n 3, 1) := by decide +kernel
theorem dX8_turn_7 : decode cX8_turn 7 = .ok (.ifnull 22, 3) := by decide +kernel
theorem dX8_turn_10 : decode cX8_turn 10 = .ok (.aload_n 3, 1) := by decide +kernel
theorem dX8_turn_11 : decode cX8_turn 11 = .ok (.getfield 280, 3) := by decide +kernel
theorem dX8_turn_14 : decode cX8_turn 14 = .ok (.iconst 1, 1) := by decide +kernel
theorem dX8_turn_15 : decode cX8_turn 15 = .ok (.if_icmp .lt 14, 3) := by decide +kernel
theorem dX8_turn_18 : decode cX8_turn 18 = .ok (.iload_n 2, 1) := by decide +kernel
theorem dX8_turn_19 : decode cX8_turn 19 = .ok (.iconst 0, 1) := by decide +kernel
theorem dX8_turn_20 : decode cX8_turn 20 = .ok (.sipush 1000, 3) := by decide +kernel
theorem dX8_turn_23 : decode cX8_turn 23 = .ok (.invokestatic 48, 3) := by decide +kernel
theorem dX8_turn_26 : decode cX8_turn 26 = .ok (.ifCond .ne 5, 3) := by decide +kernel
theorem dX8_turn_29 : decode cX8_turn 29 = .ok (.iconst (-1), 1) := by decide +kernel
theorem dX8_turn_30 : decode cX8_turn 30 = .ok (.ireturn, 1) := by decide +kernel
theorem dX8_turn_31 : decode cX8_turn 31 = .ok (.aload_n 3, 1) := by decide +kernel
theorem dX8_turn_32 : decode cX8_turn 32 = .ok (.getfield 277, 3) := by decide +kernel
theorem dX8_turn_35 : decode cX8_turn 35 = .ok (.aload_n 3, 1) := by decide +kernel
theorem dX8_turn_36 : decode cX8_turn 36 = .ok (.getfield 280, 3) := by decide +kernel
theorem dX8_turn_39 : decode cX8_turn 39 = .ok (.iload_n 2, 1) := by decide +kernel
theorem dX8_turn_40 : decode cX8_turn 40 = .ok (.invokestatic 286, 3) := by decide +kernel
theorem dX8_turn_43 : decode cX8_turn 43 = .ok (.istore 4, 2) := by decide +kernel
theorem dX8_turn_45 : decode cX8_turn 45 = .ok (.iload 4, 2) := by decide +kernel
theorem dX8_turn_47 : decode cX8_turn 47 = .ok (.bipush 24, 2) := by decide +kernel
theorem dX8_turn_49 : decode cX8_turn 49 = .ok (.if_icmp .le 6, 3) := by decide +kernel
theorem dX8_turn_52 : decode cX8_turn 52 = .ok (.bipush 25, 2) := by decide +kernel
theorem dX8_turn_54 : decode cX8_turn 54 = .ok (.ireturn, 1) := by decide +kernel
theorem dX8_turn_55 : decode cX8_turn 55 = .ok (.aload_n 0, 1) := by decide +kernel
theorem dX8_turn_56 : decode cX8_turn 56 = .ok (.getfield 37, 3) := by decide +kernel
theorem dX8_turn_59 : decode cX8_turn 59 = .ok (.iload 4, 2) := by decide +kernel
theorem dX8_turn_61 : decode cX8_turn 61 = .ok (.invokevirtual 290, 3) := by decide +kernel
theorem dX8_turn_64 : decode cX8_turn 64 = .ok (.iload 4, 2) := by decide +kernel
theorem dX8_turn_66 : decode cX8_turn 66 = .ok (.ireturn, 1) := by decide +kernel
theorem dX8_hour_0 : decode cX8_hour 0 = .ok (.aload_n 0, 1) := by decide +kernel
theorem dX8_hour_1 : decode cX8_hour 1 = .ok (.getfield 37, 3) := by decide +kernel
theorem dX8_hour_4 : decode cX8_hour 4 = .ok (.getfield 293, 3) := by decide +kernel
theorem dX8_hour_7 : decode cX8_hour 7 = .ok (.ifCond .eq 13, 3) := by decide +kernel
theorem dX8_hour_10 : decode cX8_hour 10 = .ok (.iload_n 1, 1) := by decide +kernel
theorem dX8_hour_11 : decode cX8_hour 11 = .ok (.iconst 0, 1) := by decide +kernel
theorem dX8_hour_12 : decode cX8_hour 12 = .ok (.bipush 24, 2) := by decide +kernel
theorem dX8_hour_14 : decode cX8_hour 14 = .ok (.invokestatic 48, 3) := by decide +kernel
theorem dX8_hour_17 : decode cX8_hour 17 = .ok (.ifCond .ne 5, 3) := by decide +kernel
theorem dX8_hour_20 : decode cX8_hour 20 = .ok (.iconst (-1), 1) := by decide +kernel
theorem dX8_hour_21 : decode cX8_hour 21 = .ok (.ireturn, 1) := by decide +kernel
theorem dX8_hour_22 : decode cX8_hour 22 = .ok (.iload_n 1, 1) := by decide +kernel
theorem dX8_hour_23 : decode cX8_hour 23 = .ok (.bipush 24, 2) := by decide +kernel
theorem dX8_hour_25 : decode cX8_hour 25 = .ok (.if_icmp .ne 11, 3) := by decide +kernel
theorem dX8_hour_28 : decode cX8_hour 28 = .ok (.aload_n 0, 1) := by decide +kernel
theorem dX8_hour_29 : decode cX8_hour 29 = .ok (.getfield 37, 3) := by decide +kernel
theorem dX8_hour_32 : decode cX8_hour 32 = .ok (.getfield 296, 3) := by decide +kernel
theorem dX8_hour_35 : decode cX8_hour 35 = .ok (.ireturn, 1) := by decide +kernel
theorem dX8_hour_36 : decode cX8_hour 36 = .ok (.aload_n 0, 1) := by decide +kernel
theorem dX8_hour_37 : decode cX8_hour 37 = .ok (.getfield 37, 3) := by decide +kernel
theorem dX8_hour_40 : decode cX8_hour 40 = .ok (.getfield 299, 3) := by decide +kernel
theorem dX8_hour_43 : decode cX8_hour 43 = .ok (.iload_n 1, 1) := by decide +kernel
theorem dX8_hour_44 : decode cX8_hour 44 = .ok (.baload, 1) := by decide +kernel
theorem dX8_hour_45 : decode cX8_hour 45 = .ok (.ifCond .eq 7, 3) := by decide +kernel
theorem dX8_hour_48 : decode cX8_hour 48 = .ok (.iconst 1, 1) := by decide +kernel
theorem dX8_hour_49 : decode cX8_hour 49 = .ok (.goto 4, 3) := by decide +kernel
theorem dX8_hour_52 : decode cX8_hour 52 = .ok (.iconst 0, 1) := by decide +kernel
theorem dX8_hour_53 : decode cX8_hour 53 = .ok (.ireturn, 1) := by decide +kernel
theorem dX8_all_0 : decode cX8_all 0 = .ok (.iload_n 1, 1) := by decide +kernel
theorem dX8_all_1 : decode cX8_all 1 = .ok (.tableswitch 84 0 6 #[43, 48, 53, 58, 66, 71, 76], 43) := by decide +kernel
theorem dX8_all_44 : decode cX8_all 44 = .ok (.aload_n 0, 1) := by decide +kernel
theorem dX8_all_45 : decode cX8_all 45 = .ok (.getfield 45, 3) := by decide +kernel
theorem dX8_all_48 : decode cX8_all 48 = .ok (.ireturn, 1) := by decide +kernel
theorem dX8_all_49 : decode cX8_all 49 = .ok (.aload_n 0, 1) := by decide +kernel
theorem dX8_all_50 : decode cX8_all 50 = .ok (.getfield 62, 3) := by decide +kernel
theorem dX8_all_53 : decode cX8_all 53 = .ok (.ireturn, 1) := by decide +kernel
theorem dX8_all_54 : decode cX8_all 54 = .ok (.aload_n 0, 1) := by decide +kernel
theorem dX8_all_55 : decode cX8_all 55 = .ok (.getfield 80, 3) := by decide +kernel
theorem dX8_all_58 : decode cX8_all 58 = .ok (.ireturn, 1) := by decide +kernel
theorem dX8_all_59 : decode cX8_all 59 = .ok (.aload_n 0, 1) := by decide +kernel
theorem dX8_all_60 : decode cX8_all 60 = .ok (.getfield 30, 3) := by decide +kernel
theorem dX8_all_63 : decode cX8_all 63 = .ok (.invokevirtual 302, 3) := by decide +kernel
theorem dX8_all_66 : decode cX8_all 66 = .ok (.ireturn, 1) := by decide +kernel
theorem dX8_all_67 : decode cX8_all 67 = .ok (.aload_n 0, 1) := by decide +kernel
theorem dX8_all_68 : decode cX8_all 68 = .ok (.getfield 133, 3) := by decide +kernel
theorem dX8_all_71 : decode cX8_all 71 = .ok (.ireturn, 1) := by decide +kernel
theorem dX8_all_72 : decode cX8_all 72 = .ok (.aload_n 0, 1) := by decide +kernel
theorem dX8_all_73 : decode cX8_all 73 = .ok (.invokevirtual 305, 3) := by decide +kernel
theorem dX8_all_76 : decode cX8_all 76 = .ok (.ireturn, 1) := by decide +kernel
theorem dX8_all_77 : decode cX8_all 77 = .ok (.aload_n 0, 1) := by decide +kernel
theorem dX8_all_78 : decode cX8_all 78 = .ok (.getfield 30, 3) := by decide +kernel
theorem dX8_all_81 : decode cX8_all 81 = .ok (.invokevirtual 308, 3) := by decide +kernel
theorem dX8_all_84 : decode cX8_all 84 = .ok (.ireturn, 1) := by decide +kernel
theorem dX8_all_85 : decode cX8_all 85 = .ok (.iconst (-1), 1) := by decide +kernel
theorem dX8_all_86 : decode cX8_all 86 = .ok (.ireturn, 1) := by decide +kernel
theorem dX8_isWithin_0 : decode cX8_isWithin 0 = .ok (.iload_n 0, 1) := by decide +kernel
theorem dX8_isWithin_1 : decode cX8_isWithin 1 = .ok (.iload_n 1, 1) := by decide +kernel
theorem dX8_isWithin_2 : decode cX8_isWithin 2 = .ok (.if_icmp .lt 12, 3) := by decide +kernel
theorem dX8_isWithin_5 : decode cX8_isWithin 5 = .ok (.iload_n 0, 1) := by decide +kernel
theorem dX8_isWithin_6 : decode cX8_isWithin 6 = .ok (.iload_n 2, 1) := by decide +kernel
theorem dX8_isWithin_7 : decode cX8_isWithin 7 = .ok (.if_icmp .gt 7, 3) := by decide +kernel
theorem dX8_isWithin_10 : decode cX8_isWithin 10 = .ok (.iconst 1, 1) := by decide +kernel
theorem dX8_isWithin_11 : decode cX8_isWithin 11 = .ok (.goto 4, 3) := by decide +kernel
theorem dX8_isWithin_14 : decode cX8_isWithin 14 = .ok (.iconst 0, 1) := by decide +kernel
theorem dX8_isWithin_15 : decode cX8_isWithin 15 = .ok (.ireturn, 1) := by decide +kernel
theorem dX8_poolOf_0 : decode cX8_poolOf 0 = .ok (.iload_n 1, 1) := by decide +kernel
theorem dX8_poolOf_1 : decode cX8_poolOf 1 = .ok (.iconst 0, 1) := by decide +kernel
theorem dX8_poolOf_2 : decode cX8_poolOf 2 = .ok (.iconst 3, 1) := by decide +kernel
theorem dX8_poolOf_3 : decode cX8_poolOf 3 = .ok (.invokestatic 48, 3) := by decide +kernel
theorem dX8_poolOf_6 : decode cX8_poolOf 6 = .ok (.ifCond .eq 12, 3) := by decide +kernel
theorem dX8_poolOf_9 : decode cX8_poolOf 9 = .ok (.aload_n 0, 1) := by decide +kernel
theorem dX8_poolOf_10 : decode cX8_poolOf 10 = .ok (.getfield 11, 3) := by decide +kernel
theorem dX8_poolOf_13 : decode cX8_poolOf 13 = .ok (.iload_n 1, 1) := by decide +kernel
theorem dX8_poolOf_14 : decode cX8_poolOf 14 = .ok (.aaload, 1) := by decide +kernel
theorem dX8_poolOf_15 : decode cX8_poolOf 15 = .ok (.goto 4, 3) := by decide +kernel
theorem dX8_poolOf_18 : decode cX8_poolOf 18 = .ok (.aconst_null, 1) := by decide +kernel
theorem dX8_poolOf_19 : decode cX8_poolOf 19 = .ok (.areturn, 1) := by decide +kernel
theorem dX8_ticketOf_0 : decode cX8_ticketOf 0 = .ok (.iload_n 1, 1) := by decide +kernel
theorem dX8_ticketOf_1 : decode cX8_ticketOf 1 = .ok (.iconst 0, 1) := by decide +kernel
theorem dX8_ticketOf_2 : decode cX8_ticketOf 2 = .ok (.sipush 199, 3) := by decide +kernel
theorem dX8_ticketOf_5 : decode cX8_ticketOf 5 = .ok (.invokestatic 48, 3) := by decide +kernel
theorem dX8_ticketOf_8 : decode cX8_ticketOf 8 = .ok (.ifCond .eq 12, 3) := by decide +kernel
theorem dX8_ticketOf_11 : decode cX8_ticketOf 11 = .ok (.aload_n 0, 1) := by decide +kernel
theorem dX8_ticketOf_12 : decode cX8_ticketOf 12 = .ok (.getfield 17, 3) := by decide +kernel
theorem dX8_ticketOf_15 : decode cX8_ticketOf 15 = .ok (.iload_n 1, 1) := by decide +kernel
theorem dX8_ticketOf_16 : decode cX8_ticketOf 16 = .ok (.aaload, 1) := by decide +kernel
theorem dX8_ticketOf_17 : decode cX8_ticketOf 17 = .ok (.goto 4, 3) := by decide +kernel
theorem dX8_ticketOf_20 : decode cX8_ticketOf 20 = .ok (.aconst_null, 1) := by decide +kernel
theorem dX8_ticketOf_21 : decode cX8_ticketOf 21 = .ok (.areturn, 1) := by decide +kernel
theorem dX8_clubOf_0 : decode cX8_clubOf 0 = .ok (.iload_n 1, 1) := by decide +kernel
theorem dX8_clubOf_1 : decode cX8_clubOf 1 = .ok (.iconst 0, 1) := by decide +kernel
theorem dX8_clubOf_2 : decode cX8_clubOf 2 = .ok (.bipush 19, 2) := by decide +kernel
theorem dX8_clubOf_4 : decode cX8_clubOf 4 = .ok (.invokestatic 48, 3) := by decide +kernel
theorem dX8_clubOf_7 : decode cX8_clubOf 7 = .ok (.ifCond .eq 12, 3) := by decide +kernel
theorem dX8_clubOf_10 : decode cX8_clubOf 10 = .ok (.aload_n 0, 1) := by decide +kernel
theorem dX8_clubOf_11 : decode cX8_clubOf 11 = .ok (.getfield 23, 3) := by decide +kernel
theorem dX8_clubOf_14 : decode cX8_clubOf 14 = .ok (.iload_n 1, 1) := by decide +kernel
theorem dX8_clubOf_15 : decode cX8_clubOf 15 = .ok (.aaload, 1) := by decide +kernel
theorem dX8_clubOf_16 : decode cX8_clubOf 16 = .ok (.goto 4, 3) := by decide +kernel
theorem dX8_clubOf_19 : decode cX8_clubOf 19 = .ok (.aconst_null, 1) := by decide +kernel
theorem dX8_clubOf_20 : decode cX8_clubOf 20 = .ok (.areturn, 1) := by decide +kernel
theorem dX8_thingOf_0 : decode cX8_thingOf 0 = .ok (.aload_n 0, 1) := by decide +kernel
theorem dX8_thingOf_1 : decode cX8_thingOf 1 = .ok (.iload_n 1, 1) := by decide +kernel
theorem dX8_thingOf_2 : decode cX8_thingOf 2 = .ok (.invokevirtual 58, 3) := by decide +kernel
theorem dX8_thingOf_5 : decode cX8_thingOf 5 = .ok (.astore_n 3, 1) := by decide +kernel
theorem dX8_thingOf_6 : decode cX8_thingOf 6 = .ok (.aload_n 3, 1) := by decide +kernel
theorem dX8_thingOf_7 : decode cX8_thingOf 7 = .ok (.ifnull 21, 3) := by decide +kernel
theorem dX8_thingOf_10 : decode cX8_thingOf 10 = .ok (.iload_n 2, 1) := by decide +kernel
theorem dX8_thingOf_11 : decode cX8_thingOf 11 = .ok (.iconst 0, 1) := by decide +kernel
theorem dX8_thingOf_12 : decode cX8_thingOf 12 = .ok (.iconst 2, 1) := by decide +kernel
theorem dX8_thingOf_13 : decode cX8_thingOf 13 = .ok (.invokestatic 48, 3) := by decide +kernel
theorem dX8_thingOf_16 : decode cX8_thingOf 16 = .ok (.ifCond .eq 12, 3) := by decide +kernel
theorem dX8_thingOf_19 : decode cX8_thingOf 19 = .ok (.aload_n 3, 1) := by decide +kernel
theorem dX8_thingOf_20 : decode cX8_thingOf 20 = .ok (.getfield 311, 3) := by decide +kernel
theorem dX8_thingOf_23 : decode cX8_thingOf 23 = .ok (.iload_n 2, 1) := by decide +kernel
theorem dX8_thingOf_24 : decode cX8_thingOf 24 = .ok (.aaload, 1) := by decide +kernel
theorem dX8_thingOf_25 : decode cX8_thingOf 25 = .ok (.goto 4, 3) := by decide +kernel
theorem dX8_thingOf_28 : decode cX8_thingOf 28 = .ok (.aconst_null, 1) := by decide +kernel
theorem dX8_thingOf_29 : decode cX8_thingOf 29 = .ok (.areturn, 1) := by decide +kernel
theorem dX8_postOf_0 : decode cX8_postOf 0 = .ok (.aload_n 0, 1) := by decide +kernel
theorem dX8_postOf_1 : decode cX8_postOf 1 = .ok (.iload_n 1, 1) := by decide +kernel
theorem dX8_postOf_2 : decode cX8_postOf 2 = .ok (.invokevirtual 58, 3) := by decide +kernel
theorem dX8_postOf_5 : decode cX8_postOf 5 = .ok (.astore_n 3, 1) := by decide +kernel
theorem dX8_postOf_6 : decode cX8_postOf 6 = .ok (.aload_n 3, 1) := by decide +kernel
theorem dX8_postOf_7 : decode cX8_postOf 7 = .ok (.ifnull 27, 3) := by decide +kernel
theorem dX8_postOf_10 : decode cX8_postOf 10 = .ok (.iload_n 2, 1) := by decide +kernel
theorem dX8_postOf_11 : decode cX8_postOf 11 = .ok (.iconst 0, 1) := by decide +kernel
theorem dX8_postOf_12 : decode cX8_postOf 12 = .ok (.aload_n 3, 1) := by decide +kernel
theorem dX8_postOf_13 : decode cX8_postOf 13 = .ok (.getfield 315, 3) := by decide +kernel
theorem dX8_postOf_16 : decode cX8_postOf 16 = .ok (.arraylength, 1) := by decide +kernel
theorem dX8_postOf_17 : decode cX8_postOf 17 = .ok (.iconst 1, 1) := by decide +kernel
theorem dX8_postOf_18 : decode cX8_postOf 18 = .ok (.isub, 1) := by decide +kernel
theorem dX8_postOf_19 : decode cX8_postOf 19 = .ok (.invokestatic 48, 3) := by decide +kernel
theorem dX8_postOf_22 : decode cX8_postOf 22 = .ok (.ifCond .eq 12, 3) := by decide +kernel
theorem dX8_postOf_25 : decode cX8_postOf 25 = .ok (.aload_n 3, 1) := by decide +kernel
theorem dX8_postOf_26 : decode cX8_postOf 26 = .ok (.getfield 315, 3) := by decide +kernel
theorem dX8_postOf_29 : decode cX8_postOf 29 = .ok (.iload_n 2, 1) := by decide +kernel
theorem dX8_postOf_30 : decode cX8_postOf 30 = .ok (.aaload, 1) := by decide +kernel
theorem dX8_postOf_31 : decode cX8_postOf 31 = .ok (.goto 4, 3) := by decide +kernel
theorem dX8_postOf_34 : decode cX8_postOf 34 = .ok (.aconst_null, 1) := by decide +kernel
theorem dX8_postOf_35 : decode cX8_postOf 35 = .ok (.areturn, 1) := by decide +kernel
theorem dX8_numberOf_0 : decode cX8_numberOf 0 = .ok (.aload_n 0, 1) := by decide +kernel
theorem dX8_numberOf_1 : decode cX8_numberOf 1 = .ok (.ifnonnull 7, 3) := by decide +kernel
theorem dX8_numberOf_4 : decode cX8_numberOf 4 = .ok (.iconst (-1), 1) := by decide +kernel
theorem dX8_numberOf_5 : decode cX8_numberOf 5 = .ok (.goto 7, 3) := by decide +kernel
theorem dX8_numberOf_8 : decode cX8_numberOf 8 = .ok (.aload_n 0, 1) := by decide +kernel
theorem dX8_numberOf_9 : decode cX8_numberOf 9 = .ok (.getfield 319, 3) := by decide +kernel
theorem dX8_numberOf_12 : decode cX8_numberOf 12 = .ok (.ireturn, 1) := by decide +kernel
theorem dX8_endMinute_0 : decode cX8_endMinute 0 = .ok (.iconst 0, 1) := by decide +kernel
theorem dX8_endMinute_1 : decode cX8_endMinute 1 = .ok (.istore_n 1, 1) := by decide +kernel
theorem dX8_endMinute_2 : decode cX8_endMinute 2 = .ok (.iload_n 1, 1) := by decide +kernel
theorem dX8_endMinute_3 : decode cX8_endMinute 3 = .ok (.iconst 4, 1) := by decide +kernel
theorem dX8_endMinute_4 : decode cX8_endMinute 4 = .ok (.if_icmp .ge 28, 3) := by decide +kernel
theorem dX8_endMinute_7 : decode cX8_endMinute 7 = .ok (.aload_n 0, 1) := by decide +kernel
theorem dX8_endMinute_8 : decode cX8_endMinute 8 = .ok (.getfield 11, 3) := by decide +kernel
theorem dX8_endMinute_11 : decode cX8_endMinute 11 = .ok (.iload_n 1, 1) := by decide +kernel
theorem dX8_endMinute_12 : decode cX8_endMinute 12 = .ok (.aaload, 1) := by decide +kernel
theorem dX8_endMinute_13 : decode cX8_endMinute 13 = .ok (.astore_n 2, 1) := by decide +kernel
theorem dX8_endMinute_14 : decode cX8_endMinute 14 = .ok (.aload_n 2, 1) := by decide +kernel
theorem dX8_endMinute_15 : decode cX8_endMinute 15 = .ok (.ifnull 11, 3) := by decide +kernel
theorem dX8_endMinute_18 : decode cX8_endMinute 18 = .ok (.aload_n 2, 1) := by decide +kernel
theorem dX8_endMinute_19 : decode cX8_endMinute 19 = .ok (.aload_n 0, 1) := by decide +kernel
theorem dX8_endMinute_20 : decode cX8_endMinute 20 = .ok (.getfield 45, 3) := by decide +kernel
theorem dX8_endMinute_23 : decode cX8_endMinute 23 = .ok (.invokevirtual 320, 3) := by decide +kernel
theorem dX8_endMinute_26 : decode cX8_endMinute 26 = .ok (.iinc 1 1, 3) := by decide +kernel
theorem dX8_endMinute_29 : decode cX8_endMinute 29 = .ok (.goto (-27), 3) := by decide +kernel
theorem dX8_endMinute_32 : decode cX8_endMinute 32 = .ok (.return_, 1) := by decide +kernel
theorem dX8_isClubKind_0 : decode cX8_isClubKind 0 = .ok (.iload_n 0, 1) := by decide +kernel
theorem dX8_isClubKind_1 : decode cX8_isClubKind 1 = .ok (.iconst 2, 1) := by decide +kernel
theorem dX8_isClubKind_2 : decode cX8_isClubKind 2 = .ok (.if_icmp .eq 8, 3) := by decide +kernel
theorem dX8_isClubKind_5 : decode cX8_isClubKind 5 = .ok (.iload_n 0, 1) := by decide +kernel
theorem dX8_isClubKind_6 : decode cX8_isClubKind 6 = .ok (.iconst 3, 1) := by decide +kernel
theorem dX8_isClubKind_7 : decode cX8_isClubKind 7 = .ok (.if_icmp .ne 7, 3) := by decide +kernel
theorem dX8_isClubKind_10 : decode cX8_isClubKind 10 = .ok (.iconst 1, 1) := by decide +kernel
theorem dX8_isClubKind_11 : decode cX8_isClubKind 11 = .ok (.goto 4, 3) := by decide +kernel
theorem dX8_isClubKind_14 : decode cX8_isClubKind 14 = .ok (.iconst 0, 1) := by decide +kernel
theorem dX8_isClubKind_15 : decode cX8_isClubKind 15 = .ok (.ireturn, 1) := by decide +kernel
theorem dX8_isTicketSold_0 : decode cX8_isTicketSold 0 = .ok (.iload_n 2, 1) := by decide +kernel
theorem dX8_isTicketSold_1 : decode cX8_isTicketSold 1 = .ok (.iconst 1, 1) := by decide +kernel
theorem dX8_isTicketSold_2 : decode cX8_isTicketSold 2 = .ok (.if_icmp .ne 13, 3) := by decide +kernel
theorem dX8_isTicketSold_5 : decode cX8_isTicketSold 5 = .ok (.iload_n 3, 1) := by decide +kernel
theorem dX8_isTicketSold_6 : decode cX8_isTicketSold 6 = .ok (.bipush 15, 2) := by decide +kernel
theorem dX8_isTicketSold_8 : decode cX8_isTicketSold 8 = .ok (.sipush 240, 3) := by decide +kernel
theorem dX8_isTicketSold_11 : decode cX8_isTicketSold 11 = .ok (.invokestatic 48, 3) := by decide +kernel
theorem dX8_isTicketSold_14 : decode cX8_isTicketSold 14 = .ok (.ireturn, 1) := by decide +kernel
theorem dX8_isTicketSold_15 : decode cX8_isTicketSold 15 = .ok (.iload_n 2, 1) := by decide +kernel
theorem dX8_isTicketSold_16 : decode cX8_isTicketSold 16 = .ok (.invokestatic 69, 3) := by decide +kernel
theorem dX8_isTicketSold_19 : decode cX8_isTicketSold 19 = .ok (.ifCond .eq 48, 3) := by decide +kernel
theorem dX8_isTicketSold_22 : decode cX8_isTicketSold 22 = .ok (.aload_n 0, 1) := by decide +kernel
theorem dX8_isTicketSold_23 : decode cX8_isTicketSold 23 = .ok (.iload_n 3, 1) := by decide +kernel
theorem dX8_isTicketSold_24 : decode cX8_isTicketSold 24 = .ok (.invokevirtual 73, 3) := by decide +kernel
theorem dX8_isTicketSold_27 : decode cX8_isTicketSold 27 = .ok (.astore 4, 2) := by decide +kernel
theorem dX8_isTicketSold_29 : decode cX8_isTicketSold 29 = .ok (.aload 4, 2) := by decide +kernel
theorem dX8_isTicketSold_31 : decode cX8_isTicketSold 31 = .ok (.ifnull 34, 3) := by decide +kernel
theorem dX8_isTicketSold_34 : decode cX8_isTicketSold 34 = .ok (.aload 4, 2) := by decide +kernel
theorem dX8_isTicketSold_36 : decode cX8_isTicketSold 36 = .ok (.getfield 322, 3) := by decide +kernel
theorem dX8_isTicketSold_39 : decode cX8_isTicketSold 39 = .ok (.aload_n 1, 1) := by decide +kernel
theorem dX8_isTicketSold_40 : decode cX8_isTicketSold 40 = .ok (.if_acmp .ne 25, 3) := by decide +kernel
theorem dX8_isTicketSold_43 : decode cX8_isTicketSold 43 = .ok (.aload 4, 2) := by decide +kernel
theorem dX8_isTicketSold_45 : decode cX8_isTicketSold 45 = .ok (.invokevirtual 323, 3) := by decide +kernel
theorem dX8_isTicketSold_48 : decode cX8_isTicketSold 48 = .ok (.iload_n 2, 1) := by decide +kernel
theorem dX8_isTicketSold_49 : decode cX8_isTicketSold 49 = .ok (.iconst 3, 1) := by decide +kernel
theorem dX8_isTicketSold_50 : decode cX8_isTicketSold 50 = .ok (.if_icmp .ne 7, 3) := by decide +kernel
theorem dX8_isTicketSold_53 : decode cX8_isTicketSold 53 = .ok (.iconst 1, 1) := by decide +kernel
theorem dX8_isTicketSold_54 : decode cX8_isTicketSold 54 = .ok (.goto 4, 3) := by decide +kernel
theorem dX8_isTicketSold_57 : decode cX8_isTicketSold 57 = .ok (.iconst 0, 1) := by decide +kernel
theorem dX8_isTicketSold_58 : decode cX8_isTicketSold 58 = .ok (.if_icmp .ne 7, 3) := by decide +kernel
theorem dX8_isTicketSold_61 : decode cX8_isTicketSold 61 = .ok (.iconst 1, 1) := by decide +kernel
theorem dX8_isTicketSold_62 : decode cX8_isTicketSold 62 = .ok (.goto 4, 3) := by decide +kernel
theorem dX8_isTicketSold_65 : decode cX8_isTicketSold 65 = .ok (.iconst 0, 1) := by decide +kernel
theorem dX8_isTicketSold_66 : decode cX8_isTicketSold 66 = .ok (.ireturn, 1) := by decide +kernel
theorem dX8_isTicketSold_67 : decode cX8_isTicketSold 67 = .ok (.iload_n 2, 1) := by decide +kernel
theorem dX8_isTicketSold_68 : decode cX8_isTicketSold 68 = .ok (.iconst 0, 1) := by decide +kernel
theorem dX8_isTicketSold_69 : decode cX8_isTicketSold 69 = .ok (.iconst 5, 1) := by decide +kernel
theorem dX8_isTicketSold_70 : decode cX8_isTicketSold 70 = .ok (.invokestatic 48, 3) := by decide +kernel
theorem dX8_isTicketSold_73 : decode cX8_isTicketSold 73 = .ok (.ireturn, 1) := by decide +kernel
theorem dX8_lowestClash_0 : decode cX8_lowestClash 0 = .ok (.iconst 0, 1) := by decide +kernel
theorem dX8_lowestClash_1 : decode cX8_lowestClash 1 = .ok (.istore_n 2, 1) := by decide +kernel
theorem dX8_lowestClash_2 : decode cX8_lowestClash 2 = .ok (.iload_n 2, 1) := by decide +kernel
theorem dX8_lowestClash_3 : decode cX8_lowestClash 3 = .ok (.bipush 20, 2) := by decide +kernel
theorem dX8_lowestClash_5 : decode cX8_lowestClash 5 = .ok (.if_icmp .ge 30, 3) := by decide +kernel
theorem dX8_lowestClash_8 : decode cX8_lowestClash 8 = .ok (.aload_n 0, 1) := by decide +kernel
theorem dX8_lowestClash_9 : decode cX8_lowestClash 9 = .ok (.getfield 23, 3) := by decide +kernel
theorem dX8_lowestClash_12 : decode cX8_lowestClash 12 = .ok (.iload_n 2, 1) := by decide +kernel
theorem dX8_lowestClash_13 : decode cX8_lowestClash 13 = .ok (.aaload, 1) := by decide +kernel
theorem dX8_lowestClash_14 : decode cX8_lowestClash 14 = .ok (.astore_n 3, 1) := by decide +kernel
theorem dX8_lowestClash_15 : decode cX8_lowestClash 15 = .ok (.aload_n 3, 1) := by decide +kernel
theorem dX8_lowestClash_16 : decode cX8_lowestClash 16 = .ok (.ifnull 13, 3) := by decide +kernel
theorem dX8_lowestClash_19 : decode cX8_lowestClash 19 = .ok (.aload_n 3, 1) := by decide +kernel
theorem dX8_lowestClash_20 : decode cX8_lowestClash 20 = .ok (.aload_n 1, 1) := by decide +kernel
theorem dX8_lowestClash_21 : decode cX8_lowestClash 21 = .ok (.invokevirtual 327, 3) := by decide +kernel
theorem dX8_lowestClash_24 : decode cX8_lowestClash 24 = .ok (.ifCond .eq 5, 3) := by decide +kernel
theorem dX8_lowestClash_27 : decode cX8_lowestClash 27 = .ok (.iload_n 2, 1) := by decide +kernel
theorem dX8_lowestClash_28 : decode cX8_lowestClash 28 = .ok (.ireturn, 1) := by decide +kernel
theorem dX8_lowestClash_29 : decode cX8_lowestClash 29 = .ok (.iinc 2 1, 3) := by decide +kernel
theorem dX8_lowestClash_32 : decode cX8_lowestClash 32 = .ok (.goto (-30), 3) := by decide +kernel
theorem dX8_lowestClash_35 : decode cX8_lowestClash 35 = .ok (.iconst (-1), 1) := by decide +kernel
theorem dX8_lowestClash_36 : decode cX8_lowestClash 36 = .ok (.ireturn, 1) := by decide +kernel
theorem dX8_freeLanes_0 : decode cX8_freeLanes 0 = .ok (.iconst 0, 1) := by decide +kernel
theorem dX8_freeLanes_1 : decode cX8_freeLanes 1 = .ok (.istore_n 2, 1) := by decide +kernel
theorem dX8_freeLanes_2 : decode cX8_freeLanes 2 = .ok (.iconst 0, 1) := by decide +kernel
theorem dX8_freeLanes_3 : decode cX8_freeLanes 3 = .ok (.istore_n 3, 1) := by decide +kernel
theorem dX8_freeLanes_4 : decode cX8_freeLanes 4 = .ok (.iload_n 3, 1) := by decide +kernel
theorem dX8_freeLanes_5 : decode cX8_freeLanes 5 = .ok (.bipush 20, 2) := by decide +kernel
theorem dX8_freeLanes_7 : decode cX8_freeLanes 7 = .ok (.if_icmp .ge 51, 3) := by decide +kernel
theorem dX8_freeLanes_10 : decode cX8_freeLanes 10 = .ok (.aload_n 0, 1) := by decide +kernel
theorem dX8_freeLanes_11 : decode cX8_freeLanes 11 = .ok (.getfield 23, 3) := by decide +kernel
theorem dX8_freeLanes_14 : decode cX8_freeLanes 14 = .ok (.iload_n 3, 1) := by decide +kernel
theorem dX8_freeLanes_15 : decode cX8_freeLanes 15 = .ok (.aaload, 1) := by decide +kernel
theorem dX8_freeLanes_16 : decode cX8_freeLanes 16 = .ok (.astore 4, 2) := by decide +kernel
theorem dX8_freeLanes_18 : decode cX8_freeLanes 18 = .ok (.aload 4, 2) := by decide +kernel
theorem dX8_freeLanes_20 : decode cX8_freeLanes 20 = .ok (.ifnull 32, 3) := by decide +kernel
theorem dX8_freeLanes_23 : decode cX8_freeLanes 23 = .ok (.aload 4, 2) := by decide +kernel
theorem dX8_freeLanes_25 : decode cX8_freeLanes 25 = .ok (.getfield 322, 3) := by decide +kernel
theorem dX8_freeLanes_28 : decode cX8_freeLanes 28 = .ok (.aload_n 1, 1) := by decide +kernel
theorem dX8_freeLanes_29 : decode cX8_freeLanes 29 = .ok (.if_acmp .ne 23, 3) := by decide +kernel
theorem dX8_freeLanes_32 : decode cX8_freeLanes 32 = .ok (.aload 4, 2) := by decide +kernel
theorem dX8_freeLanes_34 : decode cX8_freeLanes 34 = .ok (.aload_n 0, 1) := by decide +kernel
theorem dX8_freeLanes_35 : decode cX8_freeLanes 35 = .ok (.getfield 45, 3) := by decide +kernel
theorem dX8_freeLanes_38 : decode cX8_freeLanes 38 = .ok (.invokevirtual 331, 3) := by decide +kernel
theorem dX8_freeLanes_41 : decode cX8_freeLanes 41 = .ok (.ifCond .eq 11, 3) := by decide +kernel
theorem dX8_freeLanes_44 : decode cX8_freeLanes 44 = .ok (.iload_n 2, 1) := by decide +kernel
theorem dX8_freeLanes_45 : decode cX8_freeLanes 45 = .ok (.aload 4, 2) := by decide +kernel
theorem dX8_freeLanes_47 : decode cX8_freeLanes 47 = .ok (.getfield 334, 3) := by decide +kernel
theorem dX8_freeLanes_50 : decode cX8_freeLanes 50 = .ok (.ior, 1) := by decide +kernel
theorem dX8_freeLanes_51 : decode cX8_freeLanes 51 = .ok (.istore_n 2, 1) := by decide +kernel
theorem dX8_freeLanes_52 : decode cX8_freeLanes 52 = .ok (.iinc 3 1, 3) := by decide +kernel
theorem dX8_freeLanes_55 : decode cX8_freeLanes 55 = .ok (.goto (-51), 3) := by decide +kernel
theorem dX8_freeLanes_58 : decode cX8_freeLanes 58 = .ok (.aload_n 1, 1) := by decide +kernel
theorem dX8_freeLanes_59 : decode cX8_freeLanes 59 = .ok (.getfield 337, 3) := by decide +kernel
theorem dX8_freeLanes_62 : decode cX8_freeLanes 62 = .ok (.iload_n 2, 1) := by decide +kernel
theorem dX8_freeLanes_63 : decode cX8_freeLanes 63 = .ok (.invokestatic 338, 3) := by decide +kernel
theorem dX8_freeLanes_66 : decode cX8_freeLanes 66 = .ok (.isub, 1) := by decide +kernel
theorem dX8_freeLanes_67 : decode cX8_freeLanes 67 = .ok (.ireturn, 1) := by decide +kernel
theorem dX8_reasonAgainst_0 : decode cX8_reasonAgainst 0 = .ok (.aload_n 1, 1) := by decide +kernel
theorem dX8_reasonAgainst_1 : decode cX8_reasonAgainst 1 = .ok (.getfield 116, 3) := by decide +kernel
theorem dX8_reasonAgainst_4 : decode cX8_reasonAgainst 4 = .ok (.ifCond .eq 5, 3) := by decide +kernel
theorem dX8_reasonAgainst_7 : decode cX8_reasonAgainst 7 = .ok (.iconst 1, 1) := by decide +kernel
theorem dX8_reasonAgainst_8 : decode cX8_reasonAgainst 8 = .ok (.ireturn, 1) := by decide +kernel
theorem dX8_reasonAgainst_9 : decode cX8_reasonAgainst 9 = .ok (.aload_n 1, 1) := by decide +kernel
theorem dX8_reasonAgainst_10 : decode cX8_reasonAgainst 10 = .ok (.getfield 262, 3) := by decide +kernel
theorem dX8_reasonAgainst_13 : decode cX8_reasonAgainst 13 = .ok (.iconst 5, 1) := by decide +kernel
theorem dX8_reasonAgainst_14 : decode cX8_reasonAgainst 14 = .ok (.if_icmp .ne 7, 3) := by decide +kernel
theorem dX8_reasonAgainst_17 : decode cX8_reasonAgainst 17 = .ok (.iconst 0, 1) := by decide +kernel
theorem dX8_reasonAgainst_18 : decode cX8_reasonAgainst 18 = .ok (.goto 8, 3) := by decide +kernel
theorem dX8_reasonAgainst_21 : decode cX8_reasonAgainst 21 = .ok (.aload_n 0, 1) := by decide +kernel
theorem dX8_reasonAgainst_22 : decode cX8_reasonAgainst 22 = .ok (.aload_n 1, 1) := by decide +kernel
theorem dX8_reasonAgainst_23 : decode cX8_reasonAgainst 23 = .ok (.invokevirtual 343, 3) := by decide +kernel
theorem dX8_reasonAgainst_26 : decode cX8_reasonAgainst 26 = .ok (.istore_n 2, 1) := by decide +kernel
theorem dX8_reasonAgainst_27 : decode cX8_reasonAgainst 27 = .ok (.iload_n 2, 1) := by decide +kernel
theorem dX8_reasonAgainst_28 : decode cX8_reasonAgainst 28 = .ok (.ifCond .eq 5, 3) := by decide +kernel
theorem dX8_reasonAgainst_31 : decode cX8_reasonAgainst 31 = .ok (.iload_n 2, 1) := by decide +kernel
theorem dX8_reasonAgainst_32 : decode cX8_reasonAgainst 32 = .ok (.ireturn, 1) := by decide +kernel
theorem dX8_reasonAgainst_33 : decode cX8_reasonAgainst 33 = .ok (.aload_n 1, 1) := by decide +kernel
theorem dX8_reasonAgainst_34 : decode cX8_reasonAgainst 34 = .ok (.getfield 108, 3) := by decide +kernel
theorem dX8_reasonAgainst_37 : decode cX8_reasonAgainst 37 = .ok (.getfield 120, 3) := by decide +kernel
theorem dX8_reasonAgainst_40 : decode cX8_reasonAgainst 40 = .ok (.getfield 346, 3) := by decide +kernel
theorem dX8_reasonAgainst_43 : decode cX8_reasonAgainst 43 = .ok (.iconst 3, 1) := by decide +kernel
theorem dX8_reasonAgainst_44 : decode cX8_reasonAgainst 44 = .ok (.if_icmp .lt 8, 3) := by decide +kernel
theorem dX8_reasonAgainst_47 : decode cX8_reasonAgainst 47 = .ok (.bipush 6, 2) := by decide +kernel
theorem dX8_reasonAgainst_49 : decode cX8_reasonAgainst 49 = .ok (.goto 4, 3) := by decide +kernel
theorem dX8_reasonAgainst_52 : decode cX8_reasonAgainst 52 = .ok (.iconst 0, 1) := by decide +kernel
theorem dX8_reasonAgainst_53 : decode cX8_reasonAgainst 53 = .ok (.ireturn, 1) := by decide +kernel
theorem dX8_reasonAgainstHead_0 : decode cX8_reasonAgainstHead 0 = .ok (.aload_n 1, 1) := by decide +kernel
theorem dX8_reasonAgainstHead_1 : decode cX8_reasonAgainstHead 1 = .ok (.getfield 108, 3) := by decide +kernel
theorem dX8_reasonAgainstHead_4 : decode cX8_reasonAgainstHead 4 = .ok (.astore_n 2, 1) := by decide +kernel
theorem dX8_reasonAgainstHead_5 : decode cX8_reasonAgainstHead 5 = .ok (.aload_n 1, 1) := by decide +kernel
theorem dX8_reasonAgainstHead_6 : decode cX8_reasonAgainstHead 6 = .ok (.aload_n 0, 1) := by decide +kernel
theorem dX8_reasonAgainstHead_7 : decode cX8_reasonAgainstHead 7 = .ok (.getfield 45, 3) := by decide +kernel
theorem dX8_reasonAgainstHead_10 : decode cX8_reasonAgainstHead 10 = .ok (.invokevirtual 349, 3) := by decide +kernel
theorem dX8_reasonAgainstHead_13 : decode cX8_reasonAgainstHead 13 = .ok (.ifCond .ne 5, 3) := by decide +kernel
theorem dX8_reasonAgainstHead_16 : decode cX8_reasonAgainstHead 16 = .ok (.iconst 2, 1) := by decide +kernel
theorem dX8_reasonAgainstHead_17 : decode cX8_reasonAgainstHead 17 = .ok (.ireturn, 1) := by decide +kernel
theorem dX8_reasonAgainstHead_18 : decode cX8_reasonAgainstHead 18 = .ok (.aload_n 2, 1) := by decide +kernel
theorem dX8_reasonAgainstHead_19 : decode cX8_reasonAgainstHead 19 = .ok (.aload_n 0, 1) := by decide +kernel
theorem dX8_reasonAgainstHead_20 : decode cX8_reasonAgainstHead 20 = .ok (.getfield 45, 3) := by decide +kernel
theorem dX8_reasonAgainstHead_23 : decode cX8_reasonAgainstHead 23 = .ok (.invokevirtual 213, 3) := by decide +kernel
theorem dX8_reasonAgainstHead_26 : decode cX8_reasonAgainstHead 26 = .ok (.ifCond .eq 5, 3) := by decide +kernel
theorem dX8_reasonAgainstHead_29 : decode cX8_reasonAgainstHead 29 = .ok (.iconst 3, 1) := by decide +kernel
theorem dX8_reasonAgainstHead_30 : decode cX8_reasonAgainstHead 30 = .ok (.ireturn, 1) := by decide +kernel
theorem dX8_reasonAgainstHead_31 : decode cX8_reasonAgainstHead 31 = .ok (.aload_n 2, 1) := by decide +kernel
theorem dX8_reasonAgainstHead_32 : decode cX8_reasonAgainstHead 32 = .ok (.getfield 120, 3) := by decide +kernel
theorem dX8_reasonAgainstHead_35 : decode cX8_reasonAgainstHead 35 = .ok (.invokevirtual 166, 3) := by decide +kernel
theorem dX8_reasonAgainstHead_38 : decode cX8_reasonAgainstHead 38 = .ok (.aload_n 2, 1) := by decide +kernel
theorem dX8_reasonAgainstHead_39 : decode cX8_reasonAgainstHead 39 = .ok (.getfield 172, 3) := by decide +kernel
theorem dX8_reasonAgainstHead_42 : decode cX8_reasonAgainstHead 42 = .ok (.if_icmp .lt 5, 3) := by decide +kernel
theorem dX8_reasonAgainstHead_45 : decode cX8_reasonAgainstHead 45 = .ok (.iconst 4, 1) := by decide +kernel
theorem dX8_reasonAgainstHead_46 : decode cX8_reasonAgainstHead 46 = .ok (.ireturn, 1) := by decide +kernel
theorem dX8_reasonAgainstHead_47 : decode cX8_reasonAgainstHead 47 = .ok (.aload_n 1, 1) := by decide +kernel
theorem dX8_reasonAgainstHead_48 : decode cX8_reasonAgainstHead 48 = .ok (.invokevirtual 352, 3) := by decide +kernel
theorem dX8_reasonAgainstHead_51 : decode cX8_reasonAgainstHead 51 = .ok (.ifCond .eq 7, 3) := by decide +kernel
theorem dX8_reasonAgainstHead_54 : decode cX8_reasonAgainstHead 54 = .ok (.iconst 5, 1) := by decide +kernel
theorem dX8_reasonAgainstHead_55 : decode cX8_reasonAgainstHead 55 = .ok (.goto 4, 3) := by decide +kernel
theorem dX8_reasonAgainstHead_58 : decode cX8_reasonAgainstHead 58 = .ok (.iconst 0, 1) := by decide +kernel
theorem dX8_reasonAgainstHead_59 : decode cX8_reasonAgainstHead 59 = .ok (.ireturn, 1) := by decide +kernel
theorem dX8_hoursNeeded_0 : decode cX8_hoursNeeded 0 = .ok (.iload_n 0, 1) := by decide +kernel
theorem dX8_hoursNeeded_1 : decode cX8_hoursNeeded 1 = .ok (.bipush 100, 2) := by decide +kernel
theorem dX8_hoursNeeded_3 : decode cX8_hoursNeeded 3 = .ok (.iload_n 2, 1) := by decide +kernel
theorem dX8_hoursNeeded_4 : decode cX8_hoursNeeded 4 = .ok (.iadd, 1) := by decide +kernel
theorem dX8_hoursNeeded_5 : decode cX8_hoursNeeded 5 = .ok (.imul, 1) := by decide +kernel
theorem dX8_hoursNeeded_6 : decode cX8_hoursNeeded 6 = .ok (.istore_n 3, 1) := by decide +kernel
theorem dX8_hoursNeeded_7 : decode cX8_hoursNeeded 7 = .ok (.iload_n 1, 1) := by decide +kernel
theorem dX8_hoursNeeded_8 : decode cX8_hoursNeeded 8 = .ok (.bipush 100, 2) := by decide +kernel
theorem dX8_hoursNeeded_10 : decode cX8_hoursNeeded 10 = .ok (.imul, 1) := by decide +kernel
theorem dX8_hoursNeeded_11 : decode cX8_hoursNeeded 11 = .ok (.istore 4, 2) := by decide +kernel
theorem dX8_hoursNeeded_13 : decode cX8_hoursNeeded 13 = .ok (.iload 4, 2) := by decide +kernel
theorem dX8_hoursNeeded_15 : decode cX8_hoursNeeded 15 = .ok (.iconst 1, 1) := by decide +kernel
theorem dX8_hoursNeeded_16 : decode cX8_hoursNeeded 16 = .ok (.if_icmp .ge 8, 3) := by decide +kernel
theorem dX8_hoursNeeded_19 : decode cX8_hoursNeeded 19 = .ok (.bipush 25, 2) := by decide +kernel
theorem dX8_hoursNeeded_21 : decode cX8_hoursNeeded 21 = .ok (.goto 12, 3) := by decide +kernel
theorem dX8_hoursNeeded_24 : decode cX8_hoursNeeded 24 = .ok (.iload_n 3, 1) := by decide +kernel
theorem dX8_hoursNeeded_25 : decode cX8_hoursNeeded 25 = .ok (.iload 4, 2) := by decide +kernel
theorem dX8_hoursNeeded_27 : decode cX8_hoursNeeded 27 = .ok (.iadd, 1) := by decide +kernel
theorem dX8_hoursNeeded_28 : decode cX8_hoursNeeded 28 = .ok (.iconst 1, 1) := by decide +kernel
theorem dX8_hoursNeeded_29 : decode cX8_hoursNeeded 29 = .ok (.isub, 1) := by decide +kernel
theorem dX8_hoursNeeded_30 : decode cX8_hoursNeeded 30 = .ok (.iload 4, 2) := by decide +kernel
theorem dX8_hoursNeeded_32 : decode cX8_hoursNeeded 32 = .ok (.idiv, 1) := by decide +kernel
theorem dX8_hoursNeeded_33 : decode cX8_hoursNeeded 33 = .ok (.ireturn, 1) := by decide +kernel
theorem dX8_insideAllPools_0 : decode cX8_insideAllPools 0 = .ok (.iconst 0, 1) := by decide +kernel
theorem dX8_insideAllPools_1 : decode cX8_insideAllPools 1 = .ok (.istore_n 1, 1) := by decide +kernel
theorem dX8_insideAllPools_2 : decode cX8_insideAllPools 2 = .ok (.iconst 0, 1) := by decide +kernel
theorem dX8_insideAllPools_3 : decode cX8_insideAllPools 3 = .ok (.istore_n 2, 1) := by decide +kernel
theorem dX8_insideAllPools_4 : decode cX8_insideAllPools 4 = .ok (.iload_n 2, 1) := by decide +kernel
theorem dX8_insideAllPools_5 : decode cX8_insideAllPools 5 = .ok (.iconst 4, 1) := by decide +kernel
theorem dX8_insideAllPools_6 : decode cX8_insideAllPools 6 = .ok (.if_icmp .ge 31, 3) := by decide +kernel
theorem dX8_insideAllPools_9 : decode cX8_insideAllPools 9 = .ok (.aload_n 0, 1) := by decide +kernel
theorem dX8_insideAllPools_10 : decode cX8_insideAllPools 10 = .ok (.getfield 11, 3) := by decide +kernel
theorem dX8_insideAllPools_13 : decode cX8_insideAllPools 13 = .ok (.iload_n 2, 1) := by decide +kernel
theorem dX8_insideAllPools_14 : decode cX8_insideAllPools 14 = .ok (.aaload, 1) := by decide +kernel
theorem dX8_insideAllPools_15 : decode cX8_insideAllPools 15 = .ok (.astore_n 3, 1) := by decide +kernel
theorem dX8_insideAllPools_16 : decode cX8_insideAllPools 16 = .ok (.iload_n 1, 1) := by decide +kernel
theorem dX8_insideAllPools_17 : decode cX8_insideAllPools 17 = .ok (.aload_n 3, 1) := by decide +kernel
theorem dX8_insideAllPools_18 : decode cX8_insideAllPools 18 = .ok (.ifnonnull 7, 3) := by decide +kernel
theorem dX8_insideAllPools_21 : decode cX8_insideAllPools 21 = .ok (.iconst 0, 1) := by decide +kernel
theorem dX8_insideAllPools_22 : decode cX8_insideAllPools 22 = .ok (.goto 7, 3) := by decide +kernel
theorem dX8_insideAllPools_25 : decode cX8_insideAllPools 25 = .ok (.aload_n 3, 1) := by decide +kernel
theorem dX8_insideAllPools_26 : decode cX8_insideAllPools 26 = .ok (.getfield 156, 3) := by decide +kernel
theorem dX8_insideAllPools_29 : decode cX8_insideAllPools 29 = .ok (.iadd, 1) := by decide +kernel
theorem dX8_insideAllPools_30 : decode cX8_insideAllPools 30 = .ok (.istore_n 1, 1) := by decide +kernel
theorem dX8_insideAllPools_31 : decode cX8_insideAllPools 31 = .ok (.iinc 2 1, 3) := by decide +kernel
theorem dX8_insideAllPools_34 : decode cX8_insideAllPools 34 = .ok (.goto (-30), 3) := by decide +kernel
theorem dX8_insideAllPools_37 : decode cX8_insideAllPools 37 = .ok (.iload_n 1, 1) := by decide +kernel
theorem dX8_insideAllPools_38 : decode cX8_insideAllPools 38 = .ok (.ireturn, 1) := by decide +kernel
theorem dJ6_bitCount_0f7a4_0 : decode cJ6_bitCount_0f7a4 0 = .ok (.iload_n 0, 1) := by decide +kernel
theorem dJ6_bitCount_0f7a4_1 : decode cJ6_bitCount_0f7a4 1 = .ok (.iload_n 0, 1) := by decide +kernel
theorem dJ6_bitCount_0f7a4_2 : decode cJ6_bitCount_0f7a4 2 = .ok (.iconst 1, 1) := by decide +kernel
theorem dJ6_bitCount_0f7a4_3 : decode cJ6_bitCount_0f7a4 3 = .ok (.iushr, 1) := by decide +kernel
theorem dJ6_bitCount_0f7a4_4 : decode cJ6_bitCount_0f7a4 4 = .ok (.ldc_w 265, 3) := by decide +kernel
theorem dJ6_bitCount_0f7a4_7 : decode cJ6_bitCount_0f7a4 7 = .ok (.iand, 1) := by decide +kernel
theorem dJ6_bitCount_0f7a4_8 : decode cJ6_bitCount_0f7a4 8 = .ok (.isub, 1) := by decide +kernel
theorem dJ6_bitCount_0f7a4_9 : decode cJ6_bitCount_0f7a4 9 = .ok (.istore_n 0, 1) := by decide +kernel
theorem dJ6_bitCount_0f7a4_10 : decode cJ6_bitCount_0f7a4 10 = .ok (.iload_n 0, 1) := by decide +kernel
theorem dJ6_bitCount_0f7a4_11 : decode cJ6_bitCount_0f7a4 11 = .ok (.ldc_w 266, 3) := by decide +kernel
theorem dJ6_bitCount_0f7a4_14 : decode cJ6_bitCount_0f7a4 14 = .ok (.iand, 1) := by decide +kernel
theorem dJ6_bitCount_0f7a4_15 : decode cJ6_bitCount_0f7a4 15 = .ok (.iload_n 0, 1) := by decide +kernel
theorem dJ6_bitCount_0f7a4_16 : decode cJ6_bitCount_0f7a4 16 = .ok (.iconst 2, 1) := by decide +kernel
theorem dJ6_bitCount_0f7a4_17 : decode cJ6_bitCount_0f7a4 17 = .ok (.iushr, 1) := by decide +kernel
theorem dJ6_bitCount_0f7a4_18 : decode cJ6_bitCount_0f7a4 18 = .ok (.ldc_w 266, 3) := by decide +kernel
theorem dJ6_bitCount_0f7a4_21 : decode cJ6_bitCount_0f7a4 21 = .ok (.iand, 1) := by decide +kernel
theorem dJ6_bitCount_0f7a4_22 : decode cJ6_bitCount_0f7a4 22 = .ok (.iadd, 1) := by decide +kernel
theorem dJ6_bitCount_0f7a4_23 : decode cJ6_bitCount_0f7a4 23 = .ok (.istore_n 0, 1) := by decide +kernel
theorem dJ6_bitCount_0f7a4_24 : decode cJ6_bitCount_0f7a4 24 = .ok (.iload_n 0, 1) := by decide +kernel
theorem dJ6_bitCount_0f7a4_25 : decode cJ6_bitCount_0f7a4 25 = .ok (.iload_n 0, 1) := by decide +kernel
theorem dJ6_bitCount_0f7a4_26 : decode cJ6_bitCount_0f7a4 26 = .ok (.iconst 4, 1) := by decide +kernel
theorem dJ6_bitCount_0f7a4_27 : decode cJ6_bitCount_0f7a4 27 = .ok (.iushr, 1) := by decide +kernel
theorem dJ6_bitCount_0f7a4_28 : decode cJ6_bitCount_0f7a4 28 = .ok (.iadd, 1) := by decide +kernel
theorem dJ6_bitCount_0f7a4_29 : decode cJ6_bitCount_0f7a4 29 = .ok (.ldc_w 267, 3) := by decide +kernel
theorem dJ6_bitCount_0f7a4_32 : decode cJ6_bitCount_0f7a4 32 = .ok (.iand, 1) := by decide +kernel
theorem dJ6_bitCount_0f7a4_33 : decode cJ6_bitCount_0f7a4 33 = .ok (.istore_n 0, 1) := by decide +kernel
theorem dJ6_bitCount_0f7a4_34 : decode cJ6_bitCount_0f7a4 34 = .ok (.iload_n 0, 1) := by decide +kernel
theorem dJ6_bitCount_0f7a4_35 : decode cJ6_bitCount_0f7a4 35 = .ok (.iload_n 0, 1) := by decide +kernel
theorem dJ6_bitCount_0f7a4_36 : decode cJ6_bitCount_0f7a4 36 = .ok (.bipush 8, 2) := by decide +kernel
theorem dJ6_bitCount_0f7a4_38 : decode cJ6_bitCount_0f7a4 38 = .ok (.iushr, 1) := by decide +kernel
theorem dJ6_bitCount_0f7a4_39 : decode cJ6_bitCount_0f7a4 39 = .ok (.iadd, 1) := by decide +kernel
theorem dJ6_bitCount_0f7a4_40 : decode cJ6_bitCount_0f7a4 40 = .ok (.istore_n 0, 1) := by decide +kernel
theorem dJ6_bitCount_0f7a4_41 : decode cJ6_bitCount_0f7a4 41 = .ok (.iload_n 0, 1) := by decide +kernel
theorem dJ6_bitCount_0f7a4_42 : decode cJ6_bitCount_0f7a4 42 = .ok (.iload_n 0, 1) := by decide +kernel
theorem dJ6_bitCount_0f7a4_43 : decode cJ6_bitCount_0f7a4 43 = .ok (.bipush 16, 2) := by decide +kernel
theorem dJ6_bitCount_0f7a4_45 : decode cJ6_bitCount_0f7a4 45 = .ok (.iushr, 1) := by decide +kernel
theorem dJ6_bitCount_0f7a4_46 : decode cJ6_bitCount_0f7a4 46 = .ok (.iadd, 1) := by decide +kernel
theorem dJ6_bitCount_0f7a4_47 : decode cJ6_bitCount_0f7a4 47 = .ok (.istore_n 0, 1) := by decide +kernel
theorem dJ6_bitCount_0f7a4_48 : decode cJ6_bitCount_0f7a4 48 = .ok (.iload_n 0, 1) := by decide +kernel
theorem dJ6_bitCount_0f7a4_49 : decode cJ6_bitCount_0f7a4 49 = .ok (.bipush 63, 2) := by decide +kernel
theorem dJ6_bitCount_0f7a4_51 : decode cJ6_bitCount_0f7a4 51 = .ok (.iand, 1) := by decide +kernel
theorem dJ6_bitCount_0f7a4_52 : decode cJ6_bitCount_0f7a4 52 = .ok (.ireturn, 1) := by decide +kernel
theorem dJ9_max_7cf53_0 : decode cJ9_max_7cf53 0 = .ok (.iload_n 0, 1) := by decide +kernel
theorem dJ9_max_7cf53_1 : decode cJ9_max_7cf53 1 = .ok (.iload_n 1, 1) := by decide +kernel
theorem dJ9_max_7cf53_2 : decode cJ9_max_7cf53 2 = .ok (.if_icmp .lt 7, 3) := by decide +kernel
theorem dJ9_max_7cf53_5 : decode cJ9_max_7cf53 5 = .ok (.iload_n 0, 1) := by decide +kernel
theorem dJ9_max_7cf53_6 : decode cJ9_max_7cf53 6 = .ok (.goto 4, 3) := by decide +kernel
theorem dJ9_max_7cf53_9 : decode cJ9_max_7cf53 9 = .ok (.iload_n 1, 1) := by decide +kernel
theorem dJ9_max_7cf53_10 : decode cJ9_max_7cf53 10 = .ok (.ireturn, 1) := by decide +kernel
theorem dJ9_min_7cf53_0 : decode cJ9_min_7cf53 0 = .ok (.iload_n 0, 1) := by decide +kernel
theorem dJ9_min_7cf53_1 : decode cJ9_min_7cf53 1 = .ok (.iload_n 1, 1) := by decide +kernel
theorem dJ9_min_7cf53_2 : decode cJ9_min_7cf53 2 = .ok (.if_icmp .gt 7, 3) := by decide +kernel
theorem dJ9_min_7cf53_5 : decode cJ9_min_7cf53 5 = .ok (.iload_n 0, 1) := by decide +kernel
theorem dJ9_min_7cf53_6 : decode cJ9_min_7cf53 6 = .ok (.goto 4, 3) := by decide +kernel
theorem dJ9_min_7cf53_9 : decode cJ9_min_7cf53 9 = .ok (.iload_n 1, 1) := by decide +kernel
theorem dJ9_min_7cf53_10 : decode cJ9_min_7cf53 10 = .ok (.ireturn, 1) := by decide +kernel
