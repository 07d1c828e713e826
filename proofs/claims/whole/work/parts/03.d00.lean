theorem dX0_init_0 : decode cX0_init 0 = .ok (.aload_n 0, 1) := by decide +kernel
theorem dX0_init_1 : decode cX0_init 1 = .ok (.invokespecial 1, 3) := by decide +kernel
theorem dX0_init_4 : decode cX0_init 4 = .ok (.return_, 1) := by decide +kernel
theorem dX0_mostSoldOf_0 : decode cX0_mostSoldOf 0 = .ok (.iload_n 1, 1) := by decide +kernel
theorem dX0_mostSoldOf_1 : decode cX0_mostSoldOf 1 = .ok (.bipush 30, 2) := by decide +kernel
theorem dX0_mostSoldOf_3 : decode cX0_mostSoldOf 3 = .ok (.invokestatic 7, 3) := by decide +kernel
theorem dX0_mostSoldOf_6 : decode cX0_mostSoldOf 6 = .ok (.ireturn, 1) := by decide +kernel
theorem dX0_meltingOf_0 : decode cX0_meltingOf 0 = .ok (.iload_n 1, 1) := by decide +kernel
theorem dX0_meltingOf_1 : decode cX0_meltingOf 1 = .ok (.iconst 5, 1) := by decide +kernel
theorem dX0_meltingOf_2 : decode cX0_meltingOf 2 = .ok (.idiv, 1) := by decide +kernel
theorem dX0_meltingOf_3 : decode cX0_meltingOf 3 = .ok (.ireturn, 1) := by decide +kernel
theorem dX1_init_0 : decode cX1_init 0 = .ok (.aload_n 0, 1) := by decide +kernel
theorem dX1_init_1 : decode cX1_init 1 = .ok (.invokespecial 3, 3) := by decide +kernel
theorem dX1_init_4 : decode cX1_init 4 = .ok (.aload_n 0, 1) := by decide +kernel
theorem dX1_init_5 : decode cX1_init 5 = .ok (.bipush 12, 2) := by decide +kernel
theorem dX1_init_7 : decode cX1_init 7 = .ok (.newarray .int, 2) := by decide +kernel
theorem dX1_init_9 : decode cX1_init 9 = .ok (.putfield 9, 3) := by decide +kernel
theorem dX1_init_12 : decode cX1_init 12 = .ok (.aload_n 0, 1) := by decide +kernel
theorem dX1_init_13 : decode cX1_init 13 = .ok (.bipush 12, 2) := by decide +kernel
theorem dX1_init_15 : decode cX1_init 15 = .ok (.newarray .int, 2) := by decide +kernel
theorem dX1_init_17 : decode cX1_init 17 = .ok (.putfield 15, 3) := by decide +kernel
theorem dX1_init_20 : decode cX1_init 20 = .ok (.aload_n 0, 1) := by decide +kernel
theorem dX1_init_21 : decode cX1_init 21 = .ok (.bipush 12, 2) := by decide +kernel
theorem dX1_init_23 : decode cX1_init 23 = .ok (.newarray .int, 2) := by decide +kernel
theorem dX1_init_25 : decode cX1_init 25 = .ok (.putfield 18, 3) := by decide +kernel
theorem dX1_init_28 : decode cX1_init 28 = .ok (.aload_n 0, 1) := by decide +kernel
theorem dX1_init_29 : decode cX1_init 29 = .ok (.iconst 0, 1) := by decide +kernel
theorem dX1_init_30 : decode cX1_init 30 = .ok (.putfield 21, 3) := by decide +kernel
theorem dX1_init_33 : decode cX1_init 33 = .ok (.aload_n 0, 1) := by decide +kernel
theorem dX1_init_34 : decode cX1_init 34 = .ok (.bipush 14, 2) := by decide +kernel
theorem dX1_init_36 : decode cX1_init 36 = .ok (.putfield 25, 3) := by decide +kernel
theorem dX1_init_39 : decode cX1_init 39 = .ok (.return_, 1) := by decide +kernel
theorem dX1_has_0 : decode cX1_has 0 = .ok (.iload_n 1, 1) := by decide +kernel
theorem dX1_has_1 : decode cX1_has 1 = .ok (.ifCond .lt 15, 3) := by decide +kernel
theorem dX1_has_4 : decode cX1_has 4 = .ok (.iload_n 1, 1) := by decide +kernel
theorem dX1_has_5 : decode cX1_has 5 = .ok (.aload_n 0, 1) := by decide +kernel
theorem dX1_has_6 : decode cX1_has 6 = .ok (.getfield 21, 3) := by decide +kernel
theorem dX1_has_9 : decode cX1_has 9 = .ok (.if_icmp .ge 7, 3) := by decide +kernel
theorem dX1_has_12 : decode cX1_has 12 = .ok (.iconst 1, 1) := by decide +kernel
theorem dX1_has_13 : decode cX1_has 13 = .ok (.goto 4, 3) := by decide +kernel
theorem dX1_has_16 : decode cX1_has 16 = .ok (.iconst 0, 1) := by decide +kernel
theorem dX1_has_17 : decode cX1_has 17 = .ok (.ireturn, 1) := by decide +kernel
theorem dX1_isFull_0 : decode cX1_isFull 0 = .ok (.aload_n 0, 1) := by decide +kernel
theorem dX1_isFull_1 : decode cX1_isFull 1 = .ok (.getfield 21, 3) := by decide +kernel
theorem dX1_isFull_4 : decode cX1_isFull 4 = .ok (.bipush 12, 2) := by decide +kernel
theorem dX1_isFull_6 : decode cX1_isFull 6 = .ok (.if_icmp .lt 7, 3) := by decide +kernel
theorem dX1_isFull_9 : decode cX1_isFull 9 = .ok (.iconst 1, 1) := by decide +kernel
theorem dX1_isFull_10 : decode cX1_isFull 10 = .ok (.goto 4, 3) := by decide +kernel
theorem dX1_isFull_13 : decode cX1_isFull 13 = .ok (.iconst 0, 1) := by decide +kernel
theorem dX1_isFull_14 : decode cX1_isFull 14 = .ok (.ireturn, 1) := by decide +kernel
theorem dX1_add_0 : decode cX1_add 0 = .ok (.aload_n 0, 1) := by decide +kernel
theorem dX1_add_1 : decode cX1_add 1 = .ok (.getfield 9, 3) := by decide +kernel
theorem dX1_add_4 : decode cX1_add 4 = .ok (.aload_n 0, 1) := by decide +kernel
theorem dX1_add_5 : decode cX1_add 5 = .ok (.getfield 21, 3) := by decide +kernel
theorem dX1_add_8 : decode cX1_add 8 = .ok (.iload_n 1, 1) := by decide +kernel
theorem dX1_add_9 : decode cX1_add 9 = .ok (.iastore, 1) := by decide +kernel
theorem dX1_add_10 : decode cX1_add 10 = .ok (.aload_n 0, 1) := by decide +kernel
theorem dX1_add_11 : decode cX1_add 11 = .ok (.getfield 15, 3) := by decide +kernel
theorem dX1_add_14 : decode cX1_add 14 = .ok (.aload_n 0, 1) := by decide +kernel
theorem dX1_add_15 : decode cX1_add 15 = .ok (.getfield 21, 3) := by decide +kernel
theorem dX1_add_18 : decode cX1_add 18 = .ok (.iload_n 2, 1) := by decide +kernel
theorem dX1_add_19 : decode cX1_add 19 = .ok (.iastore, 1) := by decide +kernel
theorem dX1_add_20 : decode cX1_add 20 = .ok (.aload_n 0, 1) := by decide +kernel
theorem dX1_add_21 : decode cX1_add 21 = .ok (.getfield 18, 3) := by decide +kernel
theorem dX1_add_24 : decode cX1_add 24 = .ok (.aload_n 0, 1) := by decide +kernel
theorem dX1_add_25 : decode cX1_add 25 = .ok (.getfield 21, 3) := by decide +kernel
theorem dX1_add_28 : decode cX1_add 28 = .ok (.iload_n 2, 1) := by decide +kernel
theorem dX1_add_29 : decode cX1_add 29 = .ok (.aload_n 0, 1) := by decide +kernel
theorem dX1_add_30 : decode cX1_add 30 = .ok (.getfield 25, 3) := by decide +kernel
theorem dX1_add_33 : decode cX1_add 33 = .ok (.iadd, 1) := by decide +kernel
theorem dX1_add_34 : decode cX1_add 34 = .ok (.iastore, 1) := by decide +kernel
theorem dX1_add_35 : decode cX1_add 35 = .ok (.aload_n 0, 1) := by decide +kernel
theorem dX1_add_36 : decode cX1_add 36 = .ok (.dup, 1) := by decide +kernel
theorem dX1_add_37 : decode cX1_add 37 = .ok (.getfield 21, 3) := by decide +kernel
theorem dX1_add_40 : decode cX1_add 40 = .ok (.iconst 1, 1) := by decide +kernel
theorem dX1_add_41 : decode cX1_add 41 = .ok (.iadd, 1) := by decide +kernel
theorem dX1_add_42 : decode cX1_add 42 = .ok (.putfield 21, 3) := by decide +kernel
theorem dX1_add_45 : decode cX1_add 45 = .ok (.aload_n 0, 1) := by decide +kernel
theorem dX1_add_46 : decode cX1_add 46 = .ok (.getfield 21, 3) := by decide +kernel
theorem dX1_add_49 : decode cX1_add 49 = .ok (.iconst 1, 1) := by decide +kernel
theorem dX1_add_50 : decode cX1_add 50 = .ok (.isub, 1) := by decide +kernel
theorem dX1_add_51 : decode cX1_add 51 = .ok (.ireturn, 1) := by decide +kernel
theorem dX1_owedOf_0 : decode cX1_owedOf 0 = .ok (.iload_n 2, 1) := by decide +kernel
theorem dX1_owedOf_1 : decode cX1_owedOf 1 = .ok (.aload_n 0, 1) := by decide +kernel
theorem dX1_owedOf_2 : decode cX1_owedOf 2 = .ok (.getfield 15, 3) := by decide +kernel
theorem dX1_owedOf_5 : decode cX1_owedOf 5 = .ok (.iload_n 1, 1) := by decide +kernel
theorem dX1_owedOf_6 : decode cX1_owedOf 6 = .ok (.iaload, 1) := by decide +kernel
theorem dX1_owedOf_7 : decode cX1_owedOf 7 = .ok (.if_icmp .ge 5, 3) := by decide +kernel
theorem dX1_owedOf_10 : decode cX1_owedOf 10 = .ok (.iconst 0, 1) := by decide +kernel
theorem dX1_owedOf_11 : decode cX1_owedOf 11 = .ok (.ireturn, 1) := by decide +kernel
theorem dX1_owedOf_12 : decode cX1_owedOf 12 = .ok (.iload_n 2, 1) := by decide +kernel
theorem dX1_owedOf_13 : decode cX1_owedOf 13 = .ok (.aload_n 0, 1) := by decide +kernel
theorem dX1_owedOf_14 : decode cX1_owedOf 14 = .ok (.getfield 18, 3) := by decide +kernel
theorem dX1_owedOf_17 : decode cX1_owedOf 17 = .ok (.iload_n 1, 1) := by decide +kernel
theorem dX1_owedOf_18 : decode cX1_owedOf 18 = .ok (.iaload, 1) := by decide +kernel
theorem dX1_owedOf_19 : decode cX1_owedOf 19 = .ok (.isub, 1) := by decide +kernel
theorem dX1_owedOf_20 : decode cX1_owedOf 20 = .ok (.iconst 0, 1) := by decide +kernel
theorem dX1_owedOf_21 : decode cX1_owedOf 21 = .ok (.invokestatic 28, 3) := by decide +kernel
theorem dX1_owedOf_24 : decode cX1_owedOf 24 = .ok (.bipush 7, 2) := by decide +kernel
theorem dX1_owedOf_26 : decode cX1_owedOf 26 = .ok (.idiv, 1) := by decide +kernel
theorem dX1_owedOf_27 : decode cX1_owedOf 27 = .ok (.istore_n 3, 1) := by decide +kernel
theorem dX1_owedOf_28 : decode cX1_owedOf 28 = .ok (.aload_n 0, 1) := by decide +kernel
theorem dX1_owedOf_29 : decode cX1_owedOf 29 = .ok (.getfield 9, 3) := by decide +kernel
theorem dX1_owedOf_32 : decode cX1_owedOf 32 = .ok (.iload_n 1, 1) := by decide +kernel
theorem dX1_owedOf_33 : decode cX1_owedOf 33 = .ok (.iaload, 1) := by decide +kernel
theorem dX1_owedOf_34 : decode cX1_owedOf 34 = .ok (.iload_n 3, 1) := by decide +kernel
theorem dX1_owedOf_35 : decode cX1_owedOf 35 = .ok (.aload_n 0, 1) := by decide +kernel
theorem dX1_owedOf_36 : decode cX1_owedOf 36 = .ok (.getfield 9, 3) := by decide +kernel
theorem dX1_owedOf_39 : decode cX1_owedOf 39 = .ok (.iload_n 1, 1) := by decide +kernel
theorem dX1_owedOf_40 : decode cX1_owedOf 40 = .ok (.iaload, 1) := by decide +kernel
theorem dX1_owedOf_41 : decode cX1_owedOf 41 = .ok (.bipush 50, 2) := by decide +kernel
theorem dX1_owedOf_43 : decode cX1_owedOf 43 = .ok (.idiv, 1) := by decide +kernel
theorem dX1_owedOf_44 : decode cX1_owedOf 44 = .ok (.imul, 1) := by decide +kernel
theorem dX1_owedOf_45 : decode cX1_owedOf 45 = .ok (.iadd, 1) := by decide +kernel
theorem dX1_owedOf_46 : decode cX1_owedOf 46 = .ok (.ireturn, 1) := by decide +kernel
theorem dX1_owedOfAll_0 : decode cX1_owedOfAll 0 = .ok (.iconst 0, 1) := by decide +kernel
theorem dX1_owedOfAll_1 : decode cX1_owedOfAll 1 = .ok (.istore_n 2, 1) := by decide +kernel
theorem dX1_owedOfAll_2 : decode cX1_owedOfAll 2 = .ok (.iconst 0, 1) := by decide +kernel
theorem dX1_owedOfAll_3 : decode cX1_owedOfAll 3 = .ok (.istore_n 3, 1) := by decide +kernel
theorem dX1_owedOfAll_4 : decode cX1_owedOfAll 4 = .ok (.iload_n 3, 1) := by decide +kernel
theorem dX1_owedOfAll_5 : decode cX1_owedOfAll 5 = .ok (.aload_n 0, 1) := by decide +kernel
theorem dX1_owedOfAll_6 : decode cX1_owedOfAll 6 = .ok (.getfield 21, 3) := by decide +kernel
theorem dX1_owedOfAll_9 : decode cX1_owedOfAll 9 = .ok (.if_icmp .ge 18, 3) := by decide +kernel
theorem dX1_owedOfAll_12 : decode cX1_owedOfAll 12 = .ok (.iload_n 2, 1) := by decide +kernel
theorem dX1_owedOfAll_13 : decode cX1_owedOfAll 13 = .ok (.aload_n 0, 1) := by decide +kernel
theorem dX1_owedOfAll_14 : decode cX1_owedOfAll 14 = .ok (.iload_n 3, 1) := by decide +kernel
theorem dX1_owedOfAll_15 : decode cX1_owedOfAll 15 = .ok (.iload_n 1, 1) := by decide +kernel
theorem dX1_owedOfAll_16 : decode cX1_owedOfAll 16 = .ok (.invokevirtual 34, 3) := by decide +kernel
theorem dX1_owedOfAll_19 : decode cX1_owedOfAll 19 = .ok (.iadd, 1) := by decide +kernel
theorem dX1_owedOfAll_20 : decode cX1_owedOfAll 20 = .ok (.istore_n 2, 1) := by decide +kernel
theorem dX1_owedOfAll_21 : decode cX1_owedOfAll 21 = .ok (.iinc 3 1, 3) := by decide +kernel
theorem dX1_owedOfAll_24 : decode cX1_owedOfAll 24 = .ok (.goto (-20), 3) := by decide +kernel
theorem dX1_owedOfAll_27 : decode cX1_owedOfAll 27 = .ok (.iload_n 2, 1) := by decide +kernel
theorem dX1_owedOfAll_28 : decode cX1_owedOfAll 28 = .ok (.ireturn, 1) := by decide +kernel
theorem dX2_init_0 : decode cX2_init 0 = .ok (.aload_n 0, 1) := by decide +kernel
theorem dX2_init_1 : decode cX2_init 1 = .ok (.invokespecial 1, 3) := by decide +kernel
theorem dX2_init_4 : decode cX2_init 4 = .ok (.return_, 1) := by decide +kernel
theorem dX2_meltingOf_0 : decode cX2_meltingOf 0 = .ok (.iconst 0, 1) := by decide +kernel
theorem dX2_meltingOf_1 : decode cX2_meltingOf 1 = .ok (.ireturn, 1) := by decide +kernel
theorem dX2_hoursAcross_0 : decode cX2_hoursAcross 0 = .ok (.iconst 2, 1) := by decide +kernel
theorem dX2_hoursAcross_1 : decode cX2_hoursAcross 1 = .ok (.iload_n 1, 1) := by decide +kernel
theorem dX2_hoursAcross_2 : decode cX2_hoursAcross 2 = .ok (.iadd, 1) := by decide +kernel
theorem dX2_hoursAcross_3 : decode cX2_hoursAcross 3 = .ok (.ireturn, 1) := by decide +kernel
theorem dX3_init_0 : decode cX3_init 0 = .ok (.aload_n 0, 1) := by decide +kernel
theorem dX3_init_1 : decode cX3_init 1 = .ok (.invokespecial 1, 3) := by decide +kernel
theorem dX3_init_4 : decode cX3_init 4 = .ok (.aload_n 0, 1) := by decide +kernel
theorem dX3_init_5 : decode cX3_init 5 = .ok (.iconst 1, 1) := by decide +kernel
theorem dX3_init_6 : decode cX3_init 6 = .ok (.putfield 7, 3) := by decide +kernel
theorem dX3_init_9 : decode cX3_init 9 = .ok (.aload_n 0, 1) := by decide +kernel
theorem dX3_init_10 : decode cX3_init 10 = .ok (.iconst 0, 1) := by decide +kernel
theorem dX3_init_11 : decode cX3_init 11 = .ok (.putfield 13, 3) := by decide +kernel
theorem dX3_init_14 : decode cX3_init 14 = .ok (.aload_n 0, 1) := by decide +kernel
theorem dX3_init_15 : decode cX3_init 15 = .ok (.bipush 12, 2) := by decide +kernel
theorem dX3_init_17 : decode cX3_init 17 = .ok (.putfield 16, 3) := by decide +kernel
theorem dX3_init_20 : decode cX3_init 20 = .ok (.return_, 1) := by decide +kernel
theorem dX3_barsSchoolsAt_0 : decode cX3_barsSchoolsAt 0 = .ok (.iload_n 1, 1) := by decide +kernel
theorem dX3_barsSchoolsAt_1 : decode cX3_barsSchoolsAt 1 = .ok (.aload_n 0, 1) := by decide +kernel
theorem dX3_barsSchoolsAt_2 : decode cX3_barsSchoolsAt 2 = .ok (.getfield 7, 3) := by decide +kernel
theorem dX3_barsSchoolsAt_5 : decode cX3_barsSchoolsAt 5 = .ok (.if_icmp .lt 15, 3) := by decide +kernel
theorem dX3_barsSchoolsAt_8 : decode cX3_barsSchoolsAt 8 = .ok (.iload_n 1, 1) := by decide +kernel
theorem dX3_barsSchoolsAt_9 : decode cX3_barsSchoolsAt 9 = .ok (.aload_n 0, 1) := by decide +kernel
theorem dX3_barsSchoolsAt_10 : decode cX3_barsSchoolsAt 10 = .ok (.getfield 13, 3) := by decide +kernel
theorem dX3_barsSchoolsAt_13 : decode cX3_barsSchoolsAt 13 = .ok (.if_icmp .gt 7, 3) := by decide +kernel
theorem dX3_barsSchoolsAt_16 : decode cX3_barsSchoolsAt 16 = .ok (.iconst 1, 1) := by decide +kernel
theorem dX3_barsSchoolsAt_17 : decode cX3_barsSchoolsAt 17 = .ok (.goto 4, 3) := by decide +kernel
theorem dX3_barsSchoolsAt_20 : decode cX3_barsSchoolsAt 20 = .ok (.iconst 0, 1) := by decide +kernel
theorem dX3_barsSchoolsAt_21 : decode cX3_barsSchoolsAt 21 = .ok (.ireturn, 1) := by decide +kernel
theorem dX4_init_0 : decode cX4_init 0 = .ok (.aload_n 0, 1) := by decide +kernel
theorem dX4_init_1 : decode cX4_init 1 = .ok (.invokespecial 3, 3) := by decide +kernel
theorem dX4_init_4 : decode cX4_init 4 = .ok (.aload_n 0, 1) := by decide +kernel
theorem dX4_init_5 : decode cX4_init 5 = .ok (.bipush 24, 2) := by decide +kernel
theorem dX4_init_7 : decode cX4_init 7 = .ok (.newarray .int, 2) := by decide +kernel
theorem dX4_init_9 : decode cX4_init 9 = .ok (.putfield 9, 3) := by decide +kernel
theorem dX4_init_12 : decode cX4_init 12 = .ok (.aload_n 0, 1) := by decide +kernel
theorem dX4_init_13 : decode cX4_init 13 = .ok (.bipush 24, 2) := by decide +kernel
theorem dX4_init_15 : decode cX4_init 15 = .ok (.newarray .int, 2) := by decide +kernel
theorem dX4_init_17 : decode cX4_init 17 = .ok (.putfield 15, 3) := by decide +kernel
theorem dX4_init_20 : decode cX4_init 20 = .ok (.aload_n 0, 1) := by decide +kernel
theorem dX4_init_21 : decode cX4_init 21 = .ok (.bipush 24, 2) := by decide +kernel
theorem dX4_init_23 : decode cX4_init 23 = .ok (.newarray .int, 2) := by decide +kernel
theorem dX4_init_25 : decode cX4_init 25 = .ok (.putfield 18, 3) := by decide +kernel
theorem dX4_init_28 : decode cX4_init 28 = .ok (.aload_n 0, 1) := by decide +kernel
theorem dX4_init_29 : decode cX4_init 29 = .ok (.bipush 24, 2) := by decide +kernel
theorem dX4_init_31 : decode cX4_init 31 = .ok (.newarray .int, 2) := by decide +kernel
theorem dX4_init_33 : decode cX4_init 33 = .ok (.putfield 21, 3) := by decide +kernel
theorem dX4_init_36 : decode cX4_init 36 = .ok (.aload_n 0, 1) := by decide +kernel
theorem dX4_init_37 : decode cX4_init 37 = .ok (.iconst 0, 1) := by decide +kernel
theorem dX4_init_38 : decode cX4_init 38 = .ok (.putfield 24, 3) := by decide +kernel
theorem dX4_init_41 : decode cX4_init 41 = .ok (.return_, 1) := by decide +kernel
theorem dX4_has_0 : decode cX4_has 0 = .ok (.iload_n 1, 1) := by decide +kernel
theorem dX4_has_1 : decode cX4_has 1 = .ok (.ifCond .lt 15, 3) := by decide +kernel
theorem dX4_has_4 : decode cX4_has 4 = .ok (.iload_n 1, 1) := by decide +kernel
theorem dX4_has_5 : decode cX4_has 5 = .ok (.aload_n 0, 1) := by decide +kernel
theorem dX4_has_6 : decode cX4_has 6 = .ok (.getfield 24, 3) := by decide +kernel
theorem dX4_has_9 : decode cX4_has 9 = .ok (.if_icmp .ge 7, 3) := by decide +kernel
theorem dX4_has_12 : decode cX4_has 12 = .ok (.iconst 1, 1) := by decide +kernel
theorem dX4_has_13 : decode cX4_has 13 = .ok (.goto 4, 3) := by decide +kernel
theorem dX4_has_16 : decode cX4_has 16 = .ok (.iconst 0, 1) := by decide +kernel
theorem dX4_has_17 : decode cX4_has 17 = .ok (.ireturn, 1) := by decide +kernel
theorem dX4_isFull_0 : decode cX4_isFull 0 = .ok (.aload_n 0, 1) := by decide +kernel
theorem dX4_isFull_1 : decode cX4_isFull 1 = .ok (.getfield 24, 3) := by decide +kernel
theorem dX4_isFull_4 : decode cX4_isFull 4 = .ok (.bipush 24, 2) := by decide +kernel
theorem dX4_isFull_6 : decode cX4_isFull 6 = .ok (.if_icmp .lt 7, 3) := by decide +kernel
theorem dX4_isFull_9 : decode cX4_isFull 9 = .ok (.iconst 1, 1) := by decide +kernel
theorem dX4_isFull_10 : decode cX4_isFull 10 = .ok (.goto 4, 3) := by decide +kernel
theorem dX4_isFull_13 : decode cX4_isFull 13 = .ok (.iconst 0, 1) := by decide +kernel
theorem dX4_isFull_14 : decode cX4_isFull 14 = .ok (.ireturn, 1) := by decide +kernel
theorem dX4_add_0 : decode cX4_add 0 = .ok (.aload_n 0, 1) := by decide +kernel
theorem dX4_add_1 : decode cX4_add 1 = .ok (.getfield 9, 3) := by decide +kernel
theorem dX4_add_4 : decode cX4_add 4 = .ok (.aload_n 0, 1) := by decide +kernel
theorem dX4_add_5 : decode cX4_add 5 = .ok (.getfield 24, 3) := by decide +kernel
theorem dX4_add_8 : decode cX4_add 8 = .ok (.iload_n 1, 1) := by decide +kernel
theorem dX4_add_9 : decode cX4_add 9 = .ok (.iastore, 1) := by decide +kernel
theorem dX4_add_10 : decode cX4_add 10 = .ok (.aload_n 0, 1) := by decide +kernel
theorem dX4_add_11 : decode cX4_add 11 = .ok (.getfield 15, 3) := by decide +kernel
theorem dX4_add_14 : decode cX4_add 14 = .ok (.aload_n 0, 1) := by decide +kernel
theorem dX4_add_15 : decode cX4_add 15 = .ok (.getfield 24, 3) := by decide +kernel
theorem dX4_add_18 : decode cX4_add 18 = .ok (.iload_n 2, 1) := by decide +kernel
theorem dX4_add_19 : decode cX4_add 19 = .ok (.iastore, 1) := by decide +kernel
theorem dX4_add_20 : decode cX4_add 20 = .ok (.aload_n 0, 1) := by decide +kernel
theorem dX4_add_21 : decode cX4_add 21 = .ok (.getfield 18, 3) := by decide +kernel
theorem dX4_add_24 : decode cX4_add 24 = .ok (.aload_n 0, 1) := by decide +kernel
theorem dX4_add_25 : decode cX4_add 25 = .ok (.getfield 24, 3) := by decide +kernel
theorem dX4_add_28 : decode cX4_add 28 = .ok (.iload_n 3, 1) := by decide +kernel
theorem dX4_add_29 : decode cX4_add 29 = .ok (.iastore, 1) := by decide +kernel
theorem dX4_add_30 : decode cX4_add 30 = .ok (.aload_n 0, 1) := by decide +kernel
theorem dX4_add_31 : decode cX4_add 31 = .ok (.getfield 21, 3) := by decide +kernel
theorem dX4_add_34 : decode cX4_add 34 = .ok (.aload_n 0, 1) := by decide +kernel
theorem dX4_add_35 : decode cX4_add 35 = .ok (.getfield 24, 3) := by decide +kernel
theorem dX4_add_38 : decode cX4_add 38 = .ok (.iload 4, 2) := by decide +kernel
theorem dX4_add_40 : decode cX4_add 40 = .ok (.iastore, 1) := by decide +kernel
theorem dX4_add_41 : decode cX4_add 41 = .ok (.aload_n 0, 1) := by decide +kernel
theorem dX4_add_42 : decode cX4_add 42 = .ok (.dup, 1) := by decide +kernel
theorem dX4_add_43 : decode cX4_add 43 = .ok (.getfield 24, 3) := by decide +kernel
theorem dX4_add_46 : decode cX4_add 46 = .ok (.iconst 1, 1) := by decide +kernel
theorem dX4_add_47 : decode cX4_add 47 = .ok (.iadd, 1) := by decide +kernel
theorem dX4_add_48 : decode cX4_add 48 = .ok (.putfield 24, 3) := by decide +kernel
theorem dX4_add_51 : decode cX4_add 51 = .ok (.aload_n 0, 1) := by decide +kernel
theorem dX4_add_52 : decode cX4_add 52 = .ok (.getfield 24, 3) := by decide +kernel
theorem dX4_add_55 : decode cX4_add 55 = .ok (.iconst 1, 1) := by decide +kernel
theorem dX4_add_56 : decode cX4_add 56 = .ok (.isub, 1) := by decide +kernel
theorem dX4_add_57 : decode cX4_add 57 = .ok (.ireturn, 1) := by decide +kernel
theorem dX4_latestAhead_0 : decode cX4_latestAhead 0 = .ok (.iconst (-1), 1) := by decide +kernel
theorem dX4_latestAhead_1 : decode cX4_latestAhead 1 = .ok (.istore_n 3, 1) := by decide +kernel
theorem dX4_latestAhead_2 : decode cX4_latestAhead 2 = .ok (.iconst 0, 1) := by decide +kernel
theorem dX4_latestAhead_3 : decode cX4_latestAhead 3 = .ok (.istore 4, 2) := by decide +kernel
theorem dX4_latestAhead_5 : decode cX4_latestAhead 5 = .ok (.iload 4, 2) := by decide +kernel
theorem dX4_latestAhead_7 : decode cX4_latestAhead 7 = .ok (.iload_n 2, 1) := by decide +kernel
theorem dX4_latestAhead_8 : decode cX4_latestAhead 8 = .ok (.if_icmp .ge 23, 3) := by decide +kernel
theorem dX4_latestAhead_11 : decode cX4_latestAhead 11 = .ok (.aload_n 0, 1) := by decide +kernel
theorem dX4_latestAhead_12 : decode cX4_latestAhead 12 = .ok (.getfield 9, 3) := by decide +kernel
theorem dX4_latestAhead_15 : decode cX4_latestAhead 15 = .ok (.iload 4, 2) := by decide +kernel
theorem dX4_latestAhead_17 : decode cX4_latestAhead 17 = .ok (.iaload, 1) := by decide +kernel
theorem dX4_latestAhead_18 : decode cX4_latestAhead 18 = .ok (.iload_n 1, 1) := by decide +kernel
theorem dX4_latestAhead_19 : decode cX4_latestAhead 19 = .ok (.if_icmp .ne 6, 3) := by decide +kernel
theorem dX4_latestAhead_22 : decode cX4_latestAhead 22 = .ok (.iload 4, 2) := by decide +kernel
theorem dX4_latestAhead_24 : decode cX4_latestAhead 24 = .ok (.istore_n 3, 1) := by decide +kernel
theorem dX4_latestAhead_25 : decode cX4_latestAhead 25 = .ok (.iinc 4 1, 3) := by decide +kernel
theorem dX4_latestAhead_28 : decode cX4_latestAhead 28 = .ok (.goto (-23), 3) := by decide +kernel
theorem dX4_latestAhead_31 : decode cX4_latestAhead 31 = .ok (.iload_n 3, 1) := by decide +kernel
theorem dX4_latestAhead_32 : decode cX4_latestAhead 32 = .ok (.ireturn, 1) := by decide +kernel
theorem dX4_isTaken_0 : decode cX4_isTaken 0 = .ok (.iconst 0, 1) := by decide +kernel
theorem dX4_isTaken_1 : decode cX4_isTaken 1 = .ok (.istore_n 2, 1) := by decide +kernel
theorem dX4_isTaken_2 : decode cX4_isTaken 2 = .ok (.iload_n 2, 1) := by decide +kernel
theorem dX4_isTaken_3 : decode cX4_isTaken 3 = .ok (.iload_n 1, 1) := by decide +kernel
theorem dX4_isTaken_4 : decode cX4_isTaken 4 = .ok (.if_icmp .ge 41, 3) := by decide +kernel
theorem dX4_isTaken_7 : decode cX4_isTaken 7 = .ok (.aload_n 0, 1) := by decide +kernel
theorem dX4_isTaken_8 : decode cX4_isTaken 8 = .ok (.getfield 15, 3) := by decide +kernel
theorem dX4_isTaken_11 : decode cX4_isTaken 11 = .ok (.iload_n 2, 1) := by decide +kernel
theorem dX4_isTaken_12 : decode cX4_isTaken 12 = .ok (.iaload, 1) := by decide +kernel
theorem dX4_isTaken_13 : decode cX4_isTaken 13 = .ok (.aload_n 0, 1) := by decide +kernel
theorem dX4_isTaken_14 : decode cX4_isTaken 14 = .ok (.getfield 15, 3) := by decide +kernel
theorem dX4_isTaken_17 : decode cX4_isTaken 17 = .ok (.iload_n 1, 1) := by decide +kernel
theorem dX4_isTaken_18 : decode cX4_isTaken 18 = .ok (.iaload, 1) := by decide +kernel
theorem dX4_isTaken_19 : decode cX4_isTaken 19 = .ok (.if_icmp .ne 20, 3) := by decide +kernel
theorem dX4_isTaken_22 : decode cX4_isTaken 22 = .ok (.aload_n 0, 1) := by decide +kernel
theorem dX4_isTaken_23 : decode cX4_isTaken 23 = .ok (.getfield 18, 3) := by decide +kernel
theorem dX4_isTaken_26 : decode cX4_isTaken 26 = .ok (.iload_n 2, 1) := by decide +kernel
theorem dX4_isTaken_27 : decode cX4_isTaken 27 = .ok (.iaload, 1) := by decide +kernel
theorem dX4_isTaken_28 : decode cX4_isTaken 28 = .ok (.aload_n 0, 1) := by decide +kernel
theorem dX4_isTaken_29 : decode cX4_isTaken 29 = .ok (.getfield 18, 3) := by decide +kernel
theorem dX4_isTaken_32 : decode cX4_isTaken 32 = .ok (.iload_n 1, 1) := by decide +kernel
theorem dX4_isTaken_33 : decode cX4_isTaken 33 = .ok (.iaload, 1) := by decide +kernel
theorem dX4_isTaken_34 : decode cX4_isTaken 34 = .ok (.if_icmp .ne 5, 3) := by decide +kernel
theorem dX4_isTaken_37 : decode cX4_isTaken 37 = .ok (.iconst 1, 1) := by decide +kernel
theorem dX4_isTaken_38 : decode cX4_isTaken 38 = .ok (.ireturn, 1) := by decide +kernel
theorem dX4_isTaken_39 : decode cX4_isTaken 39 = .ok (.iinc 2 1, 3) := by decide +kernel
theorem dX4_isTaken_42 : decode cX4_isTaken 42 = .ok (.goto (-40), 3) := by decide +kernel
theorem dX4_isTaken_45 : decode cX4_isTaken 45 = .ok (.iconst 0, 1) := by decide +kernel
theorem dX4_isTaken_46 : decode cX4_isTaken 46 = .ok (.ireturn, 1) := by decide +kernel
theorem dX4_countOf_0 : decode cX4_countOf 0 = .ok (.iconst 0, 1) := by decide +kernel
theorem dX4_countOf_1 : decode cX4_countOf 1 = .ok (.istore_n 3, 1) := by decide +kernel
theorem dX4_countOf_2 : decode cX4_countOf 2 = .ok (.iconst 0, 1) := by decide +kernel
theorem dX4_countOf_3 : decode cX4_countOf 3 = .ok (.istore 4, 2) := by decide +kernel
theorem dX4_countOf_5 : decode cX4_countOf 5 = .ok (.iload 4, 2) := by decide +kernel
theorem dX4_countOf_7 : decode cX4_countOf 7 = .ok (.aload_n 0, 1) := by decide +kernel
theorem dX4_countOf_8 : decode cX4_countOf 8 = .ok (.getfield 24, 3) := by decide +kernel
theorem dX4_countOf_11 : decode cX4_countOf 11 = .ok (.if_icmp .ge 34, 3) := by decide +kernel
theorem dX4_countOf_14 : decode cX4_countOf 14 = .ok (.aload_n 0, 1) := by decide +kernel
theorem dX4_countOf_15 : decode cX4_countOf 15 = .ok (.getfield 9, 3) := by decide +kernel
theorem dX4_countOf_18 : decode cX4_countOf 18 = .ok (.iload 4, 2) := by decide +kernel
theorem dX4_countOf_20 : decode cX4_countOf 20 = .ok (.iaload, 1) := by decide +kernel
theorem dX4_countOf_21 : decode cX4_countOf 21 = .ok (.iload_n 1, 1) := by decide +kernel
theorem dX4_countOf_22 : decode cX4_countOf 22 = .ok (.if_icmp .ne 17, 3) := by decide +kernel
theorem dX4_countOf_25 : decode cX4_countOf 25 = .ok (.aload_n 0, 1) := by decide +kernel
theorem dX4_countOf_26 : decode cX4_countOf 26 = .ok (.getfield 15, 3) := by decide +kernel
theorem dX4_countOf_29 : decode cX4_countOf 29 = .ok (.iload 4, 2) := by decide +kernel
theorem dX4_countOf_31 : decode cX4_countOf 31 = .ok (.iaload, 1) := by decide +kernel
theorem dX4_countOf_32 : decode cX4_countOf 32 = .ok (.iload_n 2, 1) := by decide +kernel
theorem dX4_countOf_33 : decode cX4_countOf 33 = .ok (.if_icmp .ne 6, 3) := by decide +kernel
theorem dX4_countOf_36 : decode cX4_countOf 36 = .ok (.iinc 3 1, 3) := by decide +kernel
theorem dX4_countOf_39 : decode cX4_countOf 39 = .ok (.iinc 4 1, 3) := by decide +kernel
theorem dX4_countOf_42 : decode cX4_countOf 42 = .ok (.goto (-37), 3) := by decide +kernel
theorem dX4_countOf_45 : decode cX4_countOf 45 = .ok (.iload_n 3, 1) := by decide +kernel
theorem dX4_countOf_46 : decode cX4_countOf 46 = .ok (.ireturn, 1) := by decide +kernel
theorem dX5_init_0 : decode cX5_init 0 = .ok (.aload_n 0, 1) := by decide +kernel
theorem dX5_init_1 : decode cX5_init 1 = .ok (.invokespecial 3, 3) := by decide +kernel
theorem dX5_init_4 : decode cX5_init 4 = .ok (.aload_n 0, 1) := by decide +kernel
theorem dX5_init_5 : decode cX5_init 5 = .ok (.bipush 6, 2) := by decide +kernel
theorem dX5_init_7 : decode cX5_init 7 = .ok (.newarray .boolean, 2) := by decide +kernel
theorem dX5_init_9 : decode cX5_init 9 = .ok (.putfield 9, 3) := by decide +kernel
theorem dX5_init_12 : decode cX5_init 12 = .ok (.aload_n 0, 1) := by decide +kernel
theorem dX5_init_13 : decode cX5_init 13 = .ok (.bipush 36, 2) := by decide +kernel
theorem dX5_init_15 : decode cX5_init 15 = .ok (.newarray .int, 2) := by decide +kernel
theorem dX5_init_17 : decode cX5_init 17 = .ok (.putfield 15, 3) := by decide +kernel
theorem dX5_init_20 : decode cX5_init 20 = .ok (.aload_n 0, 1) := by decide +kernel
theorem dX5_init_21 : decode cX5_init 21 = .ok (.bipush 72, 2) := by decide +kernel
theorem dX5_init_23 : decode cX5_init 23 = .ok (.newarray .int, 2) := by decide +kernel
theorem dX5_init_25 : decode cX5_init 25 = .ok (.putfield 19, 3) := by decide +kernel
theorem dX5_init_28 : decode cX5_init 28 = .ok (.aload_n 0, 1) := by decide +kernel
theorem dX5_init_29 : decode cX5_init 29 = .ok (.iconst 0, 1) := by decide +kernel
theorem dX5_init_30 : decode cX5_init 30 = .ok (.putfield 22, 3) := by decide +kernel
theorem dX5_init_33 : decode cX5_init 33 = .ok (.aload_n 0, 1) := by decide +kernel
theorem dX5_init_34 : decode cX5_init 34 = .ok (.iconst 2, 1) := by decide +kernel
theorem dX5_init_35 : decode cX5_init 35 = .ok (.putfield 26, 3) := by decide +kernel
theorem dX5_init_38 : decode cX5_init 38 = .ok (.return_, 1) := by decide +kernel
theorem dX5_has_0 : decode cX5_has 0 = .ok (.iload_n 1, 1) := by decide +kernel
theorem dX5_has_1 : decode cX5_has 1 = .ok (.ifCond .lt 15, 3) := by decide +kernel
theorem dX5_has_4 : decode cX5_has 4 = .ok (.iload_n 1, 1) := by decide +kernel
theorem dX5_has_5 : decode cX5_has 5 = .ok (.aload_n 0, 1) := by decide +kernel
theorem dX5_has_6 : decode cX5_has 6 = .ok (.getfield 22, 3) := by decide +kernel
theorem dX5_has_9 : decode cX5_has 9 = .ok (.if_icmp .ge 7, 3) := by decide +kernel
theorem dX5_has_12 : decode cX5_has 12 = .ok (.iconst 1, 1) := by decide +kernel
theorem dX5_has_13 : decode cX5_has 13 = .ok (.goto 4, 3) := by decide +kernel
theorem dX5_has_16 : decode cX5_has 16 = .ok (.iconst 0, 1) := by decide +kernel
theorem dX5_has_17 : decode cX5_has 17 = .ok (.ireturn, 1) := by decide +kernel
theorem dX5_isFull_0 : decode cX5_isFull 0 = .ok (.aload_n 0, 1) := by decide +kernel
theorem dX5_isFull_1 : decode cX5_isFull 1 = .ok (.getfield 22, 3) := by decide +kernel
theorem dX5_isFull_4 : decode cX5_isFull 4 = .ok (.bipush 6, 2) := by decide +kernel
theorem dX5_isFull_6 : decode cX5_isFull 6 = .ok (.if_icmp .lt 7, 3) := by decide +kernel
theorem dX5_isFull_9 : decode cX5_isFull 9 = .ok (.iconst 1, 1) := by decide +kernel
theorem dX5_isFull_10 : decode cX5_isFull 10 = .ok (.goto 4, 3) := by decide +kernel
theorem dX5_isFull_13 : decode cX5_isFull 13 = .ok (.iconst 0, 1) := by decide +kernel
theorem dX5_isFull_14 : decode cX5_isFull 14 = .ok (.ireturn, 1) := by decide +kernel
theorem dX5_add_0 : decode cX5_add 0 = .ok (.aload_n 0, 1) := by decide +kernel
theorem dX5_add_1 : decode cX5_add 1 = .ok (.getfield 9, 3) := by decide +kernel
theorem dX5_add_4 : decode cX5_add 4 = .ok (.aload_n 0, 1) := by decide +kernel
theorem dX5_add_5 : decode cX5_add 5 = .ok (.getfield 22, 3) := by decide +kernel
theorem dX5_add_8 : decode cX5_add 8 = .ok (.iload_n 1, 1) := by decide +kernel
theorem dX5_add_9 : decode cX5_add 9 = .ok (.bastore, 1) := by decide +kernel
theorem dX5_add_10 : decode cX5_add 10 = .ok (.aload_n 0, 1) := by decide +kernel
theorem dX5_add_11 : decode cX5_add 11 = .ok (.dup, 1) := by decide +kernel
theorem dX5_add_12 : decode cX5_add 12 = .ok (.getfield 22, 3) := by decide +kernel
theorem dX5_add_15 : decode cX5_add 15 = .ok (.iconst 1, 1) := by decide +kernel
theorem dX5_add_16 : decode cX5_add 16 = .ok (.iadd, 1) := by decide +kernel
theorem dX5_add_17 : decode cX5_add 17 = .ok (.putfield 22, 3) := by decide +kernel
theorem dX5_add_20 : decode cX5_add 20 = .ok (.aload_n 0, 1) := by decide +kernel
theorem dX5_add_21 : decode cX5_add 21 = .ok (.getfield 22, 3) := by decide +kernel
theorem dX5_add_24 : decode cX5_add 24 = .ok (.iconst 1, 1) := by decide +kernel
theorem dX5_add_25 : decode cX5_add 25 = .ok (.isub, 1) := by decide +kernel
theorem dX5_add_26 : decode cX5_add 26 = .ok (.ireturn, 1) := by decide +kernel
theorem dX5_wayBetween_0 : decode cX5_wayBetween 0 = .ok (.aload_n 0, 1) := by decide +kernel
theorem dX5_wayBetween_1 : decode cX5_wayBetween 1 = .ok (.getfield 15, 3) := by decide +kernel
theorem dX5_wayBetween_4 : decode cX5_wayBetween 4 = .ok (.iload_n 1, 1) := by decide +kernel
theorem dX5_wayBetween_5 : decode cX5_wayBetween 5 = .ok (.bipush 6, 2) := by decide +kernel
theorem dX5_wayBetween_7 : decode cX5_wayBetween 7 = .ok (.imul, 1) := by decide +kernel
theorem dX5_wayBetween_8 : decode cX5_wayBetween 8 = .ok (.iload_n 2, 1) := by decide +kernel
theorem dX5_wayBetween_9 : decode cX5_wayBetween 9 = .ok (.iadd, 1) := by decide +kernel
theorem dX5_wayBetween_10 : decode cX5_wayBetween 10 = .ok (.iaload, 1) := by decide +kernel
theorem dX5_wayBetween_11 : decode cX5_wayBetween 11 = .ok (.ireturn, 1) := by decide +kernel
theorem dX5_setWay_0 : decode cX5_setWay 0 = .ok (.aload_n 0, 1) := by decide +kernel
theorem dX5_setWay_1 : decode cX5_setWay 1 = .ok (.getfield 15, 3) := by decide +kernel
theorem dX5_setWay_4 : decode cX5_setWay 4 = .ok (.iload_n 1, 1) := by decide +kernel
theorem dX5_setWay_5 : decode cX5_setWay 5 = .ok (.bipush 6, 2) := by decide +kernel
theorem dX5_setWay_7 : decode cX5_setWay 7 = .ok (.imul, 1) := by decide +kernel
theorem dX5_setWay_8 : decode cX5_setWay 8 = .ok (.iload_n 2, 1) := by decide +kernel
theorem dX5_setWay_9 : decode cX5_setWay 9 = .ok (.iadd, 1) := by decide +kernel
theorem dX5_setWay_10 : decode cX5_setWay 10 = .ok (.iload_n 3, 1) := by decide +kernel
theorem dX5_setWay_11 : decode cX5_setWay 11 = .ok (.iastore, 1) := by decide +kernel
theorem dX5_setWay_12 : decode cX5_setWay 12 = .ok (.aload_n 0, 1) := by decide +kernel
theorem dX5_setWay_13 : decode cX5_setWay 13 = .ok (.getfield 15, 3) := by decide +kernel
theorem dX5_setWay_16 : decode cX5_setWay 16 = .ok (.iload_n 2, 1) := by decide +kernel
theorem dX5_setWay_17 : decode cX5_setWay 17 = .ok (.bipush 6, 2) := by decide +kernel
theorem dX5_setWay_19 : decode cX5_setWay 19 = .ok (.imul, 1) := by decide +kernel
theorem dX5_setWay_20 : decode cX5_setWay 20 = .ok (.iload_n 1, 1) := by decide +kernel
theorem dX5_setWay_21 : decode cX5_setWay 21 = .ok (.iadd, 1) := by decide +kernel
theorem dX5_setWay_22 : decode cX5_setWay 22 = .ok (.iload_n 3, 1) := by decide +kernel
theorem dX5_setWay_23 : decode cX5_setWay 23 = .ok (.iastore, 1) := by decide +kernel
theorem dX5_setWay_24 : decode cX5_setWay 24 = .ok (.return_, 1) := by decide +kernel
theorem dX5_wishAt_0 : decode cX5_wishAt 0 = .ok (.aload_n 0, 1) := by decide +kernel
theorem dX5_wishAt_1 : decode cX5_wishAt 1 = .ok (.getfield 19, 3) := by decide +kernel
theorem dX5_wishAt_4 : decode cX5_wishAt 4 = .ok (.iload_n 1, 1) := by decide +kernel
theorem dX5_wishAt_5 : decode cX5_wishAt 5 = .ok (.bipush 12, 2) := by decide +kernel
theorem dX5_wishAt_7 : decode cX5_wishAt 7 = .ok (.imul, 1) := by decide +kernel
theorem dX5_wishAt_8 : decode cX5_wishAt 8 = .ok (.iload_n 2, 1) := by decide +kernel
theorem dX5_wishAt_9 : decode cX5_wishAt 9 = .ok (.iadd, 1) := by decide +kernel
theorem dX5_wishAt_10 : decode cX5_wishAt 10 = .ok (.iaload, 1) := by decide +kernel
theorem dX5_wishAt_11 : decode cX5_wishAt 11 = .ok (.ireturn, 1) := by decide +kernel
theorem dX5_setWish_0 : decode cX5_setWish 0 = .ok (.aload_n 0, 1) := by decide +kernel
theorem dX5_setWish_1 : decode cX5_setWish 1 = .ok (.getfield 19, 3) := by decide +kernel
theorem dX5_setWish_4 : decode cX5_setWish 4 = .ok (.iload_n 1, 1) := by decide +kernel
theorem dX5_setWish_5 : decode cX5_setWish 5 = .ok (.bipush 12, 2) := by decide +kernel
theorem dX5_setWish_7 : decode cX5_setWish 7 = .ok (.imul, 1) := by decide +kernel
theorem dX5_setWish_8 : decode cX5_setWish 8 = .ok (.iload_n 2, 1) := by decide +kernel
theorem dX5_setWish_9 : decode cX5_setWish 9 = .ok (.iadd, 1) := by decide +kernel
theorem dX5_setWish_10 : decode cX5_setWish 10 = .ok (.iload_n 3, 1) := by decide +kernel
theorem dX5_setWish_11 : decode cX5_setWish 11 = .ok (.iastore, 1) := by decide +kernel
theorem dX5_setWish_12 : decode cX5_setWish 12 = .ok (.return_, 1) := by decide +kernel
theorem dX5_worthAt_0 : decode cX5_worthAt 0 = .ok (.aload_n 0, 1) := by decide +kernel
theorem dX5_worthAt_1 : decode cX5_worthAt 1 = .ok (.iload_n 1, 1) := by decide +kernel
theorem dX5_worthAt_2 : decode cX5_worthAt 2 = .ok (.iload_n 2, 1) := by decide +kernel
theorem dX5_worthAt_3 : decode cX5_worthAt 3 = .ok (.invokevirtual 29, 3) := by decide +kernel
theorem dX5_worthAt_6 : decode cX5_worthAt 6 = .ok (.aload_n 0, 1) := by decide +kernel
theorem dX5_worthAt_7 : decode cX5_worthAt 7 = .ok (.getfield 26, 3) := by decide +kernel
theorem dX5_worthAt_10 : decode cX5_worthAt 10 = .ok (.iconst 2, 1) := by decide +kernel
theorem dX5_worthAt_11 : decode cX5_worthAt 11 = .ok (.iadd, 1) := by decide +kernel
theorem dX5_worthAt_12 : decode cX5_worthAt 12 = .ok (.imul, 1) := by decide +kernel
theorem dX5_worthAt_13 : decode cX5_worthAt 13 = .ok (.iconst 4, 1) := by decide +kernel
theorem dX5_worthAt_14 : decode cX5_worthAt 14 = .ok (.idiv, 1) := by decide +kernel
theorem dX5_worthAt_15 : decode cX5_worthAt 15 = .ok (.ireturn, 1) := by decide +kernel
theorem dX6_init_0 : decode cX6_init 0 = .ok (.aload_n 0, 1) := by decide +kernel
theorem dX6_init_1 : decode cX6_init 1 = .ok (.invokespecial 3, 3) := by decide +kernel
theorem dX6_init_4 : decode cX6_init 4 = .ok (.aload_n 0, 1) := by decide +kernel
theorem dX6_init_5 : decode cX6_init 5 = .ok (.bipush 12, 2) := by decide +kernel
theorem dX6_init_7 : decode cX6_init 7 = .ok (.newarray .int, 2) := by decide +kernel
theorem dX6_init_9 : decode cX6_init 9 = .ok (.putfield 9, 3) := by decide +kernel
theorem dX6_init_12 : decode cX6_init 12 = .ok (.aload_n 0, 1) := by decide +kernel
theorem dX6_init_13 : decode cX6_init 13 = .ok (.bipush 12, 2) := by decide +kernel
theorem dX6_init_15 : decode cX6_init 15 = .ok (.newarray .int, 2) := by decide +kernel
theorem dX6_init_17 : decode cX6_init 17 = .ok (.putfield 15, 3) := by decide +kernel
theorem dX6_init_20 : decode cX6_init 20 = .ok (.aload_n 0, 1) := by decide +kernel
theorem dX6_init_21 : decode cX6_init 21 = .ok (.iconst 0, 1) := by decide +kernel
theorem dX6_init_22 : decode cX6_init 22 = .ok (.putfield 18, 3) := by decide +kernel
theorem dX6_init_25 : decode cX6_init 25 = .ok (.aload_n 0, 1) := by decide +kernel
theorem dX6_init_26 : decode cX6_init 26 = .ok (.iconst 0, 1) := by decide +kernel
theorem dX6_init_27 : decode cX6_init 27 = .ok (.putfield 22, 3) := by decide +kernel
theorem dX6_init_30 : decode cX6_init 30 = .ok (.aload_n 0, 1) := by decide +kernel
theorem dX6_init_31 : decode cX6_init 31 = .ok (.iconst 0, 1) := by decide +kernel
theorem dX6_init_32 : decode cX6_init 32 = .ok (.putfield 25, 3) := by decide +kernel
theorem dX6_init_35 : decode cX6_init 35 = .ok (.return_, 1) := by decide +kernel
theorem dX6_begin_0 : decode cX6_begin 0 = .ok (.aload_n 0, 1) := by decide +kernel
theorem dX6_begin_1 : decode cX6_begin 1 = .ok (.iconst 0, 1) := by decide +kernel
theorem dX6_begin_2 : decode cX6_begin 2 = .ok (.putfield 18, 3) := by decide +kernel
theorem dX6_begin_5 : decode cX6_begin 5 = .ok (.aload_n 0, 1) := by decide +kernel
theorem dX6_begin_6 : decode cX6_begin 6 = .ok (.iload_n 1, 1) := by decide +kernel
theorem dX6_begin_7 : decode cX6_begin 7 = .ok (.putfield 22, 3) := by decide +kernel
theorem dX6_begin_10 : decode cX6_begin 10 = .ok (.aload_n 0, 1) := by decide +kernel
theorem dX6_begin_11 : decode cX6_begin 11 = .ok (.iconst 0, 1) := by decide +kernel
theorem dX6_begin_12 : decode cX6_begin 12 = .ok (.putfield 25, 3) := by decide +kernel
theorem dX6_begin_15 : decode cX6_begin 15 = .ok (.return_, 1) := by decide +kernel
theorem dX6_has_0 : decode cX6_has 0 = .ok (.iload_n 1, 1) := by decide +kernel
theorem dX6_has_1 : decode cX6_has 1 = .ok (.ifCond .lt 15, 3) := by decide +kernel
theorem dX6_has_4 : decode cX6_has 4 = .ok (.iload_n 1, 1) := by decide +kernel
theorem dX6_has_5 : decode cX6_has 5 = .ok (.aload_n 0, 1) := by decide +kernel
theorem dX6_has_6 : decode cX6_has 6 = .ok (.getfield 18, 3) := by decide +kernel
theorem dX6_has_9 : decode cX6_has 9 = .ok (.if_icmp .ge 7, 3) := by decide +kernel
theorem dX6_has_12 : decode cX6_has 12 = .ok (.iconst 1, 1) := by decide +kernel
theorem dX6_has_13 : decode cX6_has 13 = .ok (.goto 4, 3) := by decide +kernel
theorem dX6_has_16 : decode cX6_has 16 = .ok (.iconst 0, 1) := by decide +kernel
theorem dX6_has_17 : decode cX6_has 17 = .ok (.ireturn, 1) := by decide +kernel
theorem dX6_isFull_0 : decode cX6_isFull 0 = .ok (.aload_n 0, 1) := by decide +kernel
theorem dX6_isFull_1 : decode cX6_isFull 1 = .ok (.getfield 18, 3) := by decide +kernel
theorem dX6_isFull_4 : decode cX6_isFull 4 = .ok (.bipush 12, 2) := by decide +kernel
theorem dX6_isFull_6 : decode cX6_isFull 6 = .ok (.if_icmp .lt 7, 3) := by decide +kernel
theorem dX6_isFull_9 : decode cX6_isFull 9 = .ok (.iconst 1, 1) := by decide +kernel
theorem dX6_isFull_10 : decode cX6_isFull 10 = .ok (.goto 4, 3) := by decide +kernel
theorem dX6_isFull_13 : decode cX6_isFull 13 = .ok (.iconst 0, 1) := by decide +kernel
theorem dX6_isFull_14 : decode cX6_isFull 14 = .ok (.ireturn, 1) := by decide +kernel
theorem dX6_standIn_0 : decode cX6_standIn 0 = .ok (.aload_n 0, 1) := by decide +kernel
theorem dX6_standIn_1 : decode cX6_standIn 1 = .ok (.iload_n 2, 1) := by decide +kernel
