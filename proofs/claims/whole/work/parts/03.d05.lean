theorem dX9_isStreet_11 : decode cX9_isStreet 11 = .ok (.ireturn, 1) := by decide +kernel
theorem dX9_isVan_0 : decode cX9_isVan 0 = .ok (.iload_n 1, 1) := by decide +kernel
theorem dX9_isVan_1 : decode cX9_isVan 1 = .ok (.iconst 0, 1) := by decide +kernel
theorem dX9_isVan_2 : decode cX9_isVan 2 = .ok (.aload_n 0, 1) := by decide +kernel
theorem dX9_isVan_3 : decode cX9_isVan 3 = .ok (.getfield 97, 3) := by decide +kernel
theorem dX9_isVan_6 : decode cX9_isVan 6 = .ok (.iconst 1, 1) := by decide +kernel
theorem dX9_isVan_7 : decode cX9_isVan 7 = .ok (.isub, 1) := by decide +kernel
theorem dX9_isVan_8 : decode cX9_isVan 8 = .ok (.invokestatic 93, 3) := by decide +kernel
theorem dX9_isVan_11 : decode cX9_isVan 11 = .ok (.ireturn, 1) := by decide +kernel
theorem dX9_isHour_0 : decode cX9_isHour 0 = .ok (.iload_n 0, 1) := by decide +kernel
theorem dX9_isHour_1 : decode cX9_isHour 1 = .ok (.iconst 0, 1) := by decide +kernel
theorem dX9_isHour_2 : decode cX9_isHour 2 = .ok (.bipush 11, 2) := by decide +kernel
theorem dX9_isHour_4 : decode cX9_isHour 4 = .ok (.invokestatic 93, 3) := by decide +kernel
theorem dX9_isHour_7 : decode cX9_isHour 7 = .ok (.ireturn, 1) := by decide +kernel
theorem dX9_isAt_0 : decode cX9_isAt 0 = .ok (.iload_n 1, 1) := by decide +kernel
theorem dX9_isAt_1 : decode cX9_isAt 1 = .ok (.ifCond .lt 28, 3) := by decide +kernel
theorem dX9_isAt_4 : decode cX9_isAt 4 = .ok (.aload_n 0, 1) := by decide +kernel
theorem dX9_isAt_5 : decode cX9_isAt 5 = .ok (.iload_n 1, 1) := by decide +kernel
theorem dX9_isAt_6 : decode cX9_isAt 6 = .ok (.bipush 100, 2) := by decide +kernel
theorem dX9_isAt_8 : decode cX9_isAt 8 = .ok (.idiv, 1) := by decide +kernel
theorem dX9_isAt_9 : decode cX9_isAt 9 = .ok (.invokevirtual 100, 3) := by decide +kernel
theorem dX9_isAt_12 : decode cX9_isAt 12 = .ok (.ifCond .eq 17, 3) := by decide +kernel
theorem dX9_isAt_15 : decode cX9_isAt 15 = .ok (.iload_n 1, 1) := by decide +kernel
theorem dX9_isAt_16 : decode cX9_isAt 16 = .ok (.bipush 100, 2) := by decide +kernel
theorem dX9_isAt_18 : decode cX9_isAt 18 = .ok (.irem, 1) := by decide +kernel
theorem dX9_isAt_19 : decode cX9_isAt 19 = .ok (.invokestatic 104, 3) := by decide +kernel
theorem dX9_isAt_22 : decode cX9_isAt 22 = .ok (.ifCond .eq 7, 3) := by decide +kernel
theorem dX9_isAt_25 : decode cX9_isAt 25 = .ok (.iconst 1, 1) := by decide +kernel
theorem dX9_isAt_26 : decode cX9_isAt 26 = .ok (.goto 4, 3) := by decide +kernel
theorem dX9_isAt_29 : decode cX9_isAt 29 = .ok (.iconst 0, 1) := by decide +kernel
theorem dX9_isAt_30 : decode cX9_isAt 30 = .ok (.ireturn, 1) := by decide +kernel
theorem dX9_street_0 : decode cX9_street 0 = .ok (.iload_n 1, 1) := by decide +kernel
theorem dX9_street_1 : decode cX9_street 1 = .ok (.iconst 0, 1) := by decide +kernel
theorem dX9_street_2 : decode cX9_street 2 = .ok (.iconst 1, 1) := by decide +kernel
theorem dX9_street_3 : decode cX9_street 3 = .ok (.invokestatic 93, 3) := by decide +kernel
theorem dX9_street_6 : decode cX9_street 6 = .ok (.ifCond .ne 9, 3) := by decide +kernel
theorem dX9_street_9 : decode cX9_street 9 = .ok (.aload_n 0, 1) := by decide +kernel
theorem dX9_street_10 : decode cX9_street 10 = .ok (.iconst 1, 1) := by decide +kernel
theorem dX9_street_11 : decode cX9_street 11 = .ok (.invokevirtual 107, 3) := by decide +kernel
theorem dX9_street_14 : decode cX9_street 14 = .ok (.ireturn, 1) := by decide +kernel
theorem dX9_street_15 : decode cX9_street 15 = .ok (.aload_n 0, 1) := by decide +kernel
theorem dX9_street_16 : decode cX9_street 16 = .ok (.getfield 90, 3) := by decide +kernel
theorem dX9_street_19 : decode cX9_street 19 = .ok (.bipush 6, 2) := by decide +kernel
theorem dX9_street_21 : decode cX9_street 21 = .ok (.if_icmp .ne 9, 3) := by decide +kernel
theorem dX9_street_24 : decode cX9_street 24 = .ok (.aload_n 0, 1) := by decide +kernel
theorem dX9_street_25 : decode cX9_street 25 = .ok (.iconst 4, 1) := by decide +kernel
theorem dX9_street_26 : decode cX9_street 26 = .ok (.invokevirtual 107, 3) := by decide +kernel
theorem dX9_street_29 : decode cX9_street 29 = .ok (.ireturn, 1) := by decide +kernel
theorem dX9_street_30 : decode cX9_street 30 = .ok (.aload_n 0, 1) := by decide +kernel
theorem dX9_street_31 : decode cX9_street 31 = .ok (.getfield 22, 3) := by decide +kernel
theorem dX9_street_34 : decode cX9_street 34 = .ok (.aload_n 0, 1) := by decide +kernel
theorem dX9_street_35 : decode cX9_street 35 = .ok (.getfield 90, 3) := by decide +kernel
theorem dX9_street_38 : decode cX9_street 38 = .ok (.iload_n 1, 1) := by decide +kernel
theorem dX9_street_39 : decode cX9_street 39 = .ok (.iastore, 1) := by decide +kernel
theorem dX9_street_40 : decode cX9_street 40 = .ok (.aload_n 0, 1) := by decide +kernel
theorem dX9_street_41 : decode cX9_street 41 = .ok (.dup, 1) := by decide +kernel
theorem dX9_street_42 : decode cX9_street 42 = .ok (.getfield 90, 3) := by decide +kernel
theorem dX9_street_45 : decode cX9_street 45 = .ok (.iconst 1, 1) := by decide +kernel
theorem dX9_street_46 : decode cX9_street 46 = .ok (.iadd, 1) := by decide +kernel
theorem dX9_street_47 : decode cX9_street 47 = .ok (.putfield 90, 3) := by decide +kernel
theorem dX9_street_50 : decode cX9_street 50 = .ok (.aload_n 0, 1) := by decide +kernel
theorem dX9_street_51 : decode cX9_street 51 = .ok (.getfield 90, 3) := by decide +kernel
theorem dX9_street_54 : decode cX9_street 54 = .ok (.iconst 1, 1) := by decide +kernel
theorem dX9_street_55 : decode cX9_street 55 = .ok (.isub, 1) := by decide +kernel
theorem dX9_street_56 : decode cX9_street 56 = .ok (.ireturn, 1) := by decide +kernel
theorem dX9_way_0 : decode cX9_way 0 = .ok (.aload_n 0, 1) := by decide +kernel
theorem dX9_way_1 : decode cX9_way 1 = .ok (.iload_n 1, 1) := by decide +kernel
theorem dX9_way_2 : decode cX9_way 2 = .ok (.invokevirtual 100, 3) := by decide +kernel
theorem dX9_way_5 : decode cX9_way 5 = .ok (.ifCond .eq 25, 3) := by decide +kernel
theorem dX9_way_8 : decode cX9_way 8 = .ok (.aload_n 0, 1) := by decide +kernel
theorem dX9_way_9 : decode cX9_way 9 = .ok (.iload_n 2, 1) := by decide +kernel
theorem dX9_way_10 : decode cX9_way 10 = .ok (.invokevirtual 100, 3) := by decide +kernel
theorem dX9_way_13 : decode cX9_way 13 = .ok (.ifCond .eq 17, 3) := by decide +kernel
theorem dX9_way_16 : decode cX9_way 16 = .ok (.iload_n 1, 1) := by decide +kernel
theorem dX9_way_17 : decode cX9_way 17 = .ok (.iload_n 2, 1) := by decide +kernel
theorem dX9_way_18 : decode cX9_way 18 = .ok (.if_icmp .eq 12, 3) := by decide +kernel
theorem dX9_way_21 : decode cX9_way 21 = .ok (.iload_n 3, 1) := by decide +kernel
theorem dX9_way_22 : decode cX9_way 22 = .ok (.iconst 0, 1) := by decide +kernel
theorem dX9_way_23 : decode cX9_way 23 = .ok (.iconst 3, 1) := by decide +kernel
theorem dX9_way_24 : decode cX9_way 24 = .ok (.invokestatic 93, 3) := by decide +kernel
theorem dX9_way_27 : decode cX9_way 27 = .ok (.ifCond .ne 9, 3) := by decide +kernel
theorem dX9_way_30 : decode cX9_way 30 = .ok (.aload_n 0, 1) := by decide +kernel
theorem dX9_way_31 : decode cX9_way 31 = .ok (.iconst 1, 1) := by decide +kernel
theorem dX9_way_32 : decode cX9_way 32 = .ok (.invokevirtual 107, 3) := by decide +kernel
theorem dX9_way_35 : decode cX9_way 35 = .ok (.ireturn, 1) := by decide +kernel
theorem dX9_way_36 : decode cX9_way 36 = .ok (.aload_n 0, 1) := by decide +kernel
theorem dX9_way_37 : decode cX9_way 37 = .ok (.getfield 26, 3) := by decide +kernel
theorem dX9_way_40 : decode cX9_way 40 = .ok (.bipush 6, 2) := by decide +kernel
theorem dX9_way_42 : decode cX9_way 42 = .ok (.iload_n 1, 1) := by decide +kernel
theorem dX9_way_43 : decode cX9_way 43 = .ok (.imul, 1) := by decide +kernel
theorem dX9_way_44 : decode cX9_way 44 = .ok (.iload_n 2, 1) := by decide +kernel
theorem dX9_way_45 : decode cX9_way 45 = .ok (.iadd, 1) := by decide +kernel
theorem dX9_way_46 : decode cX9_way 46 = .ok (.iaload, 1) := by decide +kernel
theorem dX9_way_47 : decode cX9_way 47 = .ok (.istore 4, 2) := by decide +kernel
theorem dX9_way_49 : decode cX9_way 49 = .ok (.aload_n 0, 1) := by decide +kernel
theorem dX9_way_50 : decode cX9_way 50 = .ok (.getfield 26, 3) := by decide +kernel
theorem dX9_way_53 : decode cX9_way 53 = .ok (.bipush 6, 2) := by decide +kernel
theorem dX9_way_55 : decode cX9_way 55 = .ok (.iload_n 1, 1) := by decide +kernel
theorem dX9_way_56 : decode cX9_way 56 = .ok (.imul, 1) := by decide +kernel
theorem dX9_way_57 : decode cX9_way 57 = .ok (.iload_n 2, 1) := by decide +kernel
theorem dX9_way_58 : decode cX9_way 58 = .ok (.iadd, 1) := by decide +kernel
theorem dX9_way_59 : decode cX9_way 59 = .ok (.iload_n 3, 1) := by decide +kernel
theorem dX9_way_60 : decode cX9_way 60 = .ok (.iastore, 1) := by decide +kernel
theorem dX9_way_61 : decode cX9_way 61 = .ok (.aload_n 0, 1) := by decide +kernel
theorem dX9_way_62 : decode cX9_way 62 = .ok (.getfield 26, 3) := by decide +kernel
theorem dX9_way_65 : decode cX9_way 65 = .ok (.bipush 6, 2) := by decide +kernel
theorem dX9_way_67 : decode cX9_way 67 = .ok (.iload_n 2, 1) := by decide +kernel
theorem dX9_way_68 : decode cX9_way 68 = .ok (.imul, 1) := by decide +kernel
theorem dX9_way_69 : decode cX9_way 69 = .ok (.iload_n 1, 1) := by decide +kernel
theorem dX9_way_70 : decode cX9_way 70 = .ok (.iadd, 1) := by decide +kernel
theorem dX9_way_71 : decode cX9_way 71 = .ok (.iload_n 3, 1) := by decide +kernel
theorem dX9_way_72 : decode cX9_way 72 = .ok (.iastore, 1) := by decide +kernel
theorem dX9_way_73 : decode cX9_way 73 = .ok (.iload 4, 2) := by decide +kernel
theorem dX9_way_75 : decode cX9_way 75 = .ok (.ireturn, 1) := by decide +kernel
theorem dX9_wish_0 : decode cX9_wish 0 = .ok (.aload_n 0, 1) := by decide +kernel
theorem dX9_wish_1 : decode cX9_wish 1 = .ok (.iload_n 1, 1) := by decide +kernel
theorem dX9_wish_2 : decode cX9_wish 2 = .ok (.invokevirtual 100, 3) := by decide +kernel
theorem dX9_wish_5 : decode cX9_wish 5 = .ok (.ifCond .eq 21, 3) := by decide +kernel
theorem dX9_wish_8 : decode cX9_wish 8 = .ok (.iload_n 2, 1) := by decide +kernel
theorem dX9_wish_9 : decode cX9_wish 9 = .ok (.invokestatic 104, 3) := by decide +kernel
theorem dX9_wish_12 : decode cX9_wish 12 = .ok (.ifCond .eq 14, 3) := by decide +kernel
theorem dX9_wish_15 : decode cX9_wish 15 = .ok (.iload_n 3, 1) := by decide +kernel
theorem dX9_wish_16 : decode cX9_wish 16 = .ok (.iconst 0, 1) := by decide +kernel
theorem dX9_wish_17 : decode cX9_wish 17 = .ok (.sipush 200, 3) := by decide +kernel
theorem dX9_wish_20 : decode cX9_wish 20 = .ok (.invokestatic 93, 3) := by decide +kernel
theorem dX9_wish_23 : decode cX9_wish 23 = .ok (.ifCond .ne 9, 3) := by decide +kernel
theorem dX9_wish_26 : decode cX9_wish 26 = .ok (.aload_n 0, 1) := by decide +kernel
theorem dX9_wish_27 : decode cX9_wish 27 = .ok (.iconst 1, 1) := by decide +kernel
theorem dX9_wish_28 : decode cX9_wish 28 = .ok (.invokevirtual 107, 3) := by decide +kernel
theorem dX9_wish_31 : decode cX9_wish 31 = .ok (.ireturn, 1) := by decide +kernel
theorem dX9_wish_32 : decode cX9_wish 32 = .ok (.aload_n 0, 1) := by decide +kernel
theorem dX9_wish_33 : decode cX9_wish 33 = .ok (.getfield 29, 3) := by decide +kernel
theorem dX9_wish_36 : decode cX9_wish 36 = .ok (.bipush 12, 2) := by decide +kernel
theorem dX9_wish_38 : decode cX9_wish 38 = .ok (.iload_n 1, 1) := by decide +kernel
theorem dX9_wish_39 : decode cX9_wish 39 = .ok (.imul, 1) := by decide +kernel
theorem dX9_wish_40 : decode cX9_wish 40 = .ok (.iload_n 2, 1) := by decide +kernel
theorem dX9_wish_41 : decode cX9_wish 41 = .ok (.iadd, 1) := by decide +kernel
theorem dX9_wish_42 : decode cX9_wish 42 = .ok (.iaload, 1) := by decide +kernel
theorem dX9_wish_43 : decode cX9_wish 43 = .ok (.istore 4, 2) := by decide +kernel
theorem dX9_wish_45 : decode cX9_wish 45 = .ok (.aload_n 0, 1) := by decide +kernel
theorem dX9_wish_46 : decode cX9_wish 46 = .ok (.getfield 29, 3) := by decide +kernel
theorem dX9_wish_49 : decode cX9_wish 49 = .ok (.bipush 12, 2) := by decide +kernel
theorem dX9_wish_51 : decode cX9_wish 51 = .ok (.iload_n 1, 1) := by decide +kernel
theorem dX9_wish_52 : decode cX9_wish 52 = .ok (.imul, 1) := by decide +kernel
theorem dX9_wish_53 : decode cX9_wish 53 = .ok (.iload_n 2, 1) := by decide +kernel
theorem dX9_wish_54 : decode cX9_wish 54 = .ok (.iadd, 1) := by decide +kernel
theorem dX9_wish_55 : decode cX9_wish 55 = .ok (.iload_n 3, 1) := by decide +kernel
theorem dX9_wish_56 : decode cX9_wish 56 = .ok (.iastore, 1) := by decide +kernel
theorem dX9_wish_57 : decode cX9_wish 57 = .ok (.iload 4, 2) := by decide +kernel
theorem dX9_wish_59 : decode cX9_wish 59 = .ok (.ireturn, 1) := by decide +kernel
theorem dX9_heat_0 : decode cX9_heat 0 = .ok (.iload_n 1, 1) := by decide +kernel
theorem dX9_heat_1 : decode cX9_heat 1 = .ok (.iconst 0, 1) := by decide +kernel
theorem dX9_heat_2 : decode cX9_heat 2 = .ok (.iconst 4, 1) := by decide +kernel
theorem dX9_heat_3 : decode cX9_heat 3 = .ok (.invokestatic 93, 3) := by decide +kernel
theorem dX9_heat_6 : decode cX9_heat 6 = .ok (.ifCond .ne 9, 3) := by decide +kernel
theorem dX9_heat_9 : decode cX9_heat 9 = .ok (.aload_n 0, 1) := by decide +kernel
theorem dX9_heat_10 : decode cX9_heat 10 = .ok (.iconst 1, 1) := by decide +kernel
theorem dX9_heat_11 : decode cX9_heat 11 = .ok (.invokevirtual 107, 3) := by decide +kernel
theorem dX9_heat_14 : decode cX9_heat 14 = .ok (.ireturn, 1) := by decide +kernel
theorem dX9_heat_15 : decode cX9_heat 15 = .ok (.aload_n 0, 1) := by decide +kernel
theorem dX9_heat_16 : decode cX9_heat 16 = .ok (.getfield 7, 3) := by decide +kernel
theorem dX9_heat_19 : decode cX9_heat 19 = .ok (.istore_n 2, 1) := by decide +kernel
theorem dX9_heat_20 : decode cX9_heat 20 = .ok (.aload_n 0, 1) := by decide +kernel
theorem dX9_heat_21 : decode cX9_heat 21 = .ok (.iload_n 1, 1) := by decide +kernel
theorem dX9_heat_22 : decode cX9_heat 22 = .ok (.putfield 7, 3) := by decide +kernel
theorem dX9_heat_25 : decode cX9_heat 25 = .ok (.iload_n 2, 1) := by decide +kernel
theorem dX9_heat_26 : decode cX9_heat 26 = .ok (.ireturn, 1) := by decide +kernel
theorem dX9_van_0 : decode cX9_van 0 = .ok (.iload_n 1, 1) := by decide +kernel
theorem dX9_van_1 : decode cX9_van 1 = .ok (.iconst 0, 1) := by decide +kernel
theorem dX9_van_2 : decode cX9_van 2 = .ok (.iconst 2, 1) := by decide +kernel
theorem dX9_van_3 : decode cX9_van 3 = .ok (.invokestatic 93, 3) := by decide +kernel
theorem dX9_van_6 : decode cX9_van 6 = .ok (.ifCond .ne 9, 3) := by decide +kernel
theorem dX9_van_9 : decode cX9_van 9 = .ok (.aload_n 0, 1) := by decide +kernel
theorem dX9_van_10 : decode cX9_van 10 = .ok (.iconst 1, 1) := by decide +kernel
theorem dX9_van_11 : decode cX9_van 11 = .ok (.invokevirtual 107, 3) := by decide +kernel
theorem dX9_van_14 : decode cX9_van 14 = .ok (.ireturn, 1) := by decide +kernel
theorem dX9_van_15 : decode cX9_van 15 = .ok (.aload_n 0, 1) := by decide +kernel
theorem dX9_van_16 : decode cX9_van 16 = .ok (.getfield 97, 3) := by decide +kernel
theorem dX9_van_19 : decode cX9_van 19 = .ok (.iconst 4, 1) := by decide +kernel
theorem dX9_van_20 : decode cX9_van 20 = .ok (.if_icmp .ne 9, 3) := by decide +kernel
theorem dX9_van_23 : decode cX9_van 23 = .ok (.aload_n 0, 1) := by decide +kernel
theorem dX9_van_24 : decode cX9_van 24 = .ok (.iconst 4, 1) := by decide +kernel
theorem dX9_van_25 : decode cX9_van 25 = .ok (.invokevirtual 107, 3) := by decide +kernel
theorem dX9_van_28 : decode cX9_van 28 = .ok (.ireturn, 1) := by decide +kernel
theorem dX9_van_29 : decode cX9_van 29 = .ok (.aload_n 0, 1) := by decide +kernel
theorem dX9_van_30 : decode cX9_van 30 = .ok (.getfield 32, 3) := by decide +kernel
theorem dX9_van_33 : decode cX9_van 33 = .ok (.aload_n 0, 1) := by decide +kernel
theorem dX9_van_34 : decode cX9_van 34 = .ok (.getfield 97, 3) := by decide +kernel
theorem dX9_van_37 : decode cX9_van 37 = .ok (.iload_n 1, 1) := by decide +kernel
theorem dX9_van_38 : decode cX9_van 38 = .ok (.iastore, 1) := by decide +kernel
theorem dX9_van_39 : decode cX9_van 39 = .ok (.aload_n 0, 1) := by decide +kernel
theorem dX9_van_40 : decode cX9_van 40 = .ok (.getfield 35, 3) := by decide +kernel
theorem dX9_van_43 : decode cX9_van 43 = .ok (.aload_n 0, 1) := by decide +kernel
theorem dX9_van_44 : decode cX9_van 44 = .ok (.getfield 97, 3) := by decide +kernel
theorem dX9_van_47 : decode cX9_van 47 = .ok (.iconst 0, 1) := by decide +kernel
theorem dX9_van_48 : decode cX9_van 48 = .ok (.iastore, 1) := by decide +kernel
theorem dX9_van_49 : decode cX9_van 49 = .ok (.aload_n 0, 1) := by decide +kernel
theorem dX9_van_50 : decode cX9_van 50 = .ok (.getfield 38, 3) := by decide +kernel
theorem dX9_van_53 : decode cX9_van 53 = .ok (.aload_n 0, 1) := by decide +kernel
theorem dX9_van_54 : decode cX9_van 54 = .ok (.getfield 97, 3) := by decide +kernel
theorem dX9_van_57 : decode cX9_van 57 = .ok (.bipush 63, 2) := by decide +kernel
theorem dX9_van_59 : decode cX9_van 59 = .ok (.iastore, 1) := by decide +kernel
theorem dX9_van_60 : decode cX9_van 60 = .ok (.aload_n 0, 1) := by decide +kernel
theorem dX9_van_61 : decode cX9_van 61 = .ok (.dup, 1) := by decide +kernel
theorem dX9_van_62 : decode cX9_van 62 = .ok (.getfield 97, 3) := by decide +kernel
theorem dX9_van_65 : decode cX9_van 65 = .ok (.iconst 1, 1) := by decide +kernel
theorem dX9_van_66 : decode cX9_van 66 = .ok (.iadd, 1) := by decide +kernel
theorem dX9_van_67 : decode cX9_van 67 = .ok (.putfield 97, 3) := by decide +kernel
theorem dX9_van_70 : decode cX9_van 70 = .ok (.aload_n 0, 1) := by decide +kernel
theorem dX9_van_71 : decode cX9_van 71 = .ok (.getfield 97, 3) := by decide +kernel
theorem dX9_van_74 : decode cX9_van 74 = .ok (.iconst 1, 1) := by decide +kernel
theorem dX9_van_75 : decode cX9_van 75 = .ok (.isub, 1) := by decide +kernel
theorem dX9_van_76 : decode cX9_van 76 = .ok (.ireturn, 1) := by decide +kernel
theorem dX9_as_0 : decode cX9_as 0 = .ok (.aload_n 0, 1) := by decide +kernel
theorem dX9_as_1 : decode cX9_as 1 = .ok (.iload_n 1, 1) := by decide +kernel
theorem dX9_as_2 : decode cX9_as 2 = .ok (.invokevirtual 111, 3) := by decide +kernel
theorem dX9_as_5 : decode cX9_as 5 = .ok (.ifCond .eq 12, 3) := by decide +kernel
theorem dX9_as_8 : decode cX9_as 8 = .ok (.iload_n 2, 1) := by decide +kernel
theorem dX9_as_9 : decode cX9_as 9 = .ok (.iconst 0, 1) := by decide +kernel
theorem dX9_as_10 : decode cX9_as 10 = .ok (.iconst 2, 1) := by decide +kernel
theorem dX9_as_11 : decode cX9_as 11 = .ok (.invokestatic 93, 3) := by decide +kernel
theorem dX9_as_14 : decode cX9_as 14 = .ok (.ifCond .ne 9, 3) := by decide +kernel
theorem dX9_as_17 : decode cX9_as 17 = .ok (.aload_n 0, 1) := by decide +kernel
theorem dX9_as_18 : decode cX9_as 18 = .ok (.iconst 1, 1) := by decide +kernel
theorem dX9_as_19 : decode cX9_as 19 = .ok (.invokevirtual 107, 3) := by decide +kernel
theorem dX9_as_22 : decode cX9_as 22 = .ok (.ireturn, 1) := by decide +kernel
theorem dX9_as_23 : decode cX9_as 23 = .ok (.iload_n 2, 1) := by decide +kernel
theorem dX9_as_24 : decode cX9_as 24 = .ok (.ifCond .eq 13, 3) := by decide +kernel
theorem dX9_as_27 : decode cX9_as 27 = .ok (.aload_n 0, 1) := by decide +kernel
theorem dX9_as_28 : decode cX9_as 28 = .ok (.getfield 32, 3) := by decide +kernel
theorem dX9_as_31 : decode cX9_as 31 = .ok (.iload_n 1, 1) := by decide +kernel
theorem dX9_as_32 : decode cX9_as 32 = .ok (.iaload, 1) := by decide +kernel
theorem dX9_as_33 : decode cX9_as 33 = .ok (.iload_n 2, 1) := by decide +kernel
theorem dX9_as_34 : decode cX9_as 34 = .ok (.if_icmp .ne 12, 3) := by decide +kernel
theorem dX9_as_37 : decode cX9_as 37 = .ok (.aload_n 0, 1) := by decide +kernel
theorem dX9_as_38 : decode cX9_as 38 = .ok (.getfield 35, 3) := by decide +kernel
theorem dX9_as_41 : decode cX9_as 41 = .ok (.iload_n 1, 1) := by decide +kernel
theorem dX9_as_42 : decode cX9_as 42 = .ok (.iaload, 1) := by decide +kernel
theorem dX9_as_43 : decode cX9_as 43 = .ok (.goto 8, 3) := by decide +kernel
theorem dX9_as_46 : decode cX9_as 46 = .ok (.aload_n 0, 1) := by decide +kernel
theorem dX9_as_47 : decode cX9_as 47 = .ok (.iconst 5, 1) := by decide +kernel
theorem dX9_as_48 : decode cX9_as 48 = .ok (.invokevirtual 107, 3) := by decide +kernel
theorem dX9_as_51 : decode cX9_as 51 = .ok (.ireturn, 1) := by decide +kernel
theorem dX9_stock_0 : decode cX9_stock 0 = .ok (.aload_n 0, 1) := by decide +kernel
theorem dX9_stock_1 : decode cX9_stock 1 = .ok (.iload_n 1, 1) := by decide +kernel
theorem dX9_stock_2 : decode cX9_stock 2 = .ok (.invokevirtual 111, 3) := by decide +kernel
theorem dX9_stock_5 : decode cX9_stock 5 = .ok (.ifCond .eq 14, 3) := by decide +kernel
theorem dX9_stock_8 : decode cX9_stock 8 = .ok (.iload_n 2, 1) := by decide +kernel
theorem dX9_stock_9 : decode cX9_stock 9 = .ok (.iconst 0, 1) := by decide +kernel
theorem dX9_stock_10 : decode cX9_stock 10 = .ok (.sipush 2000, 3) := by decide +kernel
theorem dX9_stock_13 : decode cX9_stock 13 = .ok (.invokestatic 93, 3) := by decide +kernel
theorem dX9_stock_16 : decode cX9_stock 16 = .ok (.ifCond .ne 9, 3) := by decide +kernel
theorem dX9_stock_19 : decode cX9_stock 19 = .ok (.aload_n 0, 1) := by decide +kernel
theorem dX9_stock_20 : decode cX9_stock 20 = .ok (.iconst 1, 1) := by decide +kernel
theorem dX9_stock_21 : decode cX9_stock 21 = .ok (.invokevirtual 107, 3) := by decide +kernel
theorem dX9_stock_24 : decode cX9_stock 24 = .ok (.ireturn, 1) := by decide +kernel
theorem dX9_stock_25 : decode cX9_stock 25 = .ok (.aload_n 0, 1) := by decide +kernel
theorem dX9_stock_26 : decode cX9_stock 26 = .ok (.getfield 35, 3) := by decide +kernel
theorem dX9_stock_29 : decode cX9_stock 29 = .ok (.iload_n 1, 1) := by decide +kernel
theorem dX9_stock_30 : decode cX9_stock 30 = .ok (.iaload, 1) := by decide +kernel
theorem dX9_stock_31 : decode cX9_stock 31 = .ok (.istore_n 3, 1) := by decide +kernel
theorem dX9_stock_32 : decode cX9_stock 32 = .ok (.aload_n 0, 1) := by decide +kernel
theorem dX9_stock_33 : decode cX9_stock 33 = .ok (.getfield 35, 3) := by decide +kernel
theorem dX9_stock_36 : decode cX9_stock 36 = .ok (.iload_n 1, 1) := by decide +kernel
theorem dX9_stock_37 : decode cX9_stock 37 = .ok (.iload_n 2, 1) := by decide +kernel
theorem dX9_stock_38 : decode cX9_stock 38 = .ok (.iastore, 1) := by decide +kernel
theorem dX9_stock_39 : decode cX9_stock 39 = .ok (.iload_n 3, 1) := by decide +kernel
theorem dX9_stock_40 : decode cX9_stock 40 = .ok (.ireturn, 1) := by decide +kernel
theorem dX9_licence_0 : decode cX9_licence 0 = .ok (.aload_n 0, 1) := by decide +kernel
theorem dX9_licence_1 : decode cX9_licence 1 = .ok (.iload_n 1, 1) := by decide +kernel
theorem dX9_licence_2 : decode cX9_licence 2 = .ok (.invokevirtual 111, 3) := by decide +kernel
theorem dX9_licence_5 : decode cX9_licence 5 = .ok (.ifCond .eq 13, 3) := by decide +kernel
theorem dX9_licence_8 : decode cX9_licence 8 = .ok (.iload_n 2, 1) := by decide +kernel
theorem dX9_licence_9 : decode cX9_licence 9 = .ok (.iconst 0, 1) := by decide +kernel
theorem dX9_licence_10 : decode cX9_licence 10 = .ok (.bipush 63, 2) := by decide +kernel
theorem dX9_licence_12 : decode cX9_licence 12 = .ok (.invokestatic 93, 3) := by decide +kernel
theorem dX9_licence_15 : decode cX9_licence 15 = .ok (.ifCond .ne 9, 3) := by decide +kernel
theorem dX9_licence_18 : decode cX9_licence 18 = .ok (.aload_n 0, 1) := by decide +kernel
theorem dX9_licence_19 : decode cX9_licence 19 = .ok (.iconst 1, 1) := by decide +kernel
theorem dX9_licence_20 : decode cX9_licence 20 = .ok (.invokevirtual 107, 3) := by decide +kernel
theorem dX9_licence_23 : decode cX9_licence 23 = .ok (.ireturn, 1) := by decide +kernel
theorem dX9_licence_24 : decode cX9_licence 24 = .ok (.aload_n 0, 1) := by decide +kernel
theorem dX9_licence_25 : decode cX9_licence 25 = .ok (.getfield 38, 3) := by decide +kernel
theorem dX9_licence_28 : decode cX9_licence 28 = .ok (.iload_n 1, 1) := by decide +kernel
theorem dX9_licence_29 : decode cX9_licence 29 = .ok (.iaload, 1) := by decide +kernel
theorem dX9_licence_30 : decode cX9_licence 30 = .ok (.istore_n 3, 1) := by decide +kernel
theorem dX9_licence_31 : decode cX9_licence 31 = .ok (.aload_n 0, 1) := by decide +kernel
theorem dX9_licence_32 : decode cX9_licence 32 = .ok (.getfield 38, 3) := by decide +kernel
theorem dX9_licence_35 : decode cX9_licence 35 = .ok (.iload_n 1, 1) := by decide +kernel
theorem dX9_licence_36 : decode cX9_licence 36 = .ok (.iload_n 2, 1) := by decide +kernel
theorem dX9_licence_37 : decode cX9_licence 37 = .ok (.iastore, 1) := by decide +kernel
theorem dX9_licence_38 : decode cX9_licence 38 = .ok (.iload_n 3, 1) := by decide +kernel
theorem dX9_licence_39 : decode cX9_licence 39 = .ok (.ireturn, 1) := by decide +kernel
theorem dX9_law_0 : decode cX9_law 0 = .ok (.iload_n 1, 1) := by decide +kernel
theorem dX9_law_1 : decode cX9_law 1 = .ok (.invokestatic 104, 3) := by decide +kernel
theorem dX9_law_4 : decode cX9_law 4 = .ok (.ifCond .eq 20, 3) := by decide +kernel
theorem dX9_law_7 : decode cX9_law 7 = .ok (.iload_n 2, 1) := by decide +kernel
theorem dX9_law_8 : decode cX9_law 8 = .ok (.invokestatic 104, 3) := by decide +kernel
theorem dX9_law_11 : decode cX9_law 11 = .ok (.ifCond .eq 13, 3) := by decide +kernel
theorem dX9_law_14 : decode cX9_law 14 = .ok (.iload_n 3, 1) := by decide +kernel
theorem dX9_law_15 : decode cX9_law 15 = .ok (.iconst 0, 1) := by decide +kernel
theorem dX9_law_16 : decode cX9_law 16 = .ok (.bipush 60, 2) := by decide +kernel
theorem dX9_law_18 : decode cX9_law 18 = .ok (.invokestatic 93, 3) := by decide +kernel
theorem dX9_law_21 : decode cX9_law 21 = .ok (.ifCond .ne 9, 3) := by decide +kernel
theorem dX9_law_24 : decode cX9_law 24 = .ok (.aload_n 0, 1) := by decide +kernel
theorem dX9_law_25 : decode cX9_law 25 = .ok (.iconst 1, 1) := by decide +kernel
theorem dX9_law_26 : decode cX9_law 26 = .ok (.invokevirtual 107, 3) := by decide +kernel
theorem dX9_law_29 : decode cX9_law 29 = .ok (.ireturn, 1) := by decide +kernel
theorem dX9_law_30 : decode cX9_law 30 = .ok (.aload_n 0, 1) := by decide +kernel
theorem dX9_law_31 : decode cX9_law 31 = .ok (.iload_n 1, 1) := by decide +kernel
theorem dX9_law_32 : decode cX9_law 32 = .ok (.putfield 13, 3) := by decide +kernel
theorem dX9_law_35 : decode cX9_law 35 = .ok (.aload_n 0, 1) := by decide +kernel
theorem dX9_law_36 : decode cX9_law 36 = .ok (.iload_n 2, 1) := by decide +kernel
theorem dX9_law_37 : decode cX9_law 37 = .ok (.putfield 114, 3) := by decide +kernel
theorem dX9_law_40 : decode cX9_law 40 = .ok (.aload_n 0, 1) := by decide +kernel
theorem dX9_law_41 : decode cX9_law 41 = .ok (.iload_n 3, 1) := by decide +kernel
theorem dX9_law_42 : decode cX9_law 42 = .ok (.putfield 16, 3) := by decide +kernel
theorem dX9_law_45 : decode cX9_law 45 = .ok (.iconst 1, 1) := by decide +kernel
theorem dX9_law_46 : decode cX9_law 46 = .ok (.ireturn, 1) := by decide +kernel
theorem dX9_isLicensed_0 : decode cX9_isLicensed 0 = .ok (.aload_n 0, 1) := by decide +kernel
theorem dX9_isLicensed_1 : decode cX9_isLicensed 1 = .ok (.getfield 38, 3) := by decide +kernel
theorem dX9_isLicensed_4 : decode cX9_isLicensed 4 = .ok (.iload_n 1, 1) := by decide +kernel
theorem dX9_isLicensed_5 : decode cX9_isLicensed 5 = .ok (.iaload, 1) := by decide +kernel
theorem dX9_isLicensed_6 : decode cX9_isLicensed 6 = .ok (.iload_n 2, 1) := by decide +kernel
theorem dX9_isLicensed_7 : decode cX9_isLicensed 7 = .ok (.ishr, 1) := by decide +kernel
theorem dX9_isLicensed_8 : decode cX9_isLicensed 8 = .ok (.iconst 1, 1) := by decide +kernel
theorem dX9_isLicensed_9 : decode cX9_isLicensed 9 = .ok (.iand, 1) := by decide +kernel
theorem dX9_isLicensed_10 : decode cX9_isLicensed 10 = .ok (.iconst 1, 1) := by decide +kernel
theorem dX9_isLicensed_11 : decode cX9_isLicensed 11 = .ok (.if_icmp .ne 7, 3) := by decide +kernel
theorem dX9_isLicensed_14 : decode cX9_isLicensed 14 = .ok (.iconst 1, 1) := by decide +kernel
theorem dX9_isLicensed_15 : decode cX9_isLicensed 15 = .ok (.goto 4, 3) := by decide +kernel
theorem dX9_isLicensed_18 : decode cX9_isLicensed 18 = .ok (.iconst 0, 1) := by decide +kernel
theorem dX9_isLicensed_19 : decode cX9_isLicensed 19 = .ok (.ireturn, 1) := by decide +kernel
theorem dX9_isBarred_0 : decode cX9_isBarred 0 = .ok (.aload_n 0, 1) := by decide +kernel
theorem dX9_isBarred_1 : decode cX9_isBarred 1 = .ok (.getfield 22, 3) := by decide +kernel
theorem dX9_isBarred_4 : decode cX9_isBarred 4 = .ok (.iload_n 1, 1) := by decide +kernel
theorem dX9_isBarred_5 : decode cX9_isBarred 5 = .ok (.iaload, 1) := by decide +kernel
theorem dX9_isBarred_6 : decode cX9_isBarred 6 = .ok (.iconst 1, 1) := by decide +kernel
theorem dX9_isBarred_7 : decode cX9_isBarred 7 = .ok (.if_icmp .ne 22, 3) := by decide +kernel
theorem dX9_isBarred_10 : decode cX9_isBarred 10 = .ok (.iload_n 2, 1) := by decide +kernel
theorem dX9_isBarred_11 : decode cX9_isBarred 11 = .ok (.aload_n 0, 1) := by decide +kernel
theorem dX9_isBarred_12 : decode cX9_isBarred 12 = .ok (.getfield 13, 3) := by decide +kernel
theorem dX9_isBarred_15 : decode cX9_isBarred 15 = .ok (.aload_n 0, 1) := by decide +kernel
theorem dX9_isBarred_16 : decode cX9_isBarred 16 = .ok (.getfield 114, 3) := by decide +kernel
theorem dX9_isBarred_19 : decode cX9_isBarred 19 = .ok (.invokestatic 93, 3) := by decide +kernel
theorem dX9_isBarred_22 : decode cX9_isBarred 22 = .ok (.ifCond .eq 7, 3) := by decide +kernel
theorem dX9_isBarred_25 : decode cX9_isBarred 25 = .ok (.iconst 1, 1) := by decide +kernel
theorem dX9_isBarred_26 : decode cX9_isBarred 26 = .ok (.goto 4, 3) := by decide +kernel
theorem dX9_isBarred_29 : decode cX9_isBarred 29 = .ok (.iconst 0, 1) := by decide +kernel
theorem dX9_isBarred_30 : decode cX9_isBarred 30 = .ok (.ireturn, 1) := by decide +kernel
theorem dX9_mayStand_0 : decode cX9_mayStand 0 = .ok (.aload_n 0, 1) := by decide +kernel
theorem dX9_mayStand_1 : decode cX9_mayStand 1 = .ok (.iload_n 1, 1) := by decide +kernel
theorem dX9_mayStand_2 : decode cX9_mayStand 2 = .ok (.iload_n 2, 1) := by decide +kernel
theorem dX9_mayStand_3 : decode cX9_mayStand 3 = .ok (.invokevirtual 117, 3) := by decide +kernel
theorem dX9_mayStand_6 : decode cX9_mayStand 6 = .ok (.ifCond .eq 16, 3) := by decide +kernel
theorem dX9_mayStand_9 : decode cX9_mayStand 9 = .ok (.aload_n 0, 1) := by decide +kernel
theorem dX9_mayStand_10 : decode cX9_mayStand 10 = .ok (.iload_n 2, 1) := by decide +kernel
theorem dX9_mayStand_11 : decode cX9_mayStand 11 = .ok (.iload_n 3, 1) := by decide +kernel
theorem dX9_mayStand_12 : decode cX9_mayStand 12 = .ok (.invokevirtual 121, 3) := by decide +kernel
theorem dX9_mayStand_15 : decode cX9_mayStand 15 = .ok (.ifCond .ne 7, 3) := by decide +kernel
theorem dX9_mayStand_18 : decode cX9_mayStand 18 = .ok (.iconst 1, 1) := by decide +kernel
theorem dX9_mayStand_19 : decode cX9_mayStand 19 = .ok (.goto 4, 3) := by decide +kernel
theorem dX9_mayStand_22 : decode cX9_mayStand 22 = .ok (.iconst 0, 1) := by decide +kernel
theorem dX9_mayStand_23 : decode cX9_mayStand 23 = .ok (.ireturn, 1) := by decide +kernel
theorem dX9_may_0 : decode cX9_may 0 = .ok (.aload_n 0, 1) := by decide +kernel
theorem dX9_may_1 : decode cX9_may 1 = .ok (.iload_n 1, 1) := by decide +kernel
theorem dX9_may_2 : decode cX9_may 2 = .ok (.invokevirtual 111, 3) := by decide +kernel
theorem dX9_may_5 : decode cX9_may 5 = .ok (.ifCond .eq 18, 3) := by decide +kernel
theorem dX9_may_8 : decode cX9_may 8 = .ok (.aload_n 0, 1) := by decide +kernel
theorem dX9_may_9 : decode cX9_may 9 = .ok (.iload_n 2, 1) := by decide +kernel
theorem dX9_may_10 : decode cX9_may 10 = .ok (.invokevirtual 100, 3) := by decide +kernel
theorem dX9_may_13 : decode cX9_may 13 = .ok (.ifCond .eq 10, 3) := by decide +kernel
theorem dX9_may_16 : decode cX9_may 16 = .ok (.iload_n 3, 1) := by decide +kernel
theorem dX9_may_17 : decode cX9_may 17 = .ok (.invokestatic 104, 3) := by decide +kernel
theorem dX9_may_20 : decode cX9_may 20 = .ok (.ifCond .ne 9, 3) := by decide +kernel
theorem dX9_may_23 : decode cX9_may 23 = .ok (.aload_n 0, 1) := by decide +kernel
theorem dX9_may_24 : decode cX9_may 24 = .ok (.iconst 1, 1) := by decide +kernel
theorem dX9_may_25 : decode cX9_may 25 = .ok (.invokevirtual 107, 3) := by decide +kernel
theorem dX9_may_28 : decode cX9_may 28 = .ok (.ireturn, 1) := by decide +kernel
theorem dX9_may_29 : decode cX9_may 29 = .ok (.aload_n 0, 1) := by decide +kernel
theorem dX9_may_30 : decode cX9_may 30 = .ok (.iload_n 1, 1) := by decide +kernel
theorem dX9_may_31 : decode cX9_may 31 = .ok (.iload_n 2, 1) := by decide +kernel
theorem dX9_may_32 : decode cX9_may 32 = .ok (.iload_n 3, 1) := by decide +kernel
theorem dX9_may_33 : decode cX9_may 33 = .ok (.invokevirtual 124, 3) := by decide +kernel
theorem dX9_may_36 : decode cX9_may 36 = .ok (.ifCond .eq 7, 3) := by decide +kernel
theorem dX9_may_39 : decode cX9_may 39 = .ok (.iconst 1, 1) := by decide +kernel
theorem dX9_may_40 : decode cX9_may 40 = .ok (.goto 4, 3) := by decide +kernel
theorem dX9_may_43 : decode cX9_may 43 = .ok (.iconst 0, 1) := by decide +kernel
theorem dX9_may_44 : decode cX9_may 44 = .ok (.ireturn, 1) := by decide +kernel
theorem dX9_worthOf_0 : decode cX9_worthOf 0 = .ok (.aload_n 0, 1) := by decide +kernel
theorem dX9_worthOf_1 : decode cX9_worthOf 1 = .ok (.getfield 29, 3) := by decide +kernel
theorem dX9_worthOf_4 : decode cX9_worthOf 4 = .ok (.bipush 12, 2) := by decide +kernel
theorem dX9_worthOf_6 : decode cX9_worthOf 6 = .ok (.iload_n 1, 1) := by decide +kernel
theorem dX9_worthOf_7 : decode cX9_worthOf 7 = .ok (.imul, 1) := by decide +kernel
theorem dX9_worthOf_8 : decode cX9_worthOf 8 = .ok (.iload_n 2, 1) := by decide +kernel
theorem dX9_worthOf_9 : decode cX9_worthOf 9 = .ok (.iadd, 1) := by decide +kernel
theorem dX9_worthOf_10 : decode cX9_worthOf 10 = .ok (.iaload, 1) := by decide +kernel
theorem dX9_worthOf_11 : decode cX9_worthOf 11 = .ok (.aload_n 0, 1) := by decide +kernel
theorem dX9_worthOf_12 : decode cX9_worthOf 12 = .ok (.getfield 7, 3) := by decide +kernel
theorem dX9_worthOf_15 : decode cX9_worthOf 15 = .ok (.iconst 2, 1) := by decide +kernel
theorem dX9_worthOf_16 : decode cX9_worthOf 16 = .ok (.iadd, 1) := by decide +kernel
theorem dX9_worthOf_17 : decode cX9_worthOf 17 = .ok (.imul, 1) := by decide +kernel
theorem dX9_worthOf_18 : decode cX9_worthOf 18 = .ok (.iconst 4, 1) := by decide +kernel
theorem dX9_worthOf_19 : decode cX9_worthOf 19 = .ok (.idiv, 1) := by decide +kernel
theorem dX9_worthOf_20 : decode cX9_worthOf 20 = .ok (.ireturn, 1) := by decide +kernel
theorem dX9_worth_0 : decode cX9_worth 0 = .ok (.aload_n 0, 1) := by decide +kernel
theorem dX9_worth_1 : decode cX9_worth 1 = .ok (.iload_n 1, 1) := by decide +kernel
theorem dX9_worth_2 : decode cX9_worth 2 = .ok (.invokevirtual 100, 3) := by decide +kernel
theorem dX9_worth_5 : decode cX9_worth 5 = .ok (.ifCond .eq 19, 3) := by decide +kernel
theorem dX9_worth_8 : decode cX9_worth 8 = .ok (.iload_n 2, 1) := by decide +kernel
theorem dX9_worth_9 : decode cX9_worth 9 = .ok (.invokestatic 104, 3) := by decide +kernel
theorem dX9_worth_12 : decode cX9_worth 12 = .ok (.ifCond .eq 12, 3) := by decide +kernel
theorem dX9_worth_15 : decode cX9_worth 15 = .ok (.aload_n 0, 1) := by decide +kernel
theorem dX9_worth_16 : decode cX9_worth 16 = .ok (.iload_n 1, 1) := by decide +kernel
theorem dX9_worth_17 : decode cX9_worth 17 = .ok (.iload_n 2, 1) := by decide +kernel
theorem dX9_worth_18 : decode cX9_worth 18 = .ok (.invokevirtual 127, 3) := by decide +kernel
theorem dX9_worth_21 : decode cX9_worth 21 = .ok (.goto 8, 3) := by decide +kernel
theorem dX9_worth_24 : decode cX9_worth 24 = .ok (.aload_n 0, 1) := by decide +kernel
theorem dX9_worth_25 : decode cX9_worth 25 = .ok (.iconst 1, 1) := by decide +kernel
theorem dX9_worth_26 : decode cX9_worth 26 = .ok (.invokevirtual 107, 3) := by decide +kernel
theorem dX9_worth_29 : decode cX9_worth 29 = .ok (.ireturn, 1) := by decide +kernel
theorem dX9_later_0 : decode cX9_later 0 = .ok (.iload_n 2, 1) := by decide +kernel
theorem dX9_later_1 : decode cX9_later 1 = .ok (.iload_n 3, 1) := by decide +kernel
theorem dX9_later_2 : decode cX9_later 2 = .ok (.if_icmp .ne 7, 3) := by decide +kernel
theorem dX9_later_5 : decode cX9_later 5 = .ok (.iconst 1, 1) := by decide +kernel
theorem dX9_later_6 : decode cX9_later 6 = .ok (.goto 32, 3) := by decide +kernel
theorem dX9_later_9 : decode cX9_later 9 = .ok (.iconst 1, 1) := by decide +kernel
theorem dX9_later_10 : decode cX9_later 10 = .ok (.aload_n 0, 1) := by decide +kernel
theorem dX9_later_11 : decode cX9_later 11 = .ok (.getfield 26, 3) := by decide +kernel
theorem dX9_later_14 : decode cX9_later 14 = .ok (.bipush 6, 2) := by decide +kernel
theorem dX9_later_16 : decode cX9_later 16 = .ok (.iload_n 2, 1) := by decide +kernel
theorem dX9_later_17 : decode cX9_later 17 = .ok (.imul, 1) := by decide +kernel
theorem dX9_later_18 : decode cX9_later 18 = .ok (.iload_n 3, 1) := by decide +kernel
theorem dX9_later_19 : decode cX9_later 19 = .ok (.iadd, 1) := by decide +kernel
theorem dX9_later_20 : decode cX9_later 20 = .ok (.iaload, 1) := by decide +kernel
theorem dX9_later_21 : decode cX9_later 21 = .ok (.iadd, 1) := by decide +kernel
theorem dX9_later_22 : decode cX9_later 22 = .ok (.aload_n 0, 1) := by decide +kernel
theorem dX9_later_23 : decode cX9_later 23 = .ok (.getfield 32, 3) := by decide +kernel
theorem dX9_later_26 : decode cX9_later 26 = .ok (.iload_n 1, 1) := by decide +kernel
theorem dX9_later_27 : decode cX9_later 27 = .ok (.iaload, 1) := by decide +kernel
theorem dX9_later_28 : decode cX9_later 28 = .ok (.iconst 2, 1) := by decide +kernel
theorem dX9_later_29 : decode cX9_later 29 = .ok (.if_icmp .ne 7, 3) := by decide +kernel
theorem dX9_later_32 : decode cX9_later 32 = .ok (.iconst 1, 1) := by decide +kernel
theorem dX9_later_33 : decode cX9_later 33 = .ok (.goto 4, 3) := by decide +kernel
theorem dX9_later_36 : decode cX9_later 36 = .ok (.iconst 0, 1) := by decide +kernel
theorem dX9_later_37 : decode cX9_later 37 = .ok (.iadd, 1) := by decide +kernel
theorem dX9_later_38 : decode cX9_later 38 = .ok (.ireturn, 1) := by decide +kernel
theorem dX9_sells_0 : decode cX9_sells 0 = .ok (.aload_n 0, 1) := by decide +kernel
theorem dX9_sells_1 : decode cX9_sells 1 = .ok (.aload_n 0, 1) := by decide +kernel
theorem dX9_sells_2 : decode cX9_sells 2 = .ok (.getfield 68, 3) := by decide +kernel
theorem dX9_sells_5 : decode cX9_sells 5 = .ok (.iload_n 2, 1) := by decide +kernel
theorem dX9_sells_6 : decode cX9_sells 6 = .ok (.iaload, 1) := by decide +kernel
theorem dX9_sells_7 : decode cX9_sells 7 = .ok (.aload_n 0, 1) := by decide +kernel
theorem dX9_sells_8 : decode cX9_sells 8 = .ok (.getfield 71, 3) := by decide +kernel
theorem dX9_sells_11 : decode cX9_sells 11 = .ok (.iload_n 2, 1) := by decide +kernel
theorem dX9_sells_12 : decode cX9_sells 12 = .ok (.iaload, 1) := by decide +kernel
theorem dX9_sells_13 : decode cX9_sells 13 = .ok (.invokevirtual 127, 3) := by decide +kernel
theorem dX9_sells_16 : decode cX9_sells 16 = .ok (.istore_n 3, 1) := by decide +kernel
theorem dX9_sells_17 : decode cX9_sells 17 = .ok (.iconst 0, 1) := by decide +kernel
theorem dX9_sells_18 : decode cX9_sells 18 = .ok (.istore 4, 2) := by decide +kernel
theorem dX9_sells_20 : decode cX9_sells 20 = .ok (.iconst 0, 1) := by decide +kernel
theorem dX9_sells_21 : decode cX9_sells 21 = .ok (.istore 5, 2) := by decide +kernel
theorem dX9_sells_23 : decode cX9_sells 23 = .ok (.iload 5, 2) := by decide +kernel
theorem dX9_sells_25 : decode cX9_sells 25 = .ok (.iload_n 2, 1) := by decide +kernel
theorem dX9_sells_26 : decode cX9_sells 26 = .ok (.if_icmp .ge 55, 3) := by decide +kernel
theorem dX9_sells_29 : decode cX9_sells 29 = .ok (.iload 4, 2) := by decide +kernel
theorem dX9_sells_31 : decode cX9_sells 31 = .ok (.ifCond .ne 37, 3) := by decide +kernel
theorem dX9_sells_34 : decode cX9_sells 34 = .ok (.aload_n 0, 1) := by decide +kernel
theorem dX9_sells_35 : decode cX9_sells 35 = .ok (.getfield 68, 3) := by decide +kernel
theorem dX9_sells_38 : decode cX9_sells 38 = .ok (.iload 5, 2) := by decide +kernel
theorem dX9_sells_40 : decode cX9_sells 40 = .ok (.iaload, 1) := by decide +kernel
theorem dX9_sells_41 : decode cX9_sells 41 = .ok (.aload_n 0, 1) := by decide +kernel
theorem dX9_sells_42 : decode cX9_sells 42 = .ok (.getfield 68, 3) := by decide +kernel
theorem dX9_sells_45 : decode cX9_sells 45 = .ok (.iload_n 2, 1) := by decide +kernel
theorem dX9_sells_46 : decode cX9_sells 46 = .ok (.iaload, 1) := by decide +kernel
theorem dX9_sells_47 : decode cX9_sells 47 = .ok (.if_icmp .ne 25, 3) := by decide +kernel
theorem dX9_sells_50 : decode cX9_sells 50 = .ok (.aload_n 0, 1) := by decide +kernel
theorem dX9_sells_51 : decode cX9_sells 51 = .ok (.getfield 71, 3) := by decide +kernel
theorem dX9_sells_54 : decode cX9_sells 54 = .ok (.iload_n 2, 1) := by decide +kernel
theorem dX9_sells_55 : decode cX9_sells 55 = .ok (.iaload, 1) := by decide +kernel
