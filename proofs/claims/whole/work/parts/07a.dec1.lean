theorem dX9_init_54 : decode cX9_init 54 = .ok (.new 41, 3) := by decide +kernel
theorem dX9_init_57 : decode cX9_init 57 = .ok (.dup, 1) := by decide +kernel
theorem dX9_init_58 : decode cX9_init 58 = .ok (.invokespecial 43, 3) := by decide +kernel
theorem dX9_init_61 : decode cX9_init 61 = .ok (.putfield 44, 3) := by decide +kernel
theorem dX9_init_64 : decode cX9_init 64 = .ok (.aload_n 0, 1) := by decide +kernel
theorem dX9_init_65 : decode cX9_init 65 = .ok (.new 48, 3) := by decide +kernel
theorem dX9_init_68 : decode cX9_init 68 = .ok (.dup, 1) := by decide +kernel
theorem dX9_init_69 : decode cX9_init 69 = .ok (.invokespecial 50, 3) := by decide +kernel
theorem dX9_init_72 : decode cX9_init 72 = .ok (.putfield 51, 3) := by decide +kernel
theorem dX9_init_75 : decode cX9_init 75 = .ok (.return_, 1) := by decide +kernel
theorem dX9_corner_0 : decode cX9_corner 0 = .ok (.aload_n 0, 1) := by decide +kernel
theorem dX9_corner_1 : decode cX9_corner 1 = .ok (.getfield 16, 3) := by decide +kernel
theorem dX9_corner_4 : decode cX9_corner 4 = .ok (.invokevirtual 55, 3) := by decide +kernel
theorem dX9_corner_7 : decode cX9_corner 7 = .ok (.ireturn, 1) := by decide +kernel
theorem dX9_street_0 : decode cX9_street 0 = .ok (.iload_n 1, 1) := by decide +kernel
theorem dX9_street_1 : decode cX9_street 1 = .ok (.bipush 100, 2) := by decide +kernel
theorem dX9_street_3 : decode cX9_street 3 = .ok (.idiv, 1) := by decide +kernel
theorem dX9_street_4 : decode cX9_street 4 = .ok (.istore 4, 2) := by decide +kernel
theorem dX9_street_6 : decode cX9_street 6 = .ok (.iload_n 1, 1) := by decide +kernel
theorem dX9_street_7 : decode cX9_street 7 = .ok (.bipush 100, 2) := by decide +kernel
theorem dX9_street_9 : decode cX9_street 9 = .ok (.irem, 1) := by decide +kernel
theorem dX9_street_10 : decode cX9_street 10 = .ok (.istore 5, 2) := by decide +kernel
theorem dX9_street_12 : decode cX9_street 12 = .ok (.aload_n 0, 1) := by decide +kernel
theorem dX9_street_13 : decode cX9_street 13 = .ok (.getfield 16, 3) := by decide +kernel
theorem dX9_street_16 : decode cX9_street 16 = .ok (.iload 4, 2) := by decide +kernel
theorem dX9_street_18 : decode cX9_street 18 = .ok (.invokevirtual 59, 3) := by decide +kernel
theorem dX9_street_21 : decode cX9_street 21 = .ok (.ifCond .eq 22, 3) := by decide +kernel
theorem dX9_street_24 : decode cX9_street 24 = .ok (.aload_n 0, 1) := by decide +kernel
theorem dX9_street_25 : decode cX9_street 25 = .ok (.getfield 16, 3) := by decide +kernel
theorem dX9_street_28 : decode cX9_street 28 = .ok (.iload 5, 2) := by decide +kernel
theorem dX9_street_30 : decode cX9_street 30 = .ok (.invokevirtual 59, 3) := by decide +kernel
theorem dX9_street_33 : decode cX9_street 33 = .ok (.ifCond .eq 10, 3) := by decide +kernel
theorem dX9_street_36 : decode cX9_street 36 = .ok (.iload 4, 2) := by decide +kernel
theorem dX9_street_38 : decode cX9_street 38 = .ok (.iload 5, 2) := by decide +kernel
theorem dX9_street_40 : decode cX9_street 40 = .ok (.if_icmp .ne 5, 3) := by decide +kernel
theorem dX9_street_43 : decode cX9_street 43 = .ok (.iconst (-1), 1) := by decide +kernel
theorem dX9_street_44 : decode cX9_street 44 = .ok (.ireturn, 1) := by decide +kernel
theorem dX9_street_45 : decode cX9_street 45 = .ok (.iload_n 2, 1) := by decide +kernel
theorem dX9_street_46 : decode cX9_street 46 = .ok (.iconst 1, 1) := by decide +kernel
theorem dX9_street_47 : decode cX9_street 47 = .ok (.if_icmp .lt 19, 3) := by decide +kernel
theorem dX9_street_50 : decode cX9_street 50 = .ok (.iload_n 2, 1) := by decide +kernel
theorem dX9_street_51 : decode cX9_street 51 = .ok (.sipush 2000, 3) := by decide +kernel
theorem dX9_street_54 : decode cX9_street 54 = .ok (.if_icmp .gt 12, 3) := by decide +kernel
theorem dX9_street_57 : decode cX9_street 57 = .ok (.iload_n 3, 1) := by decide +kernel
theorem dX9_street_58 : decode cX9_street 58 = .ok (.ifCond .lt 8, 3) := by decide +kernel
theorem dX9_street_61 : decode cX9_street 61 = .ok (.iload_n 3, 1) := by decide +kernel
theorem dX9_street_62 : decode cX9_street 62 = .ok (.iconst 1, 1) := by decide +kernel
theorem dX9_street_63 : decode cX9_street 63 = .ok (.if_icmp .le 5, 3) := by decide +kernel
theorem dX9_street_66 : decode cX9_street 66 = .ok (.iconst (-1), 1) := by decide +kernel
theorem dX9_street_67 : decode cX9_street 67 = .ok (.ireturn, 1) := by decide +kernel
theorem dX9_street_68 : decode cX9_street 68 = .ok (.aload_n 0, 1) := by decide +kernel
theorem dX9_street_69 : decode cX9_street 69 = .ok (.getfield 16, 3) := by decide +kernel
theorem dX9_street_72 : decode cX9_street 72 = .ok (.iload 4, 2) := by decide +kernel
theorem dX9_street_74 : decode cX9_street 74 = .ok (.iload 5, 2) := by decide +kernel
theorem dX9_street_76 : decode cX9_street 76 = .ok (.iload_n 2, 1) := by decide +kernel
theorem dX9_street_77 : decode cX9_street 77 = .ok (.iload_n 3, 1) := by decide +kernel
theorem dX9_street_78 : decode cX9_street 78 = .ok (.invokevirtual 63, 3) := by decide +kernel
theorem dX9_street_81 : decode cX9_street 81 = .ok (.ireturn, 1) := by decide +kernel
theorem dX9_shut_0 : decode cX9_shut 0 = .ok (.aload_n 0, 1) := by decide +kernel
theorem dX9_shut_1 : decode cX9_shut 1 = .ok (.getfield 16, 3) := by decide +kernel
theorem dX9_shut_4 : decode cX9_shut 4 = .ok (.getfield 67, 3) := by decide +kernel
theorem dX9_shut_7 : decode cX9_shut 7 = .ok (.iload_n 1, 1) := by decide +kernel
theorem dX9_shut_8 : decode cX9_shut 8 = .ok (.invokevirtual 71, 3) := by decide +kernel
theorem dX9_shut_11 : decode cX9_shut 11 = .ok (.ifCond .eq 22, 3) := by decide +kernel
theorem dX9_shut_14 : decode cX9_shut 14 = .ok (.iload_n 2, 1) := by decide +kernel
theorem dX9_shut_15 : decode cX9_shut 15 = .ok (.aload_n 0, 1) := by decide +kernel
theorem dX9_shut_16 : decode cX9_shut 16 = .ok (.getfield 7, 3) := by decide +kernel
theorem dX9_shut_19 : decode cX9_shut 19 = .ok (.if_icmp .lt 14, 3) := by decide +kernel
theorem dX9_shut_22 : decode cX9_shut 22 = .ok (.iload_n 2, 1) := by decide +kernel
theorem dX9_shut_23 : decode cX9_shut 23 = .ok (.iload_n 3, 1) := by decide +kernel
theorem dX9_shut_24 : decode cX9_shut 24 = .ok (.if_icmp .ge 9, 3) := by decide +kernel
theorem dX9_shut_27 : decode cX9_shut 27 = .ok (.iload_n 3, 1) := by decide +kernel
theorem dX9_shut_28 : decode cX9_shut 28 = .ok (.ldc 76, 2) := by decide +kernel
theorem dX9_shut_30 : decode cX9_shut 30 = .ok (.if_icmp .le 5, 3) := by decide +kernel
theorem dX9_shut_33 : decode cX9_shut 33 = .ok (.iconst (-1), 1) := by decide +kernel
theorem dX9_shut_34 : decode cX9_shut 34 = .ok (.ireturn, 1) := by decide +kernel
theorem dX9_shut_35 : decode cX9_shut 35 = .ok (.aload_n 0, 1) := by decide +kernel
theorem dX9_shut_36 : decode cX9_shut 36 = .ok (.getfield 16, 3) := by decide +kernel
theorem dX9_shut_39 : decode cX9_shut 39 = .ok (.iload_n 1, 1) := by decide +kernel
theorem dX9_shut_40 : decode cX9_shut 40 = .ok (.iload_n 2, 1) := by decide +kernel
theorem dX9_shut_41 : decode cX9_shut 41 = .ok (.iload_n 3, 1) := by decide +kernel
theorem dX9_shut_42 : decode cX9_shut 42 = .ok (.invokevirtual 77, 3) := by decide +kernel
theorem dX9_shut_45 : decode cX9_shut 45 = .ok (.ireturn, 1) := by decide +kernel
theorem dX9_sun_0 : decode cX9_sun 0 = .ok (.iload_n 1, 1) := by decide +kernel
theorem dX9_sun_1 : decode cX9_sun 1 = .ok (.ifCond .lt 25, 3) := by decide +kernel
theorem dX9_sun_4 : decode cX9_sun 4 = .ok (.iload_n 1, 1) := by decide +kernel
theorem dX9_sun_5 : decode cX9_sun 5 = .ok (.bipush 12, 2) := by decide +kernel
theorem dX9_sun_7 : decode cX9_sun 7 = .ok (.if_icmp .ge 19, 3) := by decide +kernel
theorem dX9_sun_10 : decode cX9_sun 10 = .ok (.iload_n 2, 1) := by decide +kernel
theorem dX9_sun_11 : decode cX9_sun 11 = .ok (.ifCond .lt 15, 3) := by decide +kernel
theorem dX9_sun_14 : decode cX9_sun 14 = .ok (.iload_n 2, 1) := by decide +kernel
theorem dX9_sun_15 : decode cX9_sun 15 = .ok (.iload_n 3, 1) := by decide +kernel
theorem dX9_sun_16 : decode cX9_sun 16 = .ok (.if_icmp .gt 10, 3) := by decide +kernel
theorem dX9_sun_19 : decode cX9_sun 19 = .ok (.iload_n 3, 1) := by decide +kernel
theorem dX9_sun_20 : decode cX9_sun 20 = .ok (.sipush 1440, 3) := by decide +kernel
theorem dX9_sun_23 : decode cX9_sun 23 = .ok (.if_icmp .le 5, 3) := by decide +kernel
theorem dX9_sun_26 : decode cX9_sun 26 = .ok (.iconst (-1), 1) := by decide +kernel
theorem dX9_sun_27 : decode cX9_sun 27 = .ok (.ireturn, 1) := by decide +kernel
theorem dX9_sun_28 : decode cX9_sun 28 = .ok (.aload_n 0, 1) := by decide +kernel
theorem dX9_sun_29 : decode cX9_sun 29 = .ok (.getfield 16, 3) := by decide +kernel
theorem dX9_sun_32 : decode cX9_sun 32 = .ok (.iload_n 1, 1) := by decide +kernel
theorem dX9_sun_33 : decode cX9_sun 33 = .ok (.iload_n 2, 1) := by decide +kernel
theorem dX9_sun_34 : decode cX9_sun 34 = .ok (.iload_n 3, 1) := by decide +kernel
theorem dX9_sun_35 : decode cX9_sun 35 = .ok (.invokevirtual 81, 3) := by decide +kernel
theorem dX9_sun_38 : decode cX9_sun 38 = .ok (.iconst 1, 1) := by decide +kernel
theorem dX9_sun_39 : decode cX9_sun 39 = .ok (.ireturn, 1) := by decide +kernel
theorem dX9_way_0 : decode cX9_way 0 = .ok (.aload_n 0, 1) := by decide +kernel
theorem dX9_way_1 : decode cX9_way 1 = .ok (.getfield 16, 3) := by decide +kernel
theorem dX9_way_4 : decode cX9_way 4 = .ok (.iload_n 1, 1) := by decide +kernel
theorem dX9_way_5 : decode cX9_way 5 = .ok (.invokevirtual 59, 3) := by decide +kernel
theorem dX9_way_8 : decode cX9_way 8 = .ok (.ifCond .eq 21, 3) := by decide +kernel
theorem dX9_way_11 : decode cX9_way 11 = .ok (.aload_n 0, 1) := by decide +kernel
theorem dX9_way_12 : decode cX9_way 12 = .ok (.getfield 16, 3) := by decide +kernel
theorem dX9_way_15 : decode cX9_way 15 = .ok (.iload_n 2, 1) := by decide +kernel
theorem dX9_way_16 : decode cX9_way 16 = .ok (.invokevirtual 59, 3) := by decide +kernel
theorem dX9_way_19 : decode cX9_way 19 = .ok (.ifCond .eq 10, 3) := by decide +kernel
theorem dX9_way_22 : decode cX9_way 22 = .ok (.iload_n 3, 1) := by decide +kernel
theorem dX9_way_23 : decode cX9_way 23 = .ok (.invokestatic 85, 3) := by decide +kernel
theorem dX9_way_26 : decode cX9_way 26 = .ok (.ifCond .ne 5, 3) := by decide +kernel
theorem dX9_way_29 : decode cX9_way 29 = .ok (.iconst (-1), 1) := by decide +kernel
theorem dX9_way_30 : decode cX9_way 30 = .ok (.ireturn, 1) := by decide +kernel
theorem dX9_way_31 : decode cX9_way 31 = .ok (.aload_n 0, 1) := by decide +kernel
theorem dX9_way_32 : decode cX9_way 32 = .ok (.getfield 16, 3) := by decide +kernel
theorem dX9_way_35 : decode cX9_way 35 = .ok (.iload_n 2, 1) := by decide +kernel
theorem dX9_way_36 : decode cX9_way 36 = .ok (.iload_n 3, 1) := by decide +kernel
theorem dX9_way_37 : decode cX9_way 37 = .ok (.invokevirtual 88, 3) := by decide +kernel
theorem dX9_way_40 : decode cX9_way 40 = .ok (.aload_n 0, 1) := by decide +kernel
theorem dX9_way_41 : decode cX9_way 41 = .ok (.getfield 16, 3) := by decide +kernel
theorem dX9_way_44 : decode cX9_way 44 = .ok (.iload_n 1, 1) := by decide +kernel
theorem dX9_way_45 : decode cX9_way 45 = .ok (.invokevirtual 92, 3) := by decide +kernel
theorem dX9_way_48 : decode cX9_way 48 = .ok (.istore 4, 2) := by decide +kernel
theorem dX9_way_50 : decode cX9_way 50 = .ok (.iload 4, 2) := by decide +kernel
theorem dX9_way_52 : decode cX9_way 52 = .ok (.ifCond .ge 6, 3) := by decide +kernel
theorem dX9_way_55 : decode cX9_way 55 = .ok (.bipush (-5), 2) := by decide +kernel
theorem dX9_way_57 : decode cX9_way 57 = .ok (.ireturn, 1) := by decide +kernel
theorem dX9_way_58 : decode cX9_way 58 = .ok (.aload_n 0, 1) := by decide +kernel
theorem dX9_way_59 : decode cX9_way 59 = .ok (.getfield 16, 3) := by decide +kernel
theorem dX9_way_62 : decode cX9_way 62 = .ok (.iload_n 1, 1) := by decide +kernel
theorem dX9_way_63 : decode cX9_way 63 = .ok (.iload_n 2, 1) := by decide +kernel
theorem dX9_way_64 : decode cX9_way 64 = .ok (.invokevirtual 96, 3) := by decide +kernel
theorem dX9_way_67 : decode cX9_way 67 = .ok (.iload 4, 2) := by decide +kernel
theorem dX9_way_69 : decode cX9_way 69 = .ok (.ireturn, 1) := by decide +kernel
theorem dX9_step_0 : decode cX9_step 0 = .ok (.aload_n 0, 1) := by decide +kernel
theorem dX9_step_1 : decode cX9_step 1 = .ok (.getfield 16, 3) := by decide +kernel
theorem dX9_step_4 : decode cX9_step 4 = .ok (.iload_n 1, 1) := by decide +kernel
theorem dX9_step_5 : decode cX9_step 5 = .ok (.invokevirtual 99, 3) := by decide +kernel
theorem dX9_step_8 : decode cX9_step 8 = .ok (.ireturn, 1) := by decide +kernel
theorem dX9_night_0 : decode cX9_night 0 = .ok (.iload_n 1, 1) := by decide +kernel
theorem dX9_night_1 : decode cX9_night 1 = .ok (.invokestatic 85, 3) := by decide +kernel
theorem dX9_night_4 : decode cX9_night 4 = .ok (.ifCond .ne 5, 3) := by decide +kernel
theorem dX9_night_7 : decode cX9_night 7 = .ok (.iconst (-1), 1) := by decide +kernel
theorem dX9_night_8 : decode cX9_night 8 = .ok (.ireturn, 1) := by decide +kernel
theorem dX9_night_9 : decode cX9_night 9 = .ok (.aload_n 0, 1) := by decide +kernel
theorem dX9_night_10 : decode cX9_night 10 = .ok (.getfield 16, 3) := by decide +kernel
theorem dX9_night_13 : decode cX9_night 13 = .ok (.iload_n 1, 1) := by decide +kernel
theorem dX9_night_14 : decode cX9_night 14 = .ok (.invokevirtual 102, 3) := by decide +kernel
theorem dX9_night_17 : decode cX9_night 17 = .ok (.ireturn, 1) := by decide +kernel
theorem dX9_coach_0 : decode cX9_coach 0 = .ok (.iload_n 1, 1) := by decide +kernel
theorem dX9_coach_1 : decode cX9_coach 1 = .ok (.iconst 1, 1) := by decide +kernel
theorem dX9_coach_2 : decode cX9_coach 2 = .ok (.if_icmp .lt 21, 3) := by decide +kernel
theorem dX9_coach_5 : decode cX9_coach 5 = .ok (.iload_n 1, 1) := by decide +kernel
theorem dX9_coach_6 : decode cX9_coach 6 = .ok (.sipush 9999, 3) := by decide +kernel
theorem dX9_coach_9 : decode cX9_coach 9 = .ok (.if_icmp .gt 14, 3) := by decide +kernel
theorem dX9_coach_12 : decode cX9_coach 12 = .ok (.aload_n 0, 1) := by decide +kernel
theorem dX9_coach_13 : decode cX9_coach 13 = .ok (.getfield 16, 3) := by decide +kernel
theorem dX9_coach_16 : decode cX9_coach 16 = .ok (.iload_n 2, 1) := by decide +kernel
theorem dX9_coach_17 : decode cX9_coach 17 = .ok (.invokevirtual 59, 3) := by decide +kernel
theorem dX9_coach_20 : decode cX9_coach 20 = .ok (.ifCond .ne 5, 3) := by decide +kernel
theorem dX9_coach_23 : decode cX9_coach 23 = .ok (.iconst (-1), 1) := by decide +kernel
theorem dX9_coach_24 : decode cX9_coach 24 = .ok (.ireturn, 1) := by decide +kernel
theorem dX9_coach_25 : decode cX9_coach 25 = .ok (.aload_n 0, 1) := by decide +kernel
theorem dX9_coach_26 : decode cX9_coach 26 = .ok (.getfield 23, 3) := by decide +kernel
theorem dX9_coach_29 : decode cX9_coach 29 = .ok (.iload_n 1, 1) := by decide +kernel
theorem dX9_coach_30 : decode cX9_coach 30 = .ok (.invokevirtual 105, 3) := by decide +kernel
theorem dX9_coach_33 : decode cX9_coach 33 = .ok (.ifCond .eq 6, 3) := by decide +kernel
theorem dX9_coach_36 : decode cX9_coach 36 = .ok (.bipush (-4), 2) := by decide +kernel
theorem dX9_coach_38 : decode cX9_coach 38 = .ok (.ireturn, 1) := by decide +kernel
theorem dX9_coach_39 : decode cX9_coach 39 = .ok (.aload_n 0, 1) := by decide +kernel
theorem dX9_coach_40 : decode cX9_coach 40 = .ok (.getfield 23, 3) := by decide +kernel
theorem dX9_coach_43 : decode cX9_coach 43 = .ok (.iload_n 1, 1) := by decide +kernel
theorem dX9_coach_44 : decode cX9_coach 44 = .ok (.iload_n 2, 1) := by decide +kernel
theorem dX9_coach_45 : decode cX9_coach 45 = .ok (.invokevirtual 108, 3) := by decide +kernel
theorem dX9_coach_48 : decode cX9_coach 48 = .ok (.ireturn, 1) := by decide +kernel
theorem dX9_licence_0 : decode cX9_licence 0 = .ok (.aload_n 0, 1) := by decide +kernel
theorem dX9_licence_1 : decode cX9_licence 1 = .ok (.getfield 23, 3) := by decide +kernel
theorem dX9_licence_4 : decode cX9_licence 4 = .ok (.getfield 112, 3) := by decide +kernel
theorem dX9_licence_7 : decode cX9_licence 7 = .ok (.iload_n 1, 1) := by decide +kernel
theorem dX9_licence_8 : decode cX9_licence 8 = .ok (.invokevirtual 71, 3) := by decide +kernel
theorem dX9_licence_11 : decode cX9_licence 11 = .ok (.ifCond .eq 24, 3) := by decide +kernel
theorem dX9_licence_14 : decode cX9_licence 14 = .ok (.iload_n 2, 1) := by decide +kernel
theorem dX9_licence_15 : decode cX9_licence 15 = .ok (.ifCond .lt 20, 3) := by decide +kernel
theorem dX9_licence_18 : decode cX9_licence 18 = .ok (.iload_n 2, 1) := by decide +kernel
theorem dX9_licence_19 : decode cX9_licence 19 = .ok (.sipush 2000, 3) := by decide +kernel
theorem dX9_licence_22 : decode cX9_licence 22 = .ok (.if_icmp .ge 13, 3) := by decide +kernel
theorem dX9_licence_25 : decode cX9_licence 25 = .ok (.iload_n 3, 1) := by decide +kernel
theorem dX9_licence_26 : decode cX9_licence 26 = .ok (.ifCond .lt 9, 3) := by decide +kernel
theorem dX9_licence_29 : decode cX9_licence 29 = .ok (.iload_n 3, 1) := by decide +kernel
theorem dX9_licence_30 : decode cX9_licence 30 = .ok (.bipush 50, 2) := by decide +kernel
theorem dX9_licence_32 : decode cX9_licence 32 = .ok (.if_icmp .lt 5, 3) := by decide +kernel
theorem dX9_licence_35 : decode cX9_licence 35 = .ok (.iconst (-1), 1) := by decide +kernel
theorem dX9_licence_36 : decode cX9_licence 36 = .ok (.ireturn, 1) := by decide +kernel
theorem dX9_licence_37 : decode cX9_licence 37 = .ok (.aload_n 0, 1) := by decide +kernel
theorem dX9_licence_38 : decode cX9_licence 38 = .ok (.getfield 23, 3) := by decide +kernel
theorem dX9_licence_41 : decode cX9_licence 41 = .ok (.iload_n 1, 1) := by decide +kernel
theorem dX9_licence_42 : decode cX9_licence 42 = .ok (.iload_n 2, 1) := by decide +kernel
theorem dX9_licence_43 : decode cX9_licence 43 = .ok (.invokevirtual 115, 3) := by decide +kernel
theorem dX9_licence_46 : decode cX9_licence 46 = .ok (.ifCond .lt 6, 3) := by decide +kernel
theorem dX9_licence_49 : decode cX9_licence 49 = .ok (.bipush (-4), 2) := by decide +kernel
theorem dX9_licence_51 : decode cX9_licence 51 = .ok (.ireturn, 1) := by decide +kernel
theorem dX9_licence_52 : decode cX9_licence 52 = .ok (.aload_n 0, 1) := by decide +kernel
theorem dX9_licence_53 : decode cX9_licence 53 = .ok (.getfield 23, 3) := by decide +kernel
theorem dX9_licence_56 : decode cX9_licence 56 = .ok (.iload_n 1, 1) := by decide +kernel
theorem dX9_licence_57 : decode cX9_licence 57 = .ok (.iload_n 2, 1) := by decide +kernel
theorem dX9_licence_58 : decode cX9_licence 58 = .ok (.iload_n 3, 1) := by decide +kernel
theorem dX9_licence_59 : decode cX9_licence 59 = .ok (.invokevirtual 118, 3) := by decide +kernel
theorem dX9_licence_62 : decode cX9_licence 62 = .ok (.ireturn, 1) := by decide +kernel
theorem dX9_look_0 : decode cX9_look 0 = .ok (.aload_n 0, 1) := by decide +kernel
theorem dX9_look_1 : decode cX9_look 1 = .ok (.getfield 23, 3) := by decide +kernel
theorem dX9_look_4 : decode cX9_look 4 = .ok (.getfield 112, 3) := by decide +kernel
theorem dX9_look_7 : decode cX9_look 7 = .ok (.iload_n 1, 1) := by decide +kernel
theorem dX9_look_8 : decode cX9_look 8 = .ok (.invokevirtual 71, 3) := by decide +kernel
theorem dX9_look_11 : decode cX9_look 11 = .ok (.ifCond .eq 18, 3) := by decide +kernel
theorem dX9_look_14 : decode cX9_look 14 = .ok (.iload_n 2, 1) := by decide +kernel
theorem dX9_look_15 : decode cX9_look 15 = .ok (.aload_n 0, 1) := by decide +kernel
theorem dX9_look_16 : decode cX9_look 16 = .ok (.invokevirtual 121, 3) := by decide +kernel
theorem dX9_look_19 : decode cX9_look 19 = .ok (.if_icmp .lt 10, 3) := by decide +kernel
theorem dX9_look_22 : decode cX9_look 22 = .ok (.iload_n 2, 1) := by decide +kernel
theorem dX9_look_23 : decode cX9_look 23 = .ok (.sipush 10000, 3) := by decide +kernel
theorem dX9_look_26 : decode cX9_look 26 = .ok (.if_icmp .lt 6, 3) := by decide +kernel
theorem dX9_look_29 : decode cX9_look 29 = .ok (.bipush (-9), 2) := by decide +kernel
theorem dX9_look_31 : decode cX9_look 31 = .ok (.ireturn, 1) := by decide +kernel
theorem dX9_look_32 : decode cX9_look 32 = .ok (.aload_n 0, 1) := by decide +kernel
theorem dX9_look_33 : decode cX9_look 33 = .ok (.getfield 23, 3) := by decide +kernel
theorem dX9_look_36 : decode cX9_look 36 = .ok (.getfield 112, 3) := by decide +kernel
theorem dX9_look_39 : decode cX9_look 39 = .ok (.iload_n 1, 1) := by decide +kernel
theorem dX9_look_40 : decode cX9_look 40 = .ok (.iconst 5, 1) := by decide +kernel
theorem dX9_look_41 : decode cX9_look 41 = .ok (.invokevirtual 124, 3) := by decide +kernel
theorem dX9_look_44 : decode cX9_look 44 = .ok (.istore_n 3, 1) := by decide +kernel
theorem dX9_look_45 : decode cX9_look 45 = .ok (.aload_n 0, 1) := by decide +kernel
theorem dX9_look_46 : decode cX9_look 46 = .ok (.getfield 23, 3) := by decide +kernel
theorem dX9_look_49 : decode cX9_look 49 = .ok (.getfield 112, 3) := by decide +kernel
theorem dX9_look_52 : decode cX9_look 52 = .ok (.iload_n 1, 1) := by decide +kernel
theorem dX9_look_53 : decode cX9_look 53 = .ok (.iconst 5, 1) := by decide +kernel
theorem dX9_look_54 : decode cX9_look 54 = .ok (.iload_n 2, 1) := by decide +kernel
theorem dX9_look_55 : decode cX9_look 55 = .ok (.invokevirtual 127, 3) := by decide +kernel
theorem dX9_look_58 : decode cX9_look 58 = .ok (.iload_n 3, 1) := by decide +kernel
theorem dX9_look_59 : decode cX9_look 59 = .ok (.ireturn, 1) := by decide +kernel
theorem dX9_stand_0 : decode cX9_stand 0 = .ok (.aload_n 0, 1) := by decide +kernel
theorem dX9_stand_1 : decode cX9_stand 1 = .ok (.getfield 16, 3) := by decide +kernel
theorem dX9_stand_4 : decode cX9_stand 4 = .ok (.iload_n 1, 1) := by decide +kernel
theorem dX9_stand_5 : decode cX9_stand 5 = .ok (.invokevirtual 59, 3) := by decide +kernel
theorem dX9_stand_8 : decode cX9_stand 8 = .ok (.ifCond .eq 14, 3) := by decide +kernel
theorem dX9_stand_11 : decode cX9_stand 11 = .ok (.iload_n 2, 1) := by decide +kernel
theorem dX9_stand_12 : decode cX9_stand 12 = .ok (.iconst 1, 1) := by decide +kernel
theorem dX9_stand_13 : decode cX9_stand 13 = .ok (.if_icmp .lt 9, 3) := by decide +kernel
theorem dX9_stand_16 : decode cX9_stand 16 = .ok (.iload_n 2, 1) := by decide +kernel
theorem dX9_stand_17 : decode cX9_stand 17 = .ok (.bipush 10, 2) := by decide +kernel
theorem dX9_stand_19 : decode cX9_stand 19 = .ok (.if_icmp .le 5, 3) := by decide +kernel
theorem dX9_stand_22 : decode cX9_stand 22 = .ok (.iconst (-1), 1) := by decide +kernel
theorem dX9_stand_23 : decode cX9_stand 23 = .ok (.ireturn, 1) := by decide +kernel
theorem dX9_stand_24 : decode cX9_stand 24 = .ok (.aload_n 0, 1) := by decide +kernel
theorem dX9_stand_25 : decode cX9_stand 25 = .ok (.getfield 23, 3) := by decide +kernel
theorem dX9_stand_28 : decode cX9_stand 28 = .ok (.iload_n 1, 1) := by decide +kernel
theorem dX9_stand_29 : decode cX9_stand 29 = .ok (.iload_n 2, 1) := by decide +kernel
theorem dX9_stand_30 : decode cX9_stand 30 = .ok (.invokevirtual 130, 3) := by decide +kernel
theorem dX9_stand_33 : decode cX9_stand 33 = .ok (.ireturn, 1) := by decide +kernel
theorem dX9_go_0 : decode cX9_go 0 = .ok (.aload_n 0, 1) := by decide +kernel
theorem dX9_go_1 : decode cX9_go 1 = .ok (.getfield 23, 3) := by decide +kernel
theorem dX9_go_4 : decode cX9_go 4 = .ok (.getfield 112, 3) := by decide +kernel
theorem dX9_go_7 : decode cX9_go 7 = .ok (.iload_n 1, 1) := by decide +kernel
theorem dX9_go_8 : decode cX9_go 8 = .ok (.invokevirtual 71, 3) := by decide +kernel
theorem dX9_go_11 : decode cX9_go 11 = .ok (.ifCond .eq 22, 3) := by decide +kernel
theorem dX9_go_14 : decode cX9_go 14 = .ok (.iload_n 2, 1) := by decide +kernel
theorem dX9_go_15 : decode cX9_go 15 = .ok (.iconst (-1), 1) := by decide +kernel
theorem dX9_go_16 : decode cX9_go 16 = .ok (.if_icmp .lt 17, 3) := by decide +kernel
theorem dX9_go_19 : decode cX9_go 19 = .ok (.iload_n 2, 1) := by decide +kernel
theorem dX9_go_20 : decode cX9_go 20 = .ok (.aload_n 0, 1) := by decide +kernel
theorem dX9_go_21 : decode cX9_go 21 = .ok (.getfield 23, 3) := by decide +kernel
theorem dX9_go_24 : decode cX9_go 24 = .ok (.getfield 133, 3) := by decide +kernel
theorem dX9_go_27 : decode cX9_go 27 = .ok (.getfield 136, 3) := by decide +kernel
theorem dX9_go_30 : decode cX9_go 30 = .ok (.if_icmp .lt 5, 3) := by decide +kernel
theorem dX9_go_33 : decode cX9_go 33 = .ok (.iconst (-1), 1) := by decide +kernel
theorem dX9_go_34 : decode cX9_go 34 = .ok (.ireturn, 1) := by decide +kernel
theorem dX9_go_35 : decode cX9_go 35 = .ok (.aload_n 0, 1) := by decide +kernel
theorem dX9_go_36 : decode cX9_go 36 = .ok (.getfield 23, 3) := by decide +kernel
theorem dX9_go_39 : decode cX9_go 39 = .ok (.iload_n 1, 1) := by decide +kernel
theorem dX9_go_40 : decode cX9_go 40 = .ok (.invokevirtual 139, 3) := by decide +kernel
theorem dX9_go_43 : decode cX9_go 43 = .ok (.ifCond .ne 15, 3) := by decide +kernel
theorem dX9_go_46 : decode cX9_go 46 = .ok (.aload_n 0, 1) := by decide +kernel
theorem dX9_go_47 : decode cX9_go 47 = .ok (.getfield 23, 3) := by decide +kernel
theorem dX9_go_50 : decode cX9_go 50 = .ok (.iload_n 1, 1) := by decide +kernel
theorem dX9_go_51 : decode cX9_go 51 = .ok (.iload_n 2, 1) := by decide +kernel
theorem dX9_go_52 : decode cX9_go 52 = .ok (.invokevirtual 142, 3) := by decide +kernel
theorem dX9_go_55 : decode cX9_go 55 = .ok (.ifCond .eq 6, 3) := by decide +kernel
theorem dX9_go_58 : decode cX9_go 58 = .ok (.bipush (-3), 2) := by decide +kernel
theorem dX9_go_60 : decode cX9_go 60 = .ok (.ireturn, 1) := by decide +kernel
theorem dX9_go_61 : decode cX9_go 61 = .ok (.iload_n 2, 1) := by decide +kernel
theorem dX9_go_62 : decode cX9_go 62 = .ok (.ifCond .ge 19, 3) := by decide +kernel
theorem dX9_go_65 : decode cX9_go 65 = .ok (.aload_n 0, 1) := by decide +kernel
theorem dX9_go_66 : decode cX9_go 66 = .ok (.getfield 23, 3) := by decide +kernel
theorem dX9_go_69 : decode cX9_go 69 = .ok (.getfield 112, 3) := by decide +kernel
theorem dX9_go_72 : decode cX9_go 72 = .ok (.iload_n 1, 1) := by decide +kernel
theorem dX9_go_73 : decode cX9_go 73 = .ok (.bipush 7, 2) := by decide +kernel
theorem dX9_go_75 : decode cX9_go 75 = .ok (.invokevirtual 124, 3) := by decide +kernel
theorem dX9_go_78 : decode cX9_go 78 = .ok (.goto 15, 3) := by decide +kernel
theorem dX9_go_81 : decode cX9_go 81 = .ok (.aload_n 0, 1) := by decide +kernel
theorem dX9_go_82 : decode cX9_go 82 = .ok (.getfield 23, 3) := by decide +kernel
theorem dX9_go_85 : decode cX9_go 85 = .ok (.getfield 133, 3) := by decide +kernel
theorem dX9_go_88 : decode cX9_go 88 = .ok (.iload_n 2, 1) := by decide +kernel
theorem dX9_go_89 : decode cX9_go 89 = .ok (.iconst 0, 1) := by decide +kernel
theorem dX9_go_90 : decode cX9_go 90 = .ok (.invokevirtual 124, 3) := by decide +kernel
theorem dX9_go_93 : decode cX9_go 93 = .ok (.istore_n 3, 1) := by decide +kernel
theorem dX9_go_94 : decode cX9_go 94 = .ok (.aload_n 0, 1) := by decide +kernel
theorem dX9_go_95 : decode cX9_go 95 = .ok (.getfield 16, 3) := by decide +kernel
theorem dX9_go_98 : decode cX9_go 98 = .ok (.iload_n 3, 1) := by decide +kernel
theorem dX9_go_99 : decode cX9_go 99 = .ok (.aload_n 0, 1) := by decide +kernel
theorem dX9_go_100 : decode cX9_go 100 = .ok (.getfield 7, 3) := by decide +kernel
theorem dX9_go_103 : decode cX9_go 103 = .ok (.invokevirtual 88, 3) := by decide +kernel
theorem dX9_go_106 : decode cX9_go 106 = .ok (.aload_n 0, 1) := by decide +kernel
theorem dX9_go_107 : decode cX9_go 107 = .ok (.getfield 16, 3) := by decide +kernel
theorem dX9_go_110 : decode cX9_go 110 = .ok (.aload_n 0, 1) := by decide +kernel
theorem dX9_go_111 : decode cX9_go 111 = .ok (.getfield 23, 3) := by decide +kernel
theorem dX9_go_114 : decode cX9_go 114 = .ok (.getfield 112, 3) := by decide +kernel
theorem dX9_go_117 : decode cX9_go 117 = .ok (.iload_n 1, 1) := by decide +kernel
theorem dX9_go_118 : decode cX9_go 118 = .ok (.iconst 1, 1) := by decide +kernel
theorem dX9_go_119 : decode cX9_go 119 = .ok (.invokevirtual 124, 3) := by decide +kernel
theorem dX9_go_122 : decode cX9_go 122 = .ok (.invokevirtual 92, 3) := by decide +kernel
theorem dX9_go_125 : decode cX9_go 125 = .ok (.istore 4, 2) := by decide +kernel
theorem dX9_go_127 : decode cX9_go 127 = .ok (.iload 4, 2) := by decide +kernel
theorem dX9_go_129 : decode cX9_go 129 = .ok (.ifCond .ge 6, 3) := by decide +kernel
theorem dX9_go_132 : decode cX9_go 132 = .ok (.bipush (-5), 2) := by decide +kernel
theorem dX9_go_134 : decode cX9_go 134 = .ok (.ireturn, 1) := by decide +kernel
theorem dX9_go_135 : decode cX9_go 135 = .ok (.iload 4, 2) := by decide +kernel
theorem dX9_go_137 : decode cX9_go 137 = .ok (.invokestatic 146, 3) := by decide +kernel
theorem dX9_go_140 : decode cX9_go 140 = .ok (.istore 5, 2) := by decide +kernel
theorem dX9_go_142 : decode cX9_go 142 = .ok (.aload_n 0, 1) := by decide +kernel
theorem dX9_go_143 : decode cX9_go 143 = .ok (.getfield 23, 3) := by decide +kernel
theorem dX9_go_146 : decode cX9_go 146 = .ok (.iload_n 1, 1) := by decide +kernel
theorem dX9_go_147 : decode cX9_go 147 = .ok (.invokevirtual 149, 3) := by decide +kernel
theorem dX9_go_150 : decode cX9_go 150 = .ok (.aload_n 0, 1) := by decide +kernel
theorem dX9_go_151 : decode cX9_go 151 = .ok (.getfield 23, 3) := by decide +kernel
theorem dX9_go_154 : decode cX9_go 154 = .ok (.iload_n 1, 1) := by decide +kernel
theorem dX9_go_155 : decode cX9_go 155 = .ok (.iconst 2, 1) := by decide +kernel
theorem dX9_go_156 : decode cX9_go 156 = .ok (.iload_n 3, 1) := by decide +kernel
theorem dX9_go_157 : decode cX9_go 157 = .ok (.iload_n 2, 1) := by decide +kernel
theorem dX9_go_158 : decode cX9_go 158 = .ok (.aload_n 0, 1) := by decide +kernel
theorem dX9_go_159 : decode cX9_go 159 = .ok (.getfield 7, 3) := by decide +kernel
theorem dX9_go_162 : decode cX9_go 162 = .ok (.iload 5, 2) := by decide +kernel
theorem dX9_go_164 : decode cX9_go 164 = .ok (.iadd, 1) := by decide +kernel
theorem dX9_go_165 : decode cX9_go 165 = .ok (.invokevirtual 153, 3) := by decide +kernel
theorem dX9_go_168 : decode cX9_go 168 = .ok (.iload 5, 2) := by decide +kernel
theorem dX9_go_170 : decode cX9_go 170 = .ok (.ifCond .ne 11, 3) := by decide +kernel
theorem dX9_go_173 : decode cX9_go 173 = .ok (.aload_n 0, 1) := by decide +kernel
theorem dX9_go_174 : decode cX9_go 174 = .ok (.getfield 23, 3) := by decide +kernel
theorem dX9_go_177 : decode cX9_go 177 = .ok (.iload_n 1, 1) := by decide +kernel
theorem dX9_go_178 : decode cX9_go 178 = .ok (.invokevirtual 157, 3) := by decide +kernel
theorem dX9_go_181 : decode cX9_go 181 = .ok (.iload 5, 2) := by decide +kernel
theorem dX9_go_183 : decode cX9_go 183 = .ok (.ireturn, 1) := by decide +kernel
theorem dX9_about_0 : decode cX9_about 0 = .ok (.aload_n 0, 1) := by decide +kernel
theorem dX9_about_1 : decode cX9_about 1 = .ok (.getfield 23, 3) := by decide +kernel
theorem dX9_about_4 : decode cX9_about 4 = .ok (.getfield 112, 3) := by decide +kernel
theorem dX9_about_7 : decode cX9_about 7 = .ok (.iload_n 1, 1) := by decide +kernel
theorem dX9_about_8 : decode cX9_about 8 = .ok (.invokevirtual 71, 3) := by decide +kernel
theorem dX9_about_11 : decode cX9_about 11 = .ok (.ifCond .ne 6, 3) := by decide +kernel
theorem dX9_about_14 : decode cX9_about 14 = .ok (.bipush (-9), 2) := by decide +kernel
theorem dX9_about_16 : decode cX9_about 16 = .ok (.ireturn, 1) := by decide +kernel
theorem dX9_about_17 : decode cX9_about 17 = .ok (.iload_n 2, 1) := by decide +kernel
theorem dX9_about_18 : decode cX9_about 18 = .ok (.tableswitch 156 0 8 #[50, 63, 76, 89, 102, 115, 128, 141, 150], 50) := by decide +kernel
theorem dX9_about_68 : decode cX9_about 68 = .ok (.aload_n 0, 1) := by decide +kernel
theorem dX9_about_69 : decode cX9_about 69 = .ok (.getfield 23, 3) := by decide +kernel
theorem dX9_about_72 : decode cX9_about 72 = .ok (.getfield 112, 3) := by decide +kernel
theorem dX9_about_75 : decode cX9_about 75 = .ok (.iload_n 1, 1) := by decide +kernel
theorem dX9_about_76 : decode cX9_about 76 = .ok (.iconst 0, 1) := by decide +kernel
theorem dX9_about_77 : decode cX9_about 77 = .ok (.invokevirtual 124, 3) := by decide +kernel
theorem dX9_about_80 : decode cX9_about 80 = .ok (.ireturn, 1) := by decide +kernel
theorem dX9_about_81 : decode cX9_about 81 = .ok (.aload_n 0, 1) := by decide +kernel
theorem dX9_about_82 : decode cX9_about 82 = .ok (.getfield 23, 3) := by decide +kernel
theorem dX9_about_85 : decode cX9_about 85 = .ok (.getfield 112, 3) := by decide +kernel
theorem dX9_about_88 : decode cX9_about 88 = .ok (.iload_n 1, 1) := by decide +kernel
theorem dX9_about_89 : decode cX9_about 89 = .ok (.iconst 1, 1) := by decide +kernel
theorem dX9_about_90 : decode cX9_about 90 = .ok (.invokevirtual 124, 3) := by decide +kernel
theorem dX9_about_93 : decode cX9_about 93 = .ok (.ireturn, 1) := by decide +kernel
theorem dX9_about_94 : decode cX9_about 94 = .ok (.aload_n 0, 1) := by decide +kernel
theorem dX9_about_95 : decode cX9_about 95 = .ok (.getfield 23, 3) := by decide +kernel
theorem dX9_about_98 : decode cX9_about 98 = .ok (.getfield 112, 3) := by decide +kernel
theorem dX9_about_101 : decode cX9_about 101 = .ok (.iload_n 1, 1) := by decide +kernel
theorem dX9_about_102 : decode cX9_about 102 = .ok (.iconst 2, 1) := by decide +kernel
theorem dX9_about_103 : decode cX9_about 103 = .ok (.invokevirtual 124, 3) := by decide +kernel
theorem dX9_about_106 : decode cX9_about 106 = .ok (.ireturn, 1) := by decide +kernel
theorem dX9_about_107 : decode cX9_about 107 = .ok (.aload_n 0, 1) := by decide +kernel
theorem dX9_about_108 : decode cX9_about 108 = .ok (.getfield 23, 3) := by decide +kernel
theorem dX9_about_111 : decode cX9_about 111 = .ok (.getfield 112, 3) := by decide +kernel
theorem dX9_about_114 : decode cX9_about 114 = .ok (.iload_n 1, 1) := by decide +kernel
theorem dX9_about_115 : decode cX9_about 115 = .ok (.iconst 3, 1) := by decide +kernel
theorem dX9_about_116 : decode cX9_about 116 = .ok (.invokevirtual 124, 3) := by decide +kernel
theorem dX9_about_119 : decode cX9_about 119 = .ok (.ireturn, 1) := by decide +kernel
theorem dX9_about_120 : decode cX9_about 120 = .ok (.aload_n 0, 1) := by decide +kernel
theorem dX9_about_121 : decode cX9_about 121 = .ok (.getfield 23, 3) := by decide +kernel
theorem dX9_about_124 : decode cX9_about 124 = .ok (.getfield 112, 3) := by decide +kernel
theorem dX9_about_127 : decode cX9_about 127 = .ok (.iload_n 1, 1) := by decide +kernel
theorem dX9_about_128 : decode cX9_about 128 = .ok (.iconst 4, 1) := by decide +kernel
theorem dX9_about_129 : decode cX9_about 129 = .ok (.invokevirtual 124, 3) := by decide +kernel
theorem dX9_about_132 : decode cX9_about 132 = .ok (.ireturn, 1) := by decide +kernel
theorem dX9_about_133 : decode cX9_about 133 = .ok (.aload_n 0, 1) := by decide +kernel
theorem dX9_about_134 : decode cX9_about 134 = .ok (.getfield 23, 3) := by decide +kernel
theorem dX9_about_137 : decode cX9_about 137 = .ok (.iload_n 1, 1) := by decide +kernel
theorem dX9_about_138 : decode cX9_about 138 = .ok (.aload_n 0, 1) := by decide +kernel
theorem dX9_about_139 : decode cX9_about 139 = .ok (.invokevirtual 160, 3) := by decide +kernel
theorem dX9_about_142 : decode cX9_about 142 = .ok (.invokevirtual 115, 3) := by decide +kernel
theorem dX9_about_145 : decode cX9_about 145 = .ok (.ireturn, 1) := by decide +kernel
theorem dX9_about_146 : decode cX9_about 146 = .ok (.aload_n 0, 1) := by decide +kernel
theorem dX9_about_147 : decode cX9_about 147 = .ok (.getfield 23, 3) := by decide +kernel
theorem dX9_about_150 : decode cX9_about 150 = .ok (.getfield 112, 3) := by decide +kernel
theorem dX9_about_153 : decode cX9_about 153 = .ok (.iload_n 1, 1) := by decide +kernel
theorem dX9_about_154 : decode cX9_about 154 = .ok (.iconst 5, 1) := by decide +kernel
theorem dX9_about_155 : decode cX9_about 155 = .ok (.invokevirtual 124, 3) := by decide +kernel
theorem dX9_about_158 : decode cX9_about 158 = .ok (.ireturn, 1) := by decide +kernel
theorem dX9_about_159 : decode cX9_about 159 = .ok (.aload_n 0, 1) := by decide +kernel
theorem dX9_about_160 : decode cX9_about 160 = .ok (.getfield 37, 3) := by decide +kernel
theorem dX9_about_163 : decode cX9_about 163 = .ok (.iload_n 1, 1) := by decide +kernel
theorem dX9_about_164 : decode cX9_about 164 = .ok (.invokevirtual 163, 3) := by decide +kernel
theorem dX9_about_167 : decode cX9_about 167 = .ok (.ireturn, 1) := by decide +kernel
theorem dX9_about_168 : decode cX9_about 168 = .ok (.aload_n 0, 1) := by decide +kernel
theorem dX9_about_169 : decode cX9_about 169 = .ok (.iload_n 1, 1) := by decide +kernel
theorem dX9_about_170 : decode cX9_about 170 = .ok (.invokevirtual 166, 3) := by decide +kernel
theorem dX9_about_173 : decode cX9_about 173 = .ok (.ireturn, 1) := by decide +kernel
theorem dX9_about_174 : decode cX9_about 174 = .ok (.bipush (-9), 2) := by decide +kernel
theorem dX9_about_176 : decode cX9_about 176 = .ok (.ireturn, 1) := by decide +kernel
theorem dX9_turn_0 : decode cX9_turn 0 = .ok (.aload_n 0, 1) := by decide +kernel
theorem dX9_turn_1 : decode cX9_turn 1 = .ok (.getfield 23, 3) := by decide +kernel
theorem dX9_turn_4 : decode cX9_turn 4 = .ok (.iload_n 1, 1) := by decide +kernel
theorem dX9_turn_5 : decode cX9_turn 5 = .ok (.iload_n 2, 1) := by decide +kernel
theorem dX9_turn_6 : decode cX9_turn 6 = .ok (.invokevirtual 169, 3) := by decide +kernel
theorem dX9_turn_9 : decode cX9_turn 9 = .ok (.ireturn, 1) := by decide +kernel
theorem dX9_feed_0 : decode cX9_feed 0 = .ok (.iload_n 1, 1) := by decide +kernel
theorem dX9_feed_1 : decode cX9_feed 1 = .ok (.iconst 1, 1) := by decide +kernel
theorem dX9_feed_2 : decode cX9_feed 2 = .ok (.if_icmp .lt 8, 3) := by decide +kernel
theorem dX9_feed_5 : decode cX9_feed 5 = .ok (.iload_n 1, 1) := by decide +kernel
theorem dX9_feed_6 : decode cX9_feed 6 = .ok (.iconst 4, 1) := by decide +kernel
theorem dX9_feed_7 : decode cX9_feed 7 = .ok (.if_icmp .le 5, 3) := by decide +kernel
theorem dX9_feed_10 : decode cX9_feed 10 = .ok (.iconst (-1), 1) := by decide +kernel
theorem dX9_feed_11 : decode cX9_feed 11 = .ok (.ireturn, 1) := by decide +kernel
theorem dX9_feed_12 : decode cX9_feed 12 = .ok (.aload_n 0, 1) := by decide +kernel
theorem dX9_feed_13 : decode cX9_feed 13 = .ok (.getfield 30, 3) := by decide +kernel
theorem dX9_feed_16 : decode cX9_feed 16 = .ok (.getfield 172, 3) := by decide +kernel
theorem dX9_feed_19 : decode cX9_feed 19 = .ok (.iload_n 1, 1) := by decide +kernel
theorem dX9_feed_20 : decode cX9_feed 20 = .ok (.iload_n 2, 1) := by decide +kernel
theorem dX9_feed_21 : decode cX9_feed 21 = .ok (.invokevirtual 176, 3) := by decide +kernel
theorem dX9_feed_24 : decode cX9_feed 24 = .ok (.ireturn, 1) := by decide +kernel
theorem dX9_law_0 : decode cX9_law 0 = .ok (.iload_n 1, 1) := by decide +kernel
theorem dX9_law_1 : decode cX9_law 1 = .ok (.ifCond .lt 19, 3) := by decide +kernel
theorem dX9_law_4 : decode cX9_law 4 = .ok (.iload_n 1, 1) := by decide +kernel
theorem dX9_law_5 : decode cX9_law 5 = .ok (.iconst 2, 1) := by decide +kernel
theorem dX9_law_6 : decode cX9_law 6 = .ok (.if_icmp .gt 14, 3) := by decide +kernel
theorem dX9_law_9 : decode cX9_law 9 = .ok (.iload_n 2, 1) := by decide +kernel
theorem dX9_law_10 : decode cX9_law 10 = .ok (.ifCond .lt 10, 3) := by decide +kernel
theorem dX9_law_13 : decode cX9_law 13 = .ok (.iload_n 2, 1) := by decide +kernel
theorem dX9_law_14 : decode cX9_law 14 = .ok (.sipush 10000, 3) := by decide +kernel
theorem dX9_law_17 : decode cX9_law 17 = .ok (.if_icmp .lt 5, 3) := by decide +kernel
theorem dX9_law_20 : decode cX9_law 20 = .ok (.iconst (-1), 1) := by decide +kernel
theorem dX9_law_21 : decode cX9_law 21 = .ok (.ireturn, 1) := by decide +kernel
theorem dX9_law_22 : decode cX9_law 22 = .ok (.aload_n 0, 1) := by decide +kernel
theorem dX9_law_23 : decode cX9_law 23 = .ok (.getfield 30, 3) := by decide +kernel
theorem dX9_law_26 : decode cX9_law 26 = .ok (.iload_n 1, 1) := by decide +kernel
theorem dX9_law_27 : decode cX9_law 27 = .ok (.iload_n 2, 1) := by decide +kernel
theorem dX9_law_28 : decode cX9_law 28 = .ok (.aload_n 0, 1) := by decide +kernel
theorem dX9_law_29 : decode cX9_law 29 = .ok (.invokevirtual 121, 3) := by decide +kernel
theorem dX9_law_32 : decode cX9_law 32 = .ok (.invokevirtual 181, 3) := by decide +kernel
theorem dX9_law_35 : decode cX9_law 35 = .ok (.ireturn, 1) := by decide +kernel
theorem dX9_inForce_0 : decode cX9_inForce 0 = .ok (.iload_n 1, 1) := by decide +kernel
theorem dX9_inForce_1 : decode cX9_inForce 1 = .ok (.ifCond .lt 22, 3) := by decide +kernel
theorem dX9_inForce_4 : decode cX9_inForce 4 = .ok (.iload_n 1, 1) := by decide +kernel
theorem dX9_inForce_5 : decode cX9_inForce 5 = .ok (.iconst 2, 1) := by decide +kernel
theorem dX9_inForce_6 : decode cX9_inForce 6 = .ok (.if_icmp .gt 17, 3) := by decide +kernel
theorem dX9_inForce_9 : decode cX9_inForce 9 = .ok (.iload_n 2, 1) := by decide +kernel
theorem dX9_inForce_10 : decode cX9_inForce 10 = .ok (.invokestatic 184, 3) := by decide +kernel
theorem dX9_inForce_13 : decode cX9_inForce 13 = .ok (.ifCond .eq 10, 3) := by decide +kernel
theorem dX9_inForce_16 : decode cX9_inForce 16 = .ok (.iload_n 3, 1) := by decide +kernel
theorem dX9_inForce_17 : decode cX9_inForce 17 = .ok (.invokestatic 184, 3) := by decide +kernel
theorem dX9_inForce_20 : decode cX9_inForce 20 = .ok (.ifCond .ne 5, 3) := by decide +kernel
theorem dX9_inForce_23 : decode cX9_inForce 23 = .ok (.iconst (-1), 1) := by decide +kernel
theorem dX9_inForce_24 : decode cX9_inForce 24 = .ok (.ireturn, 1) := by decide +kernel
theorem dX9_inForce_25 : decode cX9_inForce 25 = .ok (.aload_n 0, 1) := by decide +kernel
theorem dX9_inForce_26 : decode cX9_inForce 26 = .ok (.getfield 30, 3) := by decide +kernel
theorem dX9_inForce_29 : decode cX9_inForce 29 = .ok (.iload_n 1, 1) := by decide +kernel
theorem dX9_inForce_30 : decode cX9_inForce 30 = .ok (.iload_n 2, 1) := by decide +kernel
theorem dX9_inForce_31 : decode cX9_inForce 31 = .ok (.iload_n 3, 1) := by decide +kernel
theorem dX9_inForce_32 : decode cX9_inForce 32 = .ok (.invokevirtual 187, 3) := by decide +kernel
theorem dX9_inForce_35 : decode cX9_inForce 35 = .ok (.istore 4, 2) := by decide +kernel
theorem dX9_inForce_37 : decode cX9_inForce 37 = .ok (.iload 4, 2) := by decide +kernel
theorem dX9_inForce_39 : decode cX9_inForce 39 = .ok (.ifCond .ge 8, 3) := by decide +kernel
theorem dX9_inForce_42 : decode cX9_inForce 42 = .ok (.bipush (-9), 2) := by decide +kernel
theorem dX9_inForce_44 : decode cX9_inForce 44 = .ok (.goto 5, 3) := by decide +kernel
theorem dX9_inForce_47 : decode cX9_inForce 47 = .ok (.iload 4, 2) := by decide +kernel
theorem dX9_inForce_49 : decode cX9_inForce 49 = .ok (.ireturn, 1) := by decide +kernel
theorem dX9_says_0 : decode cX9_says 0 = .ok (.iload 4, 2) := by decide +kernel
theorem dX9_says_2 : decode cX9_says 2 = .ok (.sipush 1000, 3) := by decide +kernel
theorem dX9_says_5 : decode cX9_says 5 = .ok (.idiv, 1) := by decide +kernel
theorem dX9_says_6 : decode cX9_says 6 = .ok (.istore 6, 2) := by decide +kernel
theorem dX9_says_8 : decode cX9_says 8 = .ok (.iload 4, 2) := by decide +kernel
theorem dX9_says_10 : decode cX9_says 10 = .ok (.bipush 100, 2) := by decide +kernel
theorem dX9_says_12 : decode cX9_says 12 = .ok (.idiv, 1) := by decide +kernel
theorem dX9_says_13 : decode cX9_says 13 = .ok (.bipush 10, 2) := by decide +kernel
theorem dX9_says_15 : decode cX9_says 15 = .ok (.irem, 1) := by decide +kernel
theorem dX9_says_16 : decode cX9_says 16 = .ok (.istore 7, 2) := by decide +kernel
theorem dX9_says_18 : decode cX9_says 18 = .ok (.iload 4, 2) := by decide +kernel
theorem dX9_says_20 : decode cX9_says 20 = .ok (.bipush 100, 2) := by decide +kernel
theorem dX9_says_22 : decode cX9_says 22 = .ok (.irem, 1) := by decide +kernel
theorem dX9_says_23 : decode cX9_says 23 = .ok (.istore 8, 2) := by decide +kernel
theorem dX9_says_25 : decode cX9_says 25 = .ok (.aload_n 0, 1) := by decide +kernel
theorem dX9_says_26 : decode cX9_says 26 = .ok (.getfield 30, 3) := by decide +kernel
theorem dX9_says_29 : decode cX9_says 29 = .ok (.iload_n 1, 1) := by decide +kernel
theorem dX9_says_30 : decode cX9_says 30 = .ok (.invokevirtual 190, 3) := by decide +kernel
theorem dX9_says_33 : decode cX9_says 33 = .ok (.ifnull 24, 3) := by decide +kernel
theorem dX9_says_36 : decode cX9_says 36 = .ok (.iload_n 2, 1) := by decide +kernel
theorem dX9_says_37 : decode cX9_says 37 = .ok (.ifCond .lt 20, 3) := by decide +kernel
theorem dX9_says_40 : decode cX9_says 40 = .ok (.iload_n 2, 1) := by decide +kernel
theorem dX9_says_41 : decode cX9_says 41 = .ok (.ldc 194, 2) := by decide +kernel
theorem dX9_says_43 : decode cX9_says 43 = .ok (.if_icmp .gt 14, 3) := by decide +kernel
theorem dX9_says_46 : decode cX9_says 46 = .ok (.iload_n 3, 1) := by decide +kernel
theorem dX9_says_47 : decode cX9_says 47 = .ok (.ifCond .lt 10, 3) := by decide +kernel
theorem dX9_says_50 : decode cX9_says 50 = .ok (.iload_n 3, 1) := by decide +kernel
theorem dX9_says_51 : decode cX9_says 51 = .ok (.sipush 240, 3) := by decide +kernel
theorem dX9_says_54 : decode cX9_says 54 = .ok (.if_icmp .le 6, 3) := by decide +kernel
theorem dX9_says_57 : decode cX9_says 57 = .ok (.ldc 195, 2) := by decide +kernel
theorem dX9_says_59 : decode cX9_says 59 = .ok (.ireturn, 1) := by decide +kernel
theorem dX9_says_60 : decode cX9_says 60 = .ok (.iload 4, 2) := by decide +kernel
theorem dX9_says_62 : decode cX9_says 62 = .ok (.ifCond .lt 38, 3) := by decide +kernel
theorem dX9_says_65 : decode cX9_says 65 = .ok (.iload 6, 2) := by decide +kernel
theorem dX9_says_67 : decode cX9_says 67 = .ok (.bipush 9, 2) := by decide +kernel
theorem dX9_says_69 : decode cX9_says 69 = .ok (.if_icmp .gt 31, 3) := by decide +kernel
theorem dX9_says_72 : decode cX9_says 72 = .ok (.iload 7, 2) := by decide +kernel
theorem dX9_says_74 : decode cX9_says 74 = .ok (.bipush 6, 2) := by decide +kernel
theorem dX9_says_76 : decode cX9_says 76 = .ok (.if_icmp .gt 24, 3) := by decide +kernel
theorem dX9_says_79 : decode cX9_says 79 = .ok (.iload 8, 2) := by decide +kernel
theorem dX9_says_81 : decode cX9_says 81 = .ok (.bipush 23, 2) := by decide +kernel
theorem dX9_says_83 : decode cX9_says 83 = .ok (.if_icmp .gt 17, 3) := by decide +kernel
theorem dX9_says_86 : decode cX9_says 86 = .ok (.iload 5, 2) := by decide +kernel
theorem dX9_says_88 : decode cX9_says 88 = .ok (.ifCond .lt 12, 3) := by decide +kernel
theorem dX9_says_91 : decode cX9_says 91 = .ok (.iload 5, 2) := by decide +kernel
theorem dX9_says_93 : decode cX9_says 93 = .ok (.bipush 10, 2) := by decide +kernel
theorem dX9_says_95 : decode cX9_says 95 = .ok (.irem, 1) := by decide +kernel
theorem dX9_says_96 : decode cX9_says 96 = .ok (.iconst 1, 1) := by decide +kernel
theorem dX9_says_97 : decode cX9_says 97 = .ok (.if_icmp .le 6, 3) := by decide +kernel
theorem dX9_says_100 : decode cX9_says 100 = .ok (.ldc 195, 2) := by decide +kernel
theorem dX9_says_102 : decode cX9_says 102 = .ok (.ireturn, 1) := by decide +kernel
theorem dX9_says_103 : decode cX9_says 103 = .ok (.aload_n 0, 1) := by decide +kernel
theorem dX9_says_104 : decode cX9_says 104 = .ok (.getfield 30, 3) := by decide +kernel
theorem dX9_says_107 : decode cX9_says 107 = .ok (.iload_n 2, 1) := by decide +kernel
theorem dX9_says_108 : decode cX9_says 108 = .ok (.iload_n 2, 1) := by decide +kernel
theorem dX9_says_109 : decode cX9_says 109 = .ok (.invokestatic 146, 3) := by decide +kernel
theorem dX9_says_112 : decode cX9_says 112 = .ok (.iload_n 3, 1) := by decide +kernel
theorem dX9_says_113 : decode cX9_says 113 = .ok (.iadd, 1) := by decide +kernel
theorem dX9_says_114 : decode cX9_says 114 = .ok (.iload_n 3, 1) := by decide +kernel
theorem dX9_says_115 : decode cX9_says 115 = .ok (.invokevirtual 196, 3) := by decide +kernel
theorem dX9_says_118 : decode cX9_says 118 = .ok (.aload_n 0, 1) := by decide +kernel
theorem dX9_says_119 : decode cX9_says 119 = .ok (.getfield 30, 3) := by decide +kernel
theorem dX9_says_122 : decode cX9_says 122 = .ok (.iload 5, 2) := by decide +kernel
theorem dX9_says_124 : decode cX9_says 124 = .ok (.bipush 10, 2) := by decide +kernel
theorem dX9_says_126 : decode cX9_says 126 = .ok (.irem, 1) := by decide +kernel
theorem dX9_says_127 : decode cX9_says 127 = .ok (.iload 7, 2) := by decide +kernel
theorem dX9_says_129 : decode cX9_says 129 = .ok (.iload 8, 2) := by decide +kernel
theorem dX9_says_131 : decode cX9_says 131 = .ok (.invokevirtual 199, 3) := by decide +kernel
theorem dX9_says_134 : decode cX9_says 134 = .ok (.aload_n 0, 1) := by decide +kernel
theorem dX9_says_135 : decode cX9_says 135 = .ok (.getfield 30, 3) := by decide +kernel
theorem dX9_says_138 : decode cX9_says 138 = .ok (.iload 6, 2) := by decide +kernel
theorem dX9_says_140 : decode cX9_says 140 = .ok (.iload 5, 2) := by decide +kernel
theorem dX9_says_142 : decode cX9_says 142 = .ok (.bipush 10, 2) := by decide +kernel
theorem dX9_says_144 : decode cX9_says 144 = .ok (.idiv, 1) := by decide +kernel
theorem dX9_says_145 : decode cX9_says 145 = .ok (.sipush 1000, 3) := by decide +kernel
theorem dX9_says_148 : decode cX9_says 148 = .ok (.invokevirtual 202, 3) := by decide +kernel
theorem dX9_says_151 : decode cX9_says 151 = .ok (.aload_n 0, 1) := by decide +kernel
theorem dX9_says_152 : decode cX9_says 152 = .ok (.getfield 30, 3) := by decide +kernel
theorem dX9_says_155 : decode cX9_says 155 = .ok (.iload_n 1, 1) := by decide +kernel
theorem dX9_says_156 : decode cX9_says 156 = .ok (.invokevirtual 205, 3) := by decide +kernel
theorem dX9_says_159 : decode cX9_says 159 = .ok (.ireturn, 1) := by decide +kernel
theorem dX9_call_0 : decode cX9_call 0 = .ok (.aload_n 0, 1) := by decide +kernel
theorem dX9_call_1 : decode cX9_call 1 = .ok (.iload_n 1, 1) := by decide +kernel
theorem dX9_call_2 : decode cX9_call 2 = .ok (.iload_n 2, 1) := by decide +kernel
theorem dX9_call_3 : decode cX9_call 3 = .ok (.iload_n 3, 1) := by decide +kernel
theorem dX9_call_4 : decode cX9_call 4 = .ok (.invokevirtual 208, 3) := by decide +kernel
theorem dX9_call_7 : decode cX9_call 7 = .ok (.ifCond .ne 5, 3) := by decide +kernel
theorem dX9_call_10 : decode cX9_call 10 = .ok (.iconst (-1), 1) := by decide +kernel
theorem dX9_call_11 : decode cX9_call 11 = .ok (.ireturn, 1) := by decide +kernel
theorem dX9_call_12 : decode cX9_call 12 = .ok (.aload_n 0, 1) := by decide +kernel
theorem dX9_call_13 : decode cX9_call 13 = .ok (.iload_n 1, 1) := by decide +kernel
theorem dX9_call_14 : decode cX9_call 14 = .ok (.iload_n 2, 1) := by decide +kernel
theorem dX9_call_15 : decode cX9_call 15 = .ok (.iload_n 3, 1) := by decide +kernel
theorem dX9_call_16 : decode cX9_call 16 = .ok (.invokevirtual 212, 3) := by decide +kernel
theorem dX9_call_19 : decode cX9_call 19 = .ok (.ifCond .ne 6, 3) := by decide +kernel
theorem dX9_call_22 : decode cX9_call 22 = .ok (.bipush (-5), 2) := by decide +kernel
theorem dX9_call_24 : decode cX9_call 24 = .ok (.ireturn, 1) := by decide +kernel
theorem dX9_call_25 : decode cX9_call 25 = .ok (.aload_n 0, 1) := by decide +kernel
theorem dX9_call_26 : decode cX9_call 26 = .ok (.getfield 37, 3) := by decide +kernel
theorem dX9_call_29 : decode cX9_call 29 = .ok (.getfield 215, 3) := by decide +kernel
theorem dX9_call_32 : decode cX9_call 32 = .ok (.invokevirtual 218, 3) := by decide +kernel
theorem dX9_call_35 : decode cX9_call 35 = .ok (.ifCond .eq 6, 3) := by decide +kernel
theorem dX9_call_38 : decode cX9_call 38 = .ok (.bipush (-2), 2) := by decide +kernel
theorem dX9_call_40 : decode cX9_call 40 = .ok (.ireturn, 1) := by decide +kernel
theorem dX9_call_41 : decode cX9_call 41 = .ok (.aload_n 0, 1) := by decide +kernel
theorem dX9_call_42 : decode cX9_call 42 = .ok (.iconst (-1), 1) := by decide +kernel
theorem dX9_call_43 : decode cX9_call 43 = .ok (.invokevirtual 222, 3) := by decide +kernel
theorem dX9_call_46 : decode cX9_call 46 = .ok (.istore 4, 2) := by decide +kernel
theorem dX9_call_48 : decode cX9_call 48 = .ok (.iconst 0, 1) := by decide +kernel
theorem dX9_call_49 : decode cX9_call 49 = .ok (.istore 5, 2) := by decide +kernel
theorem dX9_call_51 : decode cX9_call 51 = .ok (.iload 5, 2) := by decide +kernel
theorem dX9_call_53 : decode cX9_call 53 = .ok (.aload_n 0, 1) := by decide +kernel
theorem dX9_call_54 : decode cX9_call 54 = .ok (.getfield 23, 3) := by decide +kernel
theorem dX9_call_57 : decode cX9_call 57 = .ok (.getfield 133, 3) := by decide +kernel
theorem dX9_call_60 : decode cX9_call 60 = .ok (.getfield 136, 3) := by decide +kernel
theorem dX9_call_63 : decode cX9_call 63 = .ok (.if_icmp .ge 42, 3) := by decide +kernel
theorem dX9_call_66 : decode cX9_call 66 = .ok (.iload 4, 2) := by decide +kernel
theorem dX9_call_68 : decode cX9_call 68 = .ok (.ifCond .lt 37, 3) := by decide +kernel
theorem dX9_call_71 : decode cX9_call 71 = .ok (.aload_n 0, 1) := by decide +kernel
theorem dX9_call_72 : decode cX9_call 72 = .ok (.iload 4, 2) := by decide +kernel
theorem dX9_call_74 : decode cX9_call 74 = .ok (.invokevirtual 225, 3) := by decide +kernel
theorem dX9_call_77 : decode cX9_call 77 = .ok (.istore 6, 2) := by decide +kernel
theorem dX9_call_79 : decode cX9_call 79 = .ok (.iload 6, 2) := by decide +kernel
theorem dX9_call_81 : decode cX9_call 81 = .ok (.ifCond .lt 10, 3) := by decide +kernel
theorem dX9_call_84 : decode cX9_call 84 = .ok (.aload_n 0, 1) := by decide +kernel
theorem dX9_call_85 : decode cX9_call 85 = .ok (.iload 6, 2) := by decide +kernel
theorem dX9_call_87 : decode cX9_call 87 = .ok (.invokevirtual 228, 3) := by decide +kernel
theorem dX9_call_90 : decode cX9_call 90 = .ok (.ireturn, 1) := by decide +kernel
theorem dX9_call_91 : decode cX9_call 91 = .ok (.aload_n 0, 1) := by decide +kernel
theorem dX9_call_92 : decode cX9_call 92 = .ok (.iload 4, 2) := by decide +kernel
theorem dX9_call_94 : decode cX9_call 94 = .ok (.invokevirtual 222, 3) := by decide +kernel
theorem dX9_call_97 : decode cX9_call 97 = .ok (.istore 4, 2) := by decide +kernel
theorem dX9_call_99 : decode cX9_call 99 = .ok (.iinc 5 1, 3) := by decide +kernel
theorem dX9_call_102 : decode cX9_call 102 = .ok (.goto (-51), 3) := by decide +kernel
theorem dX9_call_105 : decode cX9_call 105 = .ok (.bipush (-3), 2) := by decide +kernel
theorem dX9_call_107 : decode cX9_call 107 = .ok (.ireturn, 1) := by decide +kernel
theorem dX9_why_0 : decode cX9_why 0 = .ok (.aload_n 0, 1) := by decide +kernel
theorem dX9_why_1 : decode cX9_why 1 = .ok (.getfield 23, 3) := by decide +kernel
theorem dX9_why_4 : decode cX9_why 4 = .ok (.iload_n 1, 1) := by decide +kernel
theorem dX9_why_5 : decode cX9_why 5 = .ok (.invokevirtual 231, 3) := by decide +kernel
theorem dX9_why_8 : decode cX9_why 8 = .ok (.ifCond .eq 14, 3) := by decide +kernel
theorem dX9_why_11 : decode cX9_why 11 = .ok (.aload_n 0, 1) := by decide +kernel
theorem dX9_why_12 : decode cX9_why 12 = .ok (.iload_n 2, 1) := by decide +kernel
theorem dX9_why_13 : decode cX9_why 13 = .ok (.iload_n 3, 1) := by decide +kernel
theorem dX9_why_14 : decode cX9_why 14 = .ok (.iload 4, 2) := by decide +kernel
theorem dX9_why_16 : decode cX9_why 16 = .ok (.invokevirtual 208, 3) := by decide +kernel
theorem dX9_why_19 : decode cX9_why 19 = .ok (.ifCond .ne 5, 3) := by decide +kernel
theorem dX9_why_22 : decode cX9_why 22 = .ok (.iconst (-1), 1) := by decide +kernel
theorem dX9_why_23 : decode cX9_why 23 = .ok (.ireturn, 1) := by decide +kernel
theorem dX9_why_24 : decode cX9_why 24 = .ok (.aload_n 0, 1) := by decide +kernel
theorem dX9_why_25 : decode cX9_why 25 = .ok (.getfield 23, 3) := by decide +kernel
theorem dX9_why_28 : decode cX9_why 28 = .ok (.getfield 112, 3) := by decide +kernel
theorem dX9_why_31 : decode cX9_why 31 = .ok (.iload_n 1, 1) := by decide +kernel
theorem dX9_why_32 : decode cX9_why 32 = .ok (.iconst 4, 1) := by decide +kernel
theorem dX9_why_33 : decode cX9_why 33 = .ok (.invokevirtual 124, 3) := by decide +kernel
theorem dX9_why_36 : decode cX9_why 36 = .ok (.istore 5, 2) := by decide +kernel
theorem dX9_why_38 : decode cX9_why 38 = .ok (.aload_n 0, 1) := by decide +kernel
theorem dX9_why_39 : decode cX9_why 39 = .ok (.iload_n 2, 1) := by decide +kernel
theorem dX9_why_40 : decode cX9_why 40 = .ok (.iload_n 3, 1) := by decide +kernel
theorem dX9_why_41 : decode cX9_why 41 = .ok (.iload 4, 2) := by decide +kernel
theorem dX9_why_43 : decode cX9_why 43 = .ok (.invokevirtual 212, 3) := by decide +kernel
theorem dX9_why_46 : decode cX9_why 46 = .ok (.ifCond .eq 12, 3) := by decide +kernel
theorem dX9_why_49 : decode cX9_why 49 = .ok (.aload_n 0, 1) := by decide +kernel
theorem dX9_why_50 : decode cX9_why 50 = .ok (.iload 5, 2) := by decide +kernel
theorem dX9_why_52 : decode cX9_why 52 = .ok (.invokevirtual 234, 3) := by decide +kernel
theorem dX9_why_55 : decode cX9_why 55 = .ok (.ifCond .ge 6, 3) := by decide +kernel
theorem dX9_why_58 : decode cX9_why 58 = .ok (.bipush (-5), 2) := by decide +kernel
theorem dX9_why_60 : decode cX9_why 60 = .ok (.ireturn, 1) := by decide +kernel
theorem dX9_why_61 : decode cX9_why 61 = .ok (.aload_n 0, 1) := by decide +kernel
theorem dX9_why_62 : decode cX9_why 62 = .ok (.iload_n 1, 1) := by decide +kernel
theorem dX9_why_63 : decode cX9_why 63 = .ok (.iload 5, 2) := by decide +kernel
theorem dX9_why_65 : decode cX9_why 65 = .ok (.invokevirtual 237, 3) := by decide +kernel
theorem dX9_why_68 : decode cX9_why 68 = .ok (.ireturn, 1) := by decide +kernel
theorem dX9_minutes_0 : decode cX9_minutes 0 = .ok (.iload_n 1, 1) := by decide +kernel
theorem dX9_minutes_1 : decode cX9_minutes 1 = .ok (.iconst 1, 1) := by decide +kernel
theorem dX9_minutes_2 : decode cX9_minutes 2 = .ok (.if_icmp .lt 21, 3) := by decide +kernel
theorem dX9_minutes_5 : decode cX9_minutes 5 = .ok (.iload_n 1, 1) := by decide +kernel
theorem dX9_minutes_6 : decode cX9_minutes 6 = .ok (.sipush 1440, 3) := by decide +kernel
theorem dX9_minutes_9 : decode cX9_minutes 9 = .ok (.if_icmp .gt 14, 3) := by decide +kernel
theorem dX9_minutes_12 : decode cX9_minutes 12 = .ok (.aload_n 0, 1) := by decide +kernel
theorem dX9_minutes_13 : decode cX9_minutes 13 = .ok (.getfield 7, 3) := by decide +kernel
theorem dX9_minutes_16 : decode cX9_minutes 16 = .ok (.iload_n 1, 1) := by decide +kernel
theorem dX9_minutes_17 : decode cX9_minutes 17 = .ok (.iadd, 1) := by decide +kernel
theorem dX9_minutes_18 : decode cX9_minutes 18 = .ok (.ldc 76, 2) := by decide +kernel
theorem dX9_minutes_20 : decode cX9_minutes 20 = .ok (.if_icmp .lt 5, 3) := by decide +kernel
theorem dX9_minutes_23 : decode cX9_minutes 23 = .ok (.iconst (-1), 1) := by decide +kernel
theorem dX9_minutes_24 : decode cX9_minutes 24 = .ok (.ireturn, 1) := by decide +kernel
theorem dX9_minutes_25 : decode cX9_minutes 25 = .ok (.aload_n 0, 1) := by decide +kernel
theorem dX9_minutes_26 : decode cX9_minutes 26 = .ok (.getfield 7, 3) := by decide +kernel
theorem dX9_minutes_29 : decode cX9_minutes 29 = .ok (.iload_n 1, 1) := by decide +kernel
theorem dX9_minutes_30 : decode cX9_minutes 30 = .ok (.iadd, 1) := by decide +kernel
theorem dX9_minutes_31 : decode cX9_minutes 31 = .ok (.istore_n 2, 1) := by decide +kernel
theorem dX9_minutes_32 : decode cX9_minutes 32 = .ok (.iconst 0, 1) := by decide +kernel
theorem dX9_minutes_33 : decode cX9_minutes 33 = .ok (.istore_n 3, 1) := by decide +kernel
theorem dX9_minutes_34 : decode cX9_minutes 34 = .ok (.iload_n 3, 1) := by decide +kernel
theorem dX9_minutes_35 : decode cX9_minutes 35 = .ok (.aload_n 0, 1) := by decide +kernel
theorem dX9_minutes_36 : decode cX9_minutes 36 = .ok (.getfield 23, 3) := by decide +kernel
theorem dX9_minutes_39 : decode cX9_minutes 39 = .ok (.getfield 112, 3) := by decide +kernel
theorem dX9_minutes_42 : decode cX9_minutes 42 = .ok (.getfield 136, 3) := by decide +kernel
theorem dX9_minutes_45 : decode cX9_minutes 45 = .ok (.if_icmp .ge 53, 3) := by decide +kernel
theorem dX9_minutes_48 : decode cX9_minutes 48 = .ok (.aload_n 0, 1) := by decide +kernel
theorem dX9_minutes_49 : decode cX9_minutes 49 = .ok (.getfield 23, 3) := by decide +kernel
theorem dX9_minutes_52 : decode cX9_minutes 52 = .ok (.iload_n 2, 1) := by decide +kernel
theorem dX9_minutes_53 : decode cX9_minutes 53 = .ok (.invokevirtual 240, 3) := by decide +kernel
theorem dX9_minutes_56 : decode cX9_minutes 56 = .ok (.istore 4, 2) := by decide +kernel
theorem dX9_minutes_58 : decode cX9_minutes 58 = .ok (.iload 4, 2) := by decide +kernel
theorem dX9_minutes_60 : decode cX9_minutes 60 = .ok (.ifCond .ge 6, 3) := by decide +kernel
theorem dX9_minutes_63 : decode cX9_minutes 63 = .ok (.goto 35, 3) := by decide +kernel
theorem dX9_minutes_66 : decode cX9_minutes 66 = .ok (.aload_n 0, 1) := by decide +kernel
theorem dX9_minutes_67 : decode cX9_minutes 67 = .ok (.aload_n 0, 1) := by decide +kernel
theorem dX9_minutes_68 : decode cX9_minutes 68 = .ok (.getfield 23, 3) := by decide +kernel
theorem dX9_minutes_71 : decode cX9_minutes 71 = .ok (.getfield 112, 3) := by decide +kernel
theorem dX9_minutes_74 : decode cX9_minutes 74 = .ok (.iload 4, 2) := by decide +kernel
theorem dX9_minutes_76 : decode cX9_minutes 76 = .ok (.iconst 3, 1) := by decide +kernel
theorem dX9_minutes_77 : decode cX9_minutes 77 = .ok (.invokevirtual 124, 3) := by decide +kernel
theorem dX9_minutes_80 : decode cX9_minutes 80 = .ok (.invokevirtual 243, 3) := by decide +kernel
theorem dX9_minutes_83 : decode cX9_minutes 83 = .ok (.aload_n 0, 1) := by decide +kernel
theorem dX9_minutes_84 : decode cX9_minutes 84 = .ok (.getfield 23, 3) := by decide +kernel
theorem dX9_minutes_87 : decode cX9_minutes 87 = .ok (.iload 4, 2) := by decide +kernel
theorem dX9_minutes_89 : decode cX9_minutes 89 = .ok (.invokevirtual 157, 3) := by decide +kernel
theorem dX9_minutes_92 : decode cX9_minutes 92 = .ok (.iinc 3 1, 3) := by decide +kernel
theorem dX9_minutes_95 : decode cX9_minutes 95 = .ok (.goto (-61), 3) := by decide +kernel
theorem dX9_minutes_98 : decode cX9_minutes 98 = .ok (.aload_n 0, 1) := by decide +kernel
theorem dX9_minutes_99 : decode cX9_minutes 99 = .ok (.iload_n 2, 1) := by decide +kernel
theorem dX9_minutes_100 : decode cX9_minutes 100 = .ok (.invokevirtual 243, 3) := by decide +kernel
theorem dX9_minutes_103 : decode cX9_minutes 103 = .ok (.aload_n 0, 1) := by decide +kernel
theorem dX9_minutes_104 : decode cX9_minutes 104 = .ok (.getfield 7, 3) := by decide +kernel
theorem dX9_minutes_107 : decode cX9_minutes 107 = .ok (.ireturn, 1) := by decide +kernel
theorem dX9_trip_0 : decode cX9_trip 0 = .ok (.aload_n 0, 1) := by decide +kernel
theorem dX9_trip_1 : decode cX9_trip 1 = .ok (.getfield 37, 3) := by decide +kernel
theorem dX9_trip_4 : decode cX9_trip 4 = .ok (.getfield 215, 3) := by decide +kernel
theorem dX9_trip_7 : decode cX9_trip 7 = .ok (.iload_n 1, 1) := by decide +kernel
theorem dX9_trip_8 : decode cX9_trip 8 = .ok (.iload_n 2, 1) := by decide +kernel
theorem dX9_trip_9 : decode cX9_trip 9 = .ok (.invokevirtual 246, 3) := by decide +kernel
theorem dX9_trip_12 : decode cX9_trip 12 = .ok (.ifCond .eq 18, 3) := by decide +kernel
theorem dX9_trip_15 : decode cX9_trip 15 = .ok (.aload_n 0, 1) := by decide +kernel
theorem dX9_trip_16 : decode cX9_trip 16 = .ok (.getfield 37, 3) := by decide +kernel
theorem dX9_trip_19 : decode cX9_trip 19 = .ok (.getfield 215, 3) := by decide +kernel
theorem dX9_trip_22 : decode cX9_trip 22 = .ok (.iload_n 1, 1) := by decide +kernel
theorem dX9_trip_23 : decode cX9_trip 23 = .ok (.iload_n 2, 1) := by decide +kernel
theorem dX9_trip_24 : decode cX9_trip 24 = .ok (.invokevirtual 124, 3) := by decide +kernel
theorem dX9_trip_27 : decode cX9_trip 27 = .ok (.goto 5, 3) := by decide +kernel
theorem dX9_trip_30 : decode cX9_trip 30 = .ok (.bipush (-9), 2) := by decide +kernel
theorem dX9_trip_32 : decode cX9_trip 32 = .ok (.ireturn, 1) := by decide +kernel
theorem dX9_due_0 : decode cX9_due 0 = .ok (.aload_n 0, 1) := by decide +kernel
theorem dX9_due_1 : decode cX9_due 1 = .ok (.getfield 37, 3) := by decide +kernel
theorem dX9_due_4 : decode cX9_due 4 = .ok (.getfield 215, 3) := by decide +kernel
theorem dX9_due_7 : decode cX9_due 7 = .ok (.iload_n 1, 1) := by decide +kernel
theorem dX9_due_8 : decode cX9_due 8 = .ok (.invokevirtual 71, 3) := by decide +kernel
theorem dX9_due_11 : decode cX9_due 11 = .ok (.ifCond .eq 19, 3) := by decide +kernel
theorem dX9_due_14 : decode cX9_due 14 = .ok (.iload_n 2, 1) := by decide +kernel
theorem dX9_due_15 : decode cX9_due 15 = .ok (.invokestatic 184, 3) := by decide +kernel
theorem dX9_due_18 : decode cX9_due 18 = .ok (.ifCond .eq 12, 3) := by decide +kernel
theorem dX9_due_21 : decode cX9_due 21 = .ok (.iload_n 3, 1) := by decide +kernel
theorem dX9_due_22 : decode cX9_due 22 = .ok (.ifCond .lt 8, 3) := by decide +kernel
theorem dX9_due_25 : decode cX9_due 25 = .ok (.iload_n 3, 1) := by decide +kernel
theorem dX9_due_26 : decode cX9_due 26 = .ok (.iconst 1, 1) := by decide +kernel
theorem dX9_due_27 : decode cX9_due 27 = .ok (.if_icmp .le 6, 3) := by decide +kernel
theorem dX9_due_30 : decode cX9_due 30 = .ok (.bipush (-9), 2) := by decide +kernel
theorem dX9_due_32 : decode cX9_due 32 = .ok (.ireturn, 1) := by decide +kernel
theorem dX9_due_33 : decode cX9_due 33 = .ok (.aload_n 0, 1) := by decide +kernel
theorem dX9_due_34 : decode cX9_due 34 = .ok (.iload_n 1, 1) := by decide +kernel
theorem dX9_due_35 : decode cX9_due 35 = .ok (.iload_n 2, 1) := by decide +kernel
theorem dX9_due_36 : decode cX9_due 36 = .ok (.invokevirtual 249, 3) := by decide +kernel
theorem dX9_due_39 : decode cX9_due 39 = .ok (.istore 4, 2) := by decide +kernel
theorem dX9_due_41 : decode cX9_due 41 = .ok (.iload 4, 2) := by decide +kernel
theorem dX9_due_43 : decode cX9_due 43 = .ok (.ifCond .ge 6, 3) := by decide +kernel
theorem dX9_due_46 : decode cX9_due 46 = .ok (.bipush (-9), 2) := by decide +kernel
theorem dX9_due_48 : decode cX9_due 48 = .ok (.ireturn, 1) := by decide +kernel
theorem dX9_due_49 : decode cX9_due 49 = .ok (.iload_n 3, 1) := by decide +kernel
theorem dX9_due_50 : decode cX9_due 50 = .ok (.ifCond .ne 8, 3) := by decide +kernel
theorem dX9_due_53 : decode cX9_due 53 = .ok (.iload 4, 2) := by decide +kernel
theorem dX9_due_55 : decode cX9_due 55 = .ok (.goto 9, 3) := by decide +kernel
theorem dX9_due_58 : decode cX9_due 58 = .ok (.aload_n 0, 1) := by decide +kernel
theorem dX9_due_59 : decode cX9_due 59 = .ok (.iload_n 1, 1) := by decide +kernel
theorem dX9_due_60 : decode cX9_due 60 = .ok (.iload_n 2, 1) := by decide +kernel
theorem dX9_due_61 : decode cX9_due 61 = .ok (.invokevirtual 252, 3) := by decide +kernel
theorem dX9_due_64 : decode cX9_due 64 = .ok (.ireturn, 1) := by decide +kernel
theorem dX9_refusal_0 : decode cX9_refusal 0 = .ok (.aload_n 0, 1) := by decide +kernel
theorem dX9_refusal_1 : decode cX9_refusal 1 = .ok (.getfield 37, 3) := by decide +kernel
theorem dX9_refusal_4 : decode cX9_refusal 4 = .ok (.getfield 255, 3) := by decide +kernel
theorem dX9_refusal_7 : decode cX9_refusal 7 = .ok (.iload_n 1, 1) := by decide +kernel
theorem dX9_refusal_8 : decode cX9_refusal 8 = .ok (.iload_n 2, 1) := by decide +kernel
theorem dX9_refusal_9 : decode cX9_refusal 9 = .ok (.invokevirtual 124, 3) := by decide +kernel
theorem dX9_refusal_12 : decode cX9_refusal 12 = .ok (.ireturn, 1) := by decide +kernel
theorem dX9_complain_0 : decode cX9_complain 0 = .ok (.aload_n 0, 1) := by decide +kernel
theorem dX9_complain_1 : decode cX9_complain 1 = .ok (.getfield 37, 3) := by decide +kernel
theorem dX9_complain_4 : decode cX9_complain 4 = .ok (.getfield 215, 3) := by decide +kernel
theorem dX9_complain_7 : decode cX9_complain 7 = .ok (.iload_n 1, 1) := by decide +kernel
theorem dX9_complain_8 : decode cX9_complain 8 = .ok (.invokevirtual 71, 3) := by decide +kernel
theorem dX9_complain_11 : decode cX9_complain 11 = .ok (.ifCond .eq 14, 3) := by decide +kernel
theorem dX9_complain_14 : decode cX9_complain 14 = .ok (.iload_n 2, 1) := by decide +kernel
theorem dX9_complain_15 : decode cX9_complain 15 = .ok (.ifCond .lt 10, 3) := by decide +kernel
theorem dX9_complain_18 : decode cX9_complain 18 = .ok (.iload_n 2, 1) := by decide +kernel
theorem dX9_complain_19 : decode cX9_complain 19 = .ok (.ldc_w 258, 3) := by decide +kernel
theorem dX9_complain_22 : decode cX9_complain 22 = .ok (.if_icmp .le 5, 3) := by decide +kernel
theorem dX9_complain_25 : decode cX9_complain 25 = .ok (.iconst (-1), 1) := by decide +kernel
theorem dX9_complain_26 : decode cX9_complain 26 = .ok (.ireturn, 1) := by decide +kernel
theorem dX9_complain_27 : decode cX9_complain 27 = .ok (.aload_n 0, 1) := by decide +kernel
theorem dX9_complain_28 : decode cX9_complain 28 = .ok (.getfield 44, 3) := by decide +kernel
theorem dX9_complain_31 : decode cX9_complain 31 = .ok (.iload_n 1, 1) := by decide +kernel
theorem dX9_complain_32 : decode cX9_complain 32 = .ok (.invokevirtual 259, 3) := by decide +kernel
theorem dX9_complain_35 : decode cX9_complain 35 = .ok (.ifCond .eq 6, 3) := by decide +kernel
theorem dX9_complain_38 : decode cX9_complain 38 = .ok (.bipush (-4), 2) := by decide +kernel
theorem dX9_complain_40 : decode cX9_complain 40 = .ok (.ireturn, 1) := by decide +kernel
theorem dX9_complain_41 : decode cX9_complain 41 = .ok (.aload_n 0, 1) := by decide +kernel
theorem dX9_complain_42 : decode cX9_complain 42 = .ok (.getfield 44, 3) := by decide +kernel
theorem dX9_complain_45 : decode cX9_complain 45 = .ok (.iload_n 1, 1) := by decide +kernel
theorem dX9_complain_46 : decode cX9_complain 46 = .ok (.iload_n 2, 1) := by decide +kernel
theorem dX9_complain_47 : decode cX9_complain 47 = .ok (.invokevirtual 262, 3) := by decide +kernel
theorem dX9_complain_50 : decode cX9_complain 50 = .ok (.ireturn, 1) := by decide +kernel
theorem dX9_judged_0 : decode cX9_judged 0 = .ok (.aload_n 0, 1) := by decide +kernel
theorem dX9_judged_1 : decode cX9_judged 1 = .ok (.getfield 44, 3) := by decide +kernel
theorem dX9_judged_4 : decode cX9_judged 4 = .ok (.getfield 265, 3) := by decide +kernel
theorem dX9_judged_7 : decode cX9_judged 7 = .ok (.iload_n 1, 1) := by decide +kernel
theorem dX9_judged_8 : decode cX9_judged 8 = .ok (.invokevirtual 71, 3) := by decide +kernel
theorem dX9_judged_11 : decode cX9_judged 11 = .ok (.ifCond .ne 6, 3) := by decide +kernel
theorem dX9_judged_14 : decode cX9_judged 14 = .ok (.bipush (-9), 2) := by decide +kernel
theorem dX9_judged_16 : decode cX9_judged 16 = .ok (.ireturn, 1) := by decide +kernel
theorem dX9_judged_17 : decode cX9_judged 17 = .ok (.iload_n 2, 1) := by decide +kernel
theorem dX9_judged_18 : decode cX9_judged 18 = .ok (.tableswitch 90 0 5 #[38, 51, 64, 70, 77, 83], 38) := by decide +kernel
theorem dX9_judged_56 : decode cX9_judged 56 = .ok (.aload_n 0, 1) := by decide +kernel
theorem dX9_judged_57 : decode cX9_judged 57 = .ok (.getfield 44, 3) := by decide +kernel
theorem dX9_judged_60 : decode cX9_judged 60 = .ok (.getfield 265, 3) := by decide +kernel
theorem dX9_judged_63 : decode cX9_judged 63 = .ok (.iload_n 1, 1) := by decide +kernel
theorem dX9_judged_64 : decode cX9_judged 64 = .ok (.iconst 0, 1) := by decide +kernel
theorem dX9_judged_65 : decode cX9_judged 65 = .ok (.invokevirtual 124, 3) := by decide +kernel
theorem dX9_judged_68 : decode cX9_judged 68 = .ok (.ireturn, 1) := by decide +kernel
theorem dX9_judged_69 : decode cX9_judged 69 = .ok (.aload_n 0, 1) := by decide +kernel
theorem dX9_judged_70 : decode cX9_judged 70 = .ok (.getfield 44, 3) := by decide +kernel
theorem dX9_judged_73 : decode cX9_judged 73 = .ok (.getfield 265, 3) := by decide +kernel
theorem dX9_judged_76 : decode cX9_judged 76 = .ok (.iload_n 1, 1) := by decide +kernel
theorem dX9_judged_77 : decode cX9_judged 77 = .ok (.iconst 1, 1) := by decide +kernel
theorem dX9_judged_78 : decode cX9_judged 78 = .ok (.invokevirtual 124, 3) := by decide +kernel
theorem dX9_judged_81 : decode cX9_judged 81 = .ok (.ireturn, 1) := by decide +kernel
theorem dX9_judged_82 : decode cX9_judged 82 = .ok (.aload_n 0, 1) := by decide +kernel
theorem dX9_judged_83 : decode cX9_judged 83 = .ok (.iload_n 1, 1) := by decide +kernel
theorem dX9_judged_84 : decode cX9_judged 84 = .ok (.invokevirtual 268, 3) := by decide +kernel
theorem dX9_judged_87 : decode cX9_judged 87 = .ok (.ireturn, 1) := by decide +kernel
theorem dX9_judged_88 : decode cX9_judged 88 = .ok (.aload_n 0, 1) := by decide +kernel
theorem dX9_judged_89 : decode cX9_judged 89 = .ok (.iload_n 1, 1) := by decide +kernel
theorem dX9_judged_90 : decode cX9_judged 90 = .ok (.iconst 0, 1) := by decide +kernel
theorem dX9_judged_91 : decode cX9_judged 91 = .ok (.invokevirtual 271, 3) := by decide +kernel
theorem dX9_judged_94 : decode cX9_judged 94 = .ok (.ireturn, 1) := by decide +kernel
theorem dX9_judged_95 : decode cX9_judged 95 = .ok (.aload_n 0, 1) := by decide +kernel
theorem dX9_judged_96 : decode cX9_judged 96 = .ok (.iload_n 1, 1) := by decide +kernel
theorem dX9_judged_97 : decode cX9_judged 97 = .ok (.invokevirtual 275, 3) := by decide +kernel
theorem dX9_judged_100 : decode cX9_judged 100 = .ok (.ireturn, 1) := by decide +kernel
theorem dX9_judged_101 : decode cX9_judged 101 = .ok (.aload_n 0, 1) := by decide +kernel
theorem dX9_judged_102 : decode cX9_judged 102 = .ok (.iload_n 1, 1) := by decide +kernel
theorem dX9_judged_103 : decode cX9_judged 103 = .ok (.iconst 1, 1) := by decide +kernel
theorem dX9_judged_104 : decode cX9_judged 104 = .ok (.invokevirtual 271, 3) := by decide +kernel
theorem dX9_judged_107 : decode cX9_judged 107 = .ok (.ireturn, 1) := by decide +kernel
theorem dX9_judged_108 : decode cX9_judged 108 = .ok (.bipush (-9), 2) := by decide +kernel
theorem dX9_judged_110 : decode cX9_judged 110 = .ok (.ireturn, 1) := by decide +kernel
theorem dX9_lost_0 : decode cX9_lost 0 = .ok (.iload_n 1, 1) := by decide +kernel
theorem dX9_lost_1 : decode cX9_lost 1 = .ok (.ifCond .lt 20, 3) := by decide +kernel
theorem dX9_lost_4 : decode cX9_lost 4 = .ok (.iload_n 1, 1) := by decide +kernel
theorem dX9_lost_5 : decode cX9_lost 5 = .ok (.bipush 10, 2) := by decide +kernel
theorem dX9_lost_7 : decode cX9_lost 7 = .ok (.if_icmp .ge 14, 3) := by decide +kernel
theorem dX9_lost_10 : decode cX9_lost 10 = .ok (.iload_n 2, 1) := by decide +kernel
theorem dX9_lost_11 : decode cX9_lost 11 = .ok (.ifCond .lt 10, 3) := by decide +kernel
theorem dX9_lost_14 : decode cX9_lost 14 = .ok (.iload_n 2, 1) := by decide +kernel
theorem dX9_lost_15 : decode cX9_lost 15 = .ok (.sipush 14641, 3) := by decide +kernel
theorem dX9_lost_18 : decode cX9_lost 18 = .ok (.if_icmp .lt 5, 3) := by decide +kernel
theorem dX9_lost_21 : decode cX9_lost 21 = .ok (.iconst (-1), 1) := by decide +kernel
theorem dX9_lost_22 : decode cX9_lost 22 = .ok (.ireturn, 1) := by decide +kernel
theorem dX9_lost_23 : decode cX9_lost 23 = .ok (.iload_n 3, 1) := by decide +kernel
theorem dX9_lost_24 : decode cX9_lost 24 = .ok (.invokestatic 85, 3) := by decide +kernel
theorem dX9_lost_27 : decode cX9_lost 27 = .ok (.ifCond .eq 17, 3) := by decide +kernel
theorem dX9_lost_30 : decode cX9_lost 30 = .ok (.iload 4, 2) := by decide +kernel
theorem dX9_lost_32 : decode cX9_lost 32 = .ok (.invokestatic 85, 3) := by decide +kernel
theorem dX9_lost_35 : decode cX9_lost 35 = .ok (.ifCond .eq 9, 3) := by decide +kernel
theorem dX9_lost_38 : decode cX9_lost 38 = .ok (.iload_n 3, 1) := by decide +kernel
theorem dX9_lost_39 : decode cX9_lost 39 = .ok (.iload 4, 2) := by decide +kernel
theorem dX9_lost_41 : decode cX9_lost 41 = .ok (.if_icmp .le 5, 3) := by decide +kernel
theorem dX9_lost_44 : decode cX9_lost 44 = .ok (.iconst (-1), 1) := by decide +kernel
theorem dX9_lost_45 : decode cX9_lost 45 = .ok (.ireturn, 1) := by decide +kernel
theorem dX9_lost_46 : decode cX9_lost 46 = .ok (.aload_n 0, 1) := by decide +kernel
theorem dX9_lost_47 : decode cX9_lost 47 = .ok (.getfield 51, 3) := by decide +kernel
theorem dX9_lost_50 : decode cX9_lost 50 = .ok (.iload_n 1, 1) := by decide +kernel
theorem dX9_lost_51 : decode cX9_lost 51 = .ok (.iload_n 2, 1) := by decide +kernel
theorem dX9_lost_52 : decode cX9_lost 52 = .ok (.iload_n 3, 1) := by decide +kernel
theorem dX9_lost_53 : decode cX9_lost 53 = .ok (.iload 4, 2) := by decide +kernel
theorem dX9_lost_55 : decode cX9_lost 55 = .ok (.invokevirtual 278, 3) := by decide +kernel
theorem dX9_lost_58 : decode cX9_lost 58 = .ok (.ireturn, 1) := by decide +kernel
theorem dX9_found_0 : decode cX9_found 0 = .ok (.iload_n 1, 1) := by decide +kernel
theorem dX9_found_1 : decode cX9_found 1 = .ok (.ifCond .lt 23, 3) := by decide +kernel
theorem dX9_found_4 : decode cX9_found 4 = .ok (.iload_n 1, 1) := by decide +kernel
theorem dX9_found_5 : decode cX9_found 5 = .ok (.bipush 10, 2) := by decide +kernel
theorem dX9_found_7 : decode cX9_found 7 = .ok (.if_icmp .ge 17, 3) := by decide +kernel
theorem dX9_found_10 : decode cX9_found 10 = .ok (.aload_n 0, 1) := by decide +kernel
theorem dX9_found_11 : decode cX9_found 11 = .ok (.getfield 23, 3) := by decide +kernel
theorem dX9_found_14 : decode cX9_found 14 = .ok (.getfield 112, 3) := by decide +kernel
theorem dX9_found_17 : decode cX9_found 17 = .ok (.iload_n 2, 1) := by decide +kernel
theorem dX9_found_18 : decode cX9_found 18 = .ok (.invokevirtual 71, 3) := by decide +kernel
theorem dX9_found_21 : decode cX9_found 21 = .ok (.ifCond .ne 5, 3) := by decide +kernel
theorem dX9_found_24 : decode cX9_found 24 = .ok (.iconst (-1), 1) := by decide +kernel
theorem dX9_found_25 : decode cX9_found 25 = .ok (.ireturn, 1) := by decide +kernel
theorem dX9_found_26 : decode cX9_found 26 = .ok (.aload_n 0, 1) := by decide +kernel
theorem dX9_found_27 : decode cX9_found 27 = .ok (.getfield 51, 3) := by decide +kernel
theorem dX9_found_30 : decode cX9_found 30 = .ok (.iload_n 1, 1) := by decide +kernel
theorem dX9_found_31 : decode cX9_found 31 = .ok (.iload_n 2, 1) := by decide +kernel
theorem dX9_found_32 : decode cX9_found 32 = .ok (.aload_n 0, 1) := by decide +kernel
theorem dX9_found_33 : decode cX9_found 33 = .ok (.getfield 7, 3) := by decide +kernel
theorem dX9_found_36 : decode cX9_found 36 = .ok (.invokevirtual 281, 3) := by decide +kernel
theorem dX9_found_39 : decode cX9_found 39 = .ok (.ireturn, 1) := by decide +kernel
theorem dX9_joined_0 : decode cX9_joined 0 = .ok (.aload_n 0, 1) := by decide +kernel
theorem dX9_joined_1 : decode cX9_joined 1 = .ok (.getfield 51, 3) := by decide +kernel
theorem dX9_joined_4 : decode cX9_joined 4 = .ok (.getfield 284, 3) := by decide +kernel
theorem dX9_joined_7 : decode cX9_joined 7 = .ok (.iload_n 1, 1) := by decide +kernel
theorem dX9_joined_8 : decode cX9_joined 8 = .ok (.invokevirtual 71, 3) := by decide +kernel
theorem dX9_joined_11 : decode cX9_joined 11 = .ok (.ifCond .ne 5, 3) := by decide +kernel
theorem dX9_joined_14 : decode cX9_joined 14 = .ok (.iconst (-1), 1) := by decide +kernel
theorem dX9_joined_15 : decode cX9_joined 15 = .ok (.ireturn, 1) := by decide +kernel
theorem dX9_joined_16 : decode cX9_joined 16 = .ok (.aload_n 0, 1) := by decide +kernel
theorem dX9_joined_17 : decode cX9_joined 17 = .ok (.iload_n 1, 1) := by decide +kernel
theorem dX9_joined_18 : decode cX9_joined 18 = .ok (.invokevirtual 287, 3) := by decide +kernel
theorem dX9_joined_21 : decode cX9_joined 21 = .ok (.istore_n 2, 1) := by decide +kernel
theorem dX9_joined_22 : decode cX9_joined 22 = .ok (.iload_n 2, 1) := by decide +kernel
theorem dX9_joined_23 : decode cX9_joined 23 = .ok (.ifCond .lt 16, 3) := by decide +kernel
theorem dX9_joined_26 : decode cX9_joined 26 = .ok (.aload_n 0, 1) := by decide +kernel
theorem dX9_joined_27 : decode cX9_joined 27 = .ok (.iload_n 2, 1) := by decide +kernel
theorem dX9_joined_28 : decode cX9_joined 28 = .ok (.invokevirtual 290, 3) := by decide +kernel
theorem dX9_joined_31 : decode cX9_joined 31 = .ok (.iconst 1, 1) := by decide +kernel
theorem dX9_joined_32 : decode cX9_joined 32 = .ok (.if_icmp .ne 7, 3) := by decide +kernel
theorem dX9_joined_35 : decode cX9_joined 35 = .ok (.iload_n 2, 1) := by decide +kernel
theorem dX9_joined_36 : decode cX9_joined 36 = .ok (.goto 5, 3) := by decide +kernel
theorem dX9_joined_39 : decode cX9_joined 39 = .ok (.bipush (-9), 2) := by decide +kernel
theorem dX9_joined_41 : decode cX9_joined 41 = .ok (.ireturn, 1) := by decide +kernel
theorem dX9_fits_0 : decode cX9_fits 0 = .ok (.aload_n 0, 1) := by decide +kernel
theorem dX9_fits_1 : decode cX9_fits 1 = .ok (.getfield 51, 3) := by decide +kernel
theorem dX9_fits_4 : decode cX9_fits 4 = .ok (.getfield 284, 3) := by decide +kernel
theorem dX9_fits_7 : decode cX9_fits 7 = .ok (.iload_n 1, 1) := by decide +kernel
theorem dX9_fits_8 : decode cX9_fits 8 = .ok (.invokevirtual 71, 3) := by decide +kernel
theorem dX9_fits_11 : decode cX9_fits 11 = .ok (.ifCond .ne 5, 3) := by decide +kernel
theorem dX9_fits_14 : decode cX9_fits 14 = .ok (.iconst (-1), 1) := by decide +kernel
theorem dX9_fits_15 : decode cX9_fits 15 = .ok (.ireturn, 1) := by decide +kernel
theorem dX9_fits_16 : decode cX9_fits 16 = .ok (.iconst 0, 1) := by decide +kernel
theorem dX9_fits_17 : decode cX9_fits 17 = .ok (.istore_n 2, 1) := by decide +kernel
theorem dX9_fits_18 : decode cX9_fits 18 = .ok (.iconst 0, 1) := by decide +kernel
theorem dX9_fits_19 : decode cX9_fits 19 = .ok (.istore_n 3, 1) := by decide +kernel
theorem dX9_fits_20 : decode cX9_fits 20 = .ok (.iload_n 3, 1) := by decide +kernel
theorem dX9_fits_21 : decode cX9_fits 21 = .ok (.aload_n 0, 1) := by decide +kernel
theorem dX9_fits_22 : decode cX9_fits 22 = .ok (.getfield 51, 3) := by decide +kernel
theorem dX9_fits_25 : decode cX9_fits 25 = .ok (.getfield 293, 3) := by decide +kernel
theorem dX9_fits_28 : decode cX9_fits 28 = .ok (.getfield 136, 3) := by decide +kernel
theorem dX9_fits_31 : decode cX9_fits 31 = .ok (.if_icmp .ge 26, 3) := by decide +kernel
theorem dX9_fits_34 : decode cX9_fits 34 = .ok (.iload_n 2, 1) := by decide +kernel
theorem dX9_fits_35 : decode cX9_fits 35 = .ok (.aload_n 0, 1) := by decide +kernel
theorem dX9_fits_36 : decode cX9_fits 36 = .ok (.iload_n 1, 1) := by decide +kernel
theorem dX9_fits_37 : decode cX9_fits 37 = .ok (.iload_n 3, 1) := by decide +kernel
theorem dX9_fits_38 : decode cX9_fits 38 = .ok (.invokevirtual 296, 3) := by decide +kernel
theorem dX9_fits_41 : decode cX9_fits 41 = .ok (.ifCond .eq 7, 3) := by decide +kernel
theorem dX9_fits_44 : decode cX9_fits 44 = .ok (.iconst 1, 1) := by decide +kernel
theorem dX9_fits_45 : decode cX9_fits 45 = .ok (.goto 4, 3) := by decide +kernel
theorem dX9_fits_48 : decode cX9_fits 48 = .ok (.iconst 0, 1) := by decide +kernel
theorem dX9_fits_49 : decode cX9_fits 49 = .ok (.iadd, 1) := by decide +kernel
theorem dX9_fits_50 : decode cX9_fits 50 = .ok (.istore_n 2, 1) := by decide +kernel
theorem dX9_fits_51 : decode cX9_fits 51 = .ok (.iinc 3 1, 3) := by decide +kernel
theorem dX9_fits_54 : decode cX9_fits 54 = .ok (.goto (-34), 3) := by decide +kernel
theorem dX9_fits_57 : decode cX9_fits 57 = .ok (.iload_n 2, 1) := by decide +kernel
theorem dX9_fits_58 : decode cX9_fits 58 = .ok (.ireturn, 1) := by decide +kernel
theorem dX9_tried_0 : decode cX9_tried 0 = .ok (.iload_n 3, 1) := by decide +kernel
theorem dX9_tried_1 : decode cX9_tried 1 = .ok (.sipush 10000, 3) := by decide +kernel
theorem dX9_tried_4 : decode cX9_tried 4 = .ok (.idiv, 1) := by decide +kernel
theorem dX9_tried_5 : decode cX9_tried 5 = .ok (.istore 4, 2) := by decide +kernel
theorem dX9_tried_7 : decode cX9_tried 7 = .ok (.iload_n 3, 1) := by decide +kernel
theorem dX9_tried_8 : decode cX9_tried 8 = .ok (.sipush 10000, 3) := by decide +kernel
theorem dX9_tried_11 : decode cX9_tried 11 = .ok (.irem, 1) := by decide +kernel
theorem dX9_tried_12 : decode cX9_tried 12 = .ok (.istore 5, 2) := by decide +kernel
theorem dX9_tried_14 : decode cX9_tried 14 = .ok (.iload_n 1, 1) := by decide +kernel
theorem dX9_tried_15 : decode cX9_tried 15 = .ok (.iconst (-1), 1) := by decide +kernel
theorem dX9_tried_16 : decode cX9_tried 16 = .ok (.if_icmp .eq 15, 3) := by decide +kernel
theorem dX9_tried_19 : decode cX9_tried 19 = .ok (.aload_n 0, 1) := by decide +kernel
theorem dX9_tried_20 : decode cX9_tried 20 = .ok (.getfield 30, 3) := by decide +kernel
theorem dX9_tried_23 : decode cX9_tried 23 = .ok (.iload_n 1, 1) := by decide +kernel
theorem dX9_tried_24 : decode cX9_tried 24 = .ok (.iconst 0, 1) := by decide +kernel
theorem dX9_tried_25 : decode cX9_tried 25 = .ok (.invokevirtual 299, 3) := by decide +kernel
theorem dX9_tried_28 : decode cX9_tried 28 = .ok (.ifCond .eq 20, 3) := by decide +kernel
theorem dX9_tried_31 : decode cX9_tried 31 = .ok (.iload_n 2, 1) := by decide +kernel
theorem dX9_tried_32 : decode cX9_tried 32 = .ok (.iconst (-1), 1) := by decide +kernel
theorem dX9_tried_33 : decode cX9_tried 33 = .ok (.if_icmp .eq 17, 3) := by decide +kernel
theorem dX9_tried_36 : decode cX9_tried 36 = .ok (.aload_n 0, 1) := by decide +kernel
theorem dX9_tried_37 : decode cX9_tried 37 = .ok (.getfield 30, 3) := by decide +kernel
theorem dX9_tried_40 : decode cX9_tried 40 = .ok (.iload_n 2, 1) := by decide +kernel
theorem dX9_tried_41 : decode cX9_tried 41 = .ok (.iconst 1, 1) := by decide +kernel
theorem dX9_tried_42 : decode cX9_tried 42 = .ok (.invokevirtual 299, 3) := by decide +kernel
theorem dX9_tried_45 : decode cX9_tried 45 = .ok (.ifCond .ne 5, 3) := by decide +kernel
theorem dX9_tried_48 : decode cX9_tried 48 = .ok (.iconst (-1), 1) := by decide +kernel
theorem dX9_tried_49 : decode cX9_tried 49 = .ok (.ireturn, 1) := by decide +kernel
theorem dX9_tried_50 : decode cX9_tried 50 = .ok (.iload_n 3, 1) := by decide +kernel
theorem dX9_tried_51 : decode cX9_tried 51 = .ok (.ifCond .lt 10, 3) := by decide +kernel
theorem dX9_tried_54 : decode cX9_tried 54 = .ok (.iload 4, 2) := by decide +kernel
theorem dX9_tried_56 : decode cX9_tried 56 = .ok (.iload 5, 2) := by decide +kernel
theorem dX9_tried_58 : decode cX9_tried 58 = .ok (.if_icmp .le 5, 3) := by decide +kernel
theorem dX9_tried_61 : decode cX9_tried 61 = .ok (.iconst (-1), 1) := by decide +kernel
theorem dX9_tried_62 : decode cX9_tried 62 = .ok (.ireturn, 1) := by decide +kernel
theorem dX9_tried_63 : decode cX9_tried 63 = .ok (.lconst 0, 1) := by decide +kernel
theorem dX9_tried_64 : decode cX9_tried 64 = .ok (.lstore 6, 2) := by decide +kernel
theorem dX9_tried_66 : decode cX9_tried 66 = .ok (.iconst 0, 1) := by decide +kernel
theorem dX9_tried_67 : decode cX9_tried 67 = .ok (.istore 8, 2) := by decide +kernel
theorem dX9_tried_69 : decode cX9_tried 69 = .ok (.iload 8, 2) := by decide +kernel
theorem dX9_tried_71 : decode cX9_tried 71 = .ok (.aload_n 0, 1) := by decide +kernel
theorem dX9_tried_72 : decode cX9_tried 72 = .ok (.getfield 37, 3) := by decide +kernel
theorem dX9_tried_75 : decode cX9_tried 75 = .ok (.getfield 215, 3) := by decide +kernel
theorem dX9_tried_78 : decode cX9_tried 78 = .ok (.getfield 136, 3) := by decide +kernel
theorem dX9_tried_81 : decode cX9_tried 81 = .ok (.if_icmp .ge 73, 3) := by decide +kernel
theorem dX9_tried_84 : decode cX9_tried 84 = .ok (.aload_n 0, 1) := by decide +kernel
theorem dX9_tried_85 : decode cX9_tried 85 = .ok (.iload 8, 2) := by decide +kernel
theorem dX9_tried_87 : decode cX9_tried 87 = .ok (.invokevirtual 302, 3) := by decide +kernel
theorem dX9_tried_90 : decode cX9_tried 90 = .ok (.istore 9, 2) := by decide +kernel
theorem dX9_tried_92 : decode cX9_tried 92 = .ok (.iload 9, 2) := by decide +kernel
theorem dX9_tried_94 : decode cX9_tried 94 = .ok (.iload 4, 2) := by decide +kernel
theorem dX9_tried_96 : decode cX9_tried 96 = .ok (.if_icmp .lt 52, 3) := by decide +kernel
theorem dX9_tried_99 : decode cX9_tried 99 = .ok (.iload 9, 2) := by decide +kernel
theorem dX9_tried_101 : decode cX9_tried 101 = .ok (.iload 5, 2) := by decide +kernel
theorem dX9_tried_103 : decode cX9_tried 103 = .ok (.if_icmp .gt 45, 3) := by decide +kernel
theorem dX9_tried_106 : decode cX9_tried 106 = .ok (.aload_n 0, 1) := by decide +kernel
theorem dX9_tried_107 : decode cX9_tried 107 = .ok (.aload_n 0, 1) := by decide +kernel
theorem dX9_tried_108 : decode cX9_tried 108 = .ok (.getfield 37, 3) := by decide +kernel
theorem dX9_tried_111 : decode cX9_tried 111 = .ok (.getfield 215, 3) := by decide +kernel
theorem dX9_tried_114 : decode cX9_tried 114 = .ok (.iload 8, 2) := by decide +kernel
theorem dX9_tried_116 : decode cX9_tried 116 = .ok (.invokevirtual 305, 3) := by decide +kernel
theorem dX9_tried_119 : decode cX9_tried 119 = .ok (.lload 6, 2) := by decide +kernel
theorem dX9_tried_121 : decode cX9_tried 121 = .ok (.iconst 0, 1) := by decide +kernel
theorem dX9_tried_122 : decode cX9_tried 122 = .ok (.aload_n 0, 1) := by decide +kernel
theorem dX9_tried_123 : decode cX9_tried 123 = .ok (.getfield 30, 3) := by decide +kernel
theorem dX9_tried_126 : decode cX9_tried 126 = .ok (.iload_n 1, 1) := by decide +kernel
theorem dX9_tried_127 : decode cX9_tried 127 = .ok (.invokevirtual 309, 3) := by decide +kernel
theorem dX9_tried_130 : decode cX9_tried 130 = .ok (.aload_n 0, 1) := by decide +kernel
theorem dX9_tried_131 : decode cX9_tried 131 = .ok (.getfield 30, 3) := by decide +kernel
theorem dX9_tried_134 : decode cX9_tried 134 = .ok (.iload_n 2, 1) := by decide +kernel
theorem dX9_tried_135 : decode cX9_tried 135 = .ok (.invokevirtual 309, 3) := by decide +kernel
theorem dX9_tried_138 : decode cX9_tried 138 = .ok (.invokestatic 312, 3) := by decide +kernel
theorem dX9_tried_141 : decode cX9_tried 141 = .ok (.invokestatic 315, 3) := by decide +kernel
theorem dX9_tried_144 : decode cX9_tried 144 = .ok (.i2l, 1) := by decide +kernel
theorem dX9_tried_145 : decode cX9_tried 145 = .ok (.ladd, 1) := by decide +kernel
theorem dX9_tried_146 : decode cX9_tried 146 = .ok (.lstore 6, 2) := by decide +kernel
theorem dX9_tried_148 : decode cX9_tried 148 = .ok (.iinc 8 1, 3) := by decide +kernel
theorem dX9_tried_151 : decode cX9_tried 151 = .ok (.goto (-82), 3) := by decide +kernel
theorem dX9_tried_154 : decode cX9_tried 154 = .ok (.lload 6, 2) := by decide +kernel
theorem dX9_tried_156 : decode cX9_tried 156 = .ok (.ldc2_w 320, 3) := by decide +kernel
theorem dX9_tried_159 : decode cX9_tried 159 = .ok (.invokestatic 322, 3) := by decide +kernel
theorem dX9_tried_162 : decode cX9_tried 162 = .ok (.l2i, 1) := by decide +kernel
theorem dX9_tried_163 : decode cX9_tried 163 = .ok (.ireturn, 1) := by decide +kernel
theorem dX9_count_0 : decode cX9_count 0 = .ok (.iload_n 1, 1) := by decide +kernel
theorem dX9_count_1 : decode cX9_count 1 = .ok (.tableswitch 198 0 12 #[67, 75, 86, 97, 108, 116, 127, 138, 149, 154, 165, 176, 187], 67) := by decide +kernel
theorem dX9_count_68 : decode cX9_count 68 = .ok (.aload_n 0, 1) := by decide +kernel
theorem dX9_count_69 : decode cX9_count 69 = .ok (.getfield 16, 3) := by decide +kernel
theorem dX9_count_72 : decode cX9_count 72 = .ok (.getfield 326, 3) := by decide +kernel
theorem dX9_count_75 : decode cX9_count 75 = .ok (.ireturn, 1) := by decide +kernel
theorem dX9_count_76 : decode cX9_count 76 = .ok (.aload_n 0, 1) := by decide +kernel
theorem dX9_count_77 : decode cX9_count 77 = .ok (.getfield 16, 3) := by decide +kernel
theorem dX9_count_80 : decode cX9_count 80 = .ok (.getfield 67, 3) := by decide +kernel
theorem dX9_count_83 : decode cX9_count 83 = .ok (.getfield 136, 3) := by decide +kernel
theorem dX9_count_86 : decode cX9_count 86 = .ok (.ireturn, 1) := by decide +kernel
theorem dX9_count_87 : decode cX9_count 87 = .ok (.aload_n 0, 1) := by decide +kernel
theorem dX9_count_88 : decode cX9_count 88 = .ok (.getfield 23, 3) := by decide +kernel
theorem dX9_count_91 : decode cX9_count 91 = .ok (.getfield 112, 3) := by decide +kernel
theorem dX9_count_94 : decode cX9_count 94 = .ok (.getfield 136, 3) := by decide +kernel
theorem dX9_count_97 : decode cX9_count 97 = .ok (.ireturn, 1) := by decide +kernel
theorem dX9_count_98 : decode cX9_count 98 = .ok (.aload_n 0, 1) := by decide +kernel
theorem dX9_count_99 : decode cX9_count 99 = .ok (.getfield 23, 3) := by decide +kernel
theorem dX9_count_102 : decode cX9_count 102 = .ok (.getfield 133, 3) := by decide +kernel
theorem dX9_count_105 : decode cX9_count 105 = .ok (.getfield 136, 3) := by decide +kernel
theorem dX9_count_108 : decode cX9_count 108 = .ok (.ireturn, 1) := by decide +kernel
theorem dX9_count_109 : decode cX9_count 109 = .ok (.aload_n 0, 1) := by decide +kernel
theorem dX9_count_110 : decode cX9_count 110 = .ok (.getfield 30, 3) := by decide +kernel
theorem dX9_count_113 : decode cX9_count 113 = .ok (.getfield 329, 3) := by decide +kernel
theorem dX9_count_116 : decode cX9_count 116 = .ok (.ireturn, 1) := by decide +kernel
theorem dX9_count_117 : decode cX9_count 117 = .ok (.aload_n 0, 1) := by decide +kernel
theorem dX9_count_118 : decode cX9_count 118 = .ok (.getfield 37, 3) := by decide +kernel
theorem dX9_count_121 : decode cX9_count 121 = .ok (.getfield 215, 3) := by decide +kernel
theorem dX9_count_124 : decode cX9_count 124 = .ok (.getfield 136, 3) := by decide +kernel
theorem dX9_count_127 : decode cX9_count 127 = .ok (.ireturn, 1) := by decide +kernel
theorem dX9_count_128 : decode cX9_count 128 = .ok (.aload_n 0, 1) := by decide +kernel
theorem dX9_count_129 : decode cX9_count 129 = .ok (.getfield 37, 3) := by decide +kernel
theorem dX9_count_132 : decode cX9_count 132 = .ok (.getfield 255, 3) := by decide +kernel
theorem dX9_count_135 : decode cX9_count 135 = .ok (.getfield 136, 3) := by decide +kernel
theorem dX9_count_138 : decode cX9_count 138 = .ok (.ireturn, 1) := by decide +kernel
theorem dX9_count_139 : decode cX9_count 139 = .ok (.aload_n 0, 1) := by decide +kernel
theorem dX9_count_140 : decode cX9_count 140 = .ok (.getfield 44, 3) := by decide +kernel
theorem dX9_count_143 : decode cX9_count 143 = .ok (.getfield 265, 3) := by decide +kernel
theorem dX9_count_146 : decode cX9_count 146 = .ok (.getfield 136, 3) := by decide +kernel
theorem dX9_count_149 : decode cX9_count 149 = .ok (.ireturn, 1) := by decide +kernel
theorem dX9_count_150 : decode cX9_count 150 = .ok (.aload_n 0, 1) := by decide +kernel
theorem dX9_count_151 : decode cX9_count 151 = .ok (.getfield 7, 3) := by decide +kernel
theorem dX9_count_154 : decode cX9_count 154 = .ok (.ireturn, 1) := by decide +kernel
theorem dX9_count_155 : decode cX9_count 155 = .ok (.aload_n 0, 1) := by decide +kernel
theorem dX9_count_156 : decode cX9_count 156 = .ok (.getfield 30, 3) := by decide +kernel
theorem dX9_count_159 : decode cX9_count 159 = .ok (.getfield 172, 3) := by decide +kernel
theorem dX9_count_162 : decode cX9_count 162 = .ok (.getfield 332, 3) := by decide +kernel
theorem dX9_count_165 : decode cX9_count 165 = .ok (.ireturn, 1) := by decide +kernel
theorem dX9_count_166 : decode cX9_count 166 = .ok (.aload_n 0, 1) := by decide +kernel
theorem dX9_count_167 : decode cX9_count 167 = .ok (.getfield 51, 3) := by decide +kernel
theorem dX9_count_170 : decode cX9_count 170 = .ok (.getfield 284, 3) := by decide +kernel
theorem dX9_count_173 : decode cX9_count 173 = .ok (.getfield 136, 3) := by decide +kernel
theorem dX9_count_176 : decode cX9_count 176 = .ok (.ireturn, 1) := by decide +kernel
theorem dX9_count_177 : decode cX9_count 177 = .ok (.aload_n 0, 1) := by decide +kernel
theorem dX9_count_178 : decode cX9_count 178 = .ok (.getfield 51, 3) := by decide +kernel
theorem dX9_count_181 : decode cX9_count 181 = .ok (.getfield 293, 3) := by decide +kernel
theorem dX9_count_184 : decode cX9_count 184 = .ok (.getfield 136, 3) := by decide +kernel
theorem dX9_count_187 : decode cX9_count 187 = .ok (.ireturn, 1) := by decide +kernel
theorem dX9_count_188 : decode cX9_count 188 = .ok (.aload_n 0, 1) := by decide +kernel
theorem dX9_count_189 : decode cX9_count 189 = .ok (.getfield 23, 3) := by decide +kernel
theorem dX9_count_192 : decode cX9_count 192 = .ok (.getfield 335, 3) := by decide +kernel
theorem dX9_count_195 : decode cX9_count 195 = .ok (.getfield 136, 3) := by decide +kernel
theorem dX9_count_198 : decode cX9_count 198 = .ok (.ireturn, 1) := by decide +kernel
theorem dX9_count_199 : decode cX9_count 199 = .ok (.iconst (-1), 1) := by decide +kernel
theorem dX9_count_200 : decode cX9_count 200 = .ok (.ireturn, 1) := by decide +kernel
theorem dX9_isMinute_0 : decode cX9_isMinute 0 = .ok (.iload_n 0, 1) := by decide +kernel
theorem dX9_isMinute_1 : decode cX9_isMinute 1 = .ok (.ifCond .lt 13, 3) := by decide +kernel
theorem dX9_isMinute_4 : decode cX9_isMinute 4 = .ok (.iload_n 0, 1) := by decide +kernel
theorem dX9_isMinute_5 : decode cX9_isMinute 5 = .ok (.ldc 76, 2) := by decide +kernel
theorem dX9_isMinute_7 : decode cX9_isMinute 7 = .ok (.if_icmp .ge 7, 3) := by decide +kernel
theorem dX9_isMinute_10 : decode cX9_isMinute 10 = .ok (.iconst 1, 1) := by decide +kernel
theorem dX9_isMinute_11 : decode cX9_isMinute 11 = .ok (.goto 4, 3) := by decide +kernel
theorem dX9_isMinute_14 : decode cX9_isMinute 14 = .ok (.iconst 0, 1) := by decide +kernel
theorem dX9_isMinute_15 : decode cX9_isMinute 15 = .ok (.ireturn, 1) := by decide +kernel
theorem dX9_isDay_0 : decode cX9_isDay 0 = .ok (.iload_n 0, 1) := by decide +kernel
theorem dX9_isDay_1 : decode cX9_isDay 1 = .ok (.ifCond .lt 14, 3) := by decide +kernel
theorem dX9_isDay_4 : decode cX9_isDay 4 = .ok (.iload_n 0, 1) := by decide +kernel
theorem dX9_isDay_5 : decode cX9_isDay 5 = .ok (.sipush 10000, 3) := by decide +kernel
theorem dX9_isDay_8 : decode cX9_isDay 8 = .ok (.if_icmp .ge 7, 3) := by decide +kernel
theorem dX9_isDay_11 : decode cX9_isDay 11 = .ok (.iconst 1, 1) := by decide +kernel
theorem dX9_isDay_12 : decode cX9_isDay 12 = .ok (.goto 4, 3) := by decide +kernel
theorem dX9_isDay_15 : decode cX9_isDay 15 = .ok (.iconst 0, 1) := by decide +kernel
theorem dX9_isDay_16 : decode cX9_isDay 16 = .ok (.ireturn, 1) := by decide +kernel
theorem dX9_timeOf_0 : decode cX9_timeOf 0 = .ok (.iload_n 0, 1) := by decide +kernel
theorem dX9_timeOf_1 : decode cX9_timeOf 1 = .ok (.bipush 110, 2) := by decide +kernel
theorem dX9_timeOf_3 : decode cX9_timeOf 3 = .ok (.iadd, 1) := by decide +kernel
theorem dX9_timeOf_4 : decode cX9_timeOf 4 = .ok (.iconst 1, 1) := by decide +kernel
theorem dX9_timeOf_5 : decode cX9_timeOf 5 = .ok (.isub, 1) := by decide +kernel
theorem dX9_timeOf_6 : decode cX9_timeOf 6 = .ok (.bipush 110, 2) := by decide +kernel
theorem dX9_timeOf_8 : decode cX9_timeOf 8 = .ok (.idiv, 1) := by decide +kernel
theorem dX9_timeOf_9 : decode cX9_timeOf 9 = .ok (.ireturn, 1) := by decide +kernel
theorem dX9_today_0 : decode cX9_today 0 = .ok (.aload_n 0, 1) := by decide +kernel
theorem dX9_today_1 : decode cX9_today 1 = .ok (.getfield 7, 3) := by decide +kernel
theorem dX9_today_4 : decode cX9_today 4 = .ok (.sipush 1440, 3) := by decide +kernel
theorem dX9_today_7 : decode cX9_today 7 = .ok (.idiv, 1) := by decide +kernel
theorem dX9_today_8 : decode cX9_today 8 = .ok (.ireturn, 1) := by decide +kernel
theorem dX9_thisYear_0 : decode cX9_thisYear 0 = .ok (.aload_n 0, 1) := by decide +kernel
theorem dX9_thisYear_1 : decode cX9_thisYear 1 = .ok (.invokevirtual 121, 3) := by decide +kernel
theorem dX9_thisYear_4 : decode cX9_thisYear 4 = .ok (.sipush 360, 3) := by decide +kernel
theorem dX9_thisYear_7 : decode cX9_thisYear 7 = .ok (.idiv, 1) := by decide +kernel
theorem dX9_thisYear_8 : decode cX9_thisYear 8 = .ok (.ireturn, 1) := by decide +kernel
theorem dX9_dayOf_0 : decode cX9_dayOf 0 = .ok (.aload_n 0, 1) := by decide +kernel
theorem dX9_dayOf_1 : decode cX9_dayOf 1 = .ok (.getfield 37, 3) := by decide +kernel
theorem dX9_dayOf_4 : decode cX9_dayOf 4 = .ok (.getfield 215, 3) := by decide +kernel
theorem dX9_dayOf_7 : decode cX9_dayOf 7 = .ok (.iload_n 1, 1) := by decide +kernel
theorem dX9_dayOf_8 : decode cX9_dayOf 8 = .ok (.iconst 3, 1) := by decide +kernel
theorem dX9_dayOf_9 : decode cX9_dayOf 9 = .ok (.invokevirtual 124, 3) := by decide +kernel
theorem dX9_dayOf_12 : decode cX9_dayOf 12 = .ok (.sipush 1440, 3) := by decide +kernel
theorem dX9_dayOf_15 : decode cX9_dayOf 15 = .ok (.idiv, 1) := by decide +kernel
theorem dX9_dayOf_16 : decode cX9_dayOf 16 = .ok (.ireturn, 1) := by decide +kernel
theorem dX9_passTo_0 : decode cX9_passTo 0 = .ok (.aload_n 0, 1) := by decide +kernel
theorem dX9_passTo_1 : decode cX9_passTo 1 = .ok (.getfield 23, 3) := by decide +kernel
theorem dX9_passTo_4 : decode cX9_passTo 4 = .ok (.iload_n 1, 1) := by decide +kernel
theorem dX9_passTo_5 : decode cX9_passTo 5 = .ok (.aload_n 0, 1) := by decide +kernel
theorem dX9_passTo_6 : decode cX9_passTo 6 = .ok (.getfield 7, 3) := by decide +kernel
theorem dX9_passTo_9 : decode cX9_passTo 9 = .ok (.isub, 1) := by decide +kernel
theorem dX9_passTo_10 : decode cX9_passTo 10 = .ok (.invokevirtual 338, 3) := by decide +kernel
theorem dX9_passTo_13 : decode cX9_passTo 13 = .ok (.aload_n 0, 1) := by decide +kernel
theorem dX9_passTo_14 : decode cX9_passTo 14 = .ok (.iload_n 1, 1) := by decide +kernel
theorem dX9_passTo_15 : decode cX9_passTo 15 = .ok (.putfield 7, 3) := by decide +kernel
theorem dX9_passTo_18 : decode cX9_passTo 18 = .ok (.return_, 1) := by decide +kernel
theorem dX9_isLoad_0 : decode cX9_isLoad 0 = .ok (.iload_n 0, 1) := by decide +kernel
theorem dX9_isLoad_1 : decode cX9_isLoad 1 = .ok (.iconst 1, 1) := by decide +kernel
theorem dX9_isLoad_2 : decode cX9_isLoad 2 = .ok (.if_icmp .lt 24, 3) := by decide +kernel
theorem dX9_isLoad_5 : decode cX9_isLoad 5 = .ok (.iload_n 0, 1) := by decide +kernel
theorem dX9_isLoad_6 : decode cX9_isLoad 6 = .ok (.bipush 6, 2) := by decide +kernel
theorem dX9_isLoad_8 : decode cX9_isLoad 8 = .ok (.if_icmp .gt 18, 3) := by decide +kernel
theorem dX9_isLoad_11 : decode cX9_isLoad 11 = .ok (.iload_n 1, 1) := by decide +kernel
theorem dX9_isLoad_12 : decode cX9_isLoad 12 = .ok (.ifCond .lt 14, 3) := by decide +kernel
theorem dX9_isLoad_15 : decode cX9_isLoad 15 = .ok (.iload_n 1, 1) := by decide +kernel
theorem dX9_isLoad_16 : decode cX9_isLoad 16 = .ok (.sipush 240, 3) := by decide +kernel
theorem dX9_isLoad_19 : decode cX9_isLoad 19 = .ok (.if_icmp .gt 7, 3) := by decide +kernel
theorem dX9_isLoad_22 : decode cX9_isLoad 22 = .ok (.iconst 1, 1) := by decide +kernel
theorem dX9_isLoad_23 : decode cX9_isLoad 23 = .ok (.goto 4, 3) := by decide +kernel
theorem dX9_isLoad_26 : decode cX9_isLoad 26 = .ok (.iconst 0, 1) := by decide +kernel
theorem dX9_isLoad_27 : decode cX9_isLoad 27 = .ok (.ireturn, 1) := by decide +kernel
theorem dX9_isOrder_0 : decode cX9_isOrder 0 = .ok (.aload_n 0, 1) := by decide +kernel
theorem dX9_isOrder_1 : decode cX9_isOrder 1 = .ok (.getfield 16, 3) := by decide +kernel
theorem dX9_isOrder_4 : decode cX9_isOrder 4 = .ok (.iload_n 1, 1) := by decide +kernel
theorem dX9_isOrder_5 : decode cX9_isOrder 5 = .ok (.invokevirtual 59, 3) := by decide +kernel
theorem dX9_isOrder_8 : decode cX9_isOrder 8 = .ok (.ifCond .eq 39, 3) := by decide +kernel
theorem dX9_isOrder_11 : decode cX9_isOrder 11 = .ok (.aload_n 0, 1) := by decide +kernel
theorem dX9_isOrder_12 : decode cX9_isOrder 12 = .ok (.getfield 16, 3) := by decide +kernel
theorem dX9_isOrder_15 : decode cX9_isOrder 15 = .ok (.iload_n 2, 1) := by decide +kernel
theorem dX9_isOrder_16 : decode cX9_isOrder 16 = .ok (.invokevirtual 59, 3) := by decide +kernel
theorem dX9_isOrder_19 : decode cX9_isOrder 19 = .ok (.ifCond .eq 28, 3) := by decide +kernel
theorem dX9_isOrder_22 : decode cX9_isOrder 22 = .ok (.iload_n 1, 1) := by decide +kernel
theorem dX9_isOrder_23 : decode cX9_isOrder 23 = .ok (.iload_n 2, 1) := by decide +kernel
theorem dX9_isOrder_24 : decode cX9_isOrder 24 = .ok (.if_icmp .eq 23, 3) := by decide +kernel
theorem dX9_isOrder_27 : decode cX9_isOrder 27 = .ok (.iload_n 3, 1) := by decide +kernel
theorem dX9_isOrder_28 : decode cX9_isOrder 28 = .ok (.sipush 1000, 3) := by decide +kernel
theorem dX9_isOrder_31 : decode cX9_isOrder 31 = .ok (.idiv, 1) := by decide +kernel
theorem dX9_isOrder_32 : decode cX9_isOrder 32 = .ok (.iload_n 3, 1) := by decide +kernel
theorem dX9_isOrder_33 : decode cX9_isOrder 33 = .ok (.sipush 1000, 3) := by decide +kernel
theorem dX9_isOrder_36 : decode cX9_isOrder 36 = .ok (.irem, 1) := by decide +kernel
theorem dX9_isOrder_37 : decode cX9_isOrder 37 = .ok (.invokestatic 341, 3) := by decide +kernel
theorem dX9_isOrder_40 : decode cX9_isOrder 40 = .ok (.ifCond .eq 7, 3) := by decide +kernel
theorem dX9_isOrder_43 : decode cX9_isOrder 43 = .ok (.iconst 1, 1) := by decide +kernel
theorem dX9_isOrder_44 : decode cX9_isOrder 44 = .ok (.goto 4, 3) := by decide +kernel
theorem dX9_isOrder_47 : decode cX9_isOrder 47 = .ok (.iconst 0, 1) := by decide +kernel
theorem dX9_isOrder_48 : decode cX9_isOrder 48 = .ok (.ireturn, 1) := by decide +kernel
theorem dX9_draftTrip_0 : decode cX9_draftTrip 0 = .ok (.aload_n 0, 1) := by decide +kernel
theorem dX9_draftTrip_1 : decode cX9_draftTrip 1 = .ok (.getfield 16, 3) := by decide +kernel
theorem dX9_draftTrip_4 : decode cX9_draftTrip 4 = .ok (.iload_n 1, 1) := by decide +kernel
theorem dX9_draftTrip_5 : decode cX9_draftTrip 5 = .ok (.aload_n 0, 1) := by decide +kernel
theorem dX9_draftTrip_6 : decode cX9_draftTrip 6 = .ok (.getfield 7, 3) := by decide +kernel
theorem dX9_draftTrip_9 : decode cX9_draftTrip 9 = .ok (.invokevirtual 88, 3) := by decide +kernel
theorem dX9_draftTrip_12 : decode cX9_draftTrip 12 = .ok (.aload_n 0, 1) := by decide +kernel
theorem dX9_draftTrip_13 : decode cX9_draftTrip 13 = .ok (.getfield 16, 3) := by decide +kernel
theorem dX9_draftTrip_16 : decode cX9_draftTrip 16 = .ok (.iload_n 2, 1) := by decide +kernel
theorem dX9_draftTrip_17 : decode cX9_draftTrip 17 = .ok (.invokevirtual 92, 3) := by decide +kernel
theorem dX9_draftTrip_20 : decode cX9_draftTrip 20 = .ok (.istore 4, 2) := by decide +kernel
theorem dX9_draftTrip_22 : decode cX9_draftTrip 22 = .ok (.iload 4, 2) := by decide +kernel
theorem dX9_draftTrip_24 : decode cX9_draftTrip 24 = .ok (.ifCond .ge 5, 3) := by decide +kernel
theorem dX9_draftTrip_27 : decode cX9_draftTrip 27 = .ok (.iconst 0, 1) := by decide +kernel
theorem dX9_draftTrip_28 : decode cX9_draftTrip 28 = .ok (.ireturn, 1) := by decide +kernel
theorem dX9_draftTrip_29 : decode cX9_draftTrip 29 = .ok (.aload_n 0, 1) := by decide +kernel
theorem dX9_draftTrip_30 : decode cX9_draftTrip 30 = .ok (.getfield 37, 3) := by decide +kernel
theorem dX9_draftTrip_33 : decode cX9_draftTrip 33 = .ok (.getfield 344, 3) := by decide +kernel
theorem dX9_draftTrip_36 : decode cX9_draftTrip 36 = .ok (.iconst 0, 1) := by decide +kernel
theorem dX9_draftTrip_37 : decode cX9_draftTrip 37 = .ok (.iconst 1, 1) := by decide +kernel
theorem dX9_draftTrip_38 : decode cX9_draftTrip 38 = .ok (.iload_n 1, 1) := by decide +kernel
theorem dX9_draftTrip_39 : decode cX9_draftTrip 39 = .ok (.invokevirtual 127, 3) := by decide +kernel
theorem dX9_draftTrip_42 : decode cX9_draftTrip 42 = .ok (.aload_n 0, 1) := by decide +kernel
theorem dX9_draftTrip_43 : decode cX9_draftTrip 43 = .ok (.getfield 37, 3) := by decide +kernel
theorem dX9_draftTrip_46 : decode cX9_draftTrip 46 = .ok (.getfield 344, 3) := by decide +kernel
theorem dX9_draftTrip_49 : decode cX9_draftTrip 49 = .ok (.iconst 0, 1) := by decide +kernel
theorem dX9_draftTrip_50 : decode cX9_draftTrip 50 = .ok (.iconst 2, 1) := by decide +kernel
theorem dX9_draftTrip_51 : decode cX9_draftTrip 51 = .ok (.iload_n 2, 1) := by decide +kernel
theorem dX9_draftTrip_52 : decode cX9_draftTrip 52 = .ok (.invokevirtual 127, 3) := by decide +kernel
theorem dX9_draftTrip_55 : decode cX9_draftTrip 55 = .ok (.aload_n 0, 1) := by decide +kernel
theorem dX9_draftTrip_56 : decode cX9_draftTrip 56 = .ok (.getfield 37, 3) := by decide +kernel
theorem dX9_draftTrip_59 : decode cX9_draftTrip 59 = .ok (.getfield 344, 3) := by decide +kernel
theorem dX9_draftTrip_62 : decode cX9_draftTrip 62 = .ok (.iconst 0, 1) := by decide +kernel
theorem dX9_draftTrip_63 : decode cX9_draftTrip 63 = .ok (.iconst 3, 1) := by decide +kernel
theorem dX9_draftTrip_64 : decode cX9_draftTrip 64 = .ok (.aload_n 0, 1) := by decide +kernel
theorem dX9_draftTrip_65 : decode cX9_draftTrip 65 = .ok (.getfield 7, 3) := by decide +kernel
theorem dX9_draftTrip_68 : decode cX9_draftTrip 68 = .ok (.invokevirtual 127, 3) := by decide +kernel
theorem dX9_draftTrip_71 : decode cX9_draftTrip 71 = .ok (.aload_n 0, 1) := by decide +kernel
theorem dX9_draftTrip_72 : decode cX9_draftTrip 72 = .ok (.getfield 37, 3) := by decide +kernel
theorem dX9_draftTrip_75 : decode cX9_draftTrip 75 = .ok (.getfield 344, 3) := by decide +kernel
theorem dX9_draftTrip_78 : decode cX9_draftTrip 78 = .ok (.iconst 0, 1) := by decide +kernel
theorem dX9_draftTrip_79 : decode cX9_draftTrip 79 = .ok (.bipush 6, 2) := by decide +kernel
theorem dX9_draftTrip_81 : decode cX9_draftTrip 81 = .ok (.iload 4, 2) := by decide +kernel
theorem dX9_draftTrip_83 : decode cX9_draftTrip 83 = .ok (.invokevirtual 127, 3) := by decide +kernel
theorem dX9_draftTrip_86 : decode cX9_draftTrip 86 = .ok (.aload_n 0, 1) := by decide +kernel
theorem dX9_draftTrip_87 : decode cX9_draftTrip 87 = .ok (.getfield 37, 3) := by decide +kernel
theorem dX9_draftTrip_90 : decode cX9_draftTrip 90 = .ok (.getfield 344, 3) := by decide +kernel
theorem dX9_draftTrip_93 : decode cX9_draftTrip 93 = .ok (.iconst 0, 1) := by decide +kernel
theorem dX9_draftTrip_94 : decode cX9_draftTrip 94 = .ok (.bipush 7, 2) := by decide +kernel
theorem dX9_draftTrip_96 : decode cX9_draftTrip 96 = .ok (.aload_n 0, 1) := by decide +kernel
theorem dX9_draftTrip_97 : decode cX9_draftTrip 97 = .ok (.getfield 16, 3) := by decide +kernel
theorem dX9_draftTrip_100 : decode cX9_draftTrip 100 = .ok (.iload_n 2, 1) := by decide +kernel
theorem dX9_draftTrip_101 : decode cX9_draftTrip 101 = .ok (.invokevirtual 347, 3) := by decide +kernel
theorem dX9_draftTrip_104 : decode cX9_draftTrip 104 = .ok (.invokevirtual 127, 3) := by decide +kernel
theorem dX9_draftTrip_107 : decode cX9_draftTrip 107 = .ok (.aload_n 0, 1) := by decide +kernel
theorem dX9_draftTrip_108 : decode cX9_draftTrip 108 = .ok (.getfield 37, 3) := by decide +kernel
theorem dX9_draftTrip_111 : decode cX9_draftTrip 111 = .ok (.getfield 344, 3) := by decide +kernel
theorem dX9_draftTrip_114 : decode cX9_draftTrip 114 = .ok (.iconst 0, 1) := by decide +kernel
theorem dX9_draftTrip_115 : decode cX9_draftTrip 115 = .ok (.bipush 8, 2) := by decide +kernel
theorem dX9_draftTrip_117 : decode cX9_draftTrip 117 = .ok (.iload_n 3, 1) := by decide +kernel
theorem dX9_draftTrip_118 : decode cX9_draftTrip 118 = .ok (.sipush 1000, 3) := by decide +kernel
theorem dX9_draftTrip_121 : decode cX9_draftTrip 121 = .ok (.idiv, 1) := by decide +kernel
theorem dX9_draftTrip_122 : decode cX9_draftTrip 122 = .ok (.invokevirtual 127, 3) := by decide +kernel
theorem dX9_draftTrip_125 : decode cX9_draftTrip 125 = .ok (.aload_n 0, 1) := by decide +kernel
theorem dX9_draftTrip_126 : decode cX9_draftTrip 126 = .ok (.getfield 37, 3) := by decide +kernel
theorem dX9_draftTrip_129 : decode cX9_draftTrip 129 = .ok (.getfield 344, 3) := by decide +kernel
theorem dX9_draftTrip_132 : decode cX9_draftTrip 132 = .ok (.iconst 0, 1) := by decide +kernel
theorem dX9_draftTrip_133 : decode cX9_draftTrip 133 = .ok (.bipush 9, 2) := by decide +kernel
theorem dX9_draftTrip_135 : decode cX9_draftTrip 135 = .ok (.iload_n 3, 1) := by decide +kernel
theorem dX9_draftTrip_136 : decode cX9_draftTrip 136 = .ok (.sipush 1000, 3) := by decide +kernel
theorem dX9_draftTrip_139 : decode cX9_draftTrip 139 = .ok (.irem, 1) := by decide +kernel
theorem dX9_draftTrip_140 : decode cX9_draftTrip 140 = .ok (.invokevirtual 127, 3) := by decide +kernel
theorem dX9_draftTrip_143 : decode cX9_draftTrip 143 = .ok (.aload_n 0, 1) := by decide +kernel
theorem dX9_draftTrip_144 : decode cX9_draftTrip 144 = .ok (.getfield 37, 3) := by decide +kernel
theorem dX9_draftTrip_147 : decode cX9_draftTrip 147 = .ok (.getfield 344, 3) := by decide +kernel
theorem dX9_draftTrip_150 : decode cX9_draftTrip 150 = .ok (.iconst 0, 1) := by decide +kernel
theorem dX9_draftTrip_151 : decode cX9_draftTrip 151 = .ok (.bipush 10, 2) := by decide +kernel
theorem dX9_draftTrip_153 : decode cX9_draftTrip 153 = .ok (.aload_n 0, 1) := by decide +kernel
theorem dX9_draftTrip_154 : decode cX9_draftTrip 154 = .ok (.getfield 16, 3) := by decide +kernel
theorem dX9_draftTrip_157 : decode cX9_draftTrip 157 = .ok (.aload_n 0, 1) := by decide +kernel
theorem dX9_draftTrip_158 : decode cX9_draftTrip 158 = .ok (.getfield 7, 3) := by decide +kernel
theorem dX9_draftTrip_161 : decode cX9_draftTrip 161 = .ok (.invokevirtual 102, 3) := by decide +kernel
theorem dX9_draftTrip_164 : decode cX9_draftTrip 164 = .ok (.invokevirtual 127, 3) := by decide +kernel
theorem dX9_draftTrip_167 : decode cX9_draftTrip 167 = .ok (.iconst 1, 1) := by decide +kernel
theorem dX9_draftTrip_168 : decode cX9_draftTrip 168 = .ok (.ireturn, 1) := by decide +kernel
theorem dX9_yardsToCaller_0 : decode cX9_yardsToCaller 0 = .ok (.aload_n 0, 1) := by decide +kernel
theorem dX9_yardsToCaller_1 : decode cX9_yardsToCaller 1 = .ok (.getfield 16, 3) := by decide +kernel
theorem dX9_yardsToCaller_4 : decode cX9_yardsToCaller 4 = .ok (.aload_n 0, 1) := by decide +kernel
theorem dX9_yardsToCaller_5 : decode cX9_yardsToCaller 5 = .ok (.getfield 23, 3) := by decide +kernel
theorem dX9_yardsToCaller_8 : decode cX9_yardsToCaller 8 = .ok (.getfield 133, 3) := by decide +kernel
theorem dX9_yardsToCaller_11 : decode cX9_yardsToCaller 11 = .ok (.iload_n 1, 1) := by decide +kernel
theorem dX9_yardsToCaller_12 : decode cX9_yardsToCaller 12 = .ok (.iconst 0, 1) := by decide +kernel
theorem dX9_yardsToCaller_13 : decode cX9_yardsToCaller 13 = .ok (.invokevirtual 124, 3) := by decide +kernel
theorem dX9_yardsToCaller_16 : decode cX9_yardsToCaller 16 = .ok (.invokevirtual 92, 3) := by decide +kernel
theorem dX9_yardsToCaller_19 : decode cX9_yardsToCaller 19 = .ok (.ireturn, 1) := by decide +kernel
theorem dX9_standAskedAfter_0 : decode cX9_standAskedAfter 0 = .ok (.iconst (-1), 1) := by decide +kernel
theorem dX9_standAskedAfter_1 : decode cX9_standAskedAfter 1 = .ok (.istore_n 2, 1) := by decide +kernel
theorem dX9_standAskedAfter_2 : decode cX9_standAskedAfter 2 = .ok (.iconst 0, 1) := by decide +kernel
theorem dX9_standAskedAfter_3 : decode cX9_standAskedAfter 3 = .ok (.istore_n 3, 1) := by decide +kernel
theorem dX9_standAskedAfter_4 : decode cX9_standAskedAfter 4 = .ok (.iload_n 3, 1) := by decide +kernel
theorem dX9_standAskedAfter_5 : decode cX9_standAskedAfter 5 = .ok (.aload_n 0, 1) := by decide +kernel
theorem dX9_standAskedAfter_6 : decode cX9_standAskedAfter 6 = .ok (.getfield 23, 3) := by decide +kernel
theorem dX9_standAskedAfter_9 : decode cX9_standAskedAfter 9 = .ok (.getfield 133, 3) := by decide +kernel
theorem dX9_standAskedAfter_12 : decode cX9_standAskedAfter 12 = .ok (.getfield 136, 3) := by decide +kernel
theorem dX9_standAskedAfter_15 : decode cX9_standAskedAfter 15 = .ok (.if_icmp .ge 57, 3) := by decide +kernel
theorem dX9_standAskedAfter_18 : decode cX9_standAskedAfter 18 = .ok (.aload_n 0, 1) := by decide +kernel
theorem dX9_standAskedAfter_19 : decode cX9_standAskedAfter 19 = .ok (.iload_n 3, 1) := by decide +kernel
theorem dX9_standAskedAfter_20 : decode cX9_standAskedAfter 20 = .ok (.invokevirtual 234, 3) := by decide +kernel
theorem dX9_standAskedAfter_23 : decode cX9_standAskedAfter 23 = .ok (.ifCond .lt 20, 3) := by decide +kernel
theorem dX9_standAskedAfter_26 : decode cX9_standAskedAfter 26 = .ok (.iload_n 1, 1) := by decide +kernel
theorem dX9_standAskedAfter_27 : decode cX9_standAskedAfter 27 = .ok (.ifCond .lt 12, 3) := by decide +kernel
theorem dX9_standAskedAfter_30 : decode cX9_standAskedAfter 30 = .ok (.aload_n 0, 1) := by decide +kernel
theorem dX9_standAskedAfter_31 : decode cX9_standAskedAfter 31 = .ok (.iload_n 3, 1) := by decide +kernel
theorem dX9_standAskedAfter_32 : decode cX9_standAskedAfter 32 = .ok (.iload_n 1, 1) := by decide +kernel
theorem dX9_standAskedAfter_33 : decode cX9_standAskedAfter 33 = .ok (.invokevirtual 350, 3) := by decide +kernel
theorem dX9_standAskedAfter_36 : decode cX9_standAskedAfter 36 = .ok (.ifCond .eq 7, 3) := by decide +kernel
theorem dX9_standAskedAfter_39 : decode cX9_standAskedAfter 39 = .ok (.iconst 1, 1) := by decide +kernel
theorem dX9_standAskedAfter_40 : decode cX9_standAskedAfter 40 = .ok (.goto 4, 3) := by decide +kernel
theorem dX9_standAskedAfter_43 : decode cX9_standAskedAfter 43 = .ok (.iconst 0, 1) := by decide +kernel
theorem dX9_standAskedAfter_44 : decode cX9_standAskedAfter 44 = .ok (.istore 4, 2) := by decide +kernel
theorem dX9_standAskedAfter_46 : decode cX9_standAskedAfter 46 = .ok (.iload 4, 2) := by decide +kernel
theorem dX9_standAskedAfter_48 : decode cX9_standAskedAfter 48 = .ok (.ifCond .eq 18, 3) := by decide +kernel
theorem dX9_standAskedAfter_51 : decode cX9_standAskedAfter 51 = .ok (.iload_n 2, 1) := by decide +kernel
theorem dX9_standAskedAfter_52 : decode cX9_standAskedAfter 52 = .ok (.ifCond .lt 12, 3) := by decide +kernel
theorem dX9_standAskedAfter_55 : decode cX9_standAskedAfter 55 = .ok (.aload_n 0, 1) := by decide +kernel
theorem dX9_standAskedAfter_56 : decode cX9_standAskedAfter 56 = .ok (.iload_n 2, 1) := by decide +kernel
theorem dX9_standAskedAfter_57 : decode cX9_standAskedAfter 57 = .ok (.iload_n 3, 1) := by decide +kernel
theorem dX9_standAskedAfter_58 : decode cX9_standAskedAfter 58 = .ok (.invokevirtual 350, 3) := by decide +kernel
theorem dX9_standAskedAfter_61 : decode cX9_standAskedAfter 61 = .ok (.ifCond .eq 5, 3) := by decide +kernel
theorem dX9_standAskedAfter_64 : decode cX9_standAskedAfter 64 = .ok (.iload_n 3, 1) := by decide +kernel
theorem dX9_standAskedAfter_65 : decode cX9_standAskedAfter 65 = .ok (.istore_n 2, 1) := by decide +kernel
theorem dX9_standAskedAfter_66 : decode cX9_standAskedAfter 66 = .ok (.iinc 3 1, 3) := by decide +kernel
theorem dX9_standAskedAfter_69 : decode cX9_standAskedAfter 69 = .ok (.goto (-65), 3) := by decide +kernel
theorem dX9_standAskedAfter_72 : decode cX9_standAskedAfter 72 = .ok (.iload_n 2, 1) := by decide +kernel
theorem dX9_standAskedAfter_73 : decode cX9_standAskedAfter 73 = .ok (.ireturn, 1) := by decide +kernel
theorem dX9_isAskedAfter_0 : decode cX9_isAskedAfter 0 = .ok (.aload_n 0, 1) := by decide +kernel
theorem dX9_isAskedAfter_1 : decode cX9_isAskedAfter 1 = .ok (.iload_n 1, 1) := by decide +kernel
theorem dX9_isAskedAfter_2 : decode cX9_isAskedAfter 2 = .ok (.invokevirtual 234, 3) := by decide +kernel
theorem dX9_isAskedAfter_5 : decode cX9_isAskedAfter 5 = .ok (.istore_n 3, 1) := by decide +kernel
theorem dX9_isAskedAfter_6 : decode cX9_isAskedAfter 6 = .ok (.aload_n 0, 1) := by decide +kernel
theorem dX9_isAskedAfter_7 : decode cX9_isAskedAfter 7 = .ok (.iload_n 2, 1) := by decide +kernel
theorem dX9_isAskedAfter_8 : decode cX9_isAskedAfter 8 = .ok (.invokevirtual 234, 3) := by decide +kernel
theorem dX9_isAskedAfter_11 : decode cX9_isAskedAfter 11 = .ok (.istore 4, 2) := by decide +kernel
theorem dX9_isAskedAfter_13 : decode cX9_isAskedAfter 13 = .ok (.iload_n 3, 1) := by decide +kernel
theorem dX9_isAskedAfter_14 : decode cX9_isAskedAfter 14 = .ok (.iload 4, 2) := by decide +kernel
theorem dX9_isAskedAfter_16 : decode cX9_isAskedAfter 16 = .ok (.if_icmp .gt 14, 3) := by decide +kernel
theorem dX9_isAskedAfter_19 : decode cX9_isAskedAfter 19 = .ok (.iload_n 3, 1) := by decide +kernel
theorem dX9_isAskedAfter_20 : decode cX9_isAskedAfter 20 = .ok (.iload 4, 2) := by decide +kernel
theorem dX9_isAskedAfter_22 : decode cX9_isAskedAfter 22 = .ok (.if_icmp .ne 12, 3) := by decide +kernel
theorem dX9_isAskedAfter_25 : decode cX9_isAskedAfter 25 = .ok (.iload_n 1, 1) := by decide +kernel
theorem dX9_isAskedAfter_26 : decode cX9_isAskedAfter 26 = .ok (.iload_n 2, 1) := by decide +kernel
theorem dX9_isAskedAfter_27 : decode cX9_isAskedAfter 27 = .ok (.if_icmp .le 7, 3) := by decide +kernel
theorem dX9_isAskedAfter_30 : decode cX9_isAskedAfter 30 = .ok (.iconst 1, 1) := by decide +kernel
theorem dX9_isAskedAfter_31 : decode cX9_isAskedAfter 31 = .ok (.goto 4, 3) := by decide +kernel
theorem dX9_isAskedAfter_34 : decode cX9_isAskedAfter 34 = .ok (.iconst 0, 1) := by decide +kernel
theorem dX9_isAskedAfter_35 : decode cX9_isAskedAfter 35 = .ok (.ireturn, 1) := by decide +kernel
theorem dX9_firstToCome_0 : decode cX9_firstToCome 0 = .ok (.iconst 0, 1) := by decide +kernel
theorem dX9_firstToCome_1 : decode cX9_firstToCome 1 = .ok (.istore_n 2, 1) := by decide +kernel
theorem dX9_firstToCome_2 : decode cX9_firstToCome 2 = .ok (.iload_n 2, 1) := by decide +kernel
theorem dX9_firstToCome_3 : decode cX9_firstToCome 3 = .ok (.aload_n 0, 1) := by decide +kernel
theorem dX9_firstToCome_4 : decode cX9_firstToCome 4 = .ok (.getfield 23, 3) := by decide +kernel
theorem dX9_firstToCome_7 : decode cX9_firstToCome 7 = .ok (.iload_n 1, 1) := by decide +kernel
theorem dX9_firstToCome_8 : decode cX9_firstToCome 8 = .ok (.invokevirtual 353, 3) := by decide +kernel
theorem dX9_firstToCome_11 : decode cX9_firstToCome 11 = .ok (.if_icmp .ge 47, 3) := by decide +kernel
theorem dX9_firstToCome_14 : decode cX9_firstToCome 14 = .ok (.aload_n 0, 1) := by decide +kernel
theorem dX9_firstToCome_15 : decode cX9_firstToCome 15 = .ok (.getfield 23, 3) := by decide +kernel
theorem dX9_firstToCome_18 : decode cX9_firstToCome 18 = .ok (.iload_n 1, 1) := by decide +kernel
theorem dX9_firstToCome_19 : decode cX9_firstToCome 19 = .ok (.iload_n 2, 1) := by decide +kernel
theorem dX9_firstToCome_20 : decode cX9_firstToCome 20 = .ok (.invokevirtual 169, 3) := by decide +kernel
theorem dX9_firstToCome_23 : decode cX9_firstToCome 23 = .ok (.istore_n 3, 1) := by decide +kernel
theorem dX9_firstToCome_24 : decode cX9_firstToCome 24 = .ok (.aload_n 0, 1) := by decide +kernel
theorem dX9_firstToCome_25 : decode cX9_firstToCome 25 = .ok (.iload_n 3, 1) := by decide +kernel
theorem dX9_firstToCome_26 : decode cX9_firstToCome 26 = .ok (.iload_n 1, 1) := by decide +kernel
theorem dX9_firstToCome_27 : decode cX9_firstToCome 27 = .ok (.invokevirtual 237, 3) := by decide +kernel
theorem dX9_firstToCome_30 : decode cX9_firstToCome 30 = .ok (.istore 4, 2) := by decide +kernel
theorem dX9_firstToCome_32 : decode cX9_firstToCome 32 = .ok (.iload 4, 2) := by decide +kernel
theorem dX9_firstToCome_34 : decode cX9_firstToCome 34 = .ok (.ifCond .ne 5, 3) := by decide +kernel
theorem dX9_firstToCome_37 : decode cX9_firstToCome 37 = .ok (.iload_n 3, 1) := by decide +kernel
theorem dX9_firstToCome_38 : decode cX9_firstToCome 38 = .ok (.ireturn, 1) := by decide +kernel
theorem dX9_firstToCome_39 : decode cX9_firstToCome 39 = .ok (.iload 4, 2) := by decide +kernel
theorem dX9_firstToCome_41 : decode cX9_firstToCome 41 = .ok (.iconst 4, 1) := by decide +kernel
theorem dX9_firstToCome_42 : decode cX9_firstToCome 42 = .ok (.if_icmp .ne 10, 3) := by decide +kernel
theorem dX9_firstToCome_45 : decode cX9_firstToCome 45 = .ok (.aload_n 0, 1) := by decide +kernel
theorem dX9_firstToCome_46 : decode cX9_firstToCome 46 = .ok (.getfield 37, 3) := by decide +kernel
theorem dX9_firstToCome_49 : decode cX9_firstToCome 49 = .ok (.invokevirtual 356, 3) := by decide +kernel
theorem dX9_firstToCome_52 : decode cX9_firstToCome 52 = .ok (.iinc 2 1, 3) := by decide +kernel
theorem dX9_firstToCome_55 : decode cX9_firstToCome 55 = .ok (.goto (-53), 3) := by decide +kernel
theorem dX9_firstToCome_58 : decode cX9_firstToCome 58 = .ok (.iconst (-1), 1) := by decide +kernel
theorem dX9_firstToCome_59 : decode cX9_firstToCome 59 = .ok (.ireturn, 1) := by decide +kernel
theorem dX9_whyNot_0 : decode cX9_whyNot 0 = .ok (.aload_n 0, 1) := by decide +kernel
theorem dX9_whyNot_1 : decode cX9_whyNot 1 = .ok (.getfield 23, 3) := by decide +kernel
theorem dX9_whyNot_4 : decode cX9_whyNot 4 = .ok (.getfield 112, 3) := by decide +kernel
theorem dX9_whyNot_7 : decode cX9_whyNot 7 = .ok (.iload_n 1, 1) := by decide +kernel
theorem dX9_whyNot_8 : decode cX9_whyNot 8 = .ok (.iconst 2, 1) := by decide +kernel
theorem dX9_whyNot_9 : decode cX9_whyNot 9 = .ok (.invokevirtual 124, 3) := by decide +kernel
theorem dX9_whyNot_12 : decode cX9_whyNot 12 = .ok (.istore_n 3, 1) := by decide +kernel
theorem dX9_whyNot_13 : decode cX9_whyNot 13 = .ok (.aload_n 0, 1) := by decide +kernel
theorem dX9_whyNot_14 : decode cX9_whyNot 14 = .ok (.getfield 37, 3) := by decide +kernel
theorem dX9_whyNot_17 : decode cX9_whyNot 17 = .ok (.iload_n 1, 1) := by decide +kernel
theorem dX9_whyNot_18 : decode cX9_whyNot 18 = .ok (.iload_n 2, 1) := by decide +kernel
theorem dX9_whyNot_19 : decode cX9_whyNot 19 = .ok (.iload_n 3, 1) := by decide +kernel
theorem dX9_whyNot_20 : decode cX9_whyNot 20 = .ok (.invokevirtual 359, 3) := by decide +kernel
theorem dX9_whyNot_23 : decode cX9_whyNot 23 = .ok (.aload_n 0, 1) := by decide +kernel
theorem dX9_whyNot_24 : decode cX9_whyNot 24 = .ok (.getfield 37, 3) := by decide +kernel
theorem dX9_whyNot_27 : decode cX9_whyNot 27 = .ok (.aload_n 0, 1) := by decide +kernel
theorem dX9_whyNot_28 : decode cX9_whyNot 28 = .ok (.iload_n 2, 1) := by decide +kernel
theorem dX9_whyNot_29 : decode cX9_whyNot 29 = .ok (.invokevirtual 234, 3) := by decide +kernel
theorem dX9_whyNot_32 : decode cX9_whyNot 32 = .ok (.invokestatic 146, 3) := by decide +kernel
theorem dX9_whyNot_35 : decode cX9_whyNot 35 = .ok (.aload_n 0, 1) := by decide +kernel
theorem dX9_whyNot_36 : decode cX9_whyNot 36 = .ok (.getfield 37, 3) := by decide +kernel
theorem dX9_whyNot_39 : decode cX9_whyNot 39 = .ok (.getfield 344, 3) := by decide +kernel
theorem dX9_whyNot_42 : decode cX9_whyNot 42 = .ok (.iconst 0, 1) := by decide +kernel
theorem dX9_whyNot_43 : decode cX9_whyNot 43 = .ok (.bipush 6, 2) := by decide +kernel
theorem dX9_whyNot_45 : decode cX9_whyNot 45 = .ok (.invokevirtual 124, 3) := by decide +kernel
theorem dX9_whyNot_48 : decode cX9_whyNot 48 = .ok (.invokestatic 146, 3) := by decide +kernel
theorem dX9_whyNot_51 : decode cX9_whyNot 51 = .ok (.invokevirtual 362, 3) := by decide +kernel
theorem dX9_whyNot_54 : decode cX9_whyNot 54 = .ok (.istore 4, 2) := by decide +kernel
theorem dX9_whyNot_56 : decode cX9_whyNot 56 = .ok (.aload_n 0, 1) := by decide +kernel
theorem dX9_whyNot_57 : decode cX9_whyNot 57 = .ok (.getfield 23, 3) := by decide +kernel
theorem dX9_whyNot_60 : decode cX9_whyNot 60 = .ok (.iload_n 1, 1) := by decide +kernel
theorem dX9_whyNot_61 : decode cX9_whyNot 61 = .ok (.aload_n 0, 1) := by decide +kernel
theorem dX9_whyNot_62 : decode cX9_whyNot 62 = .ok (.invokevirtual 160, 3) := by decide +kernel
theorem dX9_whyNot_65 : decode cX9_whyNot 65 = .ok (.invokevirtual 115, 3) := by decide +kernel
theorem dX9_whyNot_68 : decode cX9_whyNot 68 = .ok (.ifCond .ge 5, 3) := by decide +kernel
theorem dX9_whyNot_71 : decode cX9_whyNot 71 = .ok (.iconst 1, 1) := by decide +kernel
theorem dX9_whyNot_72 : decode cX9_whyNot 72 = .ok (.ireturn, 1) := by decide +kernel
theorem dX9_whyNot_73 : decode cX9_whyNot 73 = .ok (.aload_n 0, 1) := by decide +kernel
theorem dX9_whyNot_74 : decode cX9_whyNot 74 = .ok (.getfield 23, 3) := by decide +kernel
theorem dX9_whyNot_77 : decode cX9_whyNot 77 = .ok (.getfield 112, 3) := by decide +kernel
theorem dX9_whyNot_80 : decode cX9_whyNot 80 = .ok (.iload_n 1, 1) := by decide +kernel
theorem dX9_whyNot_81 : decode cX9_whyNot 81 = .ok (.iconst 5, 1) := by decide +kernel
theorem dX9_whyNot_82 : decode cX9_whyNot 82 = .ok (.invokevirtual 124, 3) := by decide +kernel
theorem dX9_whyNot_85 : decode cX9_whyNot 85 = .ok (.aload_n 0, 1) := by decide +kernel
theorem dX9_whyNot_86 : decode cX9_whyNot 86 = .ok (.invokevirtual 121, 3) := by decide +kernel
theorem dX9_whyNot_89 : decode cX9_whyNot 89 = .ok (.if_icmp .ge 5, 3) := by decide +kernel
theorem dX9_whyNot_92 : decode cX9_whyNot 92 = .ok (.iconst 2, 1) := by decide +kernel
theorem dX9_whyNot_93 : decode cX9_whyNot 93 = .ok (.ireturn, 1) := by decide +kernel
theorem dX9_whyNot_94 : decode cX9_whyNot 94 = .ok (.iload_n 3, 1) := by decide +kernel
theorem dX9_whyNot_95 : decode cX9_whyNot 95 = .ok (.iconst 3, 1) := by decide +kernel
theorem dX9_whyNot_96 : decode cX9_whyNot 96 = .ok (.iload 4, 2) := by decide +kernel
theorem dX9_whyNot_98 : decode cX9_whyNot 98 = .ok (.imul, 1) := by decide +kernel
theorem dX9_whyNot_99 : decode cX9_whyNot 99 = .ok (.bipush 20, 2) := by decide +kernel
theorem dX9_whyNot_101 : decode cX9_whyNot 101 = .ok (.iadd, 1) := by decide +kernel
theorem dX9_whyNot_102 : decode cX9_whyNot 102 = .ok (.if_icmp .ge 5, 3) := by decide +kernel
theorem dX9_whyNot_105 : decode cX9_whyNot 105 = .ok (.iconst 3, 1) := by decide +kernel
theorem dX9_whyNot_106 : decode cX9_whyNot 106 = .ok (.ireturn, 1) := by decide +kernel
theorem dX9_whyNot_107 : decode cX9_whyNot 107 = .ok (.aload_n 0, 1) := by decide +kernel
theorem dX9_whyNot_108 : decode cX9_whyNot 108 = .ok (.aload_n 0, 1) := by decide +kernel
theorem dX9_whyNot_109 : decode cX9_whyNot 109 = .ok (.getfield 37, 3) := by decide +kernel
theorem dX9_whyNot_112 : decode cX9_whyNot 112 = .ok (.getfield 344, 3) := by decide +kernel
theorem dX9_whyNot_115 : decode cX9_whyNot 115 = .ok (.iconst 0, 1) := by decide +kernel
theorem dX9_whyNot_116 : decode cX9_whyNot 116 = .ok (.invokevirtual 305, 3) := by decide +kernel
theorem dX9_whyNot_119 : decode cX9_whyNot 119 = .ok (.aload_n 0, 1) := by decide +kernel
theorem dX9_whyNot_120 : decode cX9_whyNot 120 = .ok (.getfield 30, 3) := by decide +kernel
theorem dX9_whyNot_123 : decode cX9_whyNot 123 = .ok (.aload_n 0, 1) := by decide +kernel
theorem dX9_whyNot_124 : decode cX9_whyNot 124 = .ok (.getfield 30, 3) := by decide +kernel
theorem dX9_whyNot_127 : decode cX9_whyNot 127 = .ok (.iconst 2, 1) := by decide +kernel
theorem dX9_whyNot_128 : decode cX9_whyNot 128 = .ok (.aload_n 0, 1) := by decide +kernel
theorem dX9_whyNot_129 : decode cX9_whyNot 129 = .ok (.invokevirtual 121, 3) := by decide +kernel
theorem dX9_whyNot_132 : decode cX9_whyNot 132 = .ok (.aload_n 0, 1) := by decide +kernel
theorem dX9_whyNot_133 : decode cX9_whyNot 133 = .ok (.invokevirtual 121, 3) := by decide +kernel
theorem dX9_whyNot_136 : decode cX9_whyNot 136 = .ok (.invokevirtual 187, 3) := by decide +kernel
theorem dX9_whyNot_139 : decode cX9_whyNot 139 = .ok (.invokevirtual 205, 3) := by decide +kernel
theorem dX9_whyNot_142 : decode cX9_whyNot 142 = .ok (.ifCond .eq 7, 3) := by decide +kernel
theorem dX9_whyNot_145 : decode cX9_whyNot 145 = .ok (.iconst 4, 1) := by decide +kernel
theorem dX9_whyNot_146 : decode cX9_whyNot 146 = .ok (.goto 4, 3) := by decide +kernel
theorem dX9_whyNot_149 : decode cX9_whyNot 149 = .ok (.iconst 0, 1) := by decide +kernel
theorem dX9_whyNot_150 : decode cX9_whyNot 150 = .ok (.ireturn, 1) := by decide +kernel
theorem dX9_sendToCaller_0 : decode cX9_sendToCaller 0 = .ok (.aload_n 0, 1) := by decide +kernel
theorem dX9_sendToCaller_1 : decode cX9_sendToCaller 1 = .ok (.getfield 23, 3) := by decide +kernel
theorem dX9_sendToCaller_4 : decode cX9_sendToCaller 4 = .ok (.iload_n 1, 1) := by decide +kernel
theorem dX9_sendToCaller_5 : decode cX9_sendToCaller 5 = .ok (.invokevirtual 149, 3) := by decide +kernel
theorem dX9_sendToCaller_8 : decode cX9_sendToCaller 8 = .ok (.aload_n 0, 1) := by decide +kernel
theorem dX9_sendToCaller_9 : decode cX9_sendToCaller 9 = .ok (.getfield 37, 3) := by decide +kernel
theorem dX9_sendToCaller_12 : decode cX9_sendToCaller 12 = .ok (.getfield 344, 3) := by decide +kernel
theorem dX9_sendToCaller_15 : decode cX9_sendToCaller 15 = .ok (.iconst 0, 1) := by decide +kernel
theorem dX9_sendToCaller_16 : decode cX9_sendToCaller 16 = .ok (.iconst 5, 1) := by decide +kernel
theorem dX9_sendToCaller_17 : decode cX9_sendToCaller 17 = .ok (.invokevirtual 124, 3) := by decide +kernel
theorem dX9_sendToCaller_20 : decode cX9_sendToCaller 20 = .ok (.istore_n 2, 1) := by decide +kernel
theorem dX9_sendToCaller_21 : decode cX9_sendToCaller 21 = .ok (.aload_n 0, 1) := by decide +kernel
theorem dX9_sendToCaller_22 : decode cX9_sendToCaller 22 = .ok (.getfield 23, 3) := by decide +kernel
theorem dX9_sendToCaller_25 : decode cX9_sendToCaller 25 = .ok (.iload_n 1, 1) := by decide +kernel
theorem dX9_sendToCaller_26 : decode cX9_sendToCaller 26 = .ok (.iconst 3, 1) := by decide +kernel
theorem dX9_sendToCaller_27 : decode cX9_sendToCaller 27 = .ok (.aload_n 0, 1) := by decide +kernel
theorem dX9_sendToCaller_28 : decode cX9_sendToCaller 28 = .ok (.getfield 37, 3) := by decide +kernel
theorem dX9_sendToCaller_31 : decode cX9_sendToCaller 31 = .ok (.getfield 344, 3) := by decide +kernel
theorem dX9_sendToCaller_34 : decode cX9_sendToCaller 34 = .ok (.iconst 0, 1) := by decide +kernel
theorem dX9_sendToCaller_35 : decode cX9_sendToCaller 35 = .ok (.iconst 2, 1) := by decide +kernel
theorem dX9_sendToCaller_36 : decode cX9_sendToCaller 36 = .ok (.invokevirtual 124, 3) := by decide +kernel
theorem dX9_sendToCaller_39 : decode cX9_sendToCaller 39 = .ok (.iconst (-1), 1) := by decide +kernel
theorem dX9_sendToCaller_40 : decode cX9_sendToCaller 40 = .ok (.iload_n 2, 1) := by decide +kernel
theorem dX9_sendToCaller_41 : decode cX9_sendToCaller 41 = .ok (.invokevirtual 153, 3) := by decide +kernel
theorem dX9_sendToCaller_44 : decode cX9_sendToCaller 44 = .ok (.aload_n 0, 1) := by decide +kernel
theorem dX9_sendToCaller_45 : decode cX9_sendToCaller 45 = .ok (.getfield 37, 3) := by decide +kernel
theorem dX9_sendToCaller_48 : decode cX9_sendToCaller 48 = .ok (.invokevirtual 365, 3) := by decide +kernel
theorem dX9_sendToCaller_51 : decode cX9_sendToCaller 51 = .ok (.ireturn, 1) := by decide +kernel
theorem dX9_tellTrip_0 : decode cX9_tellTrip 0 = .ok (.aload_n 1, 1) := by decide +kernel
theorem dX9_tellTrip_1 : decode cX9_tellTrip 1 = .ok (.iload_n 2, 1) := by decide +kernel
theorem dX9_tellTrip_2 : decode cX9_tellTrip 2 = .ok (.bipush 6, 2) := by decide +kernel
theorem dX9_tellTrip_4 : decode cX9_tellTrip 4 = .ok (.invokevirtual 124, 3) := by decide +kernel
theorem dX9_tellTrip_7 : decode cX9_tellTrip 7 = .ok (.istore_n 3, 1) := by decide +kernel
theorem dX9_tellTrip_8 : decode cX9_tellTrip 8 = .ok (.aload_n 1, 1) := by decide +kernel
theorem dX9_tellTrip_9 : decode cX9_tellTrip 9 = .ok (.iload_n 2, 1) := by decide +kernel
theorem dX9_tellTrip_10 : decode cX9_tellTrip 10 = .ok (.bipush 9, 2) := by decide +kernel
theorem dX9_tellTrip_12 : decode cX9_tellTrip 12 = .ok (.invokevirtual 124, 3) := by decide +kernel
theorem dX9_tellTrip_15 : decode cX9_tellTrip 15 = .ok (.istore 4, 2) := by decide +kernel
theorem dX9_tellTrip_17 : decode cX9_tellTrip 17 = .ok (.aload_n 1, 1) := by decide +kernel
theorem dX9_tellTrip_18 : decode cX9_tellTrip 18 = .ok (.iload_n 2, 1) := by decide +kernel
theorem dX9_tellTrip_19 : decode cX9_tellTrip 19 = .ok (.iconst 3, 1) := by decide +kernel
theorem dX9_tellTrip_20 : decode cX9_tellTrip 20 = .ok (.invokevirtual 124, 3) := by decide +kernel
theorem dX9_tellTrip_23 : decode cX9_tellTrip 23 = .ok (.istore 5, 2) := by decide +kernel
theorem dX9_tellTrip_25 : decode cX9_tellTrip 25 = .ok (.aload_n 0, 1) := by decide +kernel
theorem dX9_tellTrip_26 : decode cX9_tellTrip 26 = .ok (.getfield 30, 3) := by decide +kernel
theorem dX9_tellTrip_29 : decode cX9_tellTrip 29 = .ok (.iload_n 3, 1) := by decide +kernel
theorem dX9_tellTrip_30 : decode cX9_tellTrip 30 = .ok (.iload_n 3, 1) := by decide +kernel
theorem dX9_tellTrip_31 : decode cX9_tellTrip 31 = .ok (.invokestatic 146, 3) := by decide +kernel
theorem dX9_tellTrip_34 : decode cX9_tellTrip 34 = .ok (.iload 4, 2) := by decide +kernel
theorem dX9_tellTrip_36 : decode cX9_tellTrip 36 = .ok (.iadd, 1) := by decide +kernel
theorem dX9_tellTrip_37 : decode cX9_tellTrip 37 = .ok (.iload 4, 2) := by decide +kernel
theorem dX9_tellTrip_39 : decode cX9_tellTrip 39 = .ok (.invokevirtual 196, 3) := by decide +kernel
theorem dX9_tellTrip_42 : decode cX9_tellTrip 42 = .ok (.aload_n 0, 1) := by decide +kernel
theorem dX9_tellTrip_43 : decode cX9_tellTrip 43 = .ok (.getfield 30, 3) := by decide +kernel
theorem dX9_tellTrip_46 : decode cX9_tellTrip 46 = .ok (.aload_n 1, 1) := by decide +kernel
theorem dX9_tellTrip_47 : decode cX9_tellTrip 47 = .ok (.iload_n 2, 1) := by decide +kernel
theorem dX9_tellTrip_48 : decode cX9_tellTrip 48 = .ok (.bipush 10, 2) := by decide +kernel
theorem dX9_tellTrip_50 : decode cX9_tellTrip 50 = .ok (.invokevirtual 124, 3) := by decide +kernel
theorem dX9_tellTrip_53 : decode cX9_tellTrip 53 = .ok (.iload 5, 2) := by decide +kernel
theorem dX9_tellTrip_55 : decode cX9_tellTrip 55 = .ok (.sipush 1440, 3) := by decide +kernel
theorem dX9_tellTrip_58 : decode cX9_tellTrip 58 = .ok (.idiv, 1) := by decide +kernel
theorem dX9_tellTrip_59 : decode cX9_tellTrip 59 = .ok (.bipush 7, 2) := by decide +kernel
theorem dX9_tellTrip_61 : decode cX9_tellTrip 61 = .ok (.irem, 1) := by decide +kernel
theorem dX9_tellTrip_62 : decode cX9_tellTrip 62 = .ok (.iload 5, 2) := by decide +kernel
theorem dX9_tellTrip_64 : decode cX9_tellTrip 64 = .ok (.sipush 1440, 3) := by decide +kernel
theorem dX9_tellTrip_67 : decode cX9_tellTrip 67 = .ok (.irem, 1) := by decide +kernel
theorem dX9_tellTrip_68 : decode cX9_tellTrip 68 = .ok (.bipush 60, 2) := by decide +kernel
theorem dX9_tellTrip_70 : decode cX9_tellTrip 70 = .ok (.idiv, 1) := by decide +kernel
theorem dX9_tellTrip_71 : decode cX9_tellTrip 71 = .ok (.invokevirtual 199, 3) := by decide +kernel
theorem dX9_tellTrip_74 : decode cX9_tellTrip 74 = .ok (.aload_n 0, 1) := by decide +kernel
theorem dX9_tellTrip_75 : decode cX9_tellTrip 75 = .ok (.getfield 30, 3) := by decide +kernel
theorem dX9_tellTrip_78 : decode cX9_tellTrip 78 = .ok (.aload_n 1, 1) := by decide +kernel
theorem dX9_tellTrip_79 : decode cX9_tellTrip 79 = .ok (.iload_n 2, 1) := by decide +kernel
theorem dX9_tellTrip_80 : decode cX9_tellTrip 80 = .ok (.bipush 8, 2) := by decide +kernel
theorem dX9_tellTrip_82 : decode cX9_tellTrip 82 = .ok (.invokevirtual 124, 3) := by decide +kernel
theorem dX9_tellTrip_85 : decode cX9_tellTrip 85 = .ok (.aload_n 1, 1) := by decide +kernel
theorem dX9_tellTrip_86 : decode cX9_tellTrip 86 = .ok (.iload_n 2, 1) := by decide +kernel
theorem dX9_tellTrip_87 : decode cX9_tellTrip 87 = .ok (.bipush 7, 2) := by decide +kernel
theorem dX9_tellTrip_89 : decode cX9_tellTrip 89 = .ok (.invokevirtual 124, 3) := by decide +kernel
theorem dX9_tellTrip_92 : decode cX9_tellTrip 92 = .ok (.aload_n 1, 1) := by decide +kernel
theorem dX9_tellTrip_93 : decode cX9_tellTrip 93 = .ok (.iload_n 2, 1) := by decide +kernel
theorem dX9_tellTrip_94 : decode cX9_tellTrip 94 = .ok (.bipush 11, 2) := by decide +kernel
theorem dX9_tellTrip_96 : decode cX9_tellTrip 96 = .ok (.invokevirtual 124, 3) := by decide +kernel
theorem dX9_tellTrip_99 : decode cX9_tellTrip 99 = .ok (.invokevirtual 202, 3) := by decide +kernel
theorem dX9_tellTrip_102 : decode cX9_tellTrip 102 = .ok (.return_, 1) := by decide +kernel
theorem dX9_fareDue_0 : decode cX9_fareDue 0 = .ok (.aload_n 0, 1) := by decide +kernel
theorem dX9_fareDue_1 : decode cX9_fareDue 1 = .ok (.aload_n 0, 1) := by decide +kernel
theorem dX9_fareDue_2 : decode cX9_fareDue 2 = .ok (.getfield 37, 3) := by decide +kernel
theorem dX9_fareDue_5 : decode cX9_fareDue 5 = .ok (.getfield 215, 3) := by decide +kernel
theorem dX9_fareDue_8 : decode cX9_fareDue 8 = .ok (.iload_n 1, 1) := by decide +kernel
theorem dX9_fareDue_9 : decode cX9_fareDue 9 = .ok (.invokevirtual 305, 3) := by decide +kernel
theorem dX9_fareDue_12 : decode cX9_fareDue 12 = .ok (.aload_n 0, 1) := by decide +kernel
theorem dX9_fareDue_13 : decode cX9_fareDue 13 = .ok (.iload_n 1, 1) := by decide +kernel
theorem dX9_fareDue_14 : decode cX9_fareDue 14 = .ok (.invokevirtual 302, 3) := by decide +kernel
theorem dX9_fareDue_17 : decode cX9_fareDue 17 = .ok (.istore_n 3, 1) := by decide +kernel
theorem dX9_fareDue_18 : decode cX9_fareDue 18 = .ok (.aload_n 0, 1) := by decide +kernel
theorem dX9_fareDue_19 : decode cX9_fareDue 19 = .ok (.getfield 30, 3) := by decide +kernel
theorem dX9_fareDue_22 : decode cX9_fareDue 22 = .ok (.aload_n 0, 1) := by decide +kernel
theorem dX9_fareDue_23 : decode cX9_fareDue 23 = .ok (.getfield 30, 3) := by decide +kernel
theorem dX9_fareDue_26 : decode cX9_fareDue 26 = .ok (.iconst 0, 1) := by decide +kernel
theorem dX9_fareDue_27 : decode cX9_fareDue 27 = .ok (.iload_n 3, 1) := by decide +kernel
theorem dX9_fareDue_28 : decode cX9_fareDue 28 = .ok (.iload_n 2, 1) := by decide +kernel
theorem dX9_fareDue_29 : decode cX9_fareDue 29 = .ok (.invokevirtual 187, 3) := by decide +kernel
theorem dX9_fareDue_32 : decode cX9_fareDue 32 = .ok (.invokevirtual 309, 3) := by decide +kernel
theorem dX9_fareDue_35 : decode cX9_fareDue 35 = .ok (.istore 4, 2) := by decide +kernel
theorem dX9_fareDue_37 : decode cX9_fareDue 37 = .ok (.aload_n 0, 1) := by decide +kernel
theorem dX9_fareDue_38 : decode cX9_fareDue 38 = .ok (.getfield 30, 3) := by decide +kernel
theorem dX9_fareDue_41 : decode cX9_fareDue 41 = .ok (.aload_n 0, 1) := by decide +kernel
theorem dX9_fareDue_42 : decode cX9_fareDue 42 = .ok (.getfield 30, 3) := by decide +kernel
theorem dX9_fareDue_45 : decode cX9_fareDue 45 = .ok (.iconst 1, 1) := by decide +kernel
theorem dX9_fareDue_46 : decode cX9_fareDue 46 = .ok (.iload_n 3, 1) := by decide +kernel
theorem dX9_fareDue_47 : decode cX9_fareDue 47 = .ok (.iload_n 2, 1) := by decide +kernel
theorem dX9_fareDue_48 : decode cX9_fareDue 48 = .ok (.invokevirtual 187, 3) := by decide +kernel
theorem dX9_fareDue_51 : decode cX9_fareDue 51 = .ok (.invokevirtual 309, 3) := by decide +kernel
theorem dX9_fareDue_54 : decode cX9_fareDue 54 = .ok (.istore 5, 2) := by decide +kernel
theorem dX9_fareDue_56 : decode cX9_fareDue 56 = .ok (.iload 4, 2) := by decide +kernel
theorem dX9_fareDue_58 : decode cX9_fareDue 58 = .ok (.iload 5, 2) := by decide +kernel
theorem dX9_fareDue_60 : decode cX9_fareDue 60 = .ok (.invokestatic 312, 3) := by decide +kernel
theorem dX9_fareDue_63 : decode cX9_fareDue 63 = .ok (.ireturn, 1) := by decide +kernel
theorem dX9_kindDue_0 : decode cX9_kindDue 0 = .ok (.aload_n 0, 1) := by decide +kernel
theorem dX9_kindDue_1 : decode cX9_kindDue 1 = .ok (.iload_n 1, 1) := by decide +kernel
theorem dX9_kindDue_2 : decode cX9_kindDue 2 = .ok (.iload_n 2, 1) := by decide +kernel
theorem dX9_kindDue_3 : decode cX9_kindDue 3 = .ok (.invokevirtual 249, 3) := by decide +kernel
theorem dX9_kindDue_6 : decode cX9_kindDue 6 = .ok (.istore_n 3, 1) := by decide +kernel
theorem dX9_kindDue_7 : decode cX9_kindDue 7 = .ok (.aload_n 0, 1) := by decide +kernel
theorem dX9_kindDue_8 : decode cX9_kindDue 8 = .ok (.getfield 30, 3) := by decide +kernel
theorem dX9_kindDue_11 : decode cX9_kindDue 11 = .ok (.iconst 0, 1) := by decide +kernel
theorem dX9_kindDue_12 : decode cX9_kindDue 12 = .ok (.aload_n 0, 1) := by decide +kernel
theorem dX9_kindDue_13 : decode cX9_kindDue 13 = .ok (.iload_n 1, 1) := by decide +kernel
theorem dX9_kindDue_14 : decode cX9_kindDue 14 = .ok (.invokevirtual 302, 3) := by decide +kernel
theorem dX9_kindDue_17 : decode cX9_kindDue 17 = .ok (.iload_n 2, 1) := by decide +kernel
theorem dX9_kindDue_18 : decode cX9_kindDue 18 = .ok (.invokevirtual 187, 3) := by decide +kernel
theorem dX9_kindDue_21 : decode cX9_kindDue 21 = .ok (.istore 4, 2) := by decide +kernel
theorem dX9_kindDue_23 : decode cX9_kindDue 23 = .ok (.aload_n 0, 1) := by decide +kernel
theorem dX9_kindDue_24 : decode cX9_kindDue 24 = .ok (.getfield 30, 3) := by decide +kernel
theorem dX9_kindDue_27 : decode cX9_kindDue 27 = .ok (.iload 4, 2) := by decide +kernel
theorem dX9_kindDue_29 : decode cX9_kindDue 29 = .ok (.invokevirtual 309, 3) := by decide +kernel
theorem dX9_kindDue_32 : decode cX9_kindDue 32 = .ok (.iload_n 3, 1) := by decide +kernel
theorem dX9_kindDue_33 : decode cX9_kindDue 33 = .ok (.if_icmp .ne 7, 3) := by decide +kernel
theorem dX9_kindDue_36 : decode cX9_kindDue 36 = .ok (.iconst 0, 1) := by decide +kernel
theorem dX9_kindDue_37 : decode cX9_kindDue 37 = .ok (.goto 4, 3) := by decide +kernel
theorem dX9_kindDue_40 : decode cX9_kindDue 40 = .ok (.iconst 1, 1) := by decide +kernel
theorem dX9_kindDue_41 : decode cX9_kindDue 41 = .ok (.ireturn, 1) := by decide +kernel
theorem dX9_earned_0 : decode cX9_earned 0 = .ok (.iconst 0, 1) := by decide +kernel
theorem dX9_earned_1 : decode cX9_earned 1 = .ok (.istore_n 2, 1) := by decide +kernel
theorem dX9_earned_2 : decode cX9_earned 2 = .ok (.iconst 0, 1) := by decide +kernel
theorem dX9_earned_3 : decode cX9_earned 3 = .ok (.istore_n 3, 1) := by decide +kernel
theorem dX9_earned_4 : decode cX9_earned 4 = .ok (.iload_n 3, 1) := by decide +kernel
theorem dX9_earned_5 : decode cX9_earned 5 = .ok (.aload_n 0, 1) := by decide +kernel
theorem dX9_earned_6 : decode cX9_earned 6 = .ok (.getfield 37, 3) := by decide +kernel
theorem dX9_earned_9 : decode cX9_earned 9 = .ok (.getfield 215, 3) := by decide +kernel
theorem dX9_earned_12 : decode cX9_earned 12 = .ok (.getfield 136, 3) := by decide +kernel
theorem dX9_earned_15 : decode cX9_earned 15 = .ok (.if_icmp .ge 41, 3) := by decide +kernel
theorem dX9_earned_18 : decode cX9_earned 18 = .ok (.aload_n 0, 1) := by decide +kernel
theorem dX9_earned_19 : decode cX9_earned 19 = .ok (.getfield 37, 3) := by decide +kernel
theorem dX9_earned_22 : decode cX9_earned 22 = .ok (.getfield 215, 3) := by decide +kernel
theorem dX9_earned_25 : decode cX9_earned 25 = .ok (.iload_n 3, 1) := by decide +kernel
theorem dX9_earned_26 : decode cX9_earned 26 = .ok (.iconst 0, 1) := by decide +kernel
theorem dX9_earned_27 : decode cX9_earned 27 = .ok (.invokevirtual 124, 3) := by decide +kernel
theorem dX9_earned_30 : decode cX9_earned 30 = .ok (.iload_n 1, 1) := by decide +kernel
theorem dX9_earned_31 : decode cX9_earned 31 = .ok (.if_icmp .ne 19, 3) := by decide +kernel
theorem dX9_earned_34 : decode cX9_earned 34 = .ok (.iload_n 2, 1) := by decide +kernel
theorem dX9_earned_35 : decode cX9_earned 35 = .ok (.iconst 0, 1) := by decide +kernel
theorem dX9_earned_36 : decode cX9_earned 36 = .ok (.aload_n 0, 1) := by decide +kernel
theorem dX9_earned_37 : decode cX9_earned 37 = .ok (.iload_n 3, 1) := by decide +kernel
theorem dX9_earned_38 : decode cX9_earned 38 = .ok (.aload_n 0, 1) := by decide +kernel
theorem dX9_earned_39 : decode cX9_earned 39 = .ok (.invokevirtual 121, 3) := by decide +kernel
theorem dX9_earned_42 : decode cX9_earned 42 = .ok (.invokevirtual 249, 3) := by decide +kernel
theorem dX9_earned_45 : decode cX9_earned 45 = .ok (.invokestatic 315, 3) := by decide +kernel
theorem dX9_earned_48 : decode cX9_earned 48 = .ok (.iadd, 1) := by decide +kernel
theorem dX9_earned_49 : decode cX9_earned 49 = .ok (.istore_n 2, 1) := by decide +kernel
theorem dX9_earned_50 : decode cX9_earned 50 = .ok (.iinc 3 1, 3) := by decide +kernel
theorem dX9_earned_53 : decode cX9_earned 53 = .ok (.goto (-49), 3) := by decide +kernel
theorem dX9_earned_56 : decode cX9_earned 56 = .ok (.iload_n 2, 1) := by decide +kernel
theorem dX9_earned_57 : decode cX9_earned 57 = .ok (.ireturn, 1) := by decide +kernel
theorem dX9_overpaid_0 : decode cX9_overpaid 0 = .ok (.aload_n 0, 1) := by decide +kernel
theorem dX9_overpaid_1 : decode cX9_overpaid 1 = .ok (.getfield 44, 3) := by decide +kernel
theorem dX9_overpaid_4 : decode cX9_overpaid 4 = .ok (.getfield 265, 3) := by decide +kernel
theorem dX9_overpaid_7 : decode cX9_overpaid 7 = .ok (.iload_n 1, 1) := by decide +kernel
theorem dX9_overpaid_8 : decode cX9_overpaid 8 = .ok (.iconst 0, 1) := by decide +kernel
theorem dX9_overpaid_9 : decode cX9_overpaid 9 = .ok (.invokevirtual 124, 3) := by decide +kernel
theorem dX9_overpaid_12 : decode cX9_overpaid 12 = .ok (.istore_n 2, 1) := by decide +kernel
theorem dX9_overpaid_13 : decode cX9_overpaid 13 = .ok (.aload_n 0, 1) := by decide +kernel
theorem dX9_overpaid_14 : decode cX9_overpaid 14 = .ok (.iload_n 2, 1) := by decide +kernel
theorem dX9_overpaid_15 : decode cX9_overpaid 15 = .ok (.aload_n 0, 1) := by decide +kernel
theorem dX9_overpaid_16 : decode cX9_overpaid 16 = .ok (.iload_n 2, 1) := by decide +kernel
theorem dX9_overpaid_17 : decode cX9_overpaid 17 = .ok (.invokevirtual 302, 3) := by decide +kernel
theorem dX9_overpaid_20 : decode cX9_overpaid 20 = .ok (.invokevirtual 249, 3) := by decide +kernel
theorem dX9_overpaid_23 : decode cX9_overpaid 23 = .ok (.istore_n 3, 1) := by decide +kernel
theorem dX9_overpaid_24 : decode cX9_overpaid 24 = .ok (.iconst 0, 1) := by decide +kernel
theorem dX9_overpaid_25 : decode cX9_overpaid 25 = .ok (.aload_n 0, 1) := by decide +kernel
theorem dX9_overpaid_26 : decode cX9_overpaid 26 = .ok (.getfield 44, 3) := by decide +kernel
theorem dX9_overpaid_29 : decode cX9_overpaid 29 = .ok (.getfield 265, 3) := by decide +kernel
theorem dX9_overpaid_32 : decode cX9_overpaid 32 = .ok (.iload_n 1, 1) := by decide +kernel
theorem dX9_overpaid_33 : decode cX9_overpaid 33 = .ok (.iconst 1, 1) := by decide +kernel
theorem dX9_overpaid_34 : decode cX9_overpaid 34 = .ok (.invokevirtual 124, 3) := by decide +kernel
theorem dX9_overpaid_37 : decode cX9_overpaid 37 = .ok (.iconst 0, 1) := by decide +kernel
theorem dX9_overpaid_38 : decode cX9_overpaid 38 = .ok (.iload_n 3, 1) := by decide +kernel
theorem dX9_overpaid_39 : decode cX9_overpaid 39 = .ok (.invokestatic 315, 3) := by decide +kernel
theorem dX9_overpaid_42 : decode cX9_overpaid 42 = .ok (.isub, 1) := by decide +kernel
theorem dX9_overpaid_43 : decode cX9_overpaid 43 = .ok (.invokestatic 315, 3) := by decide +kernel
theorem dX9_overpaid_46 : decode cX9_overpaid 46 = .ok (.ireturn, 1) := by decide +kernel
theorem dX9_isLike_0 : decode cX9_isLike 0 = .ok (.aload_n 0, 1) := by decide +kernel
theorem dX9_isLike_1 : decode cX9_isLike 1 = .ok (.getfield 44, 3) := by decide +kernel
theorem dX9_isLike_4 : decode cX9_isLike 4 = .ok (.getfield 265, 3) := by decide +kernel
theorem dX9_isLike_7 : decode cX9_isLike 7 = .ok (.iload_n 1, 1) := by decide +kernel
theorem dX9_isLike_8 : decode cX9_isLike 8 = .ok (.iconst 0, 1) := by decide +kernel
theorem dX9_isLike_9 : decode cX9_isLike 9 = .ok (.invokevirtual 124, 3) := by decide +kernel
theorem dX9_isLike_12 : decode cX9_isLike 12 = .ok (.istore_n 3, 1) := by decide +kernel
theorem dX9_isLike_13 : decode cX9_isLike 13 = .ok (.aload_n 0, 1) := by decide +kernel
theorem dX9_isLike_14 : decode cX9_isLike 14 = .ok (.getfield 44, 3) := by decide +kernel
theorem dX9_isLike_17 : decode cX9_isLike 17 = .ok (.getfield 265, 3) := by decide +kernel
theorem dX9_isLike_20 : decode cX9_isLike 20 = .ok (.iload_n 2, 1) := by decide +kernel
theorem dX9_isLike_21 : decode cX9_isLike 21 = .ok (.iconst 0, 1) := by decide +kernel
theorem dX9_isLike_22 : decode cX9_isLike 22 = .ok (.invokevirtual 124, 3) := by decide +kernel
theorem dX9_isLike_25 : decode cX9_isLike 25 = .ok (.istore 4, 2) := by decide +kernel
theorem dX9_isLike_27 : decode cX9_isLike 27 = .ok (.aload_n 0, 1) := by decide +kernel
theorem dX9_isLike_28 : decode cX9_isLike 28 = .ok (.getfield 37, 3) := by decide +kernel
theorem dX9_isLike_31 : decode cX9_isLike 31 = .ok (.iload_n 3, 1) := by decide +kernel
theorem dX9_isLike_32 : decode cX9_isLike 32 = .ok (.iload 4, 2) := by decide +kernel
theorem dX9_isLike_34 : decode cX9_isLike 34 = .ok (.bipush 10, 2) := by decide +kernel
theorem dX9_isLike_36 : decode cX9_isLike 36 = .ok (.invokevirtual 368, 3) := by decide +kernel
theorem dX9_isLike_39 : decode cX9_isLike 39 = .ok (.ifCond .eq 80, 3) := by decide +kernel
theorem dX9_isLike_42 : decode cX9_isLike 42 = .ok (.aload_n 0, 1) := by decide +kernel
theorem dX9_isLike_43 : decode cX9_isLike 43 = .ok (.getfield 37, 3) := by decide +kernel
theorem dX9_isLike_46 : decode cX9_isLike 46 = .ok (.iload_n 3, 1) := by decide +kernel
theorem dX9_isLike_47 : decode cX9_isLike 47 = .ok (.iload 4, 2) := by decide +kernel
theorem dX9_isLike_49 : decode cX9_isLike 49 = .ok (.bipush 8, 2) := by decide +kernel
theorem dX9_isLike_51 : decode cX9_isLike 51 = .ok (.invokevirtual 368, 3) := by decide +kernel
theorem dX9_isLike_54 : decode cX9_isLike 54 = .ok (.ifCond .eq 65, 3) := by decide +kernel
theorem dX9_isLike_57 : decode cX9_isLike 57 = .ok (.aload_n 0, 1) := by decide +kernel
theorem dX9_isLike_58 : decode cX9_isLike 58 = .ok (.getfield 37, 3) := by decide +kernel
theorem dX9_isLike_61 : decode cX9_isLike 61 = .ok (.getfield 215, 3) := by decide +kernel
theorem dX9_isLike_64 : decode cX9_isLike 64 = .ok (.iload_n 3, 1) := by decide +kernel
theorem dX9_isLike_65 : decode cX9_isLike 65 = .ok (.bipush 6, 2) := by decide +kernel
theorem dX9_isLike_67 : decode cX9_isLike 67 = .ok (.invokevirtual 124, 3) := by decide +kernel
theorem dX9_isLike_70 : decode cX9_isLike 70 = .ok (.sipush 1000, 3) := by decide +kernel
theorem dX9_isLike_73 : decode cX9_isLike 73 = .ok (.idiv, 1) := by decide +kernel
theorem dX9_isLike_74 : decode cX9_isLike 74 = .ok (.aload_n 0, 1) := by decide +kernel
theorem dX9_isLike_75 : decode cX9_isLike 75 = .ok (.getfield 37, 3) := by decide +kernel
theorem dX9_isLike_78 : decode cX9_isLike 78 = .ok (.getfield 215, 3) := by decide +kernel
theorem dX9_isLike_81 : decode cX9_isLike 81 = .ok (.iload 4, 2) := by decide +kernel
theorem dX9_isLike_83 : decode cX9_isLike 83 = .ok (.bipush 6, 2) := by decide +kernel
theorem dX9_isLike_85 : decode cX9_isLike 85 = .ok (.invokevirtual 124, 3) := by decide +kernel
theorem dX9_isLike_88 : decode cX9_isLike 88 = .ok (.sipush 1000, 3) := by decide +kernel
theorem dX9_isLike_91 : decode cX9_isLike 91 = .ok (.idiv, 1) := by decide +kernel
theorem dX9_isLike_92 : decode cX9_isLike 92 = .ok (.if_icmp .ne 27, 3) := by decide +kernel
theorem dX9_isLike_95 : decode cX9_isLike 95 = .ok (.aload_n 0, 1) := by decide +kernel
theorem dX9_isLike_96 : decode cX9_isLike 96 = .ok (.iload_n 3, 1) := by decide +kernel
theorem dX9_isLike_97 : decode cX9_isLike 97 = .ok (.invokevirtual 302, 3) := by decide +kernel
theorem dX9_isLike_100 : decode cX9_isLike 100 = .ok (.bipush 7, 2) := by decide +kernel
theorem dX9_isLike_102 : decode cX9_isLike 102 = .ok (.irem, 1) := by decide +kernel
theorem dX9_isLike_103 : decode cX9_isLike 103 = .ok (.aload_n 0, 1) := by decide +kernel
theorem dX9_isLike_104 : decode cX9_isLike 104 = .ok (.iload 4, 2) := by decide +kernel
theorem dX9_isLike_106 : decode cX9_isLike 106 = .ok (.invokevirtual 302, 3) := by decide +kernel
theorem dX9_isLike_109 : decode cX9_isLike 109 = .ok (.bipush 7, 2) := by decide +kernel
theorem dX9_isLike_111 : decode cX9_isLike 111 = .ok (.irem, 1) := by decide +kernel
theorem dX9_isLike_112 : decode cX9_isLike 112 = .ok (.if_icmp .ne 7, 3) := by decide +kernel
theorem dX9_isLike_115 : decode cX9_isLike 115 = .ok (.iconst 1, 1) := by decide +kernel
theorem dX9_isLike_116 : decode cX9_isLike 116 = .ok (.goto 4, 3) := by decide +kernel
theorem dX9_isLike_119 : decode cX9_isLike 119 = .ok (.iconst 0, 1) := by decide +kernel
theorem dX9_isLike_120 : decode cX9_isLike 120 = .ok (.ireturn, 1) := by decide +kernel
theorem dX9_likeCases_0 : decode cX9_likeCases 0 = .ok (.iconst 0, 1) := by decide +kernel
theorem dX9_likeCases_1 : decode cX9_likeCases 1 = .ok (.istore_n 3, 1) := by decide +kernel
theorem dX9_likeCases_2 : decode cX9_likeCases 2 = .ok (.iconst 0, 1) := by decide +kernel
theorem dX9_likeCases_3 : decode cX9_likeCases 3 = .ok (.istore 4, 2) := by decide +kernel
theorem dX9_likeCases_5 : decode cX9_likeCases 5 = .ok (.iload 4, 2) := by decide +kernel
theorem dX9_likeCases_7 : decode cX9_likeCases 7 = .ok (.iload_n 1, 1) := by decide +kernel
theorem dX9_likeCases_8 : decode cX9_likeCases 8 = .ok (.if_icmp .ge 35, 3) := by decide +kernel
theorem dX9_likeCases_11 : decode cX9_likeCases 11 = .ok (.aload_n 0, 1) := by decide +kernel
theorem dX9_likeCases_12 : decode cX9_likeCases 12 = .ok (.iload_n 1, 1) := by decide +kernel
theorem dX9_likeCases_13 : decode cX9_likeCases 13 = .ok (.iload 4, 2) := by decide +kernel
theorem dX9_likeCases_15 : decode cX9_likeCases 15 = .ok (.invokevirtual 371, 3) := by decide +kernel
theorem dX9_likeCases_18 : decode cX9_likeCases 18 = .ok (.ifCond .eq 19, 3) := by decide +kernel
theorem dX9_likeCases_21 : decode cX9_likeCases 21 = .ok (.iload_n 2, 1) := by decide +kernel
theorem dX9_likeCases_22 : decode cX9_likeCases 22 = .ok (.ifCond .eq 12, 3) := by decide +kernel
theorem dX9_likeCases_25 : decode cX9_likeCases 25 = .ok (.aload_n 0, 1) := by decide +kernel
theorem dX9_likeCases_26 : decode cX9_likeCases 26 = .ok (.iload 4, 2) := by decide +kernel
theorem dX9_likeCases_28 : decode cX9_likeCases 28 = .ok (.invokevirtual 268, 3) := by decide +kernel
theorem dX9_likeCases_31 : decode cX9_likeCases 31 = .ok (.ifCond .le 6, 3) := by decide +kernel
theorem dX9_likeCases_34 : decode cX9_likeCases 34 = .ok (.iinc 3 1, 3) := by decide +kernel
theorem dX9_likeCases_37 : decode cX9_likeCases 37 = .ok (.iinc 4 1, 3) := by decide +kernel
theorem dX9_likeCases_40 : decode cX9_likeCases 40 = .ok (.goto (-35), 3) := by decide +kernel
theorem dX9_likeCases_43 : decode cX9_likeCases 43 = .ok (.iload_n 3, 1) := by decide +kernel
theorem dX9_likeCases_44 : decode cX9_likeCases 44 = .ok (.ireturn, 1) := by decide +kernel
theorem dX9_latestLikeCase_0 : decode cX9_latestLikeCase 0 = .ok (.iload_n 1, 1) := by decide +kernel
theorem dX9_latestLikeCase_1 : decode cX9_latestLikeCase 1 = .ok (.iconst 1, 1) := by decide +kernel
theorem dX9_latestLikeCase_2 : decode cX9_latestLikeCase 2 = .ok (.isub, 1) := by decide +kernel
theorem dX9_latestLikeCase_3 : decode cX9_latestLikeCase 3 = .ok (.istore_n 2, 1) := by decide +kernel
theorem dX9_latestLikeCase_4 : decode cX9_latestLikeCase 4 = .ok (.iload_n 2, 1) := by decide +kernel
theorem dX9_latestLikeCase_5 : decode cX9_latestLikeCase 5 = .ok (.ifCond .lt 20, 3) := by decide +kernel
theorem dX9_latestLikeCase_8 : decode cX9_latestLikeCase 8 = .ok (.aload_n 0, 1) := by decide +kernel
theorem dX9_latestLikeCase_9 : decode cX9_latestLikeCase 9 = .ok (.iload_n 1, 1) := by decide +kernel
theorem dX9_latestLikeCase_10 : decode cX9_latestLikeCase 10 = .ok (.iload_n 2, 1) := by decide +kernel
theorem dX9_latestLikeCase_11 : decode cX9_latestLikeCase 11 = .ok (.invokevirtual 371, 3) := by decide +kernel
theorem dX9_latestLikeCase_14 : decode cX9_latestLikeCase 14 = .ok (.ifCond .eq 5, 3) := by decide +kernel
theorem dX9_latestLikeCase_17 : decode cX9_latestLikeCase 17 = .ok (.iload_n 2, 1) := by decide +kernel
theorem dX9_latestLikeCase_18 : decode cX9_latestLikeCase 18 = .ok (.ireturn, 1) := by decide +kernel
theorem dX9_latestLikeCase_19 : decode cX9_latestLikeCase 19 = .ok (.iinc 2 (-1), 3) := by decide +kernel
theorem dX9_latestLikeCase_22 : decode cX9_latestLikeCase 22 = .ok (.goto (-18), 3) := by decide +kernel
theorem dX9_latestLikeCase_25 : decode cX9_latestLikeCase 25 = .ok (.iconst (-1), 1) := by decide +kernel
theorem dX9_latestLikeCase_26 : decode cX9_latestLikeCase 26 = .ok (.ireturn, 1) := by decide +kernel
theorem dX9_isFitting_0 : decode cX9_isFitting 0 = .ok (.aload_n 0, 1) := by decide +kernel
theorem dX9_isFitting_1 : decode cX9_isFitting 1 = .ok (.getfield 51, 3) := by decide +kernel
theorem dX9_isFitting_4 : decode cX9_isFitting 4 = .ok (.getfield 284, 3) := by decide +kernel
theorem dX9_isFitting_7 : decode cX9_isFitting 7 = .ok (.iload_n 1, 1) := by decide +kernel
theorem dX9_isFitting_8 : decode cX9_isFitting 8 = .ok (.iconst 2, 1) := by decide +kernel
theorem dX9_isFitting_9 : decode cX9_isFitting 9 = .ok (.invokevirtual 124, 3) := by decide +kernel
theorem dX9_isFitting_12 : decode cX9_isFitting 12 = .ok (.istore_n 3, 1) := by decide +kernel
theorem dX9_isFitting_13 : decode cX9_isFitting 13 = .ok (.aload_n 0, 1) := by decide +kernel
theorem dX9_isFitting_14 : decode cX9_isFitting 14 = .ok (.getfield 51, 3) := by decide +kernel
theorem dX9_isFitting_17 : decode cX9_isFitting 17 = .ok (.getfield 293, 3) := by decide +kernel
theorem dX9_isFitting_20 : decode cX9_isFitting 20 = .ok (.iload_n 2, 1) := by decide +kernel
theorem dX9_isFitting_21 : decode cX9_isFitting 21 = .ok (.iconst 1, 1) := by decide +kernel
theorem dX9_isFitting_22 : decode cX9_isFitting 22 = .ok (.invokevirtual 124, 3) := by decide +kernel
theorem dX9_isFitting_25 : decode cX9_isFitting 25 = .ok (.istore 4, 2) := by decide +kernel
theorem dX9_isFitting_27 : decode cX9_isFitting 27 = .ok (.aload_n 0, 1) := by decide +kernel
theorem dX9_isFitting_28 : decode cX9_isFitting 28 = .ok (.getfield 51, 3) := by decide +kernel
theorem dX9_isFitting_31 : decode cX9_isFitting 31 = .ok (.getfield 284, 3) := by decide +kernel
theorem dX9_isFitting_34 : decode cX9_isFitting 34 = .ok (.iload_n 1, 1) := by decide +kernel
theorem dX9_isFitting_35 : decode cX9_isFitting 35 = .ok (.iconst 0, 1) := by decide +kernel
theorem dX9_isFitting_36 : decode cX9_isFitting 36 = .ok (.invokevirtual 124, 3) := by decide +kernel
theorem dX9_isFitting_39 : decode cX9_isFitting 39 = .ok (.aload_n 0, 1) := by decide +kernel
theorem dX9_isFitting_40 : decode cX9_isFitting 40 = .ok (.getfield 51, 3) := by decide +kernel
theorem dX9_isFitting_43 : decode cX9_isFitting 43 = .ok (.getfield 293, 3) := by decide +kernel
theorem dX9_isFitting_46 : decode cX9_isFitting 46 = .ok (.iload_n 2, 1) := by decide +kernel
theorem dX9_isFitting_47 : decode cX9_isFitting 47 = .ok (.iconst 0, 1) := by decide +kernel
theorem dX9_isFitting_48 : decode cX9_isFitting 48 = .ok (.invokevirtual 124, 3) := by decide +kernel
theorem dX9_isFitting_51 : decode cX9_isFitting 51 = .ok (.if_icmp .ne 80, 3) := by decide +kernel
theorem dX9_isFitting_54 : decode cX9_isFitting 54 = .ok (.aload_n 0, 1) := by decide +kernel
theorem dX9_isFitting_55 : decode cX9_isFitting 55 = .ok (.getfield 51, 3) := by decide +kernel
theorem dX9_isFitting_58 : decode cX9_isFitting 58 = .ok (.getfield 293, 3) := by decide +kernel
theorem dX9_isFitting_61 : decode cX9_isFitting 61 = .ok (.iload_n 2, 1) := by decide +kernel
theorem dX9_isFitting_62 : decode cX9_isFitting 62 = .ok (.iconst 2, 1) := by decide +kernel
theorem dX9_isFitting_63 : decode cX9_isFitting 63 = .ok (.invokevirtual 124, 3) := by decide +kernel
theorem dX9_isFitting_66 : decode cX9_isFitting 66 = .ok (.iload_n 3, 1) := by decide +kernel
theorem dX9_isFitting_67 : decode cX9_isFitting 67 = .ok (.if_icmp .lt 64, 3) := by decide +kernel
theorem dX9_isFitting_70 : decode cX9_isFitting 70 = .ok (.aload_n 0, 1) := by decide +kernel
theorem dX9_isFitting_71 : decode cX9_isFitting 71 = .ok (.getfield 51, 3) := by decide +kernel
theorem dX9_isFitting_74 : decode cX9_isFitting 74 = .ok (.getfield 284, 3) := by decide +kernel
theorem dX9_isFitting_77 : decode cX9_isFitting 77 = .ok (.iload_n 1, 1) := by decide +kernel
theorem dX9_isFitting_78 : decode cX9_isFitting 78 = .ok (.iconst 1, 1) := by decide +kernel
theorem dX9_isFitting_79 : decode cX9_isFitting 79 = .ok (.invokevirtual 124, 3) := by decide +kernel
theorem dX9_isFitting_82 : decode cX9_isFitting 82 = .ok (.aload_n 0, 1) := by decide +kernel
theorem dX9_isFitting_83 : decode cX9_isFitting 83 = .ok (.getfield 23, 3) := by decide +kernel
theorem dX9_isFitting_86 : decode cX9_isFitting 86 = .ok (.getfield 112, 3) := by decide +kernel
theorem dX9_isFitting_89 : decode cX9_isFitting 89 = .ok (.iload 4, 2) := by decide +kernel
theorem dX9_isFitting_91 : decode cX9_isFitting 91 = .ok (.bipush 6, 2) := by decide +kernel
theorem dX9_isFitting_93 : decode cX9_isFitting 93 = .ok (.invokevirtual 124, 3) := by decide +kernel
theorem dX9_isFitting_96 : decode cX9_isFitting 96 = .ok (.invokestatic 374, 3) := by decide +kernel
theorem dX9_isFitting_99 : decode cX9_isFitting 99 = .ok (.ifCond .eq 32, 3) := by decide +kernel
theorem dX9_isFitting_102 : decode cX9_isFitting 102 = .ok (.aload_n 0, 1) := by decide +kernel
theorem dX9_isFitting_103 : decode cX9_isFitting 103 = .ok (.getfield 37, 3) := by decide +kernel
theorem dX9_isFitting_106 : decode cX9_isFitting 106 = .ok (.iload 4, 2) := by decide +kernel
theorem dX9_isFitting_108 : decode cX9_isFitting 108 = .ok (.iload_n 3, 1) := by decide +kernel
theorem dX9_isFitting_109 : decode cX9_isFitting 109 = .ok (.aload_n 0, 1) := by decide +kernel
theorem dX9_isFitting_110 : decode cX9_isFitting 110 = .ok (.getfield 51, 3) := by decide +kernel
theorem dX9_isFitting_113 : decode cX9_isFitting 113 = .ok (.getfield 284, 3) := by decide +kernel
theorem dX9_isFitting_116 : decode cX9_isFitting 116 = .ok (.iload_n 1, 1) := by decide +kernel
theorem dX9_isFitting_117 : decode cX9_isFitting 117 = .ok (.iconst 3, 1) := by decide +kernel
theorem dX9_isFitting_118 : decode cX9_isFitting 118 = .ok (.invokevirtual 124, 3) := by decide +kernel
theorem dX9_isFitting_121 : decode cX9_isFitting 121 = .ok (.invokevirtual 377, 3) := by decide +kernel
theorem dX9_isFitting_124 : decode cX9_isFitting 124 = .ok (.ifCond .eq 7, 3) := by decide +kernel
theorem dX9_isFitting_127 : decode cX9_isFitting 127 = .ok (.iconst 1, 1) := by decide +kernel
theorem dX9_isFitting_128 : decode cX9_isFitting 128 = .ok (.goto 4, 3) := by decide +kernel
theorem dX9_isFitting_131 : decode cX9_isFitting 131 = .ok (.iconst 0, 1) := by decide +kernel
theorem dX9_isFitting_132 : decode cX9_isFitting 132 = .ok (.ireturn, 1) := by decide +kernel
theorem dX9_onlyFoundFor_0 : decode cX9_onlyFoundFor 0 = .ok (.iconst (-1), 1) := by decide +kernel
theorem dX9_onlyFoundFor_1 : decode cX9_onlyFoundFor 1 = .ok (.istore_n 2, 1) := by decide +kernel
theorem dX9_onlyFoundFor_2 : decode cX9_onlyFoundFor 2 = .ok (.iconst 0, 1) := by decide +kernel
theorem dX9_onlyFoundFor_3 : decode cX9_onlyFoundFor 3 = .ok (.istore_n 3, 1) := by decide +kernel
theorem dX9_onlyFoundFor_4 : decode cX9_onlyFoundFor 4 = .ok (.iload_n 3, 1) := by decide +kernel
theorem dX9_onlyFoundFor_5 : decode cX9_onlyFoundFor 5 = .ok (.aload_n 0, 1) := by decide +kernel
theorem dX9_onlyFoundFor_6 : decode cX9_onlyFoundFor 6 = .ok (.getfield 51, 3) := by decide +kernel
theorem dX9_onlyFoundFor_9 : decode cX9_onlyFoundFor 9 = .ok (.getfield 293, 3) := by decide +kernel
theorem dX9_onlyFoundFor_12 : decode cX9_onlyFoundFor 12 = .ok (.getfield 136, 3) := by decide +kernel
theorem dX9_onlyFoundFor_15 : decode cX9_onlyFoundFor 15 = .ok (.if_icmp .ge 26, 3) := by decide +kernel
theorem dX9_onlyFoundFor_18 : decode cX9_onlyFoundFor 18 = .ok (.aload_n 0, 1) := by decide +kernel
theorem dX9_onlyFoundFor_19 : decode cX9_onlyFoundFor 19 = .ok (.iload_n 1, 1) := by decide +kernel
theorem dX9_onlyFoundFor_20 : decode cX9_onlyFoundFor 20 = .ok (.iload_n 3, 1) := by decide +kernel
theorem dX9_onlyFoundFor_21 : decode cX9_onlyFoundFor 21 = .ok (.invokevirtual 296, 3) := by decide +kernel
theorem dX9_onlyFoundFor_24 : decode cX9_onlyFoundFor 24 = .ok (.ifCond .eq 11, 3) := by decide +kernel
theorem dX9_onlyFoundFor_27 : decode cX9_onlyFoundFor 27 = .ok (.iload_n 2, 1) := by decide +kernel
theorem dX9_onlyFoundFor_28 : decode cX9_onlyFoundFor 28 = .ok (.ifCond .lt 5, 3) := by decide +kernel
theorem dX9_onlyFoundFor_31 : decode cX9_onlyFoundFor 31 = .ok (.iconst (-1), 1) := by decide +kernel
theorem dX9_onlyFoundFor_32 : decode cX9_onlyFoundFor 32 = .ok (.ireturn, 1) := by decide +kernel
theorem dX9_onlyFoundFor_33 : decode cX9_onlyFoundFor 33 = .ok (.iload_n 3, 1) := by decide +kernel
theorem dX9_onlyFoundFor_34 : decode cX9_onlyFoundFor 34 = .ok (.istore_n 2, 1) := by decide +kernel
theorem dX9_onlyFoundFor_35 : decode cX9_onlyFoundFor 35 = .ok (.iinc 3 1, 3) := by decide +kernel
theorem dX9_onlyFoundFor_38 : decode cX9_onlyFoundFor 38 = .ok (.goto (-34), 3) := by decide +kernel
theorem dX9_onlyFoundFor_41 : decode cX9_onlyFoundFor 41 = .ok (.iload_n 2, 1) := by decide +kernel
theorem dX9_onlyFoundFor_42 : decode cX9_onlyFoundFor 42 = .ok (.ireturn, 1) := by decide +kernel
theorem dX9_lossesFitting_0 : decode cX9_lossesFitting 0 = .ok (.iconst 0, 1) := by decide +kernel
theorem dX9_lossesFitting_1 : decode cX9_lossesFitting 1 = .ok (.istore_n 2, 1) := by decide +kernel
theorem dX9_lossesFitting_2 : decode cX9_lossesFitting 2 = .ok (.iconst 0, 1) := by decide +kernel
theorem dX9_lossesFitting_3 : decode cX9_lossesFitting 3 = .ok (.istore_n 3, 1) := by decide +kernel
theorem dX9_lossesFitting_4 : decode cX9_lossesFitting 4 = .ok (.iload_n 3, 1) := by decide +kernel
theorem dX9_lossesFitting_5 : decode cX9_lossesFitting 5 = .ok (.aload_n 0, 1) := by decide +kernel
theorem dX9_lossesFitting_6 : decode cX9_lossesFitting 6 = .ok (.getfield 51, 3) := by decide +kernel
theorem dX9_lossesFitting_9 : decode cX9_lossesFitting 9 = .ok (.getfield 284, 3) := by decide +kernel
theorem dX9_lossesFitting_12 : decode cX9_lossesFitting 12 = .ok (.getfield 136, 3) := by decide +kernel
theorem dX9_lossesFitting_15 : decode cX9_lossesFitting 15 = .ok (.if_icmp .ge 26, 3) := by decide +kernel
theorem dX9_lossesFitting_18 : decode cX9_lossesFitting 18 = .ok (.iload_n 2, 1) := by decide +kernel
theorem dX9_lossesFitting_19 : decode cX9_lossesFitting 19 = .ok (.aload_n 0, 1) := by decide +kernel
theorem dX9_lossesFitting_20 : decode cX9_lossesFitting 20 = .ok (.iload_n 3, 1) := by decide +kernel
theorem dX9_lossesFitting_21 : decode cX9_lossesFitting 21 = .ok (.iload_n 1, 1) := by decide +kernel
theorem dX9_lossesFitting_22 : decode cX9_lossesFitting 22 = .ok (.invokevirtual 296, 3) := by decide +kernel
theorem dX9_lossesFitting_25 : decode cX9_lossesFitting 25 = .ok (.ifCond .eq 7, 3) := by decide +kernel
theorem dX9_lossesFitting_28 : decode cX9_lossesFitting 28 = .ok (.iconst 1, 1) := by decide +kernel
theorem dX9_lossesFitting_29 : decode cX9_lossesFitting 29 = .ok (.goto 4, 3) := by decide +kernel
theorem dX9_lossesFitting_32 : decode cX9_lossesFitting 32 = .ok (.iconst 0, 1) := by decide +kernel
theorem dX9_lossesFitting_33 : decode cX9_lossesFitting 33 = .ok (.iadd, 1) := by decide +kernel
theorem dX9_lossesFitting_34 : decode cX9_lossesFitting 34 = .ok (.istore_n 2, 1) := by decide +kernel
theorem dX9_lossesFitting_35 : decode cX9_lossesFitting 35 = .ok (.iinc 3 1, 3) := by decide +kernel
theorem dX9_lossesFitting_38 : decode cX9_lossesFitting 38 = .ok (.goto (-34), 3) := by decide +kernel
theorem dX9_lossesFitting_41 : decode cX9_lossesFitting 41 = .ok (.iload_n 2, 1) := by decide +kernel
theorem dX9_lossesFitting_42 : decode cX9_lossesFitting 42 = .ok (.ireturn, 1) := by decide +kernel
theorem dX10_init_0 : decode cX10_init 0 = .ok (.aload_n 0, 1) := by decide +kernel
theorem dX10_init_1 : decode cX10_init 1 = .ok (.invokespecial 1, 3) := by decide +kernel
theorem dX10_init_4 : decode cX10_init 4 = .ok (.aload_n 0, 1) := by decide +kernel
theorem dX10_init_5 : decode cX10_init 5 = .ok (.bipush 12, 2) := by decide +kernel
theorem dX10_init_7 : decode cX10_init 7 = .ok (.newarray .int, 2) := by decide +kernel
theorem dX10_init_9 : decode cX10_init 9 = .ok (.putfield 7, 3) := by decide +kernel
theorem dX10_init_12 : decode cX10_init 12 = .ok (.aload_n 0, 1) := by decide +kernel
theorem dX10_init_13 : decode cX10_init 13 = .ok (.bipush 12, 2) := by decide +kernel
theorem dX10_init_15 : decode cX10_init 15 = .ok (.newarray .int, 2) := by decide +kernel
theorem dX10_init_17 : decode cX10_init 17 = .ok (.putfield 13, 3) := by decide +kernel
theorem dX10_init_20 : decode cX10_init 20 = .ok (.aload_n 0, 1) := by decide +kernel
theorem dX10_init_21 : decode cX10_init 21 = .ok (.bipush 60, 2) := by decide +kernel
theorem dX10_init_23 : decode cX10_init 23 = .ok (.newarray .int, 2) := by decide +kernel
theorem dX10_init_25 : decode cX10_init 25 = .ok (.putfield 16, 3) := by decide +kernel
theorem dX10_init_28 : decode cX10_init 28 = .ok (.aload_n 0, 1) := by decide +kernel
theorem dX10_init_29 : decode cX10_init 29 = .ok (.bipush 60, 2) := by decide +kernel
theorem dX10_init_31 : decode cX10_init 31 = .ok (.newarray .int, 2) := by decide +kernel
theorem dX10_init_33 : decode cX10_init 33 = .ok (.putfield 19, 3) := by decide +kernel
theorem dX10_init_36 : decode cX10_init 36 = .ok (.aload_n 0, 1) := by decide +kernel
theorem dX10_init_37 : decode cX10_init 37 = .ok (.bipush 60, 2) := by decide +kernel
theorem dX10_init_39 : decode cX10_init 39 = .ok (.newarray .int, 2) := by decide +kernel
theorem dX10_init_41 : decode cX10_init 41 = .ok (.putfield 22, 3) := by decide +kernel
theorem dX10_init_44 : decode cX10_init 44 = .ok (.aload_n 0, 1) := by decide +kernel
theorem dX10_init_45 : decode cX10_init 45 = .ok (.bipush 60, 2) := by decide +kernel
theorem dX10_init_47 : decode cX10_init 47 = .ok (.newarray .int, 2) := by decide +kernel
theorem dX10_init_49 : decode cX10_init 49 = .ok (.putfield 25, 3) := by decide +kernel
theorem dX10_init_52 : decode cX10_init 52 = .ok (.aload_n 0, 1) := by decide +kernel
theorem dX10_init_53 : decode cX10_init 53 = .ok (.sipush 240, 3) := by decide +kernel
theorem dX10_init_56 : decode cX10_init 56 = .ok (.newarray .int, 2) := by decide +kernel
theorem dX10_init_58 : decode cX10_init 58 = .ok (.putfield 28, 3) := by decide +kernel
theorem dX10_init_61 : decode cX10_init 61 = .ok (.aload_n 0, 1) := by decide +kernel
theorem dX10_init_62 : decode cX10_init 62 = .ok (.sipush 240, 3) := by decide +kernel
theorem dX10_init_65 : decode cX10_init 65 = .ok (.newarray .int, 2) := by decide +kernel
theorem dX10_init_67 : decode cX10_init 67 = .ok (.putfield 31, 3) := by decide +kernel
theorem dX10_init_70 : decode cX10_init 70 = .ok (.aload_n 0, 1) := by decide +kernel
theorem dX10_init_71 : decode cX10_init 71 = .ok (.bipush 60, 2) := by decide +kernel
theorem dX10_init_73 : decode cX10_init 73 = .ok (.newarray .int, 2) := by decide +kernel
theorem dX10_init_75 : decode cX10_init 75 = .ok (.putfield 34, 3) := by decide +kernel
theorem dX10_init_78 : decode cX10_init 78 = .ok (.aload_n 0, 1) := by decide +kernel
theorem dX10_init_79 : decode cX10_init 79 = .ok (.bipush 24, 2) := by decide +kernel
theorem dX10_init_81 : decode cX10_init 81 = .ok (.newarray .int, 2) := by decide +kernel
theorem dX10_init_83 : decode cX10_init 83 = .ok (.putfield 37, 3) := by decide +kernel
theorem dX10_init_86 : decode cX10_init 86 = .ok (.aload_n 0, 1) := by decide +kernel
theorem dX10_init_87 : decode cX10_init 87 = .ok (.bipush 24, 2) := by decide +kernel
theorem dX10_init_89 : decode cX10_init 89 = .ok (.newarray .int, 2) := by decide +kernel
theorem dX10_init_91 : decode cX10_init 91 = .ok (.putfield 40, 3) := by decide +kernel
theorem dX10_init_94 : decode cX10_init 94 = .ok (.aload_n 0, 1) := by decide +kernel
theorem dX10_init_95 : decode cX10_init 95 = .ok (.bipush 24, 2) := by decide +kernel
theorem dX10_init_97 : decode cX10_init 97 = .ok (.newarray .int, 2) := by decide +kernel
theorem dX10_init_99 : decode cX10_init 99 = .ok (.putfield 43, 3) := by decide +kernel
theorem dX10_init_102 : decode cX10_init 102 = .ok (.aload_n 0, 1) := by decide +kernel
theorem dX10_init_103 : decode cX10_init 103 = .ok (.bipush 24, 2) := by decide +kernel
theorem dX10_init_105 : decode cX10_init 105 = .ok (.newarray .int, 2) := by decide +kernel
theorem dX10_init_107 : decode cX10_init 107 = .ok (.putfield 46, 3) := by decide +kernel
theorem dX10_init_110 : decode cX10_init 110 = .ok (.aload_n 0, 1) := by decide +kernel
theorem dX10_init_111 : decode cX10_init 111 = .ok (.bipush 30, 2) := by decide +kernel
theorem dX10_init_113 : decode cX10_init 113 = .ok (.newarray .int, 2) := by decide +kernel
theorem dX10_init_115 : decode cX10_init 115 = .ok (.putfield 49, 3) := by decide +kernel
theorem dX10_init_118 : decode cX10_init 118 = .ok (.aload_n 0, 1) := by decide +kernel
theorem dX10_init_119 : decode cX10_init 119 = .ok (.bipush 30, 2) := by decide +kernel
theorem dX10_init_121 : decode cX10_init 121 = .ok (.newarray .int, 2) := by decide +kernel
theorem dX10_init_123 : decode cX10_init 123 = .ok (.putfield 52, 3) := by decide +kernel
theorem dX10_init_126 : decode cX10_init 126 = .ok (.aload_n 0, 1) := by decide +kernel
theorem dX10_init_127 : decode cX10_init 127 = .ok (.bipush 30, 2) := by decide +kernel
theorem dX10_init_129 : decode cX10_init 129 = .ok (.newarray .int, 2) := by decide +kernel
theorem dX10_init_131 : decode cX10_init 131 = .ok (.putfield 55, 3) := by decide +kernel
theorem dX10_init_134 : decode cX10_init 134 = .ok (.aload_n 0, 1) := by decide +kernel
theorem dX10_init_135 : decode cX10_init 135 = .ok (.bipush 30, 2) := by decide +kernel
theorem dX10_init_137 : decode cX10_init 137 = .ok (.newarray .int, 2) := by decide +kernel
theorem dX10_init_139 : decode cX10_init 139 = .ok (.putfield 58, 3) := by decide +kernel
theorem dX10_init_142 : decode cX10_init 142 = .ok (.aload_n 0, 1) := by decide +kernel
theorem dX10_init_143 : decode cX10_init 143 = .ok (.bipush 30, 2) := by decide +kernel
theorem dX10_init_145 : decode cX10_init 145 = .ok (.newarray .int, 2) := by decide +kernel
theorem dX10_init_147 : decode cX10_init 147 = .ok (.putfield 61, 3) := by decide +kernel
theorem dX10_init_150 : decode cX10_init 150 = .ok (.aload_n 0, 1) := by decide +kernel
theorem dX10_init_151 : decode cX10_init 151 = .ok (.bipush 30, 2) := by decide +kernel
theorem dX10_init_153 : decode cX10_init 153 = .ok (.newarray .int, 2) := by decide +kernel
theorem dX10_init_155 : decode cX10_init 155 = .ok (.putfield 64, 3) := by decide +kernel
theorem dX10_init_158 : decode cX10_init 158 = .ok (.aload_n 0, 1) := by decide +kernel
theorem dX10_init_159 : decode cX10_init 159 = .ok (.bipush 30, 2) := by decide +kernel
theorem dX10_init_161 : decode cX10_init 161 = .ok (.newarray .int, 2) := by decide +kernel
theorem dX10_init_163 : decode cX10_init 163 = .ok (.putfield 67, 3) := by decide +kernel
theorem dX10_init_166 : decode cX10_init 166 = .ok (.aload_n 0, 1) := by decide +kernel
theorem dX10_init_167 : decode cX10_init 167 = .ok (.bipush 30, 2) := by decide +kernel
theorem dX10_init_169 : decode cX10_init 169 = .ok (.newarray .int, 2) := by decide +kernel
theorem dX10_init_171 : decode cX10_init 171 = .ok (.putfield 70, 3) := by decide +kernel
theorem dX10_init_174 : decode cX10_init 174 = .ok (.aload_n 0, 1) := by decide +kernel
theorem dX10_init_175 : decode cX10_init 175 = .ok (.sipush 200, 3) := by decide +kernel
theorem dX10_init_178 : decode cX10_init 178 = .ok (.newarray .int, 2) := by decide +kernel
theorem dX10_init_180 : decode cX10_init 180 = .ok (.putfield 73, 3) := by decide +kernel
theorem dX10_init_183 : decode cX10_init 183 = .ok (.aload_n 0, 1) := by decide +kernel
theorem dX10_init_184 : decode cX10_init 184 = .ok (.sipush 200, 3) := by decide +kernel
theorem dX10_init_187 : decode cX10_init 187 = .ok (.newarray .int, 2) := by decide +kernel
theorem dX10_init_189 : decode cX10_init 189 = .ok (.putfield 76, 3) := by decide +kernel
theorem dX10_init_192 : decode cX10_init 192 = .ok (.aload_n 0, 1) := by decide +kernel
theorem dX10_init_193 : decode cX10_init 193 = .ok (.sipush 200, 3) := by decide +kernel
theorem dX10_init_196 : decode cX10_init 196 = .ok (.newarray .int, 2) := by decide +kernel
theorem dX10_init_198 : decode cX10_init 198 = .ok (.putfield 79, 3) := by decide +kernel
theorem dX10_init_201 : decode cX10_init 201 = .ok (.aload_n 0, 1) := by decide +kernel
theorem dX10_init_202 : decode cX10_init 202 = .ok (.bipush 12, 2) := by decide +kernel
theorem dX10_init_204 : decode cX10_init 204 = .ok (.newarray .int, 2) := by decide +kernel
theorem dX10_init_206 : decode cX10_init 206 = .ok (.putfield 82, 3) := by decide +kernel
theorem dX10_init_209 : decode cX10_init 209 = .ok (.aload_n 0, 1) := by decide +kernel
theorem dX10_init_210 : decode cX10_init 210 = .ok (.bipush 12, 2) := by decide +kernel
theorem dX10_init_212 : decode cX10_init 212 = .ok (.newarray .int, 2) := by decide +kernel
theorem dX10_init_214 : decode cX10_init 214 = .ok (.putfield 85, 3) := by decide +kernel
theorem dX10_init_217 : decode cX10_init 217 = .ok (.aload_n 0, 1) := by decide +kernel
theorem dX10_init_218 : decode cX10_init 218 = .ok (.bipush 120, 2) := by decide +kernel
theorem dX10_init_220 : decode cX10_init 220 = .ok (.newarray .int, 2) := by decide +kernel
theorem dX10_init_222 : decode cX10_init 222 = .ok (.putfield 88, 3) := by decide +kernel
theorem dX10_init_225 : decode cX10_init 225 = .ok (.aload_n 0, 1) := by decide +kernel
theorem dX10_init_226 : decode cX10_init 226 = .ok (.bipush 12, 2) := by decide +kernel
theorem dX10_init_228 : decode cX10_init 228 = .ok (.newarray .int, 2) := by decide +kernel
theorem dX10_init_230 : decode cX10_init 230 = .ok (.putfield 91, 3) := by decide +kernel
theorem dX10_init_233 : decode cX10_init 233 = .ok (.aload_n 0, 1) := by decide +kernel
theorem dX10_init_234 : decode cX10_init 234 = .ok (.sipush 160, 3) := by decide +kernel
theorem dX10_init_237 : decode cX10_init 237 = .ok (.newarray .int, 2) := by decide +kernel
theorem dX10_init_239 : decode cX10_init 239 = .ok (.putfield 94, 3) := by decide +kernel
theorem dX10_init_242 : decode cX10_init 242 = .ok (.aload_n 0, 1) := by decide +kernel
theorem dX10_init_243 : decode cX10_init 243 = .ok (.sipush 6400, 3) := by decide +kernel
theorem dX10_init_246 : decode cX10_init 246 = .ok (.newarray .int, 2) := by decide +kernel
theorem dX10_init_248 : decode cX10_init 248 = .ok (.putfield 97, 3) := by decide +kernel
theorem dX10_init_251 : decode cX10_init 251 = .ok (.aload_n 0, 1) := by decide +kernel
theorem dX10_init_252 : decode cX10_init 252 = .ok (.bipush 40, 2) := by decide +kernel
theorem dX10_init_254 : decode cX10_init 254 = .ok (.newarray .int, 2) := by decide +kernel
theorem dX10_init_256 : decode cX10_init 256 = .ok (.putfield 100, 3) := by decide +kernel
theorem dX10_init_259 : decode cX10_init 259 = .ok (.aload_n 0, 1) := by decide +kernel
theorem dX10_init_260 : decode cX10_init 260 = .ok (.bipush 40, 2) := by decide +kernel
theorem dX10_init_262 : decode cX10_init 262 = .ok (.newarray .int, 2) := by decide +kernel
theorem dX10_init_264 : decode cX10_init 264 = .ok (.putfield 103, 3) := by decide +kernel
theorem dX10_init_267 : decode cX10_init 267 = .ok (.aload_n 0, 1) := by decide +kernel
theorem dX10_init_268 : decode cX10_init 268 = .ok (.bipush 40, 2) := by decide +kernel
theorem dX10_init_270 : decode cX10_init 270 = .ok (.newarray .int, 2) := by decide +kernel
theorem dX10_init_272 : decode cX10_init 272 = .ok (.putfield 106, 3) := by decide +kernel
theorem dX10_init_275 : decode cX10_init 275 = .ok (.aload_n 0, 1) := by decide +kernel
theorem dX10_init_276 : decode cX10_init 276 = .ok (.bipush 40, 2) := by decide +kernel
theorem dX10_init_278 : decode cX10_init 278 = .ok (.newarray .int, 2) := by decide +kernel
theorem dX10_init_280 : decode cX10_init 280 = .ok (.putfield 109, 3) := by decide +kernel
theorem dX10_init_283 : decode cX10_init 283 = .ok (.aload_n 0, 1) := by decide +kernel
theorem dX10_init_284 : decode cX10_init 284 = .ok (.bipush 9, 2) := by decide +kernel
theorem dX10_init_286 : decode cX10_init 286 = .ok (.newarray .int, 2) := by decide +kernel
theorem dX10_init_288 : decode cX10_init 288 = .ok (.putfield 112, 3) := by decide +kernel
theorem dX10_init_291 : decode cX10_init 291 = .ok (.aload_n 0, 1) := by decide +kernel
theorem dX10_init_292 : decode cX10_init 292 = .ok (.sipush 300, 3) := by decide +kernel
theorem dX10_init_295 : decode cX10_init 295 = .ok (.newarray .int, 2) := by decide +kernel
theorem dX10_init_297 : decode cX10_init 297 = .ok (.putfield 115, 3) := by decide +kernel
theorem dX10_init_300 : decode cX10_init 300 = .ok (.aload_n 0, 1) := by decide +kernel
theorem dX10_init_301 : decode cX10_init 301 = .ok (.sipush 300, 3) := by decide +kernel
theorem dX10_init_304 : decode cX10_init 304 = .ok (.newarray .int, 2) := by decide +kernel
theorem dX10_init_306 : decode cX10_init 306 = .ok (.putfield 118, 3) := by decide +kernel
theorem dX10_init_309 : decode cX10_init 309 = .ok (.aload_n 0, 1) := by decide +kernel
theorem dX10_init_310 : decode cX10_init 310 = .ok (.sipush 300, 3) := by decide +kernel
theorem dX10_init_313 : decode cX10_init 313 = .ok (.newarray .int, 2) := by decide +kernel
theorem dX10_init_315 : decode cX10_init 315 = .ok (.putfield 121, 3) := by decide +kernel
theorem dX10_init_318 : decode cX10_init 318 = .ok (.aload_n 0, 1) := by decide +kernel
theorem dX10_init_319 : decode cX10_init 319 = .ok (.sipush 300, 3) := by decide +kernel
theorem dX10_init_322 : decode cX10_init 322 = .ok (.newarray .int, 2) := by decide +kernel
theorem dX10_init_324 : decode cX10_init 324 = .ok (.putfield 124, 3) := by decide +kernel
theorem dX10_init_327 : decode cX10_init 327 = .ok (.aload_n 0, 1) := by decide +kernel
theorem dX10_init_328 : decode cX10_init 328 = .ok (.sipush 300, 3) := by decide +kernel
theorem dX10_init_331 : decode cX10_init 331 = .ok (.newarray .int, 2) := by decide +kernel
theorem dX10_init_333 : decode cX10_init 333 = .ok (.putfield 127, 3) := by decide +kernel
theorem dX10_init_336 : decode cX10_init 336 = .ok (.aload_n 0, 1) := by decide +kernel
theorem dX10_init_337 : decode cX10_init 337 = .ok (.sipush 300, 3) := by decide +kernel
theorem dX10_init_340 : decode cX10_init 340 = .ok (.newarray .int, 2) := by decide +kernel
theorem dX10_init_342 : decode cX10_init 342 = .ok (.putfield 130, 3) := by decide +kernel
theorem dX10_init_345 : decode cX10_init 345 = .ok (.aload_n 0, 1) := by decide +kernel
theorem dX10_init_346 : decode cX10_init 346 = .ok (.sipush 300, 3) := by decide +kernel
theorem dX10_init_349 : decode cX10_init 349 = .ok (.newarray .int, 2) := by decide +kernel
theorem dX10_init_351 : decode cX10_init 351 = .ok (.putfield 133, 3) := by decide +kernel
theorem dX10_init_354 : decode cX10_init 354 = .ok (.aload_n 0, 1) := by decide +kernel
theorem dX10_init_355 : decode cX10_init 355 = .ok (.sipush 300, 3) := by decide +kernel
theorem dX10_init_358 : decode cX10_init 358 = .ok (.newarray .int, 2) := by decide +kernel
theorem dX10_init_360 : decode cX10_init 360 = .ok (.putfield 136, 3) := by decide +kernel
theorem dX10_init_363 : decode cX10_init 363 = .ok (.aload_n 0, 1) := by decide +kernel
theorem dX10_init_364 : decode cX10_init 364 = .ok (.sipush 300, 3) := by decide +kernel
theorem dX10_init_367 : decode cX10_init 367 = .ok (.newarray .int, 2) := by decide +kernel
theorem dX10_init_369 : decode cX10_init 369 = .ok (.putfield 139, 3) := by decide +kernel
theorem dX10_init_372 : decode cX10_init 372 = .ok (.aload_n 0, 1) := by decide +kernel
theorem dX10_init_373 : decode cX10_init 373 = .ok (.sipush 300, 3) := by decide +kernel
theorem dX10_init_376 : decode cX10_init 376 = .ok (.newarray .int, 2) := by decide +kernel
theorem dX10_init_378 : decode cX10_init 378 = .ok (.putfield 142, 3) := by decide +kernel
theorem dX10_init_381 : decode cX10_init 381 = .ok (.aload_n 0, 1) := by decide +kernel
theorem dX10_init_382 : decode cX10_init 382 = .ok (.sipush 300, 3) := by decide +kernel
theorem dX10_init_385 : decode cX10_init 385 = .ok (.newarray .int, 2) := by decide +kernel
theorem dX10_init_387 : decode cX10_init 387 = .ok (.putfield 145, 3) := by decide +kernel
theorem dX10_init_390 : decode cX10_init 390 = .ok (.aload_n 0, 1) := by decide +kernel
theorem dX10_init_391 : decode cX10_init 391 = .ok (.sipush 300, 3) := by decide +kernel
theorem dX10_init_394 : decode cX10_init 394 = .ok (.newarray .boolean, 2) := by decide +kernel
theorem dX10_init_396 : decode cX10_init 396 = .ok (.putfield 148, 3) := by decide +kernel
theorem dX10_init_399 : decode cX10_init 399 = .ok (.aload_n 0, 1) := by decide +kernel
theorem dX10_init_400 : decode cX10_init 400 = .ok (.sipush 300, 3) := by decide +kernel
theorem dX10_init_403 : decode cX10_init 403 = .ok (.newarray .int, 2) := by decide +kernel
theorem dX10_init_405 : decode cX10_init 405 = .ok (.putfield 152, 3) := by decide +kernel
theorem dX10_init_408 : decode cX10_init 408 = .ok (.aload_n 0, 1) := by decide +kernel
theorem dX10_init_409 : decode cX10_init 409 = .ok (.sipush 300, 3) := by decide +kernel
theorem dX10_init_412 : decode cX10_init 412 = .ok (.newarray .int, 2) := by decide +kernel
theorem dX10_init_414 : decode cX10_init 414 = .ok (.putfield 155, 3) := by decide +kernel
theorem dX10_init_417 : decode cX10_init 417 = .ok (.aload_n 0, 1) := by decide +kernel
theorem dX10_init_418 : decode cX10_init 418 = .ok (.sipush 300, 3) := by decide +kernel
theorem dX10_init_421 : decode cX10_init 421 = .ok (.newarray .int, 2) := by decide +kernel
theorem dX10_init_423 : decode cX10_init 423 = .ok (.putfield 158, 3) := by decide +kernel
theorem dX10_init_426 : decode cX10_init 426 = .ok (.aload_n 0, 1) := by decide +kernel
theorem dX10_init_427 : decode cX10_init 427 = .ok (.sipush 300, 3) := by decide +kernel
theorem dX10_init_430 : decode cX10_init 430 = .ok (.newarray .int, 2) := by decide +kernel
theorem dX10_init_432 : decode cX10_init 432 = .ok (.putfield 161, 3) := by decide +kernel
theorem dX10_init_435 : decode cX10_init 435 = .ok (.aload_n 0, 1) := by decide +kernel
theorem dX10_init_436 : decode cX10_init 436 = .ok (.sipush 300, 3) := by decide +kernel
theorem dX10_init_439 : decode cX10_init 439 = .ok (.newarray .int, 2) := by decide +kernel
theorem dX10_init_441 : decode cX10_init 441 = .ok (.putfield 164, 3) := by decide +kernel
theorem dX10_init_444 : decode cX10_init 444 = .ok (.aload_n 0, 1) := by decide +kernel
theorem dX10_init_445 : decode cX10_init 445 = .ok (.sipush 300, 3) := by decide +kernel
theorem dX10_init_448 : decode cX10_init 448 = .ok (.newarray .int, 2) := by decide +kernel
theorem dX10_init_450 : decode cX10_init 450 = .ok (.putfield 167, 3) := by decide +kernel
theorem dX10_init_453 : decode cX10_init 453 = .ok (.aload_n 0, 1) := by decide +kernel
theorem dX10_init_454 : decode cX10_init 454 = .ok (.sipush 300, 3) := by decide +kernel
theorem dX10_init_457 : decode cX10_init 457 = .ok (.newarray .int, 2) := by decide +kernel
theorem dX10_init_459 : decode cX10_init 459 = .ok (.putfield 170, 3) := by decide +kernel
theorem dX10_init_462 : decode cX10_init 462 = .ok (.aload_n 0, 1) := by decide +kernel
theorem dX10_init_463 : decode cX10_init 463 = .ok (.bipush 60, 2) := by decide +kernel
theorem dX10_init_465 : decode cX10_init 465 = .ok (.newarray .int, 2) := by decide +kernel
theorem dX10_init_467 : decode cX10_init 467 = .ok (.putfield 173, 3) := by decide +kernel
theorem dX10_init_470 : decode cX10_init 470 = .ok (.aload_n 0, 1) := by decide +kernel
theorem dX10_init_471 : decode cX10_init 471 = .ok (.bipush 60, 2) := by decide +kernel
theorem dX10_init_473 : decode cX10_init 473 = .ok (.newarray .int, 2) := by decide +kernel
theorem dX10_init_475 : decode cX10_init 475 = .ok (.putfield 176, 3) := by decide +kernel
theorem dX10_init_478 : decode cX10_init 478 = .ok (.aload_n 0, 1) := by decide +kernel
theorem dX10_init_479 : decode cX10_init 479 = .ok (.bipush 60, 2) := by decide +kernel
theorem dX10_init_481 : decode cX10_init 481 = .ok (.newarray .int, 2) := by decide +kernel
theorem dX10_init_483 : decode cX10_init 483 = .ok (.putfield 179, 3) := by decide +kernel
theorem dX10_init_486 : decode cX10_init 486 = .ok (.aload_n 0, 1) := by decide +kernel
theorem dX10_init_487 : decode cX10_init 487 = .ok (.bipush 60, 2) := by decide +kernel
theorem dX10_init_489 : decode cX10_init 489 = .ok (.newarray .int, 2) := by decide +kernel
theorem dX10_init_491 : decode cX10_init 491 = .ok (.putfield 182, 3) := by decide +kernel
theorem dX10_init_494 : decode cX10_init 494 = .ok (.aload_n 0, 1) := by decide +kernel
theorem dX10_init_495 : decode cX10_init 495 = .ok (.bipush 60, 2) := by decide +kernel
theorem dX10_init_497 : decode cX10_init 497 = .ok (.newarray .int, 2) := by decide +kernel
theorem dX10_init_499 : decode cX10_init 499 = .ok (.putfield 185, 3) := by decide +kernel
theorem dX10_init_502 : decode cX10_init 502 = .ok (.aload_n 0, 1) := by decide +kernel
theorem dX10_init_503 : decode cX10_init 503 = .ok (.bipush 60, 2) := by decide +kernel
theorem dX10_init_505 : decode cX10_init 505 = .ok (.newarray .int, 2) := by decide +kernel
theorem dX10_init_507 : decode cX10_init 507 = .ok (.putfield 188, 3) := by decide +kernel
theorem dX10_init_510 : decode cX10_init 510 = .ok (.aload_n 0, 1) := by decide +kernel
theorem dX10_init_511 : decode cX10_init 511 = .ok (.bipush 60, 2) := by decide +kernel
theorem dX10_init_513 : decode cX10_init 513 = .ok (.newarray .int, 2) := by decide +kernel
theorem dX10_init_515 : decode cX10_init 515 = .ok (.putfield 191, 3) := by decide +kernel
theorem dX10_init_518 : decode cX10_init 518 = .ok (.iconst 0, 1) := by decide +kernel
theorem dX10_init_519 : decode cX10_init 519 = .ok (.istore_n 1, 1) := by decide +kernel
theorem dX10_init_520 : decode cX10_init 520 = .ok (.iload_n 1, 1) := by decide +kernel
theorem dX10_init_521 : decode cX10_init 521 = .ok (.bipush 12, 2) := by decide +kernel
theorem dX10_init_523 : decode cX10_init 523 = .ok (.if_icmp .ge 27, 3) := by decide +kernel
theorem dX10_init_526 : decode cX10_init 526 = .ok (.aload_n 0, 1) := by decide +kernel
theorem dX10_init_527 : decode cX10_init 527 = .ok (.getfield 7, 3) := by decide +kernel
theorem dX10_init_530 : decode cX10_init 530 = .ok (.iload_n 1, 1) := by decide +kernel
theorem dX10_init_531 : decode cX10_init 531 = .ok (.sipush 360, 3) := by decide +kernel
theorem dX10_init_534 : decode cX10_init 534 = .ok (.iastore, 1) := by decide +kernel
theorem dX10_init_535 : decode cX10_init 535 = .ok (.aload_n 0, 1) := by decide +kernel
theorem dX10_init_536 : decode cX10_init 536 = .ok (.getfield 13, 3) := by decide +kernel
theorem dX10_init_539 : decode cX10_init 539 = .ok (.iload_n 1, 1) := by decide +kernel
theorem dX10_init_540 : decode cX10_init 540 = .ok (.sipush 1080, 3) := by decide +kernel
theorem dX10_init_543 : decode cX10_init 543 = .ok (.iastore, 1) := by decide +kernel
theorem dX10_init_544 : decode cX10_init 544 = .ok (.iinc 1 1, 3) := by decide +kernel
theorem dX10_init_547 : decode cX10_init 547 = .ok (.goto (-27), 3) := by decide +kernel
theorem dX10_init_550 : decode cX10_init 550 = .ok (.return_, 1) := by decide +kernel
theorem dX10_within_0 : decode cX10_within 0 = .ok (.iload_n 0, 1) := by decide +kernel
theorem dX10_within_1 : decode cX10_within 1 = .ok (.iload_n 1, 1) := by decide +kernel
theorem dX10_within_2 : decode cX10_within 2 = .ok (.if_icmp .lt 12, 3) := by decide +kernel
theorem dX10_within_5 : decode cX10_within 5 = .ok (.iload_n 0, 1) := by decide +kernel
theorem dX10_within_6 : decode cX10_within 6 = .ok (.iload_n 2, 1) := by decide +kernel
theorem dX10_within_7 : decode cX10_within 7 = .ok (.if_icmp .gt 7, 3) := by decide +kernel
theorem dX10_within_10 : decode cX10_within 10 = .ok (.iconst 1, 1) := by decide +kernel
theorem dX10_within_11 : decode cX10_within 11 = .ok (.goto 4, 3) := by decide +kernel
theorem dX10_within_14 : decode cX10_within 14 = .ok (.iconst 0, 1) := by decide +kernel
theorem dX10_within_15 : decode cX10_within 15 = .ok (.ireturn, 1) := by decide +kernel
theorem dX10_today_0 : decode cX10_today 0 = .ok (.aload_n 0, 1) := by decide +kernel
theorem dX10_today_1 : decode cX10_today 1 = .ok (.getfield 194, 3) := by decide +kernel
theorem dX10_today_4 : decode cX10_today 4 = .ok (.sipush 1440, 3) := by decide +kernel
theorem dX10_today_7 : decode cX10_today 7 = .ok (.idiv, 1) := by decide +kernel
theorem dX10_today_8 : decode cX10_today 8 = .ok (.ireturn, 1) := by decide +kernel
theorem dX10_isCorner_0 : decode cX10_isCorner 0 = .ok (.iload_n 1, 1) := by decide +kernel
theorem dX10_isCorner_1 : decode cX10_isCorner 1 = .ok (.ifCond .lt 15, 3) := by decide +kernel
theorem dX10_isCorner_4 : decode cX10_isCorner 4 = .ok (.iload_n 1, 1) := by decide +kernel
theorem dX10_isCorner_5 : decode cX10_isCorner 5 = .ok (.aload_n 0, 1) := by decide +kernel
theorem dX10_isCorner_6 : decode cX10_isCorner 6 = .ok (.getfield 198, 3) := by decide +kernel
theorem dX10_isCorner_9 : decode cX10_isCorner 9 = .ok (.if_icmp .ge 7, 3) := by decide +kernel
theorem dX10_isCorner_12 : decode cX10_isCorner 12 = .ok (.iconst 1, 1) := by decide +kernel
theorem dX10_isCorner_13 : decode cX10_isCorner 13 = .ok (.goto 4, 3) := by decide +kernel
theorem dX10_isCorner_16 : decode cX10_isCorner 16 = .ok (.iconst 0, 1) := by decide +kernel
theorem dX10_isCorner_17 : decode cX10_isCorner 17 = .ok (.ireturn, 1) := by decide +kernel
theorem dX10_isCoach_0 : decode cX10_isCoach 0 = .ok (.iload_n 1, 1) := by decide +kernel
theorem dX10_isCoach_1 : decode cX10_isCoach 1 = .ok (.ifCond .lt 15, 3) := by decide +kernel
theorem dX10_isCoach_4 : decode cX10_isCoach 4 = .ok (.iload_n 1, 1) := by decide +kernel
theorem dX10_isCoach_5 : decode cX10_isCoach 5 = .ok (.aload_n 0, 1) := by decide +kernel
theorem dX10_isCoach_6 : decode cX10_isCoach 6 = .ok (.getfield 201, 3) := by decide +kernel
theorem dX10_isCoach_9 : decode cX10_isCoach 9 = .ok (.if_icmp .ge 7, 3) := by decide +kernel
theorem dX10_isCoach_12 : decode cX10_isCoach 12 = .ok (.iconst 1, 1) := by decide +kernel
theorem dX10_isCoach_13 : decode cX10_isCoach 13 = .ok (.goto 4, 3) := by decide +kernel
theorem dX10_isCoach_16 : decode cX10_isCoach 16 = .ok (.iconst 0, 1) := by decide +kernel
theorem dX10_isCoach_17 : decode cX10_isCoach 17 = .ok (.ireturn, 1) := by decide +kernel
theorem dX10_isStand_0 : decode cX10_isStand 0 = .ok (.iload_n 1, 1) := by decide +kernel
theorem dX10_isStand_1 : decode cX10_isStand 1 = .ok (.ifCond .lt 15, 3) := by decide +kernel
theorem dX10_isStand_4 : decode cX10_isStand 4 = .ok (.iload_n 1, 1) := by decide +kernel
theorem dX10_isStand_5 : decode cX10_isStand 5 = .ok (.aload_n 0, 1) := by decide +kernel
theorem dX10_isStand_6 : decode cX10_isStand 6 = .ok (.getfield 204, 3) := by decide +kernel
theorem dX10_isStand_9 : decode cX10_isStand 9 = .ok (.if_icmp .ge 7, 3) := by decide +kernel
theorem dX10_isStand_12 : decode cX10_isStand 12 = .ok (.iconst 1, 1) := by decide +kernel
theorem dX10_isStand_13 : decode cX10_isStand 13 = .ok (.goto 4, 3) := by decide +kernel
theorem dX10_isStand_16 : decode cX10_isStand 16 = .ok (.iconst 0, 1) := by decide +kernel
theorem dX10_isStand_17 : decode cX10_isStand 17 = .ok (.ireturn, 1) := by decide +kernel
theorem dX10_isMinute_0 : decode cX10_isMinute 0 = .ok (.iload_n 0, 1) := by decide +kernel
theorem dX10_isMinute_1 : decode cX10_isMinute 1 = .ok (.iconst 0, 1) := by decide +kernel
theorem dX10_isMinute_2 : decode cX10_isMinute 2 = .ok (.ldc 207, 2) := by decide +kernel
theorem dX10_isMinute_4 : decode cX10_isMinute 4 = .ok (.invokestatic 208, 3) := by decide +kernel
theorem dX10_isMinute_7 : decode cX10_isMinute 7 = .ok (.ireturn, 1) := by decide +kernel
theorem dX10_isDay_0 : decode cX10_isDay 0 = .ok (.iload_n 0, 1) := by decide +kernel
theorem dX10_isDay_1 : decode cX10_isDay 1 = .ok (.iconst 0, 1) := by decide +kernel
theorem dX10_isDay_2 : decode cX10_isDay 2 = .ok (.sipush 9999, 3) := by decide +kernel
theorem dX10_isDay_5 : decode cX10_isDay 5 = .ok (.invokestatic 208, 3) := by decide +kernel
theorem dX10_isDay_8 : decode cX10_isDay 8 = .ok (.ireturn, 1) := by decide +kernel
theorem dX10_corner_0 : decode cX10_corner 0 = .ok (.aload_n 0, 1) := by decide +kernel
theorem dX10_corner_1 : decode cX10_corner 1 = .ok (.getfield 198, 3) := by decide +kernel
theorem dX10_corner_4 : decode cX10_corner 4 = .ok (.bipush 24, 2) := by decide +kernel
theorem dX10_corner_6 : decode cX10_corner 6 = .ok (.if_icmp .ne 6, 3) := by decide +kernel
theorem dX10_corner_9 : decode cX10_corner 9 = .ok (.bipush (-2), 2) := by decide +kernel
theorem dX10_corner_11 : decode cX10_corner 11 = .ok (.ireturn, 1) := by decide +kernel
theorem dX10_corner_12 : decode cX10_corner 12 = .ok (.aload_n 0, 1) := by decide +kernel
theorem dX10_corner_13 : decode cX10_corner 13 = .ok (.dup, 1) := by decide +kernel
theorem dX10_corner_14 : decode cX10_corner 14 = .ok (.getfield 198, 3) := by decide +kernel
theorem dX10_corner_17 : decode cX10_corner 17 = .ok (.iconst 1, 1) := by decide +kernel
theorem dX10_corner_18 : decode cX10_corner 18 = .ok (.iadd, 1) := by decide +kernel
theorem dX10_corner_19 : decode cX10_corner 19 = .ok (.putfield 198, 3) := by decide +kernel
theorem dX10_corner_22 : decode cX10_corner 22 = .ok (.aload_n 0, 1) := by decide +kernel
theorem dX10_corner_23 : decode cX10_corner 23 = .ok (.getfield 198, 3) := by decide +kernel
theorem dX10_corner_26 : decode cX10_corner 26 = .ok (.iconst 1, 1) := by decide +kernel
theorem dX10_corner_27 : decode cX10_corner 27 = .ok (.isub, 1) := by decide +kernel
theorem dX10_corner_28 : decode cX10_corner 28 = .ok (.ireturn, 1) := by decide +kernel
theorem dX10_street_0 : decode cX10_street 0 = .ok (.iload_n 1, 1) := by decide +kernel
theorem dX10_street_1 : decode cX10_street 1 = .ok (.ifCond .lt 56, 3) := by decide +kernel
theorem dX10_street_4 : decode cX10_street 4 = .ok (.aload_n 0, 1) := by decide +kernel
theorem dX10_street_5 : decode cX10_street 5 = .ok (.iload_n 1, 1) := by decide +kernel
theorem dX10_street_6 : decode cX10_street 6 = .ok (.bipush 100, 2) := by decide +kernel
theorem dX10_street_8 : decode cX10_street 8 = .ok (.idiv, 1) := by decide +kernel
theorem dX10_street_9 : decode cX10_street 9 = .ok (.invokevirtual 212, 3) := by decide +kernel
theorem dX10_street_12 : decode cX10_street 12 = .ok (.ifCond .eq 45, 3) := by decide +kernel
theorem dX10_street_15 : decode cX10_street 15 = .ok (.aload_n 0, 1) := by decide +kernel
theorem dX10_street_16 : decode cX10_street 16 = .ok (.iload_n 1, 1) := by decide +kernel
theorem dX10_street_17 : decode cX10_street 17 = .ok (.bipush 100, 2) := by decide +kernel
theorem dX10_street_19 : decode cX10_street 19 = .ok (.irem, 1) := by decide +kernel
theorem dX10_street_20 : decode cX10_street 20 = .ok (.invokevirtual 212, 3) := by decide +kernel
theorem dX10_street_23 : decode cX10_street 23 = .ok (.ifCond .eq 34, 3) := by decide +kernel
theorem dX10_street_26 : decode cX10_street 26 = .ok (.iload_n 1, 1) := by decide +kernel
theorem dX10_street_27 : decode cX10_street 27 = .ok (.bipush 100, 2) := by decide +kernel
theorem dX10_street_29 : decode cX10_street 29 = .ok (.idiv, 1) := by decide +kernel
theorem dX10_street_30 : decode cX10_street 30 = .ok (.iload_n 1, 1) := by decide +kernel
theorem dX10_street_31 : decode cX10_street 31 = .ok (.bipush 100, 2) := by decide +kernel
theorem dX10_street_33 : decode cX10_street 33 = .ok (.irem, 1) := by decide +kernel
theorem dX10_street_34 : decode cX10_street 34 = .ok (.if_icmp .eq 23, 3) := by decide +kernel
theorem dX10_street_37 : decode cX10_street 37 = .ok (.iload_n 2, 1) := by decide +kernel
theorem dX10_street_38 : decode cX10_street 38 = .ok (.iconst 1, 1) := by decide +kernel
theorem dX10_street_39 : decode cX10_street 39 = .ok (.sipush 2000, 3) := by decide +kernel
theorem dX10_street_42 : decode cX10_street 42 = .ok (.invokestatic 208, 3) := by decide +kernel
theorem dX10_street_45 : decode cX10_street 45 = .ok (.ifCond .eq 12, 3) := by decide +kernel
theorem dX10_street_48 : decode cX10_street 48 = .ok (.iload_n 3, 1) := by decide +kernel
theorem dX10_street_49 : decode cX10_street 49 = .ok (.iconst 0, 1) := by decide +kernel
theorem dX10_street_50 : decode cX10_street 50 = .ok (.iconst 1, 1) := by decide +kernel
theorem dX10_street_51 : decode cX10_street 51 = .ok (.invokestatic 208, 3) := by decide +kernel
theorem dX10_street_54 : decode cX10_street 54 = .ok (.ifCond .ne 5, 3) := by decide +kernel
theorem dX10_street_57 : decode cX10_street 57 = .ok (.iconst (-1), 1) := by decide +kernel
theorem dX10_street_58 : decode cX10_street 58 = .ok (.ireturn, 1) := by decide +kernel
theorem dX10_street_59 : decode cX10_street 59 = .ok (.aload_n 0, 1) := by decide +kernel
theorem dX10_street_60 : decode cX10_street 60 = .ok (.getfield 216, 3) := by decide +kernel
theorem dX10_street_63 : decode cX10_street 63 = .ok (.bipush 60, 2) := by decide +kernel
theorem dX10_street_65 : decode cX10_street 65 = .ok (.if_icmp .ne 6, 3) := by decide +kernel
theorem dX10_street_68 : decode cX10_street 68 = .ok (.bipush (-2), 2) := by decide +kernel
theorem dX10_street_70 : decode cX10_street 70 = .ok (.ireturn, 1) := by decide +kernel
theorem dX10_street_71 : decode cX10_street 71 = .ok (.aload_n 0, 1) := by decide +kernel
theorem dX10_street_72 : decode cX10_street 72 = .ok (.getfield 16, 3) := by decide +kernel
theorem dX10_street_75 : decode cX10_street 75 = .ok (.aload_n 0, 1) := by decide +kernel
theorem dX10_street_76 : decode cX10_street 76 = .ok (.getfield 216, 3) := by decide +kernel
theorem dX10_street_79 : decode cX10_street 79 = .ok (.iload_n 1, 1) := by decide +kernel
theorem dX10_street_80 : decode cX10_street 80 = .ok (.bipush 100, 2) := by decide +kernel
theorem dX10_street_82 : decode cX10_street 82 = .ok (.idiv, 1) := by decide +kernel
theorem dX10_street_83 : decode cX10_street 83 = .ok (.iastore, 1) := by decide +kernel
theorem dX10_street_84 : decode cX10_street 84 = .ok (.aload_n 0, 1) := by decide +kernel
theorem dX10_street_85 : decode cX10_street 85 = .ok (.getfield 19, 3) := by decide +kernel
theorem dX10_street_88 : decode cX10_street 88 = .ok (.aload_n 0, 1) := by decide +kernel
theorem dX10_street_89 : decode cX10_street 89 = .ok (.getfield 216, 3) := by decide +kernel
theorem dX10_street_92 : decode cX10_street 92 = .ok (.iload_n 1, 1) := by decide +kernel
theorem dX10_street_93 : decode cX10_street 93 = .ok (.bipush 100, 2) := by decide +kernel
theorem dX10_street_95 : decode cX10_street 95 = .ok (.irem, 1) := by decide +kernel
theorem dX10_street_96 : decode cX10_street 96 = .ok (.iastore, 1) := by decide +kernel
theorem dX10_street_97 : decode cX10_street 97 = .ok (.aload_n 0, 1) := by decide +kernel
theorem dX10_street_98 : decode cX10_street 98 = .ok (.getfield 22, 3) := by decide +kernel
theorem dX10_street_101 : decode cX10_street 101 = .ok (.aload_n 0, 1) := by decide +kernel
theorem dX10_street_102 : decode cX10_street 102 = .ok (.getfield 216, 3) := by decide +kernel
theorem dX10_street_105 : decode cX10_street 105 = .ok (.iload_n 2, 1) := by decide +kernel
theorem dX10_street_106 : decode cX10_street 106 = .ok (.iastore, 1) := by decide +kernel
theorem dX10_street_107 : decode cX10_street 107 = .ok (.aload_n 0, 1) := by decide +kernel
theorem dX10_street_108 : decode cX10_street 108 = .ok (.getfield 25, 3) := by decide +kernel
theorem dX10_street_111 : decode cX10_street 111 = .ok (.aload_n 0, 1) := by decide +kernel
theorem dX10_street_112 : decode cX10_street 112 = .ok (.getfield 216, 3) := by decide +kernel
theorem dX10_street_115 : decode cX10_street 115 = .ok (.iload_n 3, 1) := by decide +kernel
theorem dX10_street_116 : decode cX10_street 116 = .ok (.iastore, 1) := by decide +kernel
theorem dX10_street_117 : decode cX10_street 117 = .ok (.aload_n 0, 1) := by decide +kernel
theorem dX10_street_118 : decode cX10_street 118 = .ok (.dup, 1) := by decide +kernel
theorem dX10_street_119 : decode cX10_street 119 = .ok (.getfield 216, 3) := by decide +kernel
theorem dX10_street_122 : decode cX10_street 122 = .ok (.iconst 1, 1) := by decide +kernel
theorem dX10_street_123 : decode cX10_street 123 = .ok (.iadd, 1) := by decide +kernel
theorem dX10_street_124 : decode cX10_street 124 = .ok (.putfield 216, 3) := by decide +kernel
theorem dX10_street_127 : decode cX10_street 127 = .ok (.aload_n 0, 1) := by decide +kernel
theorem dX10_street_128 : decode cX10_street 128 = .ok (.getfield 216, 3) := by decide +kernel
theorem dX10_street_131 : decode cX10_street 131 = .ok (.iconst 1, 1) := by decide +kernel
theorem dX10_street_132 : decode cX10_street 132 = .ok (.isub, 1) := by decide +kernel
theorem dX10_street_133 : decode cX10_street 133 = .ok (.ireturn, 1) := by decide +kernel
theorem dX10_shut_0 : decode cX10_shut 0 = .ok (.iload_n 1, 1) := by decide +kernel
theorem dX10_shut_1 : decode cX10_shut 1 = .ok (.ifCond .lt 30, 3) := by decide +kernel
theorem dX10_shut_4 : decode cX10_shut 4 = .ok (.iload_n 1, 1) := by decide +kernel
theorem dX10_shut_5 : decode cX10_shut 5 = .ok (.aload_n 0, 1) := by decide +kernel
theorem dX10_shut_6 : decode cX10_shut 6 = .ok (.getfield 216, 3) := by decide +kernel
theorem dX10_shut_9 : decode cX10_shut 9 = .ok (.if_icmp .ge 22, 3) := by decide +kernel
theorem dX10_shut_12 : decode cX10_shut 12 = .ok (.iload_n 2, 1) := by decide +kernel
theorem dX10_shut_13 : decode cX10_shut 13 = .ok (.aload_n 0, 1) := by decide +kernel
theorem dX10_shut_14 : decode cX10_shut 14 = .ok (.getfield 194, 3) := by decide +kernel
theorem dX10_shut_17 : decode cX10_shut 17 = .ok (.if_icmp .lt 14, 3) := by decide +kernel
theorem dX10_shut_20 : decode cX10_shut 20 = .ok (.iload_n 3, 1) := by decide +kernel
theorem dX10_shut_21 : decode cX10_shut 21 = .ok (.iload_n 2, 1) := by decide +kernel
theorem dX10_shut_22 : decode cX10_shut 22 = .ok (.if_icmp .le 9, 3) := by decide +kernel
theorem dX10_shut_25 : decode cX10_shut 25 = .ok (.iload_n 3, 1) := by decide +kernel
theorem dX10_shut_26 : decode cX10_shut 26 = .ok (.ldc 219, 2) := by decide +kernel
theorem dX10_shut_28 : decode cX10_shut 28 = .ok (.if_icmp .le 5, 3) := by decide +kernel
theorem dX10_shut_31 : decode cX10_shut 31 = .ok (.iconst (-1), 1) := by decide +kernel
theorem dX10_shut_32 : decode cX10_shut 32 = .ok (.ireturn, 1) := by decide +kernel
theorem dX10_shut_33 : decode cX10_shut 33 = .ok (.aload_n 0, 1) := by decide +kernel
theorem dX10_shut_34 : decode cX10_shut 34 = .ok (.getfield 34, 3) := by decide +kernel
theorem dX10_shut_37 : decode cX10_shut 37 = .ok (.iload_n 1, 1) := by decide +kernel
theorem dX10_shut_38 : decode cX10_shut 38 = .ok (.iaload, 1) := by decide +kernel
theorem dX10_shut_39 : decode cX10_shut 39 = .ok (.iconst 4, 1) := by decide +kernel
theorem dX10_shut_40 : decode cX10_shut 40 = .ok (.if_icmp .ne 6, 3) := by decide +kernel
theorem dX10_shut_43 : decode cX10_shut 43 = .ok (.bipush (-2), 2) := by decide +kernel
theorem dX10_shut_45 : decode cX10_shut 45 = .ok (.ireturn, 1) := by decide +kernel
theorem dX10_shut_46 : decode cX10_shut 46 = .ok (.aload_n 0, 1) := by decide +kernel
theorem dX10_shut_47 : decode cX10_shut 47 = .ok (.getfield 28, 3) := by decide +kernel
theorem dX10_shut_50 : decode cX10_shut 50 = .ok (.iconst 4, 1) := by decide +kernel
theorem dX10_shut_51 : decode cX10_shut 51 = .ok (.iload_n 1, 1) := by decide +kernel
theorem dX10_shut_52 : decode cX10_shut 52 = .ok (.imul, 1) := by decide +kernel
theorem dX10_shut_53 : decode cX10_shut 53 = .ok (.aload_n 0, 1) := by decide +kernel
theorem dX10_shut_54 : decode cX10_shut 54 = .ok (.getfield 34, 3) := by decide +kernel
theorem dX10_shut_57 : decode cX10_shut 57 = .ok (.iload_n 1, 1) := by decide +kernel
theorem dX10_shut_58 : decode cX10_shut 58 = .ok (.iaload, 1) := by decide +kernel
theorem dX10_shut_59 : decode cX10_shut 59 = .ok (.iadd, 1) := by decide +kernel
theorem dX10_shut_60 : decode cX10_shut 60 = .ok (.iload_n 2, 1) := by decide +kernel
theorem dX10_shut_61 : decode cX10_shut 61 = .ok (.iastore, 1) := by decide +kernel
theorem dX10_shut_62 : decode cX10_shut 62 = .ok (.aload_n 0, 1) := by decide +kernel
theorem dX10_shut_63 : decode cX10_shut 63 = .ok (.getfield 31, 3) := by decide +kernel
theorem dX10_shut_66 : decode cX10_shut 66 = .ok (.iconst 4, 1) := by decide +kernel
theorem dX10_shut_67 : decode cX10_shut 67 = .ok (.iload_n 1, 1) := by decide +kernel
theorem dX10_shut_68 : decode cX10_shut 68 = .ok (.imul, 1) := by decide +kernel
theorem dX10_shut_69 : decode cX10_shut 69 = .ok (.aload_n 0, 1) := by decide +kernel
theorem dX10_shut_70 : decode cX10_shut 70 = .ok (.getfield 34, 3) := by decide +kernel
theorem dX10_shut_73 : decode cX10_shut 73 = .ok (.iload_n 1, 1) := by decide +kernel
theorem dX10_shut_74 : decode cX10_shut 74 = .ok (.iaload, 1) := by decide +kernel
theorem dX10_shut_75 : decode cX10_shut 75 = .ok (.iadd, 1) := by decide +kernel
theorem dX10_shut_76 : decode cX10_shut 76 = .ok (.iload_n 3, 1) := by decide +kernel
theorem dX10_shut_77 : decode cX10_shut 77 = .ok (.iastore, 1) := by decide +kernel
theorem dX10_shut_78 : decode cX10_shut 78 = .ok (.aload_n 0, 1) := by decide +kernel
theorem dX10_shut_79 : decode cX10_shut 79 = .ok (.getfield 34, 3) := by decide +kernel
theorem dX10_shut_82 : decode cX10_shut 82 = .ok (.iload_n 1, 1) := by decide +kernel
theorem dX10_shut_83 : decode cX10_shut 83 = .ok (.dup2, 1) := by decide +kernel
theorem dX10_shut_84 : decode cX10_shut 84 = .ok (.iaload, 1) := by decide +kernel
theorem dX10_shut_85 : decode cX10_shut 85 = .ok (.iconst 1, 1) := by decide +kernel
theorem dX10_shut_86 : decode cX10_shut 86 = .ok (.iadd, 1) := by decide +kernel
theorem dX10_shut_87 : decode cX10_shut 87 = .ok (.iastore, 1) := by decide +kernel
theorem dX10_shut_88 : decode cX10_shut 88 = .ok (.aload_n 0, 1) := by decide +kernel
theorem dX10_shut_89 : decode cX10_shut 89 = .ok (.getfield 34, 3) := by decide +kernel
theorem dX10_shut_92 : decode cX10_shut 92 = .ok (.iload_n 1, 1) := by decide +kernel
theorem dX10_shut_93 : decode cX10_shut 93 = .ok (.iaload, 1) := by decide +kernel
theorem dX10_shut_94 : decode cX10_shut 94 = .ok (.ireturn, 1) := by decide +kernel
theorem dX10_isShut_0 : decode cX10_isShut 0 = .ok (.iconst 0, 1) := by decide +kernel
theorem dX10_isShut_1 : decode cX10_isShut 1 = .ok (.istore_n 3, 1) := by decide +kernel
theorem dX10_isShut_2 : decode cX10_isShut 2 = .ok (.iconst 0, 1) := by decide +kernel
theorem dX10_isShut_3 : decode cX10_isShut 3 = .ok (.istore 4, 2) := by decide +kernel
theorem dX10_isShut_5 : decode cX10_isShut 5 = .ok (.iload 4, 2) := by decide +kernel
theorem dX10_isShut_7 : decode cX10_isShut 7 = .ok (.aload_n 0, 1) := by decide +kernel
theorem dX10_isShut_8 : decode cX10_isShut 8 = .ok (.getfield 34, 3) := by decide +kernel
theorem dX10_isShut_11 : decode cX10_isShut 11 = .ok (.iload_n 1, 1) := by decide +kernel
theorem dX10_isShut_12 : decode cX10_isShut 12 = .ok (.iaload, 1) := by decide +kernel
theorem dX10_isShut_13 : decode cX10_isShut 13 = .ok (.if_icmp .ge 49, 3) := by decide +kernel
theorem dX10_isShut_16 : decode cX10_isShut 16 = .ok (.iload_n 3, 1) := by decide +kernel
theorem dX10_isShut_17 : decode cX10_isShut 17 = .ok (.ifCond .ne 33, 3) := by decide +kernel
theorem dX10_isShut_20 : decode cX10_isShut 20 = .ok (.iload_n 2, 1) := by decide +kernel
theorem dX10_isShut_21 : decode cX10_isShut 21 = .ok (.aload_n 0, 1) := by decide +kernel
theorem dX10_isShut_22 : decode cX10_isShut 22 = .ok (.getfield 28, 3) := by decide +kernel
theorem dX10_isShut_25 : decode cX10_isShut 25 = .ok (.iconst 4, 1) := by decide +kernel
theorem dX10_isShut_26 : decode cX10_isShut 26 = .ok (.iload_n 1, 1) := by decide +kernel
theorem dX10_isShut_27 : decode cX10_isShut 27 = .ok (.imul, 1) := by decide +kernel
theorem dX10_isShut_28 : decode cX10_isShut 28 = .ok (.iload 4, 2) := by decide +kernel
theorem dX10_isShut_30 : decode cX10_isShut 30 = .ok (.iadd, 1) := by decide +kernel
theorem dX10_isShut_31 : decode cX10_isShut 31 = .ok (.iaload, 1) := by decide +kernel
theorem dX10_isShut_32 : decode cX10_isShut 32 = .ok (.if_icmp .lt 22, 3) := by decide +kernel
theorem dX10_isShut_35 : decode cX10_isShut 35 = .ok (.iload_n 2, 1) := by decide +kernel
theorem dX10_isShut_36 : decode cX10_isShut 36 = .ok (.aload_n 0, 1) := by decide +kernel
theorem dX10_isShut_37 : decode cX10_isShut 37 = .ok (.getfield 31, 3) := by decide +kernel
theorem dX10_isShut_40 : decode cX10_isShut 40 = .ok (.iconst 4, 1) := by decide +kernel
theorem dX10_isShut_41 : decode cX10_isShut 41 = .ok (.iload_n 1, 1) := by decide +kernel
theorem dX10_isShut_42 : decode cX10_isShut 42 = .ok (.imul, 1) := by decide +kernel
theorem dX10_isShut_43 : decode cX10_isShut 43 = .ok (.iload 4, 2) := by decide +kernel
theorem dX10_isShut_45 : decode cX10_isShut 45 = .ok (.iadd, 1) := by decide +kernel
theorem dX10_isShut_46 : decode cX10_isShut 46 = .ok (.iaload, 1) := by decide +kernel
theorem dX10_isShut_47 : decode cX10_isShut 47 = .ok (.if_icmp .ge 7, 3) := by decide +kernel
theorem dX10_isShut_50 : decode cX10_isShut 50 = .ok (.iconst 1, 1) := by decide +kernel
theorem dX10_isShut_51 : decode cX10_isShut 51 = .ok (.goto 4, 3) := by decide +kernel
theorem dX10_isShut_54 : decode cX10_isShut 54 = .ok (.iconst 0, 1) := by decide +kernel
theorem dX10_isShut_55 : decode cX10_isShut 55 = .ok (.istore_n 3, 1) := by decide +kernel
