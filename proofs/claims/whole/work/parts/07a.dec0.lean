theorem dX0_init_0 : decode cX0_init 0 = .ok (.aload_n 0, 1) := by decide +kernel
theorem dX0_init_1 : decode cX0_init 1 = .ok (.invokespecial 3, 3) := by decide +kernel
theorem dX0_init_4 : decode cX0_init 4 = .ok (.aload_n 0, 1) := by decide +kernel
theorem dX0_init_5 : decode cX0_init 5 = .ok (.new 9, 3) := by decide +kernel
theorem dX0_init_8 : decode cX0_init 8 = .ok (.dup, 1) := by decide +kernel
theorem dX0_init_9 : decode cX0_init 9 = .ok (.bipush 60, 2) := by decide +kernel
theorem dX0_init_11 : decode cX0_init 11 = .ok (.bipush 13, 2) := by decide +kernel
theorem dX0_init_13 : decode cX0_init 13 = .ok (.invokespecial 13, 3) := by decide +kernel
theorem dX0_init_16 : decode cX0_init 16 = .ok (.putfield 16, 3) := by decide +kernel
theorem dX0_init_19 : decode cX0_init 19 = .ok (.aload_n 0, 1) := by decide +kernel
theorem dX0_init_20 : decode cX0_init 20 = .ok (.bipush 12, 2) := by decide +kernel
theorem dX0_init_22 : decode cX0_init 22 = .ok (.newarray .int, 2) := by decide +kernel
theorem dX0_init_24 : decode cX0_init 24 = .ok (.putfield 20, 3) := by decide +kernel
theorem dX0_init_27 : decode cX0_init 27 = .ok (.aload_n 0, 1) := by decide +kernel
theorem dX0_init_28 : decode cX0_init 28 = .ok (.bipush 12, 2) := by decide +kernel
theorem dX0_init_30 : decode cX0_init 30 = .ok (.newarray .int, 2) := by decide +kernel
theorem dX0_init_32 : decode cX0_init 32 = .ok (.putfield 24, 3) := by decide +kernel
theorem dX0_init_35 : decode cX0_init 35 = .ok (.aload_n 0, 1) := by decide +kernel
theorem dX0_init_36 : decode cX0_init 36 = .ok (.bipush 24, 2) := by decide +kernel
theorem dX0_init_38 : decode cX0_init 38 = .ok (.newarray .int, 2) := by decide +kernel
theorem dX0_init_40 : decode cX0_init 40 = .ok (.putfield 27, 3) := by decide +kernel
theorem dX0_init_43 : decode cX0_init 43 = .ok (.aload_n 0, 1) := by decide +kernel
theorem dX0_init_44 : decode cX0_init 44 = .ok (.bipush 24, 2) := by decide +kernel
theorem dX0_init_46 : decode cX0_init 46 = .ok (.newarray .int, 2) := by decide +kernel
theorem dX0_init_48 : decode cX0_init 48 = .ok (.putfield 30, 3) := by decide +kernel
theorem dX0_init_51 : decode cX0_init 51 = .ok (.iconst 0, 1) := by decide +kernel
theorem dX0_init_52 : decode cX0_init 52 = .ok (.istore_n 1, 1) := by decide +kernel
theorem dX0_init_53 : decode cX0_init 53 = .ok (.iload_n 1, 1) := by decide +kernel
theorem dX0_init_54 : decode cX0_init 54 = .ok (.bipush 12, 2) := by decide +kernel
theorem dX0_init_56 : decode cX0_init 56 = .ok (.if_icmp .ge 20, 3) := by decide +kernel
theorem dX0_init_59 : decode cX0_init 59 = .ok (.aload_n 0, 1) := by decide +kernel
theorem dX0_init_60 : decode cX0_init 60 = .ok (.iload_n 1, 1) := by decide +kernel
theorem dX0_init_61 : decode cX0_init 61 = .ok (.sipush 360, 3) := by decide +kernel
theorem dX0_init_64 : decode cX0_init 64 = .ok (.sipush 1080, 3) := by decide +kernel
theorem dX0_init_67 : decode cX0_init 67 = .ok (.invokevirtual 33, 3) := by decide +kernel
theorem dX0_init_70 : decode cX0_init 70 = .ok (.iinc 1 1, 3) := by decide +kernel
theorem dX0_init_73 : decode cX0_init 73 = .ok (.goto (-20), 3) := by decide +kernel
theorem dX0_init_76 : decode cX0_init 76 = .ok (.return_, 1) := by decide +kernel
theorem dX0_isCorner_0 : decode cX0_isCorner 0 = .ok (.iload_n 1, 1) := by decide +kernel
theorem dX0_isCorner_1 : decode cX0_isCorner 1 = .ok (.ifCond .lt 15, 3) := by decide +kernel
theorem dX0_isCorner_4 : decode cX0_isCorner 4 = .ok (.iload_n 1, 1) := by decide +kernel
theorem dX0_isCorner_5 : decode cX0_isCorner 5 = .ok (.aload_n 0, 1) := by decide +kernel
theorem dX0_isCorner_6 : decode cX0_isCorner 6 = .ok (.getfield 37, 3) := by decide +kernel
theorem dX0_isCorner_9 : decode cX0_isCorner 9 = .ok (.if_icmp .ge 7, 3) := by decide +kernel
theorem dX0_isCorner_12 : decode cX0_isCorner 12 = .ok (.iconst 1, 1) := by decide +kernel
theorem dX0_isCorner_13 : decode cX0_isCorner 13 = .ok (.goto 4, 3) := by decide +kernel
theorem dX0_isCorner_16 : decode cX0_isCorner 16 = .ok (.iconst 0, 1) := by decide +kernel
theorem dX0_isCorner_17 : decode cX0_isCorner 17 = .ok (.ireturn, 1) := by decide +kernel
theorem dX0_addCorner_0 : decode cX0_addCorner 0 = .ok (.aload_n 0, 1) := by decide +kernel
theorem dX0_addCorner_1 : decode cX0_addCorner 1 = .ok (.getfield 37, 3) := by decide +kernel
theorem dX0_addCorner_4 : decode cX0_addCorner 4 = .ok (.bipush 24, 2) := by decide +kernel
theorem dX0_addCorner_6 : decode cX0_addCorner 6 = .ok (.if_icmp .lt 6, 3) := by decide +kernel
theorem dX0_addCorner_9 : decode cX0_addCorner 9 = .ok (.bipush (-2), 2) := by decide +kernel
theorem dX0_addCorner_11 : decode cX0_addCorner 11 = .ok (.ireturn, 1) := by decide +kernel
theorem dX0_addCorner_12 : decode cX0_addCorner 12 = .ok (.aload_n 0, 1) := by decide +kernel
theorem dX0_addCorner_13 : decode cX0_addCorner 13 = .ok (.dup, 1) := by decide +kernel
theorem dX0_addCorner_14 : decode cX0_addCorner 14 = .ok (.getfield 37, 3) := by decide +kernel
theorem dX0_addCorner_17 : decode cX0_addCorner 17 = .ok (.iconst 1, 1) := by decide +kernel
theorem dX0_addCorner_18 : decode cX0_addCorner 18 = .ok (.iadd, 1) := by decide +kernel
theorem dX0_addCorner_19 : decode cX0_addCorner 19 = .ok (.putfield 37, 3) := by decide +kernel
theorem dX0_addCorner_22 : decode cX0_addCorner 22 = .ok (.aload_n 0, 1) := by decide +kernel
theorem dX0_addCorner_23 : decode cX0_addCorner 23 = .ok (.getfield 37, 3) := by decide +kernel
theorem dX0_addCorner_26 : decode cX0_addCorner 26 = .ok (.iconst 1, 1) := by decide +kernel
theorem dX0_addCorner_27 : decode cX0_addCorner 27 = .ok (.isub, 1) := by decide +kernel
theorem dX0_addCorner_28 : decode cX0_addCorner 28 = .ok (.ireturn, 1) := by decide +kernel
theorem dX0_addStreet_0 : decode cX0_addStreet 0 = .ok (.aload_n 0, 1) := by decide +kernel
theorem dX0_addStreet_1 : decode cX0_addStreet 1 = .ok (.getfield 16, 3) := by decide +kernel
theorem dX0_addStreet_4 : decode cX0_addStreet 4 = .ok (.invokevirtual 41, 3) := by decide +kernel
theorem dX0_addStreet_7 : decode cX0_addStreet 7 = .ok (.istore 5, 2) := by decide +kernel
theorem dX0_addStreet_9 : decode cX0_addStreet 9 = .ok (.aload_n 0, 1) := by decide +kernel
theorem dX0_addStreet_10 : decode cX0_addStreet 10 = .ok (.getfield 16, 3) := by decide +kernel
theorem dX0_addStreet_13 : decode cX0_addStreet 13 = .ok (.iload 5, 2) := by decide +kernel
theorem dX0_addStreet_15 : decode cX0_addStreet 15 = .ok (.iconst 0, 1) := by decide +kernel
theorem dX0_addStreet_16 : decode cX0_addStreet 16 = .ok (.iload_n 1, 1) := by decide +kernel
theorem dX0_addStreet_17 : decode cX0_addStreet 17 = .ok (.invokevirtual 45, 3) := by decide +kernel
theorem dX0_addStreet_20 : decode cX0_addStreet 20 = .ok (.aload_n 0, 1) := by decide +kernel
theorem dX0_addStreet_21 : decode cX0_addStreet 21 = .ok (.getfield 16, 3) := by decide +kernel
theorem dX0_addStreet_24 : decode cX0_addStreet 24 = .ok (.iload 5, 2) := by decide +kernel
theorem dX0_addStreet_26 : decode cX0_addStreet 26 = .ok (.iconst 1, 1) := by decide +kernel
theorem dX0_addStreet_27 : decode cX0_addStreet 27 = .ok (.iload_n 2, 1) := by decide +kernel
theorem dX0_addStreet_28 : decode cX0_addStreet 28 = .ok (.invokevirtual 45, 3) := by decide +kernel
theorem dX0_addStreet_31 : decode cX0_addStreet 31 = .ok (.aload_n 0, 1) := by decide +kernel
theorem dX0_addStreet_32 : decode cX0_addStreet 32 = .ok (.getfield 16, 3) := by decide +kernel
theorem dX0_addStreet_35 : decode cX0_addStreet 35 = .ok (.iload 5, 2) := by decide +kernel
theorem dX0_addStreet_37 : decode cX0_addStreet 37 = .ok (.iconst 2, 1) := by decide +kernel
theorem dX0_addStreet_38 : decode cX0_addStreet 38 = .ok (.iload_n 3, 1) := by decide +kernel
theorem dX0_addStreet_39 : decode cX0_addStreet 39 = .ok (.bipush 100, 2) := by decide +kernel
theorem dX0_addStreet_41 : decode cX0_addStreet 41 = .ok (.imul, 1) := by decide +kernel
theorem dX0_addStreet_42 : decode cX0_addStreet 42 = .ok (.iload 4, 2) := by decide +kernel
theorem dX0_addStreet_44 : decode cX0_addStreet 44 = .ok (.iadd, 1) := by decide +kernel
theorem dX0_addStreet_45 : decode cX0_addStreet 45 = .ok (.invokevirtual 45, 3) := by decide +kernel
theorem dX0_addStreet_48 : decode cX0_addStreet 48 = .ok (.iload 5, 2) := by decide +kernel
theorem dX0_addStreet_50 : decode cX0_addStreet 50 = .ok (.ireturn, 1) := by decide +kernel
theorem dX0_addSpan_0 : decode cX0_addSpan 0 = .ok (.aload_n 0, 1) := by decide +kernel
theorem dX0_addSpan_1 : decode cX0_addSpan 1 = .ok (.getfield 16, 3) := by decide +kernel
theorem dX0_addSpan_4 : decode cX0_addSpan 4 = .ok (.iload_n 1, 1) := by decide +kernel
theorem dX0_addSpan_5 : decode cX0_addSpan 5 = .ok (.iconst 4, 1) := by decide +kernel
theorem dX0_addSpan_6 : decode cX0_addSpan 6 = .ok (.invokevirtual 47, 3) := by decide +kernel
theorem dX0_addSpan_9 : decode cX0_addSpan 9 = .ok (.istore 4, 2) := by decide +kernel
theorem dX0_addSpan_11 : decode cX0_addSpan 11 = .ok (.iload 4, 2) := by decide +kernel
theorem dX0_addSpan_13 : decode cX0_addSpan 13 = .ok (.iconst 4, 1) := by decide +kernel
theorem dX0_addSpan_14 : decode cX0_addSpan 14 = .ok (.if_icmp .lt 6, 3) := by decide +kernel
theorem dX0_addSpan_17 : decode cX0_addSpan 17 = .ok (.bipush (-2), 2) := by decide +kernel
theorem dX0_addSpan_19 : decode cX0_addSpan 19 = .ok (.ireturn, 1) := by decide +kernel
theorem dX0_addSpan_20 : decode cX0_addSpan 20 = .ok (.aload_n 0, 1) := by decide +kernel
theorem dX0_addSpan_21 : decode cX0_addSpan 21 = .ok (.getfield 16, 3) := by decide +kernel
theorem dX0_addSpan_24 : decode cX0_addSpan 24 = .ok (.iload_n 1, 1) := by decide +kernel
theorem dX0_addSpan_25 : decode cX0_addSpan 25 = .ok (.iconst 5, 1) := by decide +kernel
theorem dX0_addSpan_26 : decode cX0_addSpan 26 = .ok (.iconst 2, 1) := by decide +kernel
theorem dX0_addSpan_27 : decode cX0_addSpan 27 = .ok (.iload 4, 2) := by decide +kernel
theorem dX0_addSpan_29 : decode cX0_addSpan 29 = .ok (.imul, 1) := by decide +kernel
theorem dX0_addSpan_30 : decode cX0_addSpan 30 = .ok (.iadd, 1) := by decide +kernel
theorem dX0_addSpan_31 : decode cX0_addSpan 31 = .ok (.iload_n 2, 1) := by decide +kernel
theorem dX0_addSpan_32 : decode cX0_addSpan 32 = .ok (.invokevirtual 45, 3) := by decide +kernel
theorem dX0_addSpan_35 : decode cX0_addSpan 35 = .ok (.aload_n 0, 1) := by decide +kernel
theorem dX0_addSpan_36 : decode cX0_addSpan 36 = .ok (.getfield 16, 3) := by decide +kernel
theorem dX0_addSpan_39 : decode cX0_addSpan 39 = .ok (.iload_n 1, 1) := by decide +kernel
theorem dX0_addSpan_40 : decode cX0_addSpan 40 = .ok (.iconst 5, 1) := by decide +kernel
theorem dX0_addSpan_41 : decode cX0_addSpan 41 = .ok (.iconst 2, 1) := by decide +kernel
theorem dX0_addSpan_42 : decode cX0_addSpan 42 = .ok (.iload 4, 2) := by decide +kernel
theorem dX0_addSpan_44 : decode cX0_addSpan 44 = .ok (.imul, 1) := by decide +kernel
theorem dX0_addSpan_45 : decode cX0_addSpan 45 = .ok (.iadd, 1) := by decide +kernel
theorem dX0_addSpan_46 : decode cX0_addSpan 46 = .ok (.iconst 1, 1) := by decide +kernel
theorem dX0_addSpan_47 : decode cX0_addSpan 47 = .ok (.iadd, 1) := by decide +kernel
theorem dX0_addSpan_48 : decode cX0_addSpan 48 = .ok (.iload_n 3, 1) := by decide +kernel
theorem dX0_addSpan_49 : decode cX0_addSpan 49 = .ok (.invokevirtual 45, 3) := by decide +kernel
theorem dX0_addSpan_52 : decode cX0_addSpan 52 = .ok (.aload_n 0, 1) := by decide +kernel
theorem dX0_addSpan_53 : decode cX0_addSpan 53 = .ok (.getfield 16, 3) := by decide +kernel
theorem dX0_addSpan_56 : decode cX0_addSpan 56 = .ok (.iload_n 1, 1) := by decide +kernel
theorem dX0_addSpan_57 : decode cX0_addSpan 57 = .ok (.iconst 4, 1) := by decide +kernel
theorem dX0_addSpan_58 : decode cX0_addSpan 58 = .ok (.iload 4, 2) := by decide +kernel
theorem dX0_addSpan_60 : decode cX0_addSpan 60 = .ok (.iconst 1, 1) := by decide +kernel
theorem dX0_addSpan_61 : decode cX0_addSpan 61 = .ok (.iadd, 1) := by decide +kernel
theorem dX0_addSpan_62 : decode cX0_addSpan 62 = .ok (.invokevirtual 45, 3) := by decide +kernel
theorem dX0_addSpan_65 : decode cX0_addSpan 65 = .ok (.iload 4, 2) := by decide +kernel
theorem dX0_addSpan_67 : decode cX0_addSpan 67 = .ok (.iconst 1, 1) := by decide +kernel
theorem dX0_addSpan_68 : decode cX0_addSpan 68 = .ok (.iadd, 1) := by decide +kernel
theorem dX0_addSpan_69 : decode cX0_addSpan 69 = .ok (.ireturn, 1) := by decide +kernel
theorem dX0_tellSun_0 : decode cX0_tellSun 0 = .ok (.iload_n 1, 1) := by decide +kernel
theorem dX0_tellSun_1 : decode cX0_tellSun 1 = .ok (.ifCond .lt 23, 3) := by decide +kernel
theorem dX0_tellSun_4 : decode cX0_tellSun 4 = .ok (.iload_n 1, 1) := by decide +kernel
theorem dX0_tellSun_5 : decode cX0_tellSun 5 = .ok (.bipush 12, 2) := by decide +kernel
theorem dX0_tellSun_7 : decode cX0_tellSun 7 = .ok (.if_icmp .ge 17, 3) := by decide +kernel
theorem dX0_tellSun_10 : decode cX0_tellSun 10 = .ok (.aload_n 0, 1) := by decide +kernel
theorem dX0_tellSun_11 : decode cX0_tellSun 11 = .ok (.getfield 20, 3) := by decide +kernel
theorem dX0_tellSun_14 : decode cX0_tellSun 14 = .ok (.iload_n 1, 1) := by decide +kernel
theorem dX0_tellSun_15 : decode cX0_tellSun 15 = .ok (.iload_n 2, 1) := by decide +kernel
theorem dX0_tellSun_16 : decode cX0_tellSun 16 = .ok (.iastore, 1) := by decide +kernel
theorem dX0_tellSun_17 : decode cX0_tellSun 17 = .ok (.aload_n 0, 1) := by decide +kernel
theorem dX0_tellSun_18 : decode cX0_tellSun 18 = .ok (.getfield 24, 3) := by decide +kernel
theorem dX0_tellSun_21 : decode cX0_tellSun 21 = .ok (.iload_n 1, 1) := by decide +kernel
theorem dX0_tellSun_22 : decode cX0_tellSun 22 = .ok (.iload_n 3, 1) := by decide +kernel
theorem dX0_tellSun_23 : decode cX0_tellSun 23 = .ok (.iastore, 1) := by decide +kernel
theorem dX0_tellSun_24 : decode cX0_tellSun 24 = .ok (.return_, 1) := by decide +kernel
theorem dX0_nightIn_0 : decode cX0_nightIn 0 = .ok (.iload_n 1, 1) := by decide +kernel
theorem dX0_nightIn_1 : decode cX0_nightIn 1 = .ok (.sipush 1440, 3) := by decide +kernel
theorem dX0_nightIn_4 : decode cX0_nightIn 4 = .ok (.idiv, 1) := by decide +kernel
theorem dX0_nightIn_5 : decode cX0_nightIn 5 = .ok (.bipush 30, 2) := by decide +kernel
theorem dX0_nightIn_7 : decode cX0_nightIn 7 = .ok (.idiv, 1) := by decide +kernel
theorem dX0_nightIn_8 : decode cX0_nightIn 8 = .ok (.bipush 12, 2) := by decide +kernel
theorem dX0_nightIn_10 : decode cX0_nightIn 10 = .ok (.invokestatic 51, 3) := by decide +kernel
theorem dX0_nightIn_13 : decode cX0_nightIn 13 = .ok (.istore_n 2, 1) := by decide +kernel
theorem dX0_nightIn_14 : decode cX0_nightIn 14 = .ok (.iload_n 1, 1) := by decide +kernel
theorem dX0_nightIn_15 : decode cX0_nightIn 15 = .ok (.sipush 1440, 3) := by decide +kernel
theorem dX0_nightIn_18 : decode cX0_nightIn 18 = .ok (.irem, 1) := by decide +kernel
theorem dX0_nightIn_19 : decode cX0_nightIn 19 = .ok (.istore_n 3, 1) := by decide +kernel
theorem dX0_nightIn_20 : decode cX0_nightIn 20 = .ok (.iload_n 3, 1) := by decide +kernel
theorem dX0_nightIn_21 : decode cX0_nightIn 21 = .ok (.aload_n 0, 1) := by decide +kernel
theorem dX0_nightIn_22 : decode cX0_nightIn 22 = .ok (.getfield 20, 3) := by decide +kernel
theorem dX0_nightIn_25 : decode cX0_nightIn 25 = .ok (.iload_n 2, 1) := by decide +kernel
theorem dX0_nightIn_26 : decode cX0_nightIn 26 = .ok (.iaload, 1) := by decide +kernel
theorem dX0_nightIn_27 : decode cX0_nightIn 27 = .ok (.if_icmp .lt 13, 3) := by decide +kernel
theorem dX0_nightIn_30 : decode cX0_nightIn 30 = .ok (.iload_n 3, 1) := by decide +kernel
theorem dX0_nightIn_31 : decode cX0_nightIn 31 = .ok (.aload_n 0, 1) := by decide +kernel
theorem dX0_nightIn_32 : decode cX0_nightIn 32 = .ok (.getfield 24, 3) := by decide +kernel
theorem dX0_nightIn_35 : decode cX0_nightIn 35 = .ok (.iload_n 2, 1) := by decide +kernel
theorem dX0_nightIn_36 : decode cX0_nightIn 36 = .ok (.iaload, 1) := by decide +kernel
theorem dX0_nightIn_37 : decode cX0_nightIn 37 = .ok (.if_icmp .lt 7, 3) := by decide +kernel
theorem dX0_nightIn_40 : decode cX0_nightIn 40 = .ok (.iconst 1, 1) := by decide +kernel
theorem dX0_nightIn_41 : decode cX0_nightIn 41 = .ok (.goto 4, 3) := by decide +kernel
theorem dX0_nightIn_44 : decode cX0_nightIn 44 = .ok (.iconst 0, 1) := by decide +kernel
theorem dX0_nightIn_45 : decode cX0_nightIn 45 = .ok (.ireturn, 1) := by decide +kernel
theorem dX0_isShut_0 : decode cX0_isShut 0 = .ok (.aload_n 0, 1) := by decide +kernel
theorem dX0_isShut_1 : decode cX0_isShut 1 = .ok (.getfield 16, 3) := by decide +kernel
theorem dX0_isShut_4 : decode cX0_isShut 4 = .ok (.iload_n 1, 1) := by decide +kernel
theorem dX0_isShut_5 : decode cX0_isShut 5 = .ok (.iconst 4, 1) := by decide +kernel
theorem dX0_isShut_6 : decode cX0_isShut 6 = .ok (.invokevirtual 47, 3) := by decide +kernel
theorem dX0_isShut_9 : decode cX0_isShut 9 = .ok (.istore_n 3, 1) := by decide +kernel
theorem dX0_isShut_10 : decode cX0_isShut 10 = .ok (.iconst 0, 1) := by decide +kernel
theorem dX0_isShut_11 : decode cX0_isShut 11 = .ok (.istore 4, 2) := by decide +kernel
theorem dX0_isShut_13 : decode cX0_isShut 13 = .ok (.iload 4, 2) := by decide +kernel
theorem dX0_isShut_15 : decode cX0_isShut 15 = .ok (.iload_n 3, 1) := by decide +kernel
theorem dX0_isShut_16 : decode cX0_isShut 16 = .ok (.if_icmp .ge 57, 3) := by decide +kernel
theorem dX0_isShut_19 : decode cX0_isShut 19 = .ok (.aload_n 0, 1) := by decide +kernel
theorem dX0_isShut_20 : decode cX0_isShut 20 = .ok (.getfield 16, 3) := by decide +kernel
theorem dX0_isShut_23 : decode cX0_isShut 23 = .ok (.iload_n 1, 1) := by decide +kernel
theorem dX0_isShut_24 : decode cX0_isShut 24 = .ok (.iconst 5, 1) := by decide +kernel
theorem dX0_isShut_25 : decode cX0_isShut 25 = .ok (.iconst 2, 1) := by decide +kernel
theorem dX0_isShut_26 : decode cX0_isShut 26 = .ok (.iload 4, 2) := by decide +kernel
theorem dX0_isShut_28 : decode cX0_isShut 28 = .ok (.imul, 1) := by decide +kernel
theorem dX0_isShut_29 : decode cX0_isShut 29 = .ok (.iadd, 1) := by decide +kernel
theorem dX0_isShut_30 : decode cX0_isShut 30 = .ok (.invokevirtual 47, 3) := by decide +kernel
theorem dX0_isShut_33 : decode cX0_isShut 33 = .ok (.istore 5, 2) := by decide +kernel
theorem dX0_isShut_35 : decode cX0_isShut 35 = .ok (.aload_n 0, 1) := by decide +kernel
theorem dX0_isShut_36 : decode cX0_isShut 36 = .ok (.getfield 16, 3) := by decide +kernel
theorem dX0_isShut_39 : decode cX0_isShut 39 = .ok (.iload_n 1, 1) := by decide +kernel
theorem dX0_isShut_40 : decode cX0_isShut 40 = .ok (.iconst 5, 1) := by decide +kernel
theorem dX0_isShut_41 : decode cX0_isShut 41 = .ok (.iconst 2, 1) := by decide +kernel
theorem dX0_isShut_42 : decode cX0_isShut 42 = .ok (.iload 4, 2) := by decide +kernel
theorem dX0_isShut_44 : decode cX0_isShut 44 = .ok (.imul, 1) := by decide +kernel
theorem dX0_isShut_45 : decode cX0_isShut 45 = .ok (.iadd, 1) := by decide +kernel
theorem dX0_isShut_46 : decode cX0_isShut 46 = .ok (.iconst 1, 1) := by decide +kernel
theorem dX0_isShut_47 : decode cX0_isShut 47 = .ok (.iadd, 1) := by decide +kernel
theorem dX0_isShut_48 : decode cX0_isShut 48 = .ok (.invokevirtual 47, 3) := by decide +kernel
theorem dX0_isShut_51 : decode cX0_isShut 51 = .ok (.istore 6, 2) := by decide +kernel
theorem dX0_isShut_53 : decode cX0_isShut 53 = .ok (.iload_n 2, 1) := by decide +kernel
theorem dX0_isShut_54 : decode cX0_isShut 54 = .ok (.iload 5, 2) := by decide +kernel
theorem dX0_isShut_56 : decode cX0_isShut 56 = .ok (.if_icmp .lt 11, 3) := by decide +kernel
theorem dX0_isShut_59 : decode cX0_isShut 59 = .ok (.iload_n 2, 1) := by decide +kernel
theorem dX0_isShut_60 : decode cX0_isShut 60 = .ok (.iload 6, 2) := by decide +kernel
theorem dX0_isShut_62 : decode cX0_isShut 62 = .ok (.if_icmp .ge 5, 3) := by decide +kernel
theorem dX0_isShut_65 : decode cX0_isShut 65 = .ok (.iconst 1, 1) := by decide +kernel
theorem dX0_isShut_66 : decode cX0_isShut 66 = .ok (.ireturn, 1) := by decide +kernel
theorem dX0_isShut_67 : decode cX0_isShut 67 = .ok (.iinc 4 1, 3) := by decide +kernel
theorem dX0_isShut_70 : decode cX0_isShut 70 = .ok (.goto (-57), 3) := by decide +kernel
theorem dX0_isShut_73 : decode cX0_isShut 73 = .ok (.iconst 0, 1) := by decide +kernel
theorem dX0_isShut_74 : decode cX0_isShut 74 = .ok (.ireturn, 1) := by decide +kernel
theorem dX0_isOpen_0 : decode cX0_isOpen 0 = .ok (.aload_n 0, 1) := by decide +kernel
theorem dX0_isOpen_1 : decode cX0_isOpen 1 = .ok (.getfield 16, 3) := by decide +kernel
theorem dX0_isOpen_4 : decode cX0_isOpen 4 = .ok (.iload_n 1, 1) := by decide +kernel
theorem dX0_isOpen_5 : decode cX0_isOpen 5 = .ok (.iconst 3, 1) := by decide +kernel
theorem dX0_isOpen_6 : decode cX0_isOpen 6 = .ok (.invokevirtual 47, 3) := by decide +kernel
theorem dX0_isOpen_9 : decode cX0_isOpen 9 = .ok (.iconst 1, 1) := by decide +kernel
theorem dX0_isOpen_10 : decode cX0_isOpen 10 = .ok (.if_icmp .ne 7, 3) := by decide +kernel
theorem dX0_isOpen_13 : decode cX0_isOpen 13 = .ok (.iconst 1, 1) := by decide +kernel
theorem dX0_isOpen_14 : decode cX0_isOpen 14 = .ok (.goto 4, 3) := by decide +kernel
theorem dX0_isOpen_17 : decode cX0_isOpen 17 = .ok (.iconst 0, 1) := by decide +kernel
theorem dX0_isOpen_18 : decode cX0_isOpen 18 = .ok (.ireturn, 1) := by decide +kernel
theorem dX0_costFrom_0 : decode cX0_costFrom 0 = .ok (.aload_n 0, 1) := by decide +kernel
theorem dX0_costFrom_1 : decode cX0_costFrom 1 = .ok (.iload_n 1, 1) := by decide +kernel
theorem dX0_costFrom_2 : decode cX0_costFrom 2 = .ok (.invokevirtual 56, 3) := by decide +kernel
theorem dX0_costFrom_5 : decode cX0_costFrom 5 = .ok (.ifCond .eq 12, 3) := by decide +kernel
theorem dX0_costFrom_8 : decode cX0_costFrom 8 = .ok (.aload_n 0, 1) := by decide +kernel
theorem dX0_costFrom_9 : decode cX0_costFrom 9 = .ok (.getfield 27, 3) := by decide +kernel
theorem dX0_costFrom_12 : decode cX0_costFrom 12 = .ok (.iload_n 1, 1) := by decide +kernel
theorem dX0_costFrom_13 : decode cX0_costFrom 13 = .ok (.iaload, 1) := by decide +kernel
theorem dX0_costFrom_14 : decode cX0_costFrom 14 = .ok (.goto 5, 3) := by decide +kernel
theorem dX0_costFrom_17 : decode cX0_costFrom 17 = .ok (.ldc 60, 2) := by decide +kernel
theorem dX0_costFrom_19 : decode cX0_costFrom 19 = .ok (.ireturn, 1) := by decide +kernel
theorem dX0_measure_0 : decode cX0_measure 0 = .ok (.iconst 0, 1) := by decide +kernel
theorem dX0_measure_1 : decode cX0_measure 1 = .ok (.istore_n 3, 1) := by decide +kernel
theorem dX0_measure_2 : decode cX0_measure 2 = .ok (.iload_n 3, 1) := by decide +kernel
theorem dX0_measure_3 : decode cX0_measure 3 = .ok (.aload_n 0, 1) := by decide +kernel
theorem dX0_measure_4 : decode cX0_measure 4 = .ok (.getfield 16, 3) := by decide +kernel
theorem dX0_measure_7 : decode cX0_measure 7 = .ok (.getfield 61, 3) := by decide +kernel
theorem dX0_measure_10 : decode cX0_measure 10 = .ok (.if_icmp .ge 32, 3) := by decide +kernel
theorem dX0_measure_13 : decode cX0_measure 13 = .ok (.aload_n 0, 1) := by decide +kernel
theorem dX0_measure_14 : decode cX0_measure 14 = .ok (.getfield 16, 3) := by decide +kernel
theorem dX0_measure_17 : decode cX0_measure 17 = .ok (.iload_n 3, 1) := by decide +kernel
theorem dX0_measure_18 : decode cX0_measure 18 = .ok (.iconst 3, 1) := by decide +kernel
theorem dX0_measure_19 : decode cX0_measure 19 = .ok (.aload_n 0, 1) := by decide +kernel
theorem dX0_measure_20 : decode cX0_measure 20 = .ok (.iload_n 3, 1) := by decide +kernel
theorem dX0_measure_21 : decode cX0_measure 21 = .ok (.iload_n 2, 1) := by decide +kernel
theorem dX0_measure_22 : decode cX0_measure 22 = .ok (.invokevirtual 64, 3) := by decide +kernel
theorem dX0_measure_25 : decode cX0_measure 25 = .ok (.ifCond .eq 7, 3) := by decide +kernel
theorem dX0_measure_28 : decode cX0_measure 28 = .ok (.iconst 0, 1) := by decide +kernel
theorem dX0_measure_29 : decode cX0_measure 29 = .ok (.goto 4, 3) := by decide +kernel
theorem dX0_measure_32 : decode cX0_measure 32 = .ok (.iconst 1, 1) := by decide +kernel
theorem dX0_measure_33 : decode cX0_measure 33 = .ok (.invokevirtual 45, 3) := by decide +kernel
theorem dX0_measure_36 : decode cX0_measure 36 = .ok (.iinc 3 1, 3) := by decide +kernel
theorem dX0_measure_39 : decode cX0_measure 39 = .ok (.goto (-37), 3) := by decide +kernel
theorem dX0_measure_42 : decode cX0_measure 42 = .ok (.iconst 0, 1) := by decide +kernel
theorem dX0_measure_43 : decode cX0_measure 43 = .ok (.istore_n 3, 1) := by decide +kernel
theorem dX0_measure_44 : decode cX0_measure 44 = .ok (.iload_n 3, 1) := by decide +kernel
theorem dX0_measure_45 : decode cX0_measure 45 = .ok (.bipush 24, 2) := by decide +kernel
theorem dX0_measure_47 : decode cX0_measure 47 = .ok (.if_icmp .ge 26, 3) := by decide +kernel
theorem dX0_measure_50 : decode cX0_measure 50 = .ok (.aload_n 0, 1) := by decide +kernel
theorem dX0_measure_51 : decode cX0_measure 51 = .ok (.getfield 27, 3) := by decide +kernel
theorem dX0_measure_54 : decode cX0_measure 54 = .ok (.iload_n 3, 1) := by decide +kernel
theorem dX0_measure_55 : decode cX0_measure 55 = .ok (.iload_n 3, 1) := by decide +kernel
theorem dX0_measure_56 : decode cX0_measure 56 = .ok (.iload_n 1, 1) := by decide +kernel
theorem dX0_measure_57 : decode cX0_measure 57 = .ok (.if_icmp .ne 7, 3) := by decide +kernel
theorem dX0_measure_60 : decode cX0_measure 60 = .ok (.iconst 0, 1) := by decide +kernel
theorem dX0_measure_61 : decode cX0_measure 61 = .ok (.goto 5, 3) := by decide +kernel
theorem dX0_measure_64 : decode cX0_measure 64 = .ok (.ldc 60, 2) := by decide +kernel
theorem dX0_measure_66 : decode cX0_measure 66 = .ok (.iastore, 1) := by decide +kernel
theorem dX0_measure_67 : decode cX0_measure 67 = .ok (.iinc 3 1, 3) := by decide +kernel
theorem dX0_measure_70 : decode cX0_measure 70 = .ok (.goto (-26), 3) := by decide +kernel
theorem dX0_measure_73 : decode cX0_measure 73 = .ok (.iconst 1, 1) := by decide +kernel
theorem dX0_measure_74 : decode cX0_measure 74 = .ok (.istore_n 3, 1) := by decide +kernel
theorem dX0_measure_75 : decode cX0_measure 75 = .ok (.iconst 0, 1) := by decide +kernel
theorem dX0_measure_76 : decode cX0_measure 76 = .ok (.istore 4, 2) := by decide +kernel
theorem dX0_measure_78 : decode cX0_measure 78 = .ok (.iload_n 3, 1) := by decide +kernel
theorem dX0_measure_79 : decode cX0_measure 79 = .ok (.ifCond .eq 21, 3) := by decide +kernel
theorem dX0_measure_82 : decode cX0_measure 82 = .ok (.iload 4, 2) := by decide +kernel
theorem dX0_measure_84 : decode cX0_measure 84 = .ok (.bipush 24, 2) := by decide +kernel
theorem dX0_measure_86 : decode cX0_measure 86 = .ok (.if_icmp .ge 14, 3) := by decide +kernel
theorem dX0_measure_89 : decode cX0_measure 89 = .ok (.aload_n 0, 1) := by decide +kernel
theorem dX0_measure_90 : decode cX0_measure 90 = .ok (.invokevirtual 68, 3) := by decide +kernel
theorem dX0_measure_93 : decode cX0_measure 93 = .ok (.istore_n 3, 1) := by decide +kernel
theorem dX0_measure_94 : decode cX0_measure 94 = .ok (.iinc 4 1, 3) := by decide +kernel
theorem dX0_measure_97 : decode cX0_measure 97 = .ok (.goto (-19), 3) := by decide +kernel
theorem dX0_measure_100 : decode cX0_measure 100 = .ok (.return_, 1) := by decide +kernel
theorem dX0_lowerAll_0 : decode cX0_lowerAll 0 = .ok (.iconst 0, 1) := by decide +kernel
theorem dX0_lowerAll_1 : decode cX0_lowerAll 1 = .ok (.istore_n 1, 1) := by decide +kernel
theorem dX0_lowerAll_2 : decode cX0_lowerAll 2 = .ok (.iconst 0, 1) := by decide +kernel
theorem dX0_lowerAll_3 : decode cX0_lowerAll 3 = .ok (.istore_n 2, 1) := by decide +kernel
theorem dX0_lowerAll_4 : decode cX0_lowerAll 4 = .ok (.iload_n 2, 1) := by decide +kernel
theorem dX0_lowerAll_5 : decode cX0_lowerAll 5 = .ok (.aload_n 0, 1) := by decide +kernel
theorem dX0_lowerAll_6 : decode cX0_lowerAll 6 = .ok (.getfield 16, 3) := by decide +kernel
theorem dX0_lowerAll_9 : decode cX0_lowerAll 9 = .ok (.getfield 61, 3) := by decide +kernel
theorem dX0_lowerAll_12 : decode cX0_lowerAll 12 = .ok (.if_icmp .ge 83, 3) := by decide +kernel
theorem dX0_lowerAll_15 : decode cX0_lowerAll 15 = .ok (.aload_n 0, 1) := by decide +kernel
theorem dX0_lowerAll_16 : decode cX0_lowerAll 16 = .ok (.iload_n 2, 1) := by decide +kernel
theorem dX0_lowerAll_17 : decode cX0_lowerAll 17 = .ok (.invokevirtual 72, 3) := by decide +kernel
theorem dX0_lowerAll_20 : decode cX0_lowerAll 20 = .ok (.ifCond .eq 69, 3) := by decide +kernel
theorem dX0_lowerAll_23 : decode cX0_lowerAll 23 = .ok (.aload_n 0, 1) := by decide +kernel
theorem dX0_lowerAll_24 : decode cX0_lowerAll 24 = .ok (.getfield 16, 3) := by decide +kernel
theorem dX0_lowerAll_27 : decode cX0_lowerAll 27 = .ok (.iload_n 2, 1) := by decide +kernel
theorem dX0_lowerAll_28 : decode cX0_lowerAll 28 = .ok (.iconst 0, 1) := by decide +kernel
theorem dX0_lowerAll_29 : decode cX0_lowerAll 29 = .ok (.invokevirtual 47, 3) := by decide +kernel
theorem dX0_lowerAll_32 : decode cX0_lowerAll 32 = .ok (.istore_n 3, 1) := by decide +kernel
theorem dX0_lowerAll_33 : decode cX0_lowerAll 33 = .ok (.aload_n 0, 1) := by decide +kernel
theorem dX0_lowerAll_34 : decode cX0_lowerAll 34 = .ok (.getfield 16, 3) := by decide +kernel
theorem dX0_lowerAll_37 : decode cX0_lowerAll 37 = .ok (.iload_n 2, 1) := by decide +kernel
theorem dX0_lowerAll_38 : decode cX0_lowerAll 38 = .ok (.iconst 1, 1) := by decide +kernel
theorem dX0_lowerAll_39 : decode cX0_lowerAll 39 = .ok (.invokevirtual 47, 3) := by decide +kernel
theorem dX0_lowerAll_42 : decode cX0_lowerAll 42 = .ok (.istore 4, 2) := by decide +kernel
theorem dX0_lowerAll_44 : decode cX0_lowerAll 44 = .ok (.aload_n 0, 1) := by decide +kernel
theorem dX0_lowerAll_45 : decode cX0_lowerAll 45 = .ok (.getfield 16, 3) := by decide +kernel
theorem dX0_lowerAll_48 : decode cX0_lowerAll 48 = .ok (.iload_n 2, 1) := by decide +kernel
theorem dX0_lowerAll_49 : decode cX0_lowerAll 49 = .ok (.iconst 2, 1) := by decide +kernel
theorem dX0_lowerAll_50 : decode cX0_lowerAll 50 = .ok (.invokevirtual 47, 3) := by decide +kernel
theorem dX0_lowerAll_53 : decode cX0_lowerAll 53 = .ok (.istore 5, 2) := by decide +kernel
theorem dX0_lowerAll_55 : decode cX0_lowerAll 55 = .ok (.iload_n 1, 1) := by decide +kernel
theorem dX0_lowerAll_56 : decode cX0_lowerAll 56 = .ok (.aload_n 0, 1) := by decide +kernel
theorem dX0_lowerAll_57 : decode cX0_lowerAll 57 = .ok (.iload_n 3, 1) := by decide +kernel
theorem dX0_lowerAll_58 : decode cX0_lowerAll 58 = .ok (.aload_n 0, 1) := by decide +kernel
theorem dX0_lowerAll_59 : decode cX0_lowerAll 59 = .ok (.iload 4, 2) := by decide +kernel
theorem dX0_lowerAll_61 : decode cX0_lowerAll 61 = .ok (.invokevirtual 75, 3) := by decide +kernel
theorem dX0_lowerAll_64 : decode cX0_lowerAll 64 = .ok (.iload 5, 2) := by decide +kernel
theorem dX0_lowerAll_66 : decode cX0_lowerAll 66 = .ok (.iadd, 1) := by decide +kernel
theorem dX0_lowerAll_67 : decode cX0_lowerAll 67 = .ok (.invokevirtual 79, 3) := by decide +kernel
theorem dX0_lowerAll_70 : decode cX0_lowerAll 70 = .ok (.ior, 1) := by decide +kernel
theorem dX0_lowerAll_71 : decode cX0_lowerAll 71 = .ok (.istore_n 1, 1) := by decide +kernel
theorem dX0_lowerAll_72 : decode cX0_lowerAll 72 = .ok (.iload_n 1, 1) := by decide +kernel
theorem dX0_lowerAll_73 : decode cX0_lowerAll 73 = .ok (.aload_n 0, 1) := by decide +kernel
theorem dX0_lowerAll_74 : decode cX0_lowerAll 74 = .ok (.iload 4, 2) := by decide +kernel
theorem dX0_lowerAll_76 : decode cX0_lowerAll 76 = .ok (.aload_n 0, 1) := by decide +kernel
theorem dX0_lowerAll_77 : decode cX0_lowerAll 77 = .ok (.iload_n 3, 1) := by decide +kernel
theorem dX0_lowerAll_78 : decode cX0_lowerAll 78 = .ok (.invokevirtual 75, 3) := by decide +kernel
theorem dX0_lowerAll_81 : decode cX0_lowerAll 81 = .ok (.iload 5, 2) := by decide +kernel
theorem dX0_lowerAll_83 : decode cX0_lowerAll 83 = .ok (.iadd, 1) := by decide +kernel
theorem dX0_lowerAll_84 : decode cX0_lowerAll 84 = .ok (.invokevirtual 79, 3) := by decide +kernel
theorem dX0_lowerAll_87 : decode cX0_lowerAll 87 = .ok (.ior, 1) := by decide +kernel
theorem dX0_lowerAll_88 : decode cX0_lowerAll 88 = .ok (.istore_n 1, 1) := by decide +kernel
theorem dX0_lowerAll_89 : decode cX0_lowerAll 89 = .ok (.iinc 2 1, 3) := by decide +kernel
theorem dX0_lowerAll_92 : decode cX0_lowerAll 92 = .ok (.goto (-88), 3) := by decide +kernel
theorem dX0_lowerAll_95 : decode cX0_lowerAll 95 = .ok (.iload_n 1, 1) := by decide +kernel
theorem dX0_lowerAll_96 : decode cX0_lowerAll 96 = .ok (.ireturn, 1) := by decide +kernel
theorem dX0_lower_0 : decode cX0_lower 0 = .ok (.aload_n 0, 1) := by decide +kernel
theorem dX0_lower_1 : decode cX0_lower 1 = .ok (.iload_n 1, 1) := by decide +kernel
theorem dX0_lower_2 : decode cX0_lower 2 = .ok (.invokevirtual 56, 3) := by decide +kernel
theorem dX0_lower_5 : decode cX0_lower 5 = .ok (.ifCond .eq 13, 3) := by decide +kernel
theorem dX0_lower_8 : decode cX0_lower 8 = .ok (.aload_n 0, 1) := by decide +kernel
theorem dX0_lower_9 : decode cX0_lower 9 = .ok (.getfield 27, 3) := by decide +kernel
theorem dX0_lower_12 : decode cX0_lower 12 = .ok (.iload_n 1, 1) := by decide +kernel
theorem dX0_lower_13 : decode cX0_lower 13 = .ok (.iaload, 1) := by decide +kernel
theorem dX0_lower_14 : decode cX0_lower 14 = .ok (.iload_n 2, 1) := by decide +kernel
theorem dX0_lower_15 : decode cX0_lower 15 = .ok (.if_icmp .gt 5, 3) := by decide +kernel
theorem dX0_lower_18 : decode cX0_lower 18 = .ok (.iconst 0, 1) := by decide +kernel
theorem dX0_lower_19 : decode cX0_lower 19 = .ok (.ireturn, 1) := by decide +kernel
theorem dX0_lower_20 : decode cX0_lower 20 = .ok (.aload_n 0, 1) := by decide +kernel
theorem dX0_lower_21 : decode cX0_lower 21 = .ok (.getfield 27, 3) := by decide +kernel
theorem dX0_lower_24 : decode cX0_lower 24 = .ok (.iload_n 1, 1) := by decide +kernel
theorem dX0_lower_25 : decode cX0_lower 25 = .ok (.iload_n 2, 1) := by decide +kernel
theorem dX0_lower_26 : decode cX0_lower 26 = .ok (.iastore, 1) := by decide +kernel
theorem dX0_lower_27 : decode cX0_lower 27 = .ok (.iconst 1, 1) := by decide +kernel
theorem dX0_lower_28 : decode cX0_lower 28 = .ok (.ireturn, 1) := by decide +kernel
theorem dX0_yardsFrom_0 : decode cX0_yardsFrom 0 = .ok (.aload_n 0, 1) := by decide +kernel
theorem dX0_yardsFrom_1 : decode cX0_yardsFrom 1 = .ok (.iload_n 1, 1) := by decide +kernel
theorem dX0_yardsFrom_2 : decode cX0_yardsFrom 2 = .ok (.invokevirtual 75, 3) := by decide +kernel
theorem dX0_yardsFrom_5 : decode cX0_yardsFrom 5 = .ok (.istore_n 2, 1) := by decide +kernel
theorem dX0_yardsFrom_6 : decode cX0_yardsFrom 6 = .ok (.iload_n 2, 1) := by decide +kernel
theorem dX0_yardsFrom_7 : decode cX0_yardsFrom 7 = .ok (.ldc 60, 2) := by decide +kernel
theorem dX0_yardsFrom_9 : decode cX0_yardsFrom 9 = .ok (.if_icmp .ge 10, 3) := by decide +kernel
theorem dX0_yardsFrom_12 : decode cX0_yardsFrom 12 = .ok (.iload_n 2, 1) := by decide +kernel
theorem dX0_yardsFrom_13 : decode cX0_yardsFrom 13 = .ok (.bipush 100, 2) := by decide +kernel
theorem dX0_yardsFrom_15 : decode cX0_yardsFrom 15 = .ok (.idiv, 1) := by decide +kernel
theorem dX0_yardsFrom_16 : decode cX0_yardsFrom 16 = .ok (.goto 5, 3) := by decide +kernel
theorem dX0_yardsFrom_19 : decode cX0_yardsFrom 19 = .ok (.bipush (-5), 2) := by decide +kernel
theorem dX0_yardsFrom_21 : decode cX0_yardsFrom 21 = .ok (.ireturn, 1) := by decide +kernel
theorem dX0_badFrom_0 : decode cX0_badFrom 0 = .ok (.aload_n 0, 1) := by decide +kernel
theorem dX0_badFrom_1 : decode cX0_badFrom 1 = .ok (.iload_n 1, 1) := by decide +kernel
theorem dX0_badFrom_2 : decode cX0_badFrom 2 = .ok (.invokevirtual 75, 3) := by decide +kernel
theorem dX0_badFrom_5 : decode cX0_badFrom 5 = .ok (.bipush 100, 2) := by decide +kernel
theorem dX0_badFrom_7 : decode cX0_badFrom 7 = .ok (.irem, 1) := by decide +kernel
theorem dX0_badFrom_8 : decode cX0_badFrom 8 = .ok (.ireturn, 1) := by decide +kernel
theorem dX0_keepSteps_0 : decode cX0_keepSteps 0 = .ok (.iload_n 1, 1) := by decide +kernel
theorem dX0_keepSteps_1 : decode cX0_keepSteps 1 = .ok (.istore_n 3, 1) := by decide +kernel
theorem dX0_keepSteps_2 : decode cX0_keepSteps 2 = .ok (.aload_n 0, 1) := by decide +kernel
theorem dX0_keepSteps_3 : decode cX0_keepSteps 3 = .ok (.iconst 0, 1) := by decide +kernel
theorem dX0_keepSteps_4 : decode cX0_keepSteps 4 = .ok (.putfield 82, 3) := by decide +kernel
theorem dX0_keepSteps_7 : decode cX0_keepSteps 7 = .ok (.iconst 0, 1) := by decide +kernel
theorem dX0_keepSteps_8 : decode cX0_keepSteps 8 = .ok (.istore 4, 2) := by decide +kernel
theorem dX0_keepSteps_10 : decode cX0_keepSteps 10 = .ok (.iload 4, 2) := by decide +kernel
theorem dX0_keepSteps_12 : decode cX0_keepSteps 12 = .ok (.bipush 24, 2) := by decide +kernel
theorem dX0_keepSteps_14 : decode cX0_keepSteps 14 = .ok (.if_icmp .ge 44, 3) := by decide +kernel
theorem dX0_keepSteps_17 : decode cX0_keepSteps 17 = .ok (.iload_n 3, 1) := by decide +kernel
theorem dX0_keepSteps_18 : decode cX0_keepSteps 18 = .ok (.ifCond .lt 40, 3) := by decide +kernel
theorem dX0_keepSteps_21 : decode cX0_keepSteps 21 = .ok (.aload_n 0, 1) := by decide +kernel
theorem dX0_keepSteps_22 : decode cX0_keepSteps 22 = .ok (.getfield 30, 3) := by decide +kernel
theorem dX0_keepSteps_25 : decode cX0_keepSteps 25 = .ok (.iload 4, 2) := by decide +kernel
theorem dX0_keepSteps_27 : decode cX0_keepSteps 27 = .ok (.iload_n 3, 1) := by decide +kernel
theorem dX0_keepSteps_28 : decode cX0_keepSteps 28 = .ok (.iastore, 1) := by decide +kernel
theorem dX0_keepSteps_29 : decode cX0_keepSteps 29 = .ok (.aload_n 0, 1) := by decide +kernel
theorem dX0_keepSteps_30 : decode cX0_keepSteps 30 = .ok (.iload 4, 2) := by decide +kernel
theorem dX0_keepSteps_32 : decode cX0_keepSteps 32 = .ok (.iconst 1, 1) := by decide +kernel
theorem dX0_keepSteps_33 : decode cX0_keepSteps 33 = .ok (.iadd, 1) := by decide +kernel
theorem dX0_keepSteps_34 : decode cX0_keepSteps 34 = .ok (.putfield 82, 3) := by decide +kernel
theorem dX0_keepSteps_37 : decode cX0_keepSteps 37 = .ok (.iload_n 3, 1) := by decide +kernel
theorem dX0_keepSteps_38 : decode cX0_keepSteps 38 = .ok (.iload_n 2, 1) := by decide +kernel
theorem dX0_keepSteps_39 : decode cX0_keepSteps 39 = .ok (.if_icmp .ne 7, 3) := by decide +kernel
theorem dX0_keepSteps_42 : decode cX0_keepSteps 42 = .ok (.iconst (-1), 1) := by decide +kernel
theorem dX0_keepSteps_43 : decode cX0_keepSteps 43 = .ok (.goto 8, 3) := by decide +kernel
theorem dX0_keepSteps_46 : decode cX0_keepSteps 46 = .ok (.aload_n 0, 1) := by decide +kernel
theorem dX0_keepSteps_47 : decode cX0_keepSteps 47 = .ok (.iload_n 3, 1) := by decide +kernel
theorem dX0_keepSteps_48 : decode cX0_keepSteps 48 = .ok (.invokevirtual 85, 3) := by decide +kernel
theorem dX0_keepSteps_51 : decode cX0_keepSteps 51 = .ok (.istore_n 3, 1) := by decide +kernel
theorem dX0_keepSteps_52 : decode cX0_keepSteps 52 = .ok (.iinc 4 1, 3) := by decide +kernel
theorem dX0_keepSteps_55 : decode cX0_keepSteps 55 = .ok (.goto (-45), 3) := by decide +kernel
theorem dX0_keepSteps_58 : decode cX0_keepSteps 58 = .ok (.return_, 1) := by decide +kernel
theorem dX0_leastNext_0 : decode cX0_leastNext 0 = .ok (.iconst (-1), 1) := by decide +kernel
theorem dX0_leastNext_1 : decode cX0_leastNext 1 = .ok (.istore_n 2, 1) := by decide +kernel
theorem dX0_leastNext_2 : decode cX0_leastNext 2 = .ok (.iconst 0, 1) := by decide +kernel
theorem dX0_leastNext_3 : decode cX0_leastNext 3 = .ok (.istore_n 3, 1) := by decide +kernel
theorem dX0_leastNext_4 : decode cX0_leastNext 4 = .ok (.iload_n 3, 1) := by decide +kernel
theorem dX0_leastNext_5 : decode cX0_leastNext 5 = .ok (.aload_n 0, 1) := by decide +kernel
theorem dX0_leastNext_6 : decode cX0_leastNext 6 = .ok (.getfield 16, 3) := by decide +kernel
theorem dX0_leastNext_9 : decode cX0_leastNext 9 = .ok (.getfield 61, 3) := by decide +kernel
theorem dX0_leastNext_12 : decode cX0_leastNext 12 = .ok (.if_icmp .ge 115, 3) := by decide +kernel
theorem dX0_leastNext_15 : decode cX0_leastNext 15 = .ok (.aload_n 0, 1) := by decide +kernel
theorem dX0_leastNext_16 : decode cX0_leastNext 16 = .ok (.getfield 16, 3) := by decide +kernel
theorem dX0_leastNext_19 : decode cX0_leastNext 19 = .ok (.iload_n 3, 1) := by decide +kernel
theorem dX0_leastNext_20 : decode cX0_leastNext 20 = .ok (.iconst 0, 1) := by decide +kernel
theorem dX0_leastNext_21 : decode cX0_leastNext 21 = .ok (.invokevirtual 47, 3) := by decide +kernel
theorem dX0_leastNext_24 : decode cX0_leastNext 24 = .ok (.istore 4, 2) := by decide +kernel
theorem dX0_leastNext_26 : decode cX0_leastNext 26 = .ok (.aload_n 0, 1) := by decide +kernel
theorem dX0_leastNext_27 : decode cX0_leastNext 27 = .ok (.getfield 16, 3) := by decide +kernel
theorem dX0_leastNext_30 : decode cX0_leastNext 30 = .ok (.iload_n 3, 1) := by decide +kernel
theorem dX0_leastNext_31 : decode cX0_leastNext 31 = .ok (.iconst 1, 1) := by decide +kernel
theorem dX0_leastNext_32 : decode cX0_leastNext 32 = .ok (.invokevirtual 47, 3) := by decide +kernel
theorem dX0_leastNext_35 : decode cX0_leastNext 35 = .ok (.istore 5, 2) := by decide +kernel
theorem dX0_leastNext_37 : decode cX0_leastNext 37 = .ok (.iload 4, 2) := by decide +kernel
theorem dX0_leastNext_39 : decode cX0_leastNext 39 = .ok (.iload_n 1, 1) := by decide +kernel
theorem dX0_leastNext_40 : decode cX0_leastNext 40 = .ok (.if_icmp .ne 8, 3) := by decide +kernel
theorem dX0_leastNext_43 : decode cX0_leastNext 43 = .ok (.iload 5, 2) := by decide +kernel
theorem dX0_leastNext_45 : decode cX0_leastNext 45 = .ok (.goto 5, 3) := by decide +kernel
theorem dX0_leastNext_48 : decode cX0_leastNext 48 = .ok (.iload 4, 2) := by decide +kernel
theorem dX0_leastNext_50 : decode cX0_leastNext 50 = .ok (.istore 6, 2) := by decide +kernel
theorem dX0_leastNext_52 : decode cX0_leastNext 52 = .ok (.aload_n 0, 1) := by decide +kernel
theorem dX0_leastNext_53 : decode cX0_leastNext 53 = .ok (.iload_n 3, 1) := by decide +kernel
theorem dX0_leastNext_54 : decode cX0_leastNext 54 = .ok (.invokevirtual 72, 3) := by decide +kernel
theorem dX0_leastNext_57 : decode cX0_leastNext 57 = .ok (.ifCond .eq 43, 3) := by decide +kernel
theorem dX0_leastNext_60 : decode cX0_leastNext 60 = .ok (.iload 4, 2) := by decide +kernel
theorem dX0_leastNext_62 : decode cX0_leastNext 62 = .ok (.iload_n 1, 1) := by decide +kernel
theorem dX0_leastNext_63 : decode cX0_leastNext 63 = .ok (.if_icmp .eq 9, 3) := by decide +kernel
theorem dX0_leastNext_66 : decode cX0_leastNext 66 = .ok (.iload 5, 2) := by decide +kernel
theorem dX0_leastNext_68 : decode cX0_leastNext 68 = .ok (.iload_n 1, 1) := by decide +kernel
theorem dX0_leastNext_69 : decode cX0_leastNext 69 = .ok (.if_icmp .ne 31, 3) := by decide +kernel
theorem dX0_leastNext_72 : decode cX0_leastNext 72 = .ok (.aload_n 0, 1) := by decide +kernel
theorem dX0_leastNext_73 : decode cX0_leastNext 73 = .ok (.iload 6, 2) := by decide +kernel
theorem dX0_leastNext_75 : decode cX0_leastNext 75 = .ok (.invokevirtual 75, 3) := by decide +kernel
theorem dX0_leastNext_78 : decode cX0_leastNext 78 = .ok (.aload_n 0, 1) := by decide +kernel
theorem dX0_leastNext_79 : decode cX0_leastNext 79 = .ok (.getfield 16, 3) := by decide +kernel
theorem dX0_leastNext_82 : decode cX0_leastNext 82 = .ok (.iload_n 3, 1) := by decide +kernel
theorem dX0_leastNext_83 : decode cX0_leastNext 83 = .ok (.iconst 2, 1) := by decide +kernel
theorem dX0_leastNext_84 : decode cX0_leastNext 84 = .ok (.invokevirtual 47, 3) := by decide +kernel
theorem dX0_leastNext_87 : decode cX0_leastNext 87 = .ok (.iadd, 1) := by decide +kernel
theorem dX0_leastNext_88 : decode cX0_leastNext 88 = .ok (.aload_n 0, 1) := by decide +kernel
theorem dX0_leastNext_89 : decode cX0_leastNext 89 = .ok (.iload_n 1, 1) := by decide +kernel
theorem dX0_leastNext_90 : decode cX0_leastNext 90 = .ok (.invokevirtual 75, 3) := by decide +kernel
theorem dX0_leastNext_93 : decode cX0_leastNext 93 = .ok (.if_icmp .ne 7, 3) := by decide +kernel
theorem dX0_leastNext_96 : decode cX0_leastNext 96 = .ok (.iconst 1, 1) := by decide +kernel
theorem dX0_leastNext_97 : decode cX0_leastNext 97 = .ok (.goto 4, 3) := by decide +kernel
theorem dX0_leastNext_100 : decode cX0_leastNext 100 = .ok (.iconst 0, 1) := by decide +kernel
theorem dX0_leastNext_101 : decode cX0_leastNext 101 = .ok (.istore 7, 2) := by decide +kernel
theorem dX0_leastNext_103 : decode cX0_leastNext 103 = .ok (.iload 7, 2) := by decide +kernel
theorem dX0_leastNext_105 : decode cX0_leastNext 105 = .ok (.ifCond .eq 16, 3) := by decide +kernel
theorem dX0_leastNext_108 : decode cX0_leastNext 108 = .ok (.iload_n 2, 1) := by decide +kernel
theorem dX0_leastNext_109 : decode cX0_leastNext 109 = .ok (.ifCond .lt 9, 3) := by decide +kernel
theorem dX0_leastNext_112 : decode cX0_leastNext 112 = .ok (.iload 6, 2) := by decide +kernel
theorem dX0_leastNext_114 : decode cX0_leastNext 114 = .ok (.iload_n 2, 1) := by decide +kernel
theorem dX0_leastNext_115 : decode cX0_leastNext 115 = .ok (.if_icmp .ge 6, 3) := by decide +kernel
theorem dX0_leastNext_118 : decode cX0_leastNext 118 = .ok (.iload 6, 2) := by decide +kernel
theorem dX0_leastNext_120 : decode cX0_leastNext 120 = .ok (.istore_n 2, 1) := by decide +kernel
theorem dX0_leastNext_121 : decode cX0_leastNext 121 = .ok (.iinc 3 1, 3) := by decide +kernel
theorem dX0_leastNext_124 : decode cX0_leastNext 124 = .ok (.goto (-120), 3) := by decide +kernel
theorem dX0_leastNext_127 : decode cX0_leastNext 127 = .ok (.iload_n 2, 1) := by decide +kernel
theorem dX0_leastNext_128 : decode cX0_leastNext 128 = .ok (.ireturn, 1) := by decide +kernel
theorem dX0_stepAt_0 : decode cX0_stepAt 0 = .ok (.iload_n 1, 1) := by decide +kernel
theorem dX0_stepAt_1 : decode cX0_stepAt 1 = .ok (.ifCond .lt 26, 3) := by decide +kernel
theorem dX0_stepAt_4 : decode cX0_stepAt 4 = .ok (.iload_n 1, 1) := by decide +kernel
theorem dX0_stepAt_5 : decode cX0_stepAt 5 = .ok (.aload_n 0, 1) := by decide +kernel
theorem dX0_stepAt_6 : decode cX0_stepAt 6 = .ok (.getfield 82, 3) := by decide +kernel
theorem dX0_stepAt_9 : decode cX0_stepAt 9 = .ok (.if_icmp .ge 18, 3) := by decide +kernel
theorem dX0_stepAt_12 : decode cX0_stepAt 12 = .ok (.iload_n 1, 1) := by decide +kernel
theorem dX0_stepAt_13 : decode cX0_stepAt 13 = .ok (.bipush 24, 2) := by decide +kernel
theorem dX0_stepAt_15 : decode cX0_stepAt 15 = .ok (.if_icmp .ge 12, 3) := by decide +kernel
theorem dX0_stepAt_18 : decode cX0_stepAt 18 = .ok (.aload_n 0, 1) := by decide +kernel
theorem dX0_stepAt_19 : decode cX0_stepAt 19 = .ok (.getfield 30, 3) := by decide +kernel
theorem dX0_stepAt_22 : decode cX0_stepAt 22 = .ok (.iload_n 1, 1) := by decide +kernel
theorem dX0_stepAt_23 : decode cX0_stepAt 23 = .ok (.iaload, 1) := by decide +kernel
theorem dX0_stepAt_24 : decode cX0_stepAt 24 = .ok (.goto 4, 3) := by decide +kernel
theorem dX0_stepAt_27 : decode cX0_stepAt 27 = .ok (.iconst (-1), 1) := by decide +kernel
theorem dX0_stepAt_28 : decode cX0_stepAt 28 = .ok (.ireturn, 1) := by decide +kernel
theorem dX1_init_0 : decode cX1_init 0 = .ok (.aload_n 0, 1) := by decide +kernel
theorem dX1_init_1 : decode cX1_init 1 = .ok (.invokespecial 1, 3) := by decide +kernel
theorem dX1_init_4 : decode cX1_init 4 = .ok (.aload_n 0, 1) := by decide +kernel
theorem dX1_init_5 : decode cX1_init 5 = .ok (.new 7, 3) := by decide +kernel
theorem dX1_init_8 : decode cX1_init 8 = .ok (.dup, 1) := by decide +kernel
theorem dX1_init_9 : decode cX1_init 9 = .ok (.sipush 300, 3) := by decide +kernel
theorem dX1_init_12 : decode cX1_init 12 = .ok (.iconst 2, 1) := by decide +kernel
theorem dX1_init_13 : decode cX1_init 13 = .ok (.invokespecial 11, 3) := by decide +kernel
theorem dX1_init_16 : decode cX1_init 16 = .ok (.putfield 14, 3) := by decide +kernel
theorem dX1_init_19 : decode cX1_init 19 = .ok (.return_, 1) := by decide +kernel
theorem dX1_isOf_0 : decode cX1_isOf 0 = .ok (.iconst 0, 1) := by decide +kernel
theorem dX1_isOf_1 : decode cX1_isOf 1 = .ok (.istore_n 2, 1) := by decide +kernel
theorem dX1_isOf_2 : decode cX1_isOf 2 = .ok (.iload_n 2, 1) := by decide +kernel
theorem dX1_isOf_3 : decode cX1_isOf 3 = .ok (.aload_n 0, 1) := by decide +kernel
theorem dX1_isOf_4 : decode cX1_isOf 4 = .ok (.getfield 14, 3) := by decide +kernel
theorem dX1_isOf_7 : decode cX1_isOf 7 = .ok (.getfield 20, 3) := by decide +kernel
theorem dX1_isOf_10 : decode cX1_isOf 10 = .ok (.if_icmp .ge 24, 3) := by decide +kernel
theorem dX1_isOf_13 : decode cX1_isOf 13 = .ok (.aload_n 0, 1) := by decide +kernel
theorem dX1_isOf_14 : decode cX1_isOf 14 = .ok (.getfield 14, 3) := by decide +kernel
theorem dX1_isOf_17 : decode cX1_isOf 17 = .ok (.iload_n 2, 1) := by decide +kernel
theorem dX1_isOf_18 : decode cX1_isOf 18 = .ok (.iconst 0, 1) := by decide +kernel
theorem dX1_isOf_19 : decode cX1_isOf 19 = .ok (.invokevirtual 24, 3) := by decide +kernel
theorem dX1_isOf_22 : decode cX1_isOf 22 = .ok (.iload_n 1, 1) := by decide +kernel
theorem dX1_isOf_23 : decode cX1_isOf 23 = .ok (.if_icmp .ne 5, 3) := by decide +kernel
theorem dX1_isOf_26 : decode cX1_isOf 26 = .ok (.iconst 1, 1) := by decide +kernel
theorem dX1_isOf_27 : decode cX1_isOf 27 = .ok (.ireturn, 1) := by decide +kernel
theorem dX1_isOf_28 : decode cX1_isOf 28 = .ok (.iinc 2 1, 3) := by decide +kernel
theorem dX1_isOf_31 : decode cX1_isOf 31 = .ok (.goto (-29), 3) := by decide +kernel
theorem dX1_isOf_34 : decode cX1_isOf 34 = .ok (.iconst 0, 1) := by decide +kernel
theorem dX1_isOf_35 : decode cX1_isOf 35 = .ok (.ireturn, 1) := by decide +kernel
theorem dX1_addComplaint_0 : decode cX1_addComplaint 0 = .ok (.aload_n 0, 1) := by decide +kernel
theorem dX1_addComplaint_1 : decode cX1_addComplaint 1 = .ok (.getfield 14, 3) := by decide +kernel
theorem dX1_addComplaint_4 : decode cX1_addComplaint 4 = .ok (.invokevirtual 28, 3) := by decide +kernel
theorem dX1_addComplaint_7 : decode cX1_addComplaint 7 = .ok (.istore_n 3, 1) := by decide +kernel
theorem dX1_addComplaint_8 : decode cX1_addComplaint 8 = .ok (.aload_n 0, 1) := by decide +kernel
theorem dX1_addComplaint_9 : decode cX1_addComplaint 9 = .ok (.getfield 14, 3) := by decide +kernel
theorem dX1_addComplaint_12 : decode cX1_addComplaint 12 = .ok (.iload_n 3, 1) := by decide +kernel
theorem dX1_addComplaint_13 : decode cX1_addComplaint 13 = .ok (.iconst 0, 1) := by decide +kernel
theorem dX1_addComplaint_14 : decode cX1_addComplaint 14 = .ok (.iload_n 1, 1) := by decide +kernel
theorem dX1_addComplaint_15 : decode cX1_addComplaint 15 = .ok (.invokevirtual 32, 3) := by decide +kernel
theorem dX1_addComplaint_18 : decode cX1_addComplaint 18 = .ok (.aload_n 0, 1) := by decide +kernel
theorem dX1_addComplaint_19 : decode cX1_addComplaint 19 = .ok (.getfield 14, 3) := by decide +kernel
theorem dX1_addComplaint_22 : decode cX1_addComplaint 22 = .ok (.iload_n 3, 1) := by decide +kernel
theorem dX1_addComplaint_23 : decode cX1_addComplaint 23 = .ok (.iconst 1, 1) := by decide +kernel
theorem dX1_addComplaint_24 : decode cX1_addComplaint 24 = .ok (.iload_n 2, 1) := by decide +kernel
theorem dX1_addComplaint_25 : decode cX1_addComplaint 25 = .ok (.invokevirtual 32, 3) := by decide +kernel
theorem dX1_addComplaint_28 : decode cX1_addComplaint 28 = .ok (.iload_n 3, 1) := by decide +kernel
theorem dX1_addComplaint_29 : decode cX1_addComplaint 29 = .ok (.ireturn, 1) := by decide +kernel
theorem dX2_init_0 : decode cX2_init 0 = .ok (.aload_n 0, 1) := by decide +kernel
theorem dX2_init_1 : decode cX2_init 1 = .ok (.invokespecial 3, 3) := by decide +kernel
theorem dX2_init_4 : decode cX2_init 4 = .ok (.aload_n 0, 1) := by decide +kernel
theorem dX2_init_5 : decode cX2_init 5 = .ok (.new 9, 3) := by decide +kernel
theorem dX2_init_8 : decode cX2_init 8 = .ok (.dup, 1) := by decide +kernel
theorem dX2_init_9 : decode cX2_init 9 = .ok (.bipush 30, 2) := by decide +kernel
theorem dX2_init_11 : decode cX2_init 11 = .ok (.bipush 8, 2) := by decide +kernel
theorem dX2_init_13 : decode cX2_init 13 = .ok (.invokespecial 13, 3) := by decide +kernel
theorem dX2_init_16 : decode cX2_init 16 = .ok (.putfield 16, 3) := by decide +kernel
theorem dX2_init_19 : decode cX2_init 19 = .ok (.aload_n 0, 1) := by decide +kernel
theorem dX2_init_20 : decode cX2_init 20 = .ok (.new 9, 3) := by decide +kernel
theorem dX2_init_23 : decode cX2_init 23 = .ok (.dup, 1) := by decide +kernel
theorem dX2_init_24 : decode cX2_init 24 = .ok (.sipush 200, 3) := by decide +kernel
theorem dX2_init_27 : decode cX2_init 27 = .ok (.iconst 3, 1) := by decide +kernel
theorem dX2_init_28 : decode cX2_init 28 = .ok (.invokespecial 13, 3) := by decide +kernel
theorem dX2_init_31 : decode cX2_init 31 = .ok (.putfield 20, 3) := by decide +kernel
theorem dX2_init_34 : decode cX2_init 34 = .ok (.aload_n 0, 1) := by decide +kernel
theorem dX2_init_35 : decode cX2_init 35 = .ok (.new 9, 3) := by decide +kernel
theorem dX2_init_38 : decode cX2_init 38 = .ok (.dup, 1) := by decide +kernel
theorem dX2_init_39 : decode cX2_init 39 = .ok (.bipush 12, 2) := by decide +kernel
theorem dX2_init_41 : decode cX2_init 41 = .ok (.bipush 13, 2) := by decide +kernel
theorem dX2_init_43 : decode cX2_init 43 = .ok (.invokespecial 13, 3) := by decide +kernel
theorem dX2_init_46 : decode cX2_init 46 = .ok (.putfield 23, 3) := by decide +kernel
theorem dX2_init_49 : decode cX2_init 49 = .ok (.return_, 1) := by decide +kernel
theorem dX2_hasPlate_0 : decode cX2_hasPlate 0 = .ok (.iconst 0, 1) := by decide +kernel
theorem dX2_hasPlate_1 : decode cX2_hasPlate 1 = .ok (.istore_n 2, 1) := by decide +kernel
theorem dX2_hasPlate_2 : decode cX2_hasPlate 2 = .ok (.iload_n 2, 1) := by decide +kernel
theorem dX2_hasPlate_3 : decode cX2_hasPlate 3 = .ok (.aload_n 0, 1) := by decide +kernel
theorem dX2_hasPlate_4 : decode cX2_hasPlate 4 = .ok (.getfield 16, 3) := by decide +kernel
theorem dX2_hasPlate_7 : decode cX2_hasPlate 7 = .ok (.getfield 26, 3) := by decide +kernel
theorem dX2_hasPlate_10 : decode cX2_hasPlate 10 = .ok (.if_icmp .ge 25, 3) := by decide +kernel
theorem dX2_hasPlate_13 : decode cX2_hasPlate 13 = .ok (.aload_n 0, 1) := by decide +kernel
theorem dX2_hasPlate_14 : decode cX2_hasPlate 14 = .ok (.getfield 16, 3) := by decide +kernel
theorem dX2_hasPlate_17 : decode cX2_hasPlate 17 = .ok (.iload_n 2, 1) := by decide +kernel
theorem dX2_hasPlate_18 : decode cX2_hasPlate 18 = .ok (.bipush 6, 2) := by decide +kernel
theorem dX2_hasPlate_20 : decode cX2_hasPlate 20 = .ok (.invokevirtual 30, 3) := by decide +kernel
theorem dX2_hasPlate_23 : decode cX2_hasPlate 23 = .ok (.iload_n 1, 1) := by decide +kernel
theorem dX2_hasPlate_24 : decode cX2_hasPlate 24 = .ok (.if_icmp .ne 5, 3) := by decide +kernel
theorem dX2_hasPlate_27 : decode cX2_hasPlate 27 = .ok (.iconst 1, 1) := by decide +kernel
theorem dX2_hasPlate_28 : decode cX2_hasPlate 28 = .ok (.ireturn, 1) := by decide +kernel
theorem dX2_hasPlate_29 : decode cX2_hasPlate 29 = .ok (.iinc 2 1, 3) := by decide +kernel
theorem dX2_hasPlate_32 : decode cX2_hasPlate 32 = .ok (.goto (-30), 3) := by decide +kernel
theorem dX2_hasPlate_35 : decode cX2_hasPlate 35 = .ok (.iconst 0, 1) := by decide +kernel
theorem dX2_hasPlate_36 : decode cX2_hasPlate 36 = .ok (.ireturn, 1) := by decide +kernel
theorem dX2_addCoach_0 : decode cX2_addCoach 0 = .ok (.aload_n 0, 1) := by decide +kernel
theorem dX2_addCoach_1 : decode cX2_addCoach 1 = .ok (.getfield 16, 3) := by decide +kernel
theorem dX2_addCoach_4 : decode cX2_addCoach 4 = .ok (.invokevirtual 34, 3) := by decide +kernel
theorem dX2_addCoach_7 : decode cX2_addCoach 7 = .ok (.istore_n 3, 1) := by decide +kernel
theorem dX2_addCoach_8 : decode cX2_addCoach 8 = .ok (.aload_n 0, 1) := by decide +kernel
theorem dX2_addCoach_9 : decode cX2_addCoach 9 = .ok (.getfield 16, 3) := by decide +kernel
theorem dX2_addCoach_12 : decode cX2_addCoach 12 = .ok (.iload_n 3, 1) := by decide +kernel
theorem dX2_addCoach_13 : decode cX2_addCoach 13 = .ok (.bipush 6, 2) := by decide +kernel
theorem dX2_addCoach_15 : decode cX2_addCoach 15 = .ok (.iload_n 1, 1) := by decide +kernel
theorem dX2_addCoach_16 : decode cX2_addCoach 16 = .ok (.invokevirtual 38, 3) := by decide +kernel
theorem dX2_addCoach_19 : decode cX2_addCoach 19 = .ok (.aload_n 0, 1) := by decide +kernel
theorem dX2_addCoach_20 : decode cX2_addCoach 20 = .ok (.getfield 16, 3) := by decide +kernel
theorem dX2_addCoach_23 : decode cX2_addCoach 23 = .ok (.iload_n 3, 1) := by decide +kernel
theorem dX2_addCoach_24 : decode cX2_addCoach 24 = .ok (.bipush 7, 2) := by decide +kernel
theorem dX2_addCoach_26 : decode cX2_addCoach 26 = .ok (.iload_n 2, 1) := by decide +kernel
theorem dX2_addCoach_27 : decode cX2_addCoach 27 = .ok (.invokevirtual 38, 3) := by decide +kernel
theorem dX2_addCoach_30 : decode cX2_addCoach 30 = .ok (.aload_n 0, 1) := by decide +kernel
theorem dX2_addCoach_31 : decode cX2_addCoach 31 = .ok (.getfield 16, 3) := by decide +kernel
theorem dX2_addCoach_34 : decode cX2_addCoach 34 = .ok (.iload_n 3, 1) := by decide +kernel
theorem dX2_addCoach_35 : decode cX2_addCoach 35 = .ok (.iconst 1, 1) := by decide +kernel
theorem dX2_addCoach_36 : decode cX2_addCoach 36 = .ok (.iload_n 2, 1) := by decide +kernel
theorem dX2_addCoach_37 : decode cX2_addCoach 37 = .ok (.invokevirtual 38, 3) := by decide +kernel
theorem dX2_addCoach_40 : decode cX2_addCoach 40 = .ok (.aload_n 0, 1) := by decide +kernel
theorem dX2_addCoach_41 : decode cX2_addCoach 41 = .ok (.getfield 16, 3) := by decide +kernel
theorem dX2_addCoach_44 : decode cX2_addCoach 44 = .ok (.iload_n 3, 1) := by decide +kernel
theorem dX2_addCoach_45 : decode cX2_addCoach 45 = .ok (.iconst 2, 1) := by decide +kernel
theorem dX2_addCoach_46 : decode cX2_addCoach 46 = .ok (.sipush 1000, 3) := by decide +kernel
theorem dX2_addCoach_49 : decode cX2_addCoach 49 = .ok (.invokevirtual 38, 3) := by decide +kernel
theorem dX2_addCoach_52 : decode cX2_addCoach 52 = .ok (.aload_n 0, 1) := by decide +kernel
theorem dX2_addCoach_53 : decode cX2_addCoach 53 = .ok (.getfield 16, 3) := by decide +kernel
theorem dX2_addCoach_56 : decode cX2_addCoach 56 = .ok (.iload_n 3, 1) := by decide +kernel
theorem dX2_addCoach_57 : decode cX2_addCoach 57 = .ok (.iconst 5, 1) := by decide +kernel
theorem dX2_addCoach_58 : decode cX2_addCoach 58 = .ok (.iconst (-1), 1) := by decide +kernel
theorem dX2_addCoach_59 : decode cX2_addCoach 59 = .ok (.invokevirtual 38, 3) := by decide +kernel
theorem dX2_addCoach_62 : decode cX2_addCoach 62 = .ok (.aload_n 0, 1) := by decide +kernel
theorem dX2_addCoach_63 : decode cX2_addCoach 63 = .ok (.iload_n 3, 1) := by decide +kernel
theorem dX2_addCoach_64 : decode cX2_addCoach 64 = .ok (.iconst 0, 1) := by decide +kernel
theorem dX2_addCoach_65 : decode cX2_addCoach 65 = .ok (.iconst (-1), 1) := by decide +kernel
theorem dX2_addCoach_66 : decode cX2_addCoach 66 = .ok (.invokevirtual 42, 3) := by decide +kernel
theorem dX2_addCoach_69 : decode cX2_addCoach 69 = .ok (.iload_n 3, 1) := by decide +kernel
theorem dX2_addCoach_70 : decode cX2_addCoach 70 = .ok (.ireturn, 1) := by decide +kernel
theorem dX2_holderOf_0 : decode cX2_holderOf 0 = .ok (.iconst 0, 1) := by decide +kernel
theorem dX2_holderOf_1 : decode cX2_holderOf 1 = .ok (.istore_n 3, 1) := by decide +kernel
theorem dX2_holderOf_2 : decode cX2_holderOf 2 = .ok (.iload_n 3, 1) := by decide +kernel
theorem dX2_holderOf_3 : decode cX2_holderOf 3 = .ok (.aload_n 0, 1) := by decide +kernel
theorem dX2_holderOf_4 : decode cX2_holderOf 4 = .ok (.getfield 20, 3) := by decide +kernel
theorem dX2_holderOf_7 : decode cX2_holderOf 7 = .ok (.getfield 26, 3) := by decide +kernel
theorem dX2_holderOf_10 : decode cX2_holderOf 10 = .ok (.if_icmp .ge 45, 3) := by decide +kernel
theorem dX2_holderOf_13 : decode cX2_holderOf 13 = .ok (.aload_n 0, 1) := by decide +kernel
theorem dX2_holderOf_14 : decode cX2_holderOf 14 = .ok (.getfield 20, 3) := by decide +kernel
theorem dX2_holderOf_17 : decode cX2_holderOf 17 = .ok (.iload_n 3, 1) := by decide +kernel
theorem dX2_holderOf_18 : decode cX2_holderOf 18 = .ok (.iconst 0, 1) := by decide +kernel
theorem dX2_holderOf_19 : decode cX2_holderOf 19 = .ok (.invokevirtual 30, 3) := by decide +kernel
theorem dX2_holderOf_22 : decode cX2_holderOf 22 = .ok (.iload_n 1, 1) := by decide +kernel
theorem dX2_holderOf_23 : decode cX2_holderOf 23 = .ok (.if_icmp .ne 26, 3) := by decide +kernel
theorem dX2_holderOf_26 : decode cX2_holderOf 26 = .ok (.aload_n 0, 1) := by decide +kernel
theorem dX2_holderOf_27 : decode cX2_holderOf 27 = .ok (.getfield 20, 3) := by decide +kernel
theorem dX2_holderOf_30 : decode cX2_holderOf 30 = .ok (.iload_n 3, 1) := by decide +kernel
theorem dX2_holderOf_31 : decode cX2_holderOf 31 = .ok (.iconst 1, 1) := by decide +kernel
theorem dX2_holderOf_32 : decode cX2_holderOf 32 = .ok (.invokevirtual 30, 3) := by decide +kernel
theorem dX2_holderOf_35 : decode cX2_holderOf 35 = .ok (.iload_n 2, 1) := by decide +kernel
theorem dX2_holderOf_36 : decode cX2_holderOf 36 = .ok (.if_icmp .ne 13, 3) := by decide +kernel
theorem dX2_holderOf_39 : decode cX2_holderOf 39 = .ok (.aload_n 0, 1) := by decide +kernel
theorem dX2_holderOf_40 : decode cX2_holderOf 40 = .ok (.getfield 20, 3) := by decide +kernel
theorem dX2_holderOf_43 : decode cX2_holderOf 43 = .ok (.iload_n 3, 1) := by decide +kernel
theorem dX2_holderOf_44 : decode cX2_holderOf 44 = .ok (.iconst 2, 1) := by decide +kernel
theorem dX2_holderOf_45 : decode cX2_holderOf 45 = .ok (.invokevirtual 30, 3) := by decide +kernel
theorem dX2_holderOf_48 : decode cX2_holderOf 48 = .ok (.ireturn, 1) := by decide +kernel
theorem dX2_holderOf_49 : decode cX2_holderOf 49 = .ok (.iinc 3 1, 3) := by decide +kernel
theorem dX2_holderOf_52 : decode cX2_holderOf 52 = .ok (.goto (-50), 3) := by decide +kernel
theorem dX2_holderOf_55 : decode cX2_holderOf 55 = .ok (.iconst (-1), 1) := by decide +kernel
theorem dX2_holderOf_56 : decode cX2_holderOf 56 = .ok (.ireturn, 1) := by decide +kernel
theorem dX2_addLicence_0 : decode cX2_addLicence 0 = .ok (.aload_n 0, 1) := by decide +kernel
theorem dX2_addLicence_1 : decode cX2_addLicence 1 = .ok (.getfield 20, 3) := by decide +kernel
theorem dX2_addLicence_4 : decode cX2_addLicence 4 = .ok (.invokevirtual 34, 3) := by decide +kernel
theorem dX2_addLicence_7 : decode cX2_addLicence 7 = .ok (.istore 4, 2) := by decide +kernel
theorem dX2_addLicence_9 : decode cX2_addLicence 9 = .ok (.aload_n 0, 1) := by decide +kernel
theorem dX2_addLicence_10 : decode cX2_addLicence 10 = .ok (.getfield 20, 3) := by decide +kernel
theorem dX2_addLicence_13 : decode cX2_addLicence 13 = .ok (.iload 4, 2) := by decide +kernel
theorem dX2_addLicence_15 : decode cX2_addLicence 15 = .ok (.iconst 0, 1) := by decide +kernel
theorem dX2_addLicence_16 : decode cX2_addLicence 16 = .ok (.iload_n 1, 1) := by decide +kernel
theorem dX2_addLicence_17 : decode cX2_addLicence 17 = .ok (.invokevirtual 38, 3) := by decide +kernel
theorem dX2_addLicence_20 : decode cX2_addLicence 20 = .ok (.aload_n 0, 1) := by decide +kernel
theorem dX2_addLicence_21 : decode cX2_addLicence 21 = .ok (.getfield 20, 3) := by decide +kernel
theorem dX2_addLicence_24 : decode cX2_addLicence 24 = .ok (.iload 4, 2) := by decide +kernel
theorem dX2_addLicence_26 : decode cX2_addLicence 26 = .ok (.iconst 1, 1) := by decide +kernel
theorem dX2_addLicence_27 : decode cX2_addLicence 27 = .ok (.iload_n 2, 1) := by decide +kernel
theorem dX2_addLicence_28 : decode cX2_addLicence 28 = .ok (.invokevirtual 38, 3) := by decide +kernel
theorem dX2_addLicence_31 : decode cX2_addLicence 31 = .ok (.aload_n 0, 1) := by decide +kernel
theorem dX2_addLicence_32 : decode cX2_addLicence 32 = .ok (.getfield 20, 3) := by decide +kernel
theorem dX2_addLicence_35 : decode cX2_addLicence 35 = .ok (.iload 4, 2) := by decide +kernel
theorem dX2_addLicence_37 : decode cX2_addLicence 37 = .ok (.iconst 2, 1) := by decide +kernel
theorem dX2_addLicence_38 : decode cX2_addLicence 38 = .ok (.iload_n 3, 1) := by decide +kernel
theorem dX2_addLicence_39 : decode cX2_addLicence 39 = .ok (.invokevirtual 38, 3) := by decide +kernel
theorem dX2_addLicence_42 : decode cX2_addLicence 42 = .ok (.iload 4, 2) := by decide +kernel
theorem dX2_addLicence_44 : decode cX2_addLicence 44 = .ok (.ifCond .ge 8, 3) := by decide +kernel
theorem dX2_addLicence_47 : decode cX2_addLicence 47 = .ok (.bipush (-2), 2) := by decide +kernel
theorem dX2_addLicence_49 : decode cX2_addLicence 49 = .ok (.goto 4, 3) := by decide +kernel
theorem dX2_addLicence_52 : decode cX2_addLicence 52 = .ok (.iconst 1, 1) := by decide +kernel
theorem dX2_addLicence_53 : decode cX2_addLicence 53 = .ok (.ireturn, 1) := by decide +kernel
theorem dX2_addStand_0 : decode cX2_addStand 0 = .ok (.aload_n 0, 1) := by decide +kernel
theorem dX2_addStand_1 : decode cX2_addStand 1 = .ok (.getfield 23, 3) := by decide +kernel
theorem dX2_addStand_4 : decode cX2_addStand 4 = .ok (.invokevirtual 34, 3) := by decide +kernel
theorem dX2_addStand_7 : decode cX2_addStand 7 = .ok (.istore_n 3, 1) := by decide +kernel
theorem dX2_addStand_8 : decode cX2_addStand 8 = .ok (.aload_n 0, 1) := by decide +kernel
theorem dX2_addStand_9 : decode cX2_addStand 9 = .ok (.getfield 23, 3) := by decide +kernel
theorem dX2_addStand_12 : decode cX2_addStand 12 = .ok (.iload_n 3, 1) := by decide +kernel
theorem dX2_addStand_13 : decode cX2_addStand 13 = .ok (.iconst 0, 1) := by decide +kernel
theorem dX2_addStand_14 : decode cX2_addStand 14 = .ok (.iload_n 1, 1) := by decide +kernel
theorem dX2_addStand_15 : decode cX2_addStand 15 = .ok (.invokevirtual 38, 3) := by decide +kernel
theorem dX2_addStand_18 : decode cX2_addStand 18 = .ok (.aload_n 0, 1) := by decide +kernel
theorem dX2_addStand_19 : decode cX2_addStand 19 = .ok (.getfield 23, 3) := by decide +kernel
theorem dX2_addStand_22 : decode cX2_addStand 22 = .ok (.iload_n 3, 1) := by decide +kernel
theorem dX2_addStand_23 : decode cX2_addStand 23 = .ok (.iconst 1, 1) := by decide +kernel
theorem dX2_addStand_24 : decode cX2_addStand 24 = .ok (.iload_n 2, 1) := by decide +kernel
theorem dX2_addStand_25 : decode cX2_addStand 25 = .ok (.invokevirtual 38, 3) := by decide +kernel
theorem dX2_addStand_28 : decode cX2_addStand 28 = .ok (.iload_n 3, 1) := by decide +kernel
theorem dX2_addStand_29 : decode cX2_addStand 29 = .ok (.ireturn, 1) := by decide +kernel
theorem dX2_isMoving_0 : decode cX2_isMoving 0 = .ok (.aload_n 0, 1) := by decide +kernel
theorem dX2_isMoving_1 : decode cX2_isMoving 1 = .ok (.getfield 16, 3) := by decide +kernel
theorem dX2_isMoving_4 : decode cX2_isMoving 4 = .ok (.iload_n 1, 1) := by decide +kernel
theorem dX2_isMoving_5 : decode cX2_isMoving 5 = .ok (.iconst 0, 1) := by decide +kernel
theorem dX2_isMoving_6 : decode cX2_isMoving 6 = .ok (.invokevirtual 30, 3) := by decide +kernel
theorem dX2_isMoving_9 : decode cX2_isMoving 9 = .ok (.istore_n 2, 1) := by decide +kernel
theorem dX2_isMoving_10 : decode cX2_isMoving 10 = .ok (.iload_n 2, 1) := by decide +kernel
theorem dX2_isMoving_11 : decode cX2_isMoving 11 = .ok (.iconst 2, 1) := by decide +kernel
theorem dX2_isMoving_12 : decode cX2_isMoving 12 = .ok (.if_icmp .eq 8, 3) := by decide +kernel
theorem dX2_isMoving_15 : decode cX2_isMoving 15 = .ok (.iload_n 2, 1) := by decide +kernel
theorem dX2_isMoving_16 : decode cX2_isMoving 16 = .ok (.iconst 3, 1) := by decide +kernel
theorem dX2_isMoving_17 : decode cX2_isMoving 17 = .ok (.if_icmp .ne 7, 3) := by decide +kernel
theorem dX2_isMoving_20 : decode cX2_isMoving 20 = .ok (.iconst 1, 1) := by decide +kernel
theorem dX2_isMoving_21 : decode cX2_isMoving 21 = .ok (.goto 4, 3) := by decide +kernel
theorem dX2_isMoving_24 : decode cX2_isMoving 24 = .ok (.iconst 0, 1) := by decide +kernel
theorem dX2_isMoving_25 : decode cX2_isMoving 25 = .ok (.ireturn, 1) := by decide +kernel
theorem dX2_isStanding_0 : decode cX2_isStanding 0 = .ok (.aload_n 0, 1) := by decide +kernel
theorem dX2_isStanding_1 : decode cX2_isStanding 1 = .ok (.getfield 16, 3) := by decide +kernel
theorem dX2_isStanding_4 : decode cX2_isStanding 4 = .ok (.iload_n 1, 1) := by decide +kernel
theorem dX2_isStanding_5 : decode cX2_isStanding 5 = .ok (.iconst 0, 1) := by decide +kernel
theorem dX2_isStanding_6 : decode cX2_isStanding 6 = .ok (.invokevirtual 30, 3) := by decide +kernel
theorem dX2_isStanding_9 : decode cX2_isStanding 9 = .ok (.iconst 1, 1) := by decide +kernel
theorem dX2_isStanding_10 : decode cX2_isStanding 10 = .ok (.if_icmp .ne 7, 3) := by decide +kernel
theorem dX2_isStanding_13 : decode cX2_isStanding 13 = .ok (.iconst 1, 1) := by decide +kernel
theorem dX2_isStanding_14 : decode cX2_isStanding 14 = .ok (.goto 4, 3) := by decide +kernel
theorem dX2_isStanding_17 : decode cX2_isStanding 17 = .ok (.iconst 0, 1) := by decide +kernel
theorem dX2_isStanding_18 : decode cX2_isStanding 18 = .ok (.ireturn, 1) := by decide +kernel
theorem dX2_isStandingAt_0 : decode cX2_isStandingAt 0 = .ok (.aload_n 0, 1) := by decide +kernel
theorem dX2_isStandingAt_1 : decode cX2_isStandingAt 1 = .ok (.iload_n 1, 1) := by decide +kernel
theorem dX2_isStandingAt_2 : decode cX2_isStandingAt 2 = .ok (.invokevirtual 45, 3) := by decide +kernel
theorem dX2_isStandingAt_5 : decode cX2_isStandingAt 5 = .ok (.ifCond .eq 20, 3) := by decide +kernel
theorem dX2_isStandingAt_8 : decode cX2_isStandingAt 8 = .ok (.aload_n 0, 1) := by decide +kernel
theorem dX2_isStandingAt_9 : decode cX2_isStandingAt 9 = .ok (.getfield 16, 3) := by decide +kernel
theorem dX2_isStandingAt_12 : decode cX2_isStandingAt 12 = .ok (.iload_n 1, 1) := by decide +kernel
theorem dX2_isStandingAt_13 : decode cX2_isStandingAt 13 = .ok (.iconst 4, 1) := by decide +kernel
theorem dX2_isStandingAt_14 : decode cX2_isStandingAt 14 = .ok (.invokevirtual 30, 3) := by decide +kernel
theorem dX2_isStandingAt_17 : decode cX2_isStandingAt 17 = .ok (.iload_n 2, 1) := by decide +kernel
theorem dX2_isStandingAt_18 : decode cX2_isStandingAt 18 = .ok (.if_icmp .ne 7, 3) := by decide +kernel
theorem dX2_isStandingAt_21 : decode cX2_isStandingAt 21 = .ok (.iconst 1, 1) := by decide +kernel
theorem dX2_isStandingAt_22 : decode cX2_isStandingAt 22 = .ok (.goto 4, 3) := by decide +kernel
theorem dX2_isStandingAt_25 : decode cX2_isStandingAt 25 = .ok (.iconst 0, 1) := by decide +kernel
theorem dX2_isStandingAt_26 : decode cX2_isStandingAt 26 = .ok (.ireturn, 1) := by decide +kernel
theorem dX2_rowLength_0 : decode cX2_rowLength 0 = .ok (.aload_n 0, 1) := by decide +kernel
theorem dX2_rowLength_1 : decode cX2_rowLength 1 = .ok (.getfield 23, 3) := by decide +kernel
theorem dX2_rowLength_4 : decode cX2_rowLength 4 = .ok (.iload_n 1, 1) := by decide +kernel
theorem dX2_rowLength_5 : decode cX2_rowLength 5 = .ok (.iconst 2, 1) := by decide +kernel
theorem dX2_rowLength_6 : decode cX2_rowLength 6 = .ok (.invokevirtual 30, 3) := by decide +kernel
theorem dX2_rowLength_9 : decode cX2_rowLength 9 = .ok (.ireturn, 1) := by decide +kernel
theorem dX2_coachInRow_0 : decode cX2_coachInRow 0 = .ok (.iload_n 2, 1) := by decide +kernel
theorem dX2_coachInRow_1 : decode cX2_coachInRow 1 = .ok (.ifCond .lt 26, 3) := by decide +kernel
theorem dX2_coachInRow_4 : decode cX2_coachInRow 4 = .ok (.iload_n 2, 1) := by decide +kernel
theorem dX2_coachInRow_5 : decode cX2_coachInRow 5 = .ok (.aload_n 0, 1) := by decide +kernel
theorem dX2_coachInRow_6 : decode cX2_coachInRow 6 = .ok (.iload_n 1, 1) := by decide +kernel
theorem dX2_coachInRow_7 : decode cX2_coachInRow 7 = .ok (.invokevirtual 49, 3) := by decide +kernel
theorem dX2_coachInRow_10 : decode cX2_coachInRow 10 = .ok (.if_icmp .ge 17, 3) := by decide +kernel
theorem dX2_coachInRow_13 : decode cX2_coachInRow 13 = .ok (.aload_n 0, 1) := by decide +kernel
theorem dX2_coachInRow_14 : decode cX2_coachInRow 14 = .ok (.getfield 23, 3) := by decide +kernel
theorem dX2_coachInRow_17 : decode cX2_coachInRow 17 = .ok (.iload_n 1, 1) := by decide +kernel
theorem dX2_coachInRow_18 : decode cX2_coachInRow 18 = .ok (.iconst 3, 1) := by decide +kernel
theorem dX2_coachInRow_19 : decode cX2_coachInRow 19 = .ok (.iload_n 2, 1) := by decide +kernel
theorem dX2_coachInRow_20 : decode cX2_coachInRow 20 = .ok (.iadd, 1) := by decide +kernel
theorem dX2_coachInRow_21 : decode cX2_coachInRow 21 = .ok (.invokevirtual 30, 3) := by decide +kernel
theorem dX2_coachInRow_24 : decode cX2_coachInRow 24 = .ok (.goto 4, 3) := by decide +kernel
theorem dX2_coachInRow_27 : decode cX2_coachInRow 27 = .ok (.iconst (-1), 1) := by decide +kernel
theorem dX2_coachInRow_28 : decode cX2_coachInRow 28 = .ok (.ireturn, 1) := by decide +kernel
theorem dX2_leaveRow_0 : decode cX2_leaveRow 0 = .ok (.aload_n 0, 1) := by decide +kernel
theorem dX2_leaveRow_1 : decode cX2_leaveRow 1 = .ok (.iload_n 1, 1) := by decide +kernel
theorem dX2_leaveRow_2 : decode cX2_leaveRow 2 = .ok (.invokevirtual 45, 3) := by decide +kernel
theorem dX2_leaveRow_5 : decode cX2_leaveRow 5 = .ok (.ifCond .ne 4, 3) := by decide +kernel
theorem dX2_leaveRow_8 : decode cX2_leaveRow 8 = .ok (.return_, 1) := by decide +kernel
theorem dX2_leaveRow_9 : decode cX2_leaveRow 9 = .ok (.aload_n 0, 1) := by decide +kernel
theorem dX2_leaveRow_10 : decode cX2_leaveRow 10 = .ok (.getfield 16, 3) := by decide +kernel
theorem dX2_leaveRow_13 : decode cX2_leaveRow 13 = .ok (.iload_n 1, 1) := by decide +kernel
theorem dX2_leaveRow_14 : decode cX2_leaveRow 14 = .ok (.iconst 4, 1) := by decide +kernel
theorem dX2_leaveRow_15 : decode cX2_leaveRow 15 = .ok (.invokevirtual 30, 3) := by decide +kernel
theorem dX2_leaveRow_18 : decode cX2_leaveRow 18 = .ok (.istore_n 2, 1) := by decide +kernel
theorem dX2_leaveRow_19 : decode cX2_leaveRow 19 = .ok (.aload_n 0, 1) := by decide +kernel
theorem dX2_leaveRow_20 : decode cX2_leaveRow 20 = .ok (.iload_n 2, 1) := by decide +kernel
theorem dX2_leaveRow_21 : decode cX2_leaveRow 21 = .ok (.invokevirtual 49, 3) := by decide +kernel
theorem dX2_leaveRow_24 : decode cX2_leaveRow 24 = .ok (.istore_n 3, 1) := by decide +kernel
theorem dX2_leaveRow_25 : decode cX2_leaveRow 25 = .ok (.iconst 0, 1) := by decide +kernel
theorem dX2_leaveRow_26 : decode cX2_leaveRow 26 = .ok (.istore 4, 2) := by decide +kernel
theorem dX2_leaveRow_28 : decode cX2_leaveRow 28 = .ok (.iconst 0, 1) := by decide +kernel
theorem dX2_leaveRow_29 : decode cX2_leaveRow 29 = .ok (.istore 5, 2) := by decide +kernel
theorem dX2_leaveRow_31 : decode cX2_leaveRow 31 = .ok (.iload 5, 2) := by decide +kernel
theorem dX2_leaveRow_33 : decode cX2_leaveRow 33 = .ok (.iload_n 3, 1) := by decide +kernel
theorem dX2_leaveRow_34 : decode cX2_leaveRow 34 = .ok (.if_icmp .ge 41, 3) := by decide +kernel
theorem dX2_leaveRow_37 : decode cX2_leaveRow 37 = .ok (.aload_n 0, 1) := by decide +kernel
theorem dX2_leaveRow_38 : decode cX2_leaveRow 38 = .ok (.iload_n 2, 1) := by decide +kernel
theorem dX2_leaveRow_39 : decode cX2_leaveRow 39 = .ok (.iload 5, 2) := by decide +kernel
theorem dX2_leaveRow_41 : decode cX2_leaveRow 41 = .ok (.invokevirtual 53, 3) := by decide +kernel
theorem dX2_leaveRow_44 : decode cX2_leaveRow 44 = .ok (.istore 6, 2) := by decide +kernel
theorem dX2_leaveRow_46 : decode cX2_leaveRow 46 = .ok (.iload 6, 2) := by decide +kernel
theorem dX2_leaveRow_48 : decode cX2_leaveRow 48 = .ok (.iload_n 1, 1) := by decide +kernel
theorem dX2_leaveRow_49 : decode cX2_leaveRow 49 = .ok (.if_icmp .eq 20, 3) := by decide +kernel
theorem dX2_leaveRow_52 : decode cX2_leaveRow 52 = .ok (.aload_n 0, 1) := by decide +kernel
theorem dX2_leaveRow_53 : decode cX2_leaveRow 53 = .ok (.getfield 23, 3) := by decide +kernel
theorem dX2_leaveRow_56 : decode cX2_leaveRow 56 = .ok (.iload_n 2, 1) := by decide +kernel
theorem dX2_leaveRow_57 : decode cX2_leaveRow 57 = .ok (.iconst 3, 1) := by decide +kernel
theorem dX2_leaveRow_58 : decode cX2_leaveRow 58 = .ok (.iload 4, 2) := by decide +kernel
theorem dX2_leaveRow_60 : decode cX2_leaveRow 60 = .ok (.iadd, 1) := by decide +kernel
theorem dX2_leaveRow_61 : decode cX2_leaveRow 61 = .ok (.iload 6, 2) := by decide +kernel
theorem dX2_leaveRow_63 : decode cX2_leaveRow 63 = .ok (.invokevirtual 38, 3) := by decide +kernel
theorem dX2_leaveRow_66 : decode cX2_leaveRow 66 = .ok (.iinc 4 1, 3) := by decide +kernel
theorem dX2_leaveRow_69 : decode cX2_leaveRow 69 = .ok (.iinc 5 1, 3) := by decide +kernel
theorem dX2_leaveRow_72 : decode cX2_leaveRow 72 = .ok (.goto (-41), 3) := by decide +kernel
theorem dX2_leaveRow_75 : decode cX2_leaveRow 75 = .ok (.aload_n 0, 1) := by decide +kernel
theorem dX2_leaveRow_76 : decode cX2_leaveRow 76 = .ok (.getfield 23, 3) := by decide +kernel
theorem dX2_leaveRow_79 : decode cX2_leaveRow 79 = .ok (.iload_n 2, 1) := by decide +kernel
theorem dX2_leaveRow_80 : decode cX2_leaveRow 80 = .ok (.iconst 2, 1) := by decide +kernel
theorem dX2_leaveRow_81 : decode cX2_leaveRow 81 = .ok (.iload 4, 2) := by decide +kernel
theorem dX2_leaveRow_83 : decode cX2_leaveRow 83 = .ok (.invokevirtual 38, 3) := by decide +kernel
theorem dX2_leaveRow_86 : decode cX2_leaveRow 86 = .ok (.return_, 1) := by decide +kernel
theorem dX2_setOut_0 : decode cX2_setOut 0 = .ok (.aload_n 0, 1) := by decide +kernel
theorem dX2_setOut_1 : decode cX2_setOut 1 = .ok (.getfield 16, 3) := by decide +kernel
theorem dX2_setOut_4 : decode cX2_setOut 4 = .ok (.iload_n 1, 1) := by decide +kernel
theorem dX2_setOut_5 : decode cX2_setOut 5 = .ok (.iconst 0, 1) := by decide +kernel
theorem dX2_setOut_6 : decode cX2_setOut 6 = .ok (.iload_n 2, 1) := by decide +kernel
theorem dX2_setOut_7 : decode cX2_setOut 7 = .ok (.invokevirtual 38, 3) := by decide +kernel
theorem dX2_setOut_10 : decode cX2_setOut 10 = .ok (.aload_n 0, 1) := by decide +kernel
theorem dX2_setOut_11 : decode cX2_setOut 11 = .ok (.getfield 16, 3) := by decide +kernel
theorem dX2_setOut_14 : decode cX2_setOut 14 = .ok (.iload_n 1, 1) := by decide +kernel
theorem dX2_setOut_15 : decode cX2_setOut 15 = .ok (.iconst 1, 1) := by decide +kernel
theorem dX2_setOut_16 : decode cX2_setOut 16 = .ok (.iload_n 3, 1) := by decide +kernel
theorem dX2_setOut_17 : decode cX2_setOut 17 = .ok (.invokevirtual 38, 3) := by decide +kernel
theorem dX2_setOut_20 : decode cX2_setOut 20 = .ok (.aload_n 0, 1) := by decide +kernel
theorem dX2_setOut_21 : decode cX2_setOut 21 = .ok (.getfield 16, 3) := by decide +kernel
theorem dX2_setOut_24 : decode cX2_setOut 24 = .ok (.iload_n 1, 1) := by decide +kernel
theorem dX2_setOut_25 : decode cX2_setOut 25 = .ok (.iconst 4, 1) := by decide +kernel
theorem dX2_setOut_26 : decode cX2_setOut 26 = .ok (.iload 4, 2) := by decide +kernel
theorem dX2_setOut_28 : decode cX2_setOut 28 = .ok (.invokevirtual 38, 3) := by decide +kernel
theorem dX2_setOut_31 : decode cX2_setOut 31 = .ok (.aload_n 0, 1) := by decide +kernel
theorem dX2_setOut_32 : decode cX2_setOut 32 = .ok (.getfield 16, 3) := by decide +kernel
theorem dX2_setOut_35 : decode cX2_setOut 35 = .ok (.iload_n 1, 1) := by decide +kernel
theorem dX2_setOut_36 : decode cX2_setOut 36 = .ok (.iconst 3, 1) := by decide +kernel
theorem dX2_setOut_37 : decode cX2_setOut 37 = .ok (.iload 5, 2) := by decide +kernel
theorem dX2_setOut_39 : decode cX2_setOut 39 = .ok (.invokevirtual 38, 3) := by decide +kernel
theorem dX2_setOut_42 : decode cX2_setOut 42 = .ok (.return_, 1) := by decide +kernel
theorem dX2_settle_0 : decode cX2_settle 0 = .ok (.aload_n 0, 1) := by decide +kernel
theorem dX2_settle_1 : decode cX2_settle 1 = .ok (.getfield 16, 3) := by decide +kernel
theorem dX2_settle_4 : decode cX2_settle 4 = .ok (.iload_n 1, 1) := by decide +kernel
theorem dX2_settle_5 : decode cX2_settle 5 = .ok (.iconst 0, 1) := by decide +kernel
theorem dX2_settle_6 : decode cX2_settle 6 = .ok (.iload_n 2, 1) := by decide +kernel
theorem dX2_settle_7 : decode cX2_settle 7 = .ok (.invokevirtual 38, 3) := by decide +kernel
theorem dX2_settle_10 : decode cX2_settle 10 = .ok (.aload_n 0, 1) := by decide +kernel
theorem dX2_settle_11 : decode cX2_settle 11 = .ok (.getfield 16, 3) := by decide +kernel
theorem dX2_settle_14 : decode cX2_settle 14 = .ok (.iload_n 1, 1) := by decide +kernel
theorem dX2_settle_15 : decode cX2_settle 15 = .ok (.iconst 4, 1) := by decide +kernel
theorem dX2_settle_16 : decode cX2_settle 16 = .ok (.iload_n 3, 1) := by decide +kernel
theorem dX2_settle_17 : decode cX2_settle 17 = .ok (.invokevirtual 38, 3) := by decide +kernel
theorem dX2_settle_20 : decode cX2_settle 20 = .ok (.aload_n 0, 1) := by decide +kernel
theorem dX2_settle_21 : decode cX2_settle 21 = .ok (.getfield 16, 3) := by decide +kernel
theorem dX2_settle_24 : decode cX2_settle 24 = .ok (.iload_n 1, 1) := by decide +kernel
theorem dX2_settle_25 : decode cX2_settle 25 = .ok (.iconst 3, 1) := by decide +kernel
theorem dX2_settle_26 : decode cX2_settle 26 = .ok (.iconst (-1), 1) := by decide +kernel
theorem dX2_settle_27 : decode cX2_settle 27 = .ok (.invokevirtual 38, 3) := by decide +kernel
theorem dX2_settle_30 : decode cX2_settle 30 = .ok (.return_, 1) := by decide +kernel
theorem dX2_arrive_0 : decode cX2_arrive 0 = .ok (.aload_n 0, 1) := by decide +kernel
theorem dX2_arrive_1 : decode cX2_arrive 1 = .ok (.getfield 16, 3) := by decide +kernel
theorem dX2_arrive_4 : decode cX2_arrive 4 = .ok (.iload_n 1, 1) := by decide +kernel
theorem dX2_arrive_5 : decode cX2_arrive 5 = .ok (.iconst 4, 1) := by decide +kernel
theorem dX2_arrive_6 : decode cX2_arrive 6 = .ok (.invokevirtual 30, 3) := by decide +kernel
theorem dX2_arrive_9 : decode cX2_arrive 9 = .ok (.istore_n 2, 1) := by decide +kernel
theorem dX2_arrive_10 : decode cX2_arrive 10 = .ok (.aload_n 0, 1) := by decide +kernel
theorem dX2_arrive_11 : decode cX2_arrive 11 = .ok (.iload_n 2, 1) := by decide +kernel
theorem dX2_arrive_12 : decode cX2_arrive 12 = .ok (.invokevirtual 49, 3) := by decide +kernel
theorem dX2_arrive_15 : decode cX2_arrive 15 = .ok (.istore_n 3, 1) := by decide +kernel
theorem dX2_arrive_16 : decode cX2_arrive 16 = .ok (.aload_n 0, 1) := by decide +kernel
theorem dX2_arrive_17 : decode cX2_arrive 17 = .ok (.getfield 16, 3) := by decide +kernel
theorem dX2_arrive_20 : decode cX2_arrive 20 = .ok (.iload_n 1, 1) := by decide +kernel
theorem dX2_arrive_21 : decode cX2_arrive 21 = .ok (.iconst 0, 1) := by decide +kernel
theorem dX2_arrive_22 : decode cX2_arrive 22 = .ok (.invokevirtual 30, 3) := by decide +kernel
theorem dX2_arrive_25 : decode cX2_arrive 25 = .ok (.iconst 3, 1) := by decide +kernel
theorem dX2_arrive_26 : decode cX2_arrive 26 = .ok (.if_icmp .ne 13, 3) := by decide +kernel
theorem dX2_arrive_29 : decode cX2_arrive 29 = .ok (.aload_n 0, 1) := by decide +kernel
theorem dX2_arrive_30 : decode cX2_arrive 30 = .ok (.iload_n 1, 1) := by decide +kernel
theorem dX2_arrive_31 : decode cX2_arrive 31 = .ok (.iconst 4, 1) := by decide +kernel
theorem dX2_arrive_32 : decode cX2_arrive 32 = .ok (.iconst (-1), 1) := by decide +kernel
theorem dX2_arrive_33 : decode cX2_arrive 33 = .ok (.invokevirtual 42, 3) := by decide +kernel
theorem dX2_arrive_36 : decode cX2_arrive 36 = .ok (.goto 71, 3) := by decide +kernel
theorem dX2_arrive_39 : decode cX2_arrive 39 = .ok (.iload_n 2, 1) := by decide +kernel
theorem dX2_arrive_40 : decode cX2_arrive 40 = .ok (.ifCond .ge 13, 3) := by decide +kernel
theorem dX2_arrive_43 : decode cX2_arrive 43 = .ok (.aload_n 0, 1) := by decide +kernel
theorem dX2_arrive_44 : decode cX2_arrive 44 = .ok (.iload_n 1, 1) := by decide +kernel
theorem dX2_arrive_45 : decode cX2_arrive 45 = .ok (.iconst 0, 1) := by decide +kernel
theorem dX2_arrive_46 : decode cX2_arrive 46 = .ok (.iconst (-1), 1) := by decide +kernel
theorem dX2_arrive_47 : decode cX2_arrive 47 = .ok (.invokevirtual 42, 3) := by decide +kernel
theorem dX2_arrive_50 : decode cX2_arrive 50 = .ok (.goto 57, 3) := by decide +kernel
theorem dX2_arrive_53 : decode cX2_arrive 53 = .ok (.iload_n 3, 1) := by decide +kernel
theorem dX2_arrive_54 : decode cX2_arrive 54 = .ok (.aload_n 0, 1) := by decide +kernel
theorem dX2_arrive_55 : decode cX2_arrive 55 = .ok (.getfield 23, 3) := by decide +kernel
theorem dX2_arrive_58 : decode cX2_arrive 58 = .ok (.iload_n 2, 1) := by decide +kernel
theorem dX2_arrive_59 : decode cX2_arrive 59 = .ok (.iconst 1, 1) := by decide +kernel
theorem dX2_arrive_60 : decode cX2_arrive 60 = .ok (.invokevirtual 30, 3) := by decide +kernel
theorem dX2_arrive_63 : decode cX2_arrive 63 = .ok (.if_icmp .lt 13, 3) := by decide +kernel
theorem dX2_arrive_66 : decode cX2_arrive 66 = .ok (.aload_n 0, 1) := by decide +kernel
theorem dX2_arrive_67 : decode cX2_arrive 67 = .ok (.iload_n 1, 1) := by decide +kernel
theorem dX2_arrive_68 : decode cX2_arrive 68 = .ok (.iconst 4, 1) := by decide +kernel
theorem dX2_arrive_69 : decode cX2_arrive 69 = .ok (.iconst (-1), 1) := by decide +kernel
theorem dX2_arrive_70 : decode cX2_arrive 70 = .ok (.invokevirtual 42, 3) := by decide +kernel
theorem dX2_arrive_73 : decode cX2_arrive 73 = .ok (.goto 34, 3) := by decide +kernel
theorem dX2_arrive_76 : decode cX2_arrive 76 = .ok (.aload_n 0, 1) := by decide +kernel
theorem dX2_arrive_77 : decode cX2_arrive 77 = .ok (.getfield 23, 3) := by decide +kernel
theorem dX2_arrive_80 : decode cX2_arrive 80 = .ok (.iload_n 2, 1) := by decide +kernel
theorem dX2_arrive_81 : decode cX2_arrive 81 = .ok (.iconst 3, 1) := by decide +kernel
theorem dX2_arrive_82 : decode cX2_arrive 82 = .ok (.iload_n 3, 1) := by decide +kernel
theorem dX2_arrive_83 : decode cX2_arrive 83 = .ok (.iadd, 1) := by decide +kernel
theorem dX2_arrive_84 : decode cX2_arrive 84 = .ok (.iload_n 1, 1) := by decide +kernel
theorem dX2_arrive_85 : decode cX2_arrive 85 = .ok (.invokevirtual 38, 3) := by decide +kernel
theorem dX2_arrive_88 : decode cX2_arrive 88 = .ok (.aload_n 0, 1) := by decide +kernel
theorem dX2_arrive_89 : decode cX2_arrive 89 = .ok (.getfield 23, 3) := by decide +kernel
theorem dX2_arrive_92 : decode cX2_arrive 92 = .ok (.iload_n 2, 1) := by decide +kernel
theorem dX2_arrive_93 : decode cX2_arrive 93 = .ok (.iconst 2, 1) := by decide +kernel
theorem dX2_arrive_94 : decode cX2_arrive 94 = .ok (.iload_n 3, 1) := by decide +kernel
theorem dX2_arrive_95 : decode cX2_arrive 95 = .ok (.iconst 1, 1) := by decide +kernel
theorem dX2_arrive_96 : decode cX2_arrive 96 = .ok (.iadd, 1) := by decide +kernel
theorem dX2_arrive_97 : decode cX2_arrive 97 = .ok (.invokevirtual 38, 3) := by decide +kernel
theorem dX2_arrive_100 : decode cX2_arrive 100 = .ok (.aload_n 0, 1) := by decide +kernel
theorem dX2_arrive_101 : decode cX2_arrive 101 = .ok (.iload_n 1, 1) := by decide +kernel
theorem dX2_arrive_102 : decode cX2_arrive 102 = .ok (.iconst 1, 1) := by decide +kernel
theorem dX2_arrive_103 : decode cX2_arrive 103 = .ok (.iload_n 2, 1) := by decide +kernel
theorem dX2_arrive_104 : decode cX2_arrive 104 = .ok (.invokevirtual 42, 3) := by decide +kernel
theorem dX2_arrive_107 : decode cX2_arrive 107 = .ok (.return_, 1) := by decide +kernel
theorem dX2_nextToArrive_0 : decode cX2_nextToArrive 0 = .ok (.iconst (-1), 1) := by decide +kernel
theorem dX2_nextToArrive_1 : decode cX2_nextToArrive 1 = .ok (.istore_n 2, 1) := by decide +kernel
theorem dX2_nextToArrive_2 : decode cX2_nextToArrive 2 = .ok (.iload_n 1, 1) := by decide +kernel
theorem dX2_nextToArrive_3 : decode cX2_nextToArrive 3 = .ok (.iconst 1, 1) := by decide +kernel
theorem dX2_nextToArrive_4 : decode cX2_nextToArrive 4 = .ok (.iadd, 1) := by decide +kernel
theorem dX2_nextToArrive_5 : decode cX2_nextToArrive 5 = .ok (.istore_n 3, 1) := by decide +kernel
theorem dX2_nextToArrive_6 : decode cX2_nextToArrive 6 = .ok (.iconst 0, 1) := by decide +kernel
theorem dX2_nextToArrive_7 : decode cX2_nextToArrive 7 = .ok (.istore 4, 2) := by decide +kernel
theorem dX2_nextToArrive_9 : decode cX2_nextToArrive 9 = .ok (.iload 4, 2) := by decide +kernel
theorem dX2_nextToArrive_11 : decode cX2_nextToArrive 11 = .ok (.aload_n 0, 1) := by decide +kernel
theorem dX2_nextToArrive_12 : decode cX2_nextToArrive 12 = .ok (.getfield 16, 3) := by decide +kernel
theorem dX2_nextToArrive_15 : decode cX2_nextToArrive 15 = .ok (.getfield 26, 3) := by decide +kernel
theorem dX2_nextToArrive_18 : decode cX2_nextToArrive 18 = .ok (.if_icmp .ge 42, 3) := by decide +kernel
theorem dX2_nextToArrive_21 : decode cX2_nextToArrive 21 = .ok (.aload_n 0, 1) := by decide +kernel
theorem dX2_nextToArrive_22 : decode cX2_nextToArrive 22 = .ok (.getfield 16, 3) := by decide +kernel
theorem dX2_nextToArrive_25 : decode cX2_nextToArrive 25 = .ok (.iload 4, 2) := by decide +kernel
theorem dX2_nextToArrive_27 : decode cX2_nextToArrive 27 = .ok (.iconst 3, 1) := by decide +kernel
theorem dX2_nextToArrive_28 : decode cX2_nextToArrive 28 = .ok (.invokevirtual 30, 3) := by decide +kernel
theorem dX2_nextToArrive_31 : decode cX2_nextToArrive 31 = .ok (.istore 5, 2) := by decide +kernel
theorem dX2_nextToArrive_33 : decode cX2_nextToArrive 33 = .ok (.aload_n 0, 1) := by decide +kernel
theorem dX2_nextToArrive_34 : decode cX2_nextToArrive 34 = .ok (.iload 4, 2) := by decide +kernel
theorem dX2_nextToArrive_36 : decode cX2_nextToArrive 36 = .ok (.invokevirtual 56, 3) := by decide +kernel
theorem dX2_nextToArrive_39 : decode cX2_nextToArrive 39 = .ok (.ifCond .eq 15, 3) := by decide +kernel
theorem dX2_nextToArrive_42 : decode cX2_nextToArrive 42 = .ok (.iload 5, 2) := by decide +kernel
theorem dX2_nextToArrive_44 : decode cX2_nextToArrive 44 = .ok (.iload_n 3, 1) := by decide +kernel
theorem dX2_nextToArrive_45 : decode cX2_nextToArrive 45 = .ok (.if_icmp .ge 9, 3) := by decide +kernel
theorem dX2_nextToArrive_48 : decode cX2_nextToArrive 48 = .ok (.iload 4, 2) := by decide +kernel
theorem dX2_nextToArrive_50 : decode cX2_nextToArrive 50 = .ok (.istore_n 2, 1) := by decide +kernel
theorem dX2_nextToArrive_51 : decode cX2_nextToArrive 51 = .ok (.iload 5, 2) := by decide +kernel
theorem dX2_nextToArrive_53 : decode cX2_nextToArrive 53 = .ok (.istore_n 3, 1) := by decide +kernel
theorem dX2_nextToArrive_54 : decode cX2_nextToArrive 54 = .ok (.iinc 4 1, 3) := by decide +kernel
theorem dX2_nextToArrive_57 : decode cX2_nextToArrive 57 = .ok (.goto (-48), 3) := by decide +kernel
theorem dX2_nextToArrive_60 : decode cX2_nextToArrive 60 = .ok (.iload_n 2, 1) := by decide +kernel
theorem dX2_nextToArrive_61 : decode cX2_nextToArrive 61 = .ok (.ireturn, 1) := by decide +kernel
theorem dX2_spend_0 : decode cX2_spend 0 = .ok (.iconst 0, 1) := by decide +kernel
theorem dX2_spend_1 : decode cX2_spend 1 = .ok (.istore_n 2, 1) := by decide +kernel
theorem dX2_spend_2 : decode cX2_spend 2 = .ok (.iload_n 2, 1) := by decide +kernel
theorem dX2_spend_3 : decode cX2_spend 3 = .ok (.aload_n 0, 1) := by decide +kernel
theorem dX2_spend_4 : decode cX2_spend 4 = .ok (.getfield 16, 3) := by decide +kernel
theorem dX2_spend_7 : decode cX2_spend 7 = .ok (.getfield 26, 3) := by decide +kernel
theorem dX2_spend_10 : decode cX2_spend 10 = .ok (.if_icmp .ge 54, 3) := by decide +kernel
theorem dX2_spend_13 : decode cX2_spend 13 = .ok (.aload_n 0, 1) := by decide +kernel
theorem dX2_spend_14 : decode cX2_spend 14 = .ok (.getfield 16, 3) := by decide +kernel
theorem dX2_spend_17 : decode cX2_spend 17 = .ok (.iload_n 2, 1) := by decide +kernel
theorem dX2_spend_18 : decode cX2_spend 18 = .ok (.iconst 2, 1) := by decide +kernel
theorem dX2_spend_19 : decode cX2_spend 19 = .ok (.invokevirtual 30, 3) := by decide +kernel
theorem dX2_spend_22 : decode cX2_spend 22 = .ok (.iload_n 1, 1) := by decide +kernel
theorem dX2_spend_23 : decode cX2_spend 23 = .ok (.aload_n 0, 1) := by decide +kernel
theorem dX2_spend_24 : decode cX2_spend 24 = .ok (.getfield 16, 3) := by decide +kernel
theorem dX2_spend_27 : decode cX2_spend 27 = .ok (.iload_n 2, 1) := by decide +kernel
theorem dX2_spend_28 : decode cX2_spend 28 = .ok (.iconst 0, 1) := by decide +kernel
theorem dX2_spend_29 : decode cX2_spend 29 = .ok (.invokevirtual 30, 3) := by decide +kernel
theorem dX2_spend_32 : decode cX2_spend 32 = .ok (.invokestatic 59, 3) := by decide +kernel
theorem dX2_spend_35 : decode cX2_spend 35 = .ok (.imul, 1) := by decide +kernel
theorem dX2_spend_36 : decode cX2_spend 36 = .ok (.iadd, 1) := by decide +kernel
theorem dX2_spend_37 : decode cX2_spend 37 = .ok (.istore_n 3, 1) := by decide +kernel
theorem dX2_spend_38 : decode cX2_spend 38 = .ok (.aload_n 0, 1) := by decide +kernel
theorem dX2_spend_39 : decode cX2_spend 39 = .ok (.getfield 16, 3) := by decide +kernel
theorem dX2_spend_42 : decode cX2_spend 42 = .ok (.iload_n 2, 1) := by decide +kernel
theorem dX2_spend_43 : decode cX2_spend 43 = .ok (.iconst 2, 1) := by decide +kernel
theorem dX2_spend_44 : decode cX2_spend 44 = .ok (.iconst 0, 1) := by decide +kernel
theorem dX2_spend_45 : decode cX2_spend 45 = .ok (.sipush 1000, 3) := by decide +kernel
theorem dX2_spend_48 : decode cX2_spend 48 = .ok (.iload_n 3, 1) := by decide +kernel
theorem dX2_spend_49 : decode cX2_spend 49 = .ok (.invokestatic 62, 3) := by decide +kernel
theorem dX2_spend_52 : decode cX2_spend 52 = .ok (.invokestatic 67, 3) := by decide +kernel
theorem dX2_spend_55 : decode cX2_spend 55 = .ok (.invokevirtual 38, 3) := by decide +kernel
theorem dX2_spend_58 : decode cX2_spend 58 = .ok (.iinc 2 1, 3) := by decide +kernel
theorem dX2_spend_61 : decode cX2_spend 61 = .ok (.goto (-59), 3) := by decide +kernel
theorem dX2_spend_64 : decode cX2_spend 64 = .ok (.return_, 1) := by decide +kernel
theorem dX2_gainOf_0 : decode cX2_gainOf 0 = .ok (.iload_n 0, 1) := by decide +kernel
theorem dX2_gainOf_1 : decode cX2_gainOf 1 = .ok (.tableswitch 38 0 3 #[31, 38, 33, 35], 31) := by decide +kernel
theorem dX2_gainOf_32 : decode cX2_gainOf 32 = .ok (.iconst 2, 1) := by decide +kernel
theorem dX2_gainOf_33 : decode cX2_gainOf 33 = .ok (.ireturn, 1) := by decide +kernel
theorem dX2_gainOf_34 : decode cX2_gainOf 34 = .ok (.iconst (-1), 1) := by decide +kernel
theorem dX2_gainOf_35 : decode cX2_gainOf 35 = .ok (.ireturn, 1) := by decide +kernel
theorem dX2_gainOf_36 : decode cX2_gainOf 36 = .ok (.bipush (-3), 2) := by decide +kernel
theorem dX2_gainOf_38 : decode cX2_gainOf 38 = .ok (.ireturn, 1) := by decide +kernel
theorem dX2_gainOf_39 : decode cX2_gainOf 39 = .ok (.iconst 0, 1) := by decide +kernel
theorem dX2_gainOf_40 : decode cX2_gainOf 40 = .ok (.ireturn, 1) := by decide +kernel
theorem dX3_init_0 : decode cX3_init 0 = .ok (.aload_n 0, 1) := by decide +kernel
theorem dX3_init_1 : decode cX3_init 1 = .ok (.invokespecial 1, 3) := by decide +kernel
theorem dX3_init_4 : decode cX3_init 4 = .ok (.aload_n 0, 1) := by decide +kernel
theorem dX3_init_5 : decode cX3_init 5 = .ok (.iload_n 1, 1) := by decide +kernel
theorem dX3_init_6 : decode cX3_init 6 = .ok (.putfield 7, 3) := by decide +kernel
theorem dX3_init_9 : decode cX3_init 9 = .ok (.aload_n 0, 1) := by decide +kernel
theorem dX3_init_10 : decode cX3_init 10 = .ok (.iload_n 2, 1) := by decide +kernel
theorem dX3_init_11 : decode cX3_init 11 = .ok (.putfield 13, 3) := by decide +kernel
theorem dX3_init_14 : decode cX3_init 14 = .ok (.aload_n 0, 1) := by decide +kernel
theorem dX3_init_15 : decode cX3_init 15 = .ok (.iload_n 3, 1) := by decide +kernel
theorem dX3_init_16 : decode cX3_init 16 = .ok (.putfield 16, 3) := by decide +kernel
theorem dX3_init_19 : decode cX3_init 19 = .ok (.aload_n 0, 1) := by decide +kernel
theorem dX3_init_20 : decode cX3_init 20 = .ok (.aload 4, 2) := by decide +kernel
theorem dX3_init_22 : decode cX3_init 22 = .ok (.putfield 19, 3) := by decide +kernel
theorem dX3_init_25 : decode cX3_init 25 = .ok (.return_, 1) := by decide +kernel
theorem dX3_worth_0 : decode cX3_worth 0 = .ok (.iconst 0, 1) := by decide +kernel
theorem dX3_worth_1 : decode cX3_worth 1 = .ok (.istore_n 3, 1) := by decide +kernel
theorem dX3_worth_2 : decode cX3_worth 2 = .ok (.iconst 0, 1) := by decide +kernel
theorem dX3_worth_3 : decode cX3_worth 3 = .ok (.istore 4, 2) := by decide +kernel
theorem dX3_worth_5 : decode cX3_worth 5 = .ok (.iload 4, 2) := by decide +kernel
theorem dX3_worth_7 : decode cX3_worth 7 = .ok (.aload_n 0, 1) := by decide +kernel
theorem dX3_worth_8 : decode cX3_worth 8 = .ok (.getfield 19, 3) := by decide +kernel
theorem dX3_worth_11 : decode cX3_worth 11 = .ok (.arraylength, 1) := by decide +kernel
theorem dX3_worth_12 : decode cX3_worth 12 = .ok (.if_icmp .ge 181, 3) := by decide +kernel
theorem dX3_worth_15 : decode cX3_worth 15 = .ok (.aload_n 0, 1) := by decide +kernel
theorem dX3_worth_16 : decode cX3_worth 16 = .ok (.getfield 19, 3) := by decide +kernel
theorem dX3_worth_19 : decode cX3_worth 19 = .ok (.iload 4, 2) := by decide +kernel
theorem dX3_worth_21 : decode cX3_worth 21 = .ok (.iaload, 1) := by decide +kernel
theorem dX3_worth_22 : decode cX3_worth 22 = .ok (.sipush 256, 3) := by decide +kernel
theorem dX3_worth_25 : decode cX3_worth 25 = .ok (.irem, 1) := by decide +kernel
theorem dX3_worth_26 : decode cX3_worth 26 = .ok (.istore 5, 2) := by decide +kernel
theorem dX3_worth_28 : decode cX3_worth 28 = .ok (.aload_n 0, 1) := by decide +kernel
theorem dX3_worth_29 : decode cX3_worth 29 = .ok (.getfield 19, 3) := by decide +kernel
theorem dX3_worth_32 : decode cX3_worth 32 = .ok (.iload 4, 2) := by decide +kernel
theorem dX3_worth_34 : decode cX3_worth 34 = .ok (.iaload, 1) := by decide +kernel
theorem dX3_worth_35 : decode cX3_worth 35 = .ok (.sipush 256, 3) := by decide +kernel
theorem dX3_worth_38 : decode cX3_worth 38 = .ok (.idiv, 1) := by decide +kernel
theorem dX3_worth_39 : decode cX3_worth 39 = .ok (.istore 6, 2) := by decide +kernel
theorem dX3_worth_41 : decode cX3_worth 41 = .ok (.iload 5, 2) := by decide +kernel
theorem dX3_worth_43 : decode cX3_worth 43 = .ok (.bipush 48, 2) := by decide +kernel
theorem dX3_worth_45 : decode cX3_worth 45 = .ok (.if_icmp .eq 10, 3) := by decide +kernel
theorem dX3_worth_48 : decode cX3_worth 48 = .ok (.iload 5, 2) := by decide +kernel
theorem dX3_worth_50 : decode cX3_worth 50 = .ok (.bipush 97, 2) := by decide +kernel
theorem dX3_worth_52 : decode cX3_worth 52 = .ok (.if_icmp .ne 38, 3) := by decide +kernel
theorem dX3_worth_55 : decode cX3_worth 55 = .ok (.iload_n 3, 1) := by decide +kernel
theorem dX3_worth_56 : decode cX3_worth 56 = .ok (.aload_n 2, 1) := by decide +kernel
theorem dX3_worth_57 : decode cX3_worth 57 = .ok (.arraylength, 1) := by decide +kernel
theorem dX3_worth_58 : decode cX3_worth 58 = .ok (.if_icmp .lt 5, 3) := by decide +kernel
theorem dX3_worth_61 : decode cX3_worth 61 = .ok (.iconst 0, 1) := by decide +kernel
theorem dX3_worth_62 : decode cX3_worth 62 = .ok (.ireturn, 1) := by decide +kernel
theorem dX3_worth_63 : decode cX3_worth 63 = .ok (.aload_n 2, 1) := by decide +kernel
theorem dX3_worth_64 : decode cX3_worth 64 = .ok (.iload_n 3, 1) := by decide +kernel
theorem dX3_worth_65 : decode cX3_worth 65 = .ok (.iload 5, 2) := by decide +kernel
theorem dX3_worth_67 : decode cX3_worth 67 = .ok (.bipush 48, 2) := by decide +kernel
theorem dX3_worth_69 : decode cX3_worth 69 = .ok (.if_icmp .ne 8, 3) := by decide +kernel
theorem dX3_worth_72 : decode cX3_worth 72 = .ok (.iload 6, 2) := by decide +kernel
theorem dX3_worth_74 : decode cX3_worth 74 = .ok (.goto 9, 3) := by decide +kernel
theorem dX3_worth_77 : decode cX3_worth 77 = .ok (.aload_n 1, 1) := by decide +kernel
theorem dX3_worth_78 : decode cX3_worth 78 = .ok (.iload 6, 2) := by decide +kernel
theorem dX3_worth_80 : decode cX3_worth 80 = .ok (.invokestatic 23, 3) := by decide +kernel
theorem dX3_worth_83 : decode cX3_worth 83 = .ok (.iastore, 1) := by decide +kernel
theorem dX3_worth_84 : decode cX3_worth 84 = .ok (.iinc 3 1, 3) := by decide +kernel
theorem dX3_worth_87 : decode cX3_worth 87 = .ok (.goto 100, 3) := by decide +kernel
theorem dX3_worth_90 : decode cX3_worth 90 = .ok (.iload 5, 2) := by decide +kernel
theorem dX3_worth_92 : decode cX3_worth 92 = .ok (.bipush 58, 2) := by decide +kernel
theorem dX3_worth_94 : decode cX3_worth 94 = .ok (.if_icmp .ne 17, 3) := by decide +kernel
theorem dX3_worth_97 : decode cX3_worth 97 = .ok (.iload 4, 2) := by decide +kernel
theorem dX3_worth_99 : decode cX3_worth 99 = .ok (.iload 6, 2) := by decide +kernel
theorem dX3_worth_101 : decode cX3_worth 101 = .ok (.iconst 1, 1) := by decide +kernel
theorem dX3_worth_102 : decode cX3_worth 102 = .ok (.isub, 1) := by decide +kernel
theorem dX3_worth_103 : decode cX3_worth 103 = .ok (.invokestatic 27, 3) := by decide +kernel
theorem dX3_worth_106 : decode cX3_worth 106 = .ok (.istore 4, 2) := by decide +kernel
theorem dX3_worth_108 : decode cX3_worth 108 = .ok (.goto 79, 3) := by decide +kernel
theorem dX3_worth_111 : decode cX3_worth 111 = .ok (.iload_n 3, 1) := by decide +kernel
theorem dX3_worth_112 : decode cX3_worth 112 = .ok (.iconst 1, 1) := by decide +kernel
theorem dX3_worth_113 : decode cX3_worth 113 = .ok (.if_icmp .lt 9, 3) := by decide +kernel
theorem dX3_worth_116 : decode cX3_worth 116 = .ok (.iload_n 3, 1) := by decide +kernel
theorem dX3_worth_117 : decode cX3_worth 117 = .ok (.aload_n 2, 1) := by decide +kernel
theorem dX3_worth_118 : decode cX3_worth 118 = .ok (.arraylength, 1) := by decide +kernel
theorem dX3_worth_119 : decode cX3_worth 119 = .ok (.if_icmp .le 5, 3) := by decide +kernel
theorem dX3_worth_122 : decode cX3_worth 122 = .ok (.iconst 0, 1) := by decide +kernel
theorem dX3_worth_123 : decode cX3_worth 123 = .ok (.ireturn, 1) := by decide +kernel
theorem dX3_worth_124 : decode cX3_worth 124 = .ok (.iload 5, 2) := by decide +kernel
theorem dX3_worth_126 : decode cX3_worth 126 = .ok (.bipush 63, 2) := by decide +kernel
theorem dX3_worth_128 : decode cX3_worth 128 = .ok (.if_icmp .ne 31, 3) := by decide +kernel
theorem dX3_worth_131 : decode cX3_worth 131 = .ok (.iinc 3 (-1), 3) := by decide +kernel
theorem dX3_worth_134 : decode cX3_worth 134 = .ok (.aload_n 2, 1) := by decide +kernel
theorem dX3_worth_135 : decode cX3_worth 135 = .ok (.iload_n 3, 1) := by decide +kernel
theorem dX3_worth_136 : decode cX3_worth 136 = .ok (.iaload, 1) := by decide +kernel
theorem dX3_worth_137 : decode cX3_worth 137 = .ok (.ifCond .ne 15, 3) := by decide +kernel
theorem dX3_worth_140 : decode cX3_worth 140 = .ok (.iload 4, 2) := by decide +kernel
theorem dX3_worth_142 : decode cX3_worth 142 = .ok (.iload 6, 2) := by decide +kernel
theorem dX3_worth_144 : decode cX3_worth 144 = .ok (.iconst 1, 1) := by decide +kernel
theorem dX3_worth_145 : decode cX3_worth 145 = .ok (.isub, 1) := by decide +kernel
theorem dX3_worth_146 : decode cX3_worth 146 = .ok (.invokestatic 27, 3) := by decide +kernel
theorem dX3_worth_149 : decode cX3_worth 149 = .ok (.goto 5, 3) := by decide +kernel
theorem dX3_worth_152 : decode cX3_worth 152 = .ok (.iload 4, 2) := by decide +kernel
theorem dX3_worth_154 : decode cX3_worth 154 = .ok (.istore 4, 2) := by decide +kernel
theorem dX3_worth_156 : decode cX3_worth 156 = .ok (.goto 31, 3) := by decide +kernel
theorem dX3_worth_159 : decode cX3_worth 159 = .ok (.iload_n 3, 1) := by decide +kernel
theorem dX3_worth_160 : decode cX3_worth 160 = .ok (.iconst 2, 1) := by decide +kernel
theorem dX3_worth_161 : decode cX3_worth 161 = .ok (.if_icmp .ge 5, 3) := by decide +kernel
theorem dX3_worth_164 : decode cX3_worth 164 = .ok (.iconst 0, 1) := by decide +kernel
theorem dX3_worth_165 : decode cX3_worth 165 = .ok (.ireturn, 1) := by decide +kernel
theorem dX3_worth_166 : decode cX3_worth 166 = .ok (.iinc 3 (-1), 3) := by decide +kernel
theorem dX3_worth_169 : decode cX3_worth 169 = .ok (.aload_n 2, 1) := by decide +kernel
theorem dX3_worth_170 : decode cX3_worth 170 = .ok (.iload_n 3, 1) := by decide +kernel
theorem dX3_worth_171 : decode cX3_worth 171 = .ok (.iconst 1, 1) := by decide +kernel
theorem dX3_worth_172 : decode cX3_worth 172 = .ok (.isub, 1) := by decide +kernel
theorem dX3_worth_173 : decode cX3_worth 173 = .ok (.iload 5, 2) := by decide +kernel
theorem dX3_worth_175 : decode cX3_worth 175 = .ok (.aload_n 2, 1) := by decide +kernel
theorem dX3_worth_176 : decode cX3_worth 176 = .ok (.iload_n 3, 1) := by decide +kernel
theorem dX3_worth_177 : decode cX3_worth 177 = .ok (.iconst 1, 1) := by decide +kernel
theorem dX3_worth_178 : decode cX3_worth 178 = .ok (.isub, 1) := by decide +kernel
theorem dX3_worth_179 : decode cX3_worth 179 = .ok (.iaload, 1) := by decide +kernel
theorem dX3_worth_180 : decode cX3_worth 180 = .ok (.aload_n 2, 1) := by decide +kernel
theorem dX3_worth_181 : decode cX3_worth 181 = .ok (.iload_n 3, 1) := by decide +kernel
theorem dX3_worth_182 : decode cX3_worth 182 = .ok (.iaload, 1) := by decide +kernel
theorem dX3_worth_183 : decode cX3_worth 183 = .ok (.invokestatic 33, 3) := by decide +kernel
theorem dX3_worth_186 : decode cX3_worth 186 = .ok (.iastore, 1) := by decide +kernel
theorem dX3_worth_187 : decode cX3_worth 187 = .ok (.iinc 4 1, 3) := by decide +kernel
theorem dX3_worth_190 : decode cX3_worth 190 = .ok (.goto (-185), 3) := by decide +kernel
theorem dX3_worth_193 : decode cX3_worth 193 = .ok (.iload_n 3, 1) := by decide +kernel
theorem dX3_worth_194 : decode cX3_worth 194 = .ok (.ifCond .le 11, 3) := by decide +kernel
theorem dX3_worth_197 : decode cX3_worth 197 = .ok (.aload_n 2, 1) := by decide +kernel
theorem dX3_worth_198 : decode cX3_worth 198 = .ok (.iload_n 3, 1) := by decide +kernel
theorem dX3_worth_199 : decode cX3_worth 199 = .ok (.iconst 1, 1) := by decide +kernel
theorem dX3_worth_200 : decode cX3_worth 200 = .ok (.isub, 1) := by decide +kernel
theorem dX3_worth_201 : decode cX3_worth 201 = .ok (.iaload, 1) := by decide +kernel
theorem dX3_worth_202 : decode cX3_worth 202 = .ok (.goto 4, 3) := by decide +kernel
theorem dX3_worth_205 : decode cX3_worth 205 = .ok (.iconst 0, 1) := by decide +kernel
theorem dX3_worth_206 : decode cX3_worth 206 = .ok (.ireturn, 1) := by decide +kernel
theorem dX3_nameAt_0 : decode cX3_nameAt 0 = .ok (.iload_n 1, 1) := by decide +kernel
theorem dX3_nameAt_1 : decode cX3_nameAt 1 = .ok (.ifCond .lt 15, 3) := by decide +kernel
theorem dX3_nameAt_4 : decode cX3_nameAt 4 = .ok (.iload_n 1, 1) := by decide +kernel
theorem dX3_nameAt_5 : decode cX3_nameAt 5 = .ok (.aload_n 0, 1) := by decide +kernel
theorem dX3_nameAt_6 : decode cX3_nameAt 6 = .ok (.arraylength, 1) := by decide +kernel
theorem dX3_nameAt_7 : decode cX3_nameAt 7 = .ok (.if_icmp .ge 9, 3) := by decide +kernel
theorem dX3_nameAt_10 : decode cX3_nameAt 10 = .ok (.aload_n 0, 1) := by decide +kernel
theorem dX3_nameAt_11 : decode cX3_nameAt 11 = .ok (.iload_n 1, 1) := by decide +kernel
theorem dX3_nameAt_12 : decode cX3_nameAt 12 = .ok (.iaload, 1) := by decide +kernel
theorem dX3_nameAt_13 : decode cX3_nameAt 13 = .ok (.goto 4, 3) := by decide +kernel
theorem dX3_nameAt_16 : decode cX3_nameAt 16 = .ok (.iconst 0, 1) := by decide +kernel
theorem dX3_nameAt_17 : decode cX3_nameAt 17 = .ok (.ireturn, 1) := by decide +kernel
theorem dX3_reckoned_0 : decode cX3_reckoned 0 = .ok (.iload_n 0, 1) := by decide +kernel
theorem dX3_reckoned_1 : decode cX3_reckoned 1 = .ok (.tableswitch 188 37 62 #[143, 188, 188, 188, 188, 127, 119, 188, 123, 188, 131, 188, 188, 188, 188, 188, 188, 188, 188, 188, 188, 188, 188, 155, 166, 177], 119) := by decide +kernel
theorem dX3_reckoned_120 : decode cX3_reckoned 120 = .ok (.iload_n 1, 1) := by decide +kernel
theorem dX3_reckoned_121 : decode cX3_reckoned 121 = .ok (.iload_n 2, 1) := by decide +kernel
theorem dX3_reckoned_122 : decode cX3_reckoned 122 = .ok (.iadd, 1) := by decide +kernel
theorem dX3_reckoned_123 : decode cX3_reckoned 123 = .ok (.ireturn, 1) := by decide +kernel
theorem dX3_reckoned_124 : decode cX3_reckoned 124 = .ok (.iload_n 1, 1) := by decide +kernel
theorem dX3_reckoned_125 : decode cX3_reckoned 125 = .ok (.iload_n 2, 1) := by decide +kernel
theorem dX3_reckoned_126 : decode cX3_reckoned 126 = .ok (.isub, 1) := by decide +kernel
theorem dX3_reckoned_127 : decode cX3_reckoned 127 = .ok (.ireturn, 1) := by decide +kernel
theorem dX3_reckoned_128 : decode cX3_reckoned 128 = .ok (.iload_n 1, 1) := by decide +kernel
theorem dX3_reckoned_129 : decode cX3_reckoned 129 = .ok (.iload_n 2, 1) := by decide +kernel
theorem dX3_reckoned_130 : decode cX3_reckoned 130 = .ok (.imul, 1) := by decide +kernel
theorem dX3_reckoned_131 : decode cX3_reckoned 131 = .ok (.ireturn, 1) := by decide +kernel
theorem dX3_reckoned_132 : decode cX3_reckoned 132 = .ok (.iload_n 2, 1) := by decide +kernel
theorem dX3_reckoned_133 : decode cX3_reckoned 133 = .ok (.ifCond .ne 7, 3) := by decide +kernel
theorem dX3_reckoned_136 : decode cX3_reckoned 136 = .ok (.iconst 0, 1) := by decide +kernel
theorem dX3_reckoned_137 : decode cX3_reckoned 137 = .ok (.goto 6, 3) := by decide +kernel
theorem dX3_reckoned_140 : decode cX3_reckoned 140 = .ok (.iload_n 1, 1) := by decide +kernel
theorem dX3_reckoned_141 : decode cX3_reckoned 141 = .ok (.iload_n 2, 1) := by decide +kernel
theorem dX3_reckoned_142 : decode cX3_reckoned 142 = .ok (.idiv, 1) := by decide +kernel
theorem dX3_reckoned_143 : decode cX3_reckoned 143 = .ok (.ireturn, 1) := by decide +kernel
theorem dX3_reckoned_144 : decode cX3_reckoned 144 = .ok (.iload_n 2, 1) := by decide +kernel
theorem dX3_reckoned_145 : decode cX3_reckoned 145 = .ok (.ifCond .ne 7, 3) := by decide +kernel
theorem dX3_reckoned_148 : decode cX3_reckoned 148 = .ok (.iconst 0, 1) := by decide +kernel
theorem dX3_reckoned_149 : decode cX3_reckoned 149 = .ok (.goto 6, 3) := by decide +kernel
theorem dX3_reckoned_152 : decode cX3_reckoned 152 = .ok (.iload_n 1, 1) := by decide +kernel
theorem dX3_reckoned_153 : decode cX3_reckoned 153 = .ok (.iload_n 2, 1) := by decide +kernel
theorem dX3_reckoned_154 : decode cX3_reckoned 154 = .ok (.irem, 1) := by decide +kernel
theorem dX3_reckoned_155 : decode cX3_reckoned 155 = .ok (.ireturn, 1) := by decide +kernel
theorem dX3_reckoned_156 : decode cX3_reckoned 156 = .ok (.iload_n 1, 1) := by decide +kernel
theorem dX3_reckoned_157 : decode cX3_reckoned 157 = .ok (.iload_n 2, 1) := by decide +kernel
theorem dX3_reckoned_158 : decode cX3_reckoned 158 = .ok (.if_icmp .ge 7, 3) := by decide +kernel
theorem dX3_reckoned_161 : decode cX3_reckoned 161 = .ok (.iconst 1, 1) := by decide +kernel
theorem dX3_reckoned_162 : decode cX3_reckoned 162 = .ok (.goto 4, 3) := by decide +kernel
theorem dX3_reckoned_165 : decode cX3_reckoned 165 = .ok (.iconst 0, 1) := by decide +kernel
theorem dX3_reckoned_166 : decode cX3_reckoned 166 = .ok (.ireturn, 1) := by decide +kernel
theorem dX3_reckoned_167 : decode cX3_reckoned 167 = .ok (.iload_n 1, 1) := by decide +kernel
theorem dX3_reckoned_168 : decode cX3_reckoned 168 = .ok (.iload_n 2, 1) := by decide +kernel
theorem dX3_reckoned_169 : decode cX3_reckoned 169 = .ok (.if_icmp .ne 7, 3) := by decide +kernel
theorem dX3_reckoned_172 : decode cX3_reckoned 172 = .ok (.iconst 1, 1) := by decide +kernel
theorem dX3_reckoned_173 : decode cX3_reckoned 173 = .ok (.goto 4, 3) := by decide +kernel
theorem dX3_reckoned_176 : decode cX3_reckoned 176 = .ok (.iconst 0, 1) := by decide +kernel
theorem dX3_reckoned_177 : decode cX3_reckoned 177 = .ok (.ireturn, 1) := by decide +kernel
theorem dX3_reckoned_178 : decode cX3_reckoned 178 = .ok (.iload_n 1, 1) := by decide +kernel
theorem dX3_reckoned_179 : decode cX3_reckoned 179 = .ok (.iload_n 2, 1) := by decide +kernel
theorem dX3_reckoned_180 : decode cX3_reckoned 180 = .ok (.if_icmp .le 7, 3) := by decide +kernel
theorem dX3_reckoned_183 : decode cX3_reckoned 183 = .ok (.iconst 1, 1) := by decide +kernel
theorem dX3_reckoned_184 : decode cX3_reckoned 184 = .ok (.goto 4, 3) := by decide +kernel
theorem dX3_reckoned_187 : decode cX3_reckoned 187 = .ok (.iconst 0, 1) := by decide +kernel
theorem dX3_reckoned_188 : decode cX3_reckoned 188 = .ok (.ireturn, 1) := by decide +kernel
theorem dX3_reckoned_189 : decode cX3_reckoned 189 = .ok (.iconst 0, 1) := by decide +kernel
theorem dX3_reckoned_190 : decode cX3_reckoned 190 = .ok (.ireturn, 1) := by decide +kernel
theorem dX4_init_0 : decode cX4_init 0 = .ok (.aload_n 0, 1) := by decide +kernel
theorem dX4_init_1 : decode cX4_init 1 = .ok (.invokespecial 3, 3) := by decide +kernel
theorem dX4_init_4 : decode cX4_init 4 = .ok (.aload_n 0, 1) := by decide +kernel
theorem dX4_init_5 : decode cX4_init 5 = .ok (.new 9, 3) := by decide +kernel
theorem dX4_init_8 : decode cX4_init 8 = .ok (.dup, 1) := by decide +kernel
theorem dX4_init_9 : decode cX4_init 9 = .ok (.invokespecial 11, 3) := by decide +kernel
theorem dX4_init_12 : decode cX4_init 12 = .ok (.putfield 12, 3) := by decide +kernel
theorem dX4_init_15 : decode cX4_init 15 = .ok (.aload_n 0, 1) := by decide +kernel
theorem dX4_init_16 : decode cX4_init 16 = .ok (.bipush 40, 2) := by decide +kernel
theorem dX4_init_18 : decode cX4_init 18 = .ok (.anewarray 18, 3) := by decide +kernel
theorem dX4_init_21 : decode cX4_init 21 = .ok (.putfield 20, 3) := by decide +kernel
theorem dX4_init_24 : decode cX4_init 24 = .ok (.aload_n 0, 1) := by decide +kernel
theorem dX4_init_25 : decode cX4_init 25 = .ok (.bipush 9, 2) := by decide +kernel
theorem dX4_init_27 : decode cX4_init 27 = .ok (.newarray .int, 2) := by decide +kernel
theorem dX4_init_29 : decode cX4_init 29 = .ok (.putfield 24, 3) := by decide +kernel
theorem dX4_init_32 : decode cX4_init 32 = .ok (.aload_n 0, 1) := by decide +kernel
theorem dX4_init_33 : decode cX4_init 33 = .ok (.sipush 160, 3) := by decide +kernel
theorem dX4_init_36 : decode cX4_init 36 = .ok (.newarray .int, 2) := by decide +kernel
theorem dX4_init_38 : decode cX4_init 38 = .ok (.putfield 28, 3) := by decide +kernel
theorem dX4_init_41 : decode cX4_init 41 = .ok (.return_, 1) := by decide +kernel
theorem dX4_nameOf_0 : decode cX4_nameOf 0 = .ok (.iconst 0, 1) := by decide +kernel
theorem dX4_nameOf_1 : decode cX4_nameOf 1 = .ok (.istore_n 1, 1) := by decide +kernel
theorem dX4_nameOf_2 : decode cX4_nameOf 2 = .ok (.iload_n 1, 1) := by decide +kernel
theorem dX4_nameOf_3 : decode cX4_nameOf 3 = .ok (.ldc 31, 2) := by decide +kernel
theorem dX4_nameOf_5 : decode cX4_nameOf 5 = .ok (.invokevirtual 33, 3) := by decide +kernel
theorem dX4_nameOf_8 : decode cX4_nameOf 8 = .ok (.if_icmp .ge 21, 3) := by decide +kernel
theorem dX4_nameOf_11 : decode cX4_nameOf 11 = .ok (.ldc 31, 2) := by decide +kernel
theorem dX4_nameOf_13 : decode cX4_nameOf 13 = .ok (.iload_n 1, 1) := by decide +kernel
theorem dX4_nameOf_14 : decode cX4_nameOf 14 = .ok (.invokevirtual 39, 3) := by decide +kernel
theorem dX4_nameOf_17 : decode cX4_nameOf 17 = .ok (.iload_n 0, 1) := by decide +kernel
theorem dX4_nameOf_18 : decode cX4_nameOf 18 = .ok (.if_icmp .ne 5, 3) := by decide +kernel
theorem dX4_nameOf_21 : decode cX4_nameOf 21 = .ok (.iload_n 1, 1) := by decide +kernel
theorem dX4_nameOf_22 : decode cX4_nameOf 22 = .ok (.ireturn, 1) := by decide +kernel
theorem dX4_nameOf_23 : decode cX4_nameOf 23 = .ok (.iinc 1 1, 3) := by decide +kernel
theorem dX4_nameOf_26 : decode cX4_nameOf 26 = .ok (.goto (-24), 3) := by decide +kernel
theorem dX4_nameOf_29 : decode cX4_nameOf 29 = .ok (.iconst (-1), 1) := by decide +kernel
theorem dX4_nameOf_30 : decode cX4_nameOf 30 = .ok (.ireturn, 1) := by decide +kernel
theorem dX4_makeLaw_0 : decode cX4_makeLaw 0 = .ok (.aload_n 0, 1) := by decide +kernel
theorem dX4_makeLaw_1 : decode cX4_makeLaw 1 = .ok (.getfield 43, 3) := by decide +kernel
theorem dX4_makeLaw_4 : decode cX4_makeLaw 4 = .ok (.bipush 40, 2) := by decide +kernel
theorem dX4_makeLaw_6 : decode cX4_makeLaw 6 = .ok (.if_icmp .lt 6, 3) := by decide +kernel
theorem dX4_makeLaw_9 : decode cX4_makeLaw 9 = .ok (.bipush (-2), 2) := by decide +kernel
theorem dX4_makeLaw_11 : decode cX4_makeLaw 11 = .ok (.ireturn, 1) := by decide +kernel
theorem dX4_makeLaw_12 : decode cX4_makeLaw 12 = .ok (.aload_n 0, 1) := by decide +kernel
theorem dX4_makeLaw_13 : decode cX4_makeLaw 13 = .ok (.getfield 12, 3) := by decide +kernel
theorem dX4_makeLaw_16 : decode cX4_makeLaw 16 = .ok (.invokevirtual 47, 3) := by decide +kernel
theorem dX4_makeLaw_19 : decode cX4_makeLaw 19 = .ok (.istore 4, 2) := by decide +kernel
theorem dX4_makeLaw_21 : decode cX4_makeLaw 21 = .ok (.aload_n 0, 1) := by decide +kernel
theorem dX4_makeLaw_22 : decode cX4_makeLaw 22 = .ok (.getfield 12, 3) := by decide +kernel
theorem dX4_makeLaw_25 : decode cX4_makeLaw 25 = .ok (.iconst 0, 1) := by decide +kernel
theorem dX4_makeLaw_26 : decode cX4_makeLaw 26 = .ok (.putfield 51, 3) := by decide +kernel
theorem dX4_makeLaw_29 : decode cX4_makeLaw 29 = .ok (.iload 4, 2) := by decide +kernel
theorem dX4_makeLaw_31 : decode cX4_makeLaw 31 = .ok (.ifCond .ne 14, 3) := by decide +kernel
theorem dX4_makeLaw_34 : decode cX4_makeLaw 34 = .ok (.bipush (-100), 2) := by decide +kernel
theorem dX4_makeLaw_36 : decode cX4_makeLaw 36 = .ok (.aload_n 0, 1) := by decide +kernel
theorem dX4_makeLaw_37 : decode cX4_makeLaw 37 = .ok (.getfield 12, 3) := by decide +kernel
theorem dX4_makeLaw_40 : decode cX4_makeLaw 40 = .ok (.getfield 53, 3) := by decide +kernel
theorem dX4_makeLaw_43 : decode cX4_makeLaw 43 = .ok (.isub, 1) := by decide +kernel
theorem dX4_makeLaw_44 : decode cX4_makeLaw 44 = .ok (.ireturn, 1) := by decide +kernel
theorem dX4_makeLaw_45 : decode cX4_makeLaw 45 = .ok (.aload_n 0, 1) := by decide +kernel
theorem dX4_makeLaw_46 : decode cX4_makeLaw 46 = .ok (.getfield 20, 3) := by decide +kernel
theorem dX4_makeLaw_49 : decode cX4_makeLaw 49 = .ok (.aload_n 0, 1) := by decide +kernel
theorem dX4_makeLaw_50 : decode cX4_makeLaw 50 = .ok (.getfield 43, 3) := by decide +kernel
theorem dX4_makeLaw_53 : decode cX4_makeLaw 53 = .ok (.new 18, 3) := by decide +kernel
theorem dX4_makeLaw_56 : decode cX4_makeLaw 56 = .ok (.dup, 1) := by decide +kernel
theorem dX4_makeLaw_57 : decode cX4_makeLaw 57 = .ok (.iload_n 1, 1) := by decide +kernel
theorem dX4_makeLaw_58 : decode cX4_makeLaw 58 = .ok (.iload_n 2, 1) := by decide +kernel
theorem dX4_makeLaw_59 : decode cX4_makeLaw 59 = .ok (.iload_n 3, 1) := by decide +kernel
theorem dX4_makeLaw_60 : decode cX4_makeLaw 60 = .ok (.aload_n 0, 1) := by decide +kernel
theorem dX4_makeLaw_61 : decode cX4_makeLaw 61 = .ok (.getfield 12, 3) := by decide +kernel
theorem dX4_makeLaw_64 : decode cX4_makeLaw 64 = .ok (.getfield 56, 3) := by decide +kernel
theorem dX4_makeLaw_67 : decode cX4_makeLaw 67 = .ok (.aload_n 0, 1) := by decide +kernel
theorem dX4_makeLaw_68 : decode cX4_makeLaw 68 = .ok (.getfield 12, 3) := by decide +kernel
theorem dX4_makeLaw_71 : decode cX4_makeLaw 71 = .ok (.getfield 59, 3) := by decide +kernel
theorem dX4_makeLaw_74 : decode cX4_makeLaw 74 = .ok (.invokestatic 62, 3) := by decide +kernel
theorem dX4_makeLaw_77 : decode cX4_makeLaw 77 = .ok (.invokespecial 68, 3) := by decide +kernel
theorem dX4_makeLaw_80 : decode cX4_makeLaw 80 = .ok (.aastore, 1) := by decide +kernel
theorem dX4_makeLaw_81 : decode cX4_makeLaw 81 = .ok (.aload_n 0, 1) := by decide +kernel
theorem dX4_makeLaw_82 : decode cX4_makeLaw 82 = .ok (.dup, 1) := by decide +kernel
theorem dX4_makeLaw_83 : decode cX4_makeLaw 83 = .ok (.getfield 43, 3) := by decide +kernel
theorem dX4_makeLaw_86 : decode cX4_makeLaw 86 = .ok (.iconst 1, 1) := by decide +kernel
theorem dX4_makeLaw_87 : decode cX4_makeLaw 87 = .ok (.iadd, 1) := by decide +kernel
theorem dX4_makeLaw_88 : decode cX4_makeLaw 88 = .ok (.putfield 43, 3) := by decide +kernel
theorem dX4_makeLaw_91 : decode cX4_makeLaw 91 = .ok (.aload_n 0, 1) := by decide +kernel
theorem dX4_makeLaw_92 : decode cX4_makeLaw 92 = .ok (.getfield 43, 3) := by decide +kernel
theorem dX4_makeLaw_95 : decode cX4_makeLaw 95 = .ok (.iconst 1, 1) := by decide +kernel
theorem dX4_makeLaw_96 : decode cX4_makeLaw 96 = .ok (.isub, 1) := by decide +kernel
theorem dX4_makeLaw_97 : decode cX4_makeLaw 97 = .ok (.ireturn, 1) := by decide +kernel
theorem dX4_lawAt_0 : decode cX4_lawAt 0 = .ok (.iload_n 1, 1) := by decide +kernel
theorem dX4_lawAt_1 : decode cX4_lawAt 1 = .ok (.ifCond .lt 26, 3) := by decide +kernel
theorem dX4_lawAt_4 : decode cX4_lawAt 4 = .ok (.iload_n 1, 1) := by decide +kernel
theorem dX4_lawAt_5 : decode cX4_lawAt 5 = .ok (.aload_n 0, 1) := by decide +kernel
theorem dX4_lawAt_6 : decode cX4_lawAt 6 = .ok (.getfield 43, 3) := by decide +kernel
theorem dX4_lawAt_9 : decode cX4_lawAt 9 = .ok (.if_icmp .ge 18, 3) := by decide +kernel
theorem dX4_lawAt_12 : decode cX4_lawAt 12 = .ok (.iload_n 1, 1) := by decide +kernel
theorem dX4_lawAt_13 : decode cX4_lawAt 13 = .ok (.bipush 40, 2) := by decide +kernel
theorem dX4_lawAt_15 : decode cX4_lawAt 15 = .ok (.if_icmp .ge 12, 3) := by decide +kernel
theorem dX4_lawAt_18 : decode cX4_lawAt 18 = .ok (.aload_n 0, 1) := by decide +kernel
theorem dX4_lawAt_19 : decode cX4_lawAt 19 = .ok (.getfield 20, 3) := by decide +kernel
theorem dX4_lawAt_22 : decode cX4_lawAt 22 = .ok (.iload_n 1, 1) := by decide +kernel
theorem dX4_lawAt_23 : decode cX4_lawAt 23 = .ok (.aaload, 1) := by decide +kernel
theorem dX4_lawAt_24 : decode cX4_lawAt 24 = .ok (.goto 4, 3) := by decide +kernel
theorem dX4_lawAt_27 : decode cX4_lawAt 27 = .ok (.aconst_null, 1) := by decide +kernel
theorem dX4_lawAt_28 : decode cX4_lawAt 28 = .ok (.areturn, 1) := by decide +kernel
theorem dX4_isOfKind_0 : decode cX4_isOfKind 0 = .ok (.aload_n 0, 1) := by decide +kernel
theorem dX4_isOfKind_1 : decode cX4_isOfKind 1 = .ok (.iload_n 1, 1) := by decide +kernel
theorem dX4_isOfKind_2 : decode cX4_isOfKind 2 = .ok (.invokevirtual 71, 3) := by decide +kernel
theorem dX4_isOfKind_5 : decode cX4_isOfKind 5 = .ok (.astore_n 3, 1) := by decide +kernel
theorem dX4_isOfKind_6 : decode cX4_isOfKind 6 = .ok (.aload_n 3, 1) := by decide +kernel
theorem dX4_isOfKind_7 : decode cX4_isOfKind 7 = .ok (.ifnull 15, 3) := by decide +kernel
theorem dX4_isOfKind_10 : decode cX4_isOfKind 10 = .ok (.aload_n 3, 1) := by decide +kernel
theorem dX4_isOfKind_11 : decode cX4_isOfKind 11 = .ok (.getfield 75, 3) := by decide +kernel
theorem dX4_isOfKind_14 : decode cX4_isOfKind 14 = .ok (.iload_n 2, 1) := by decide +kernel
theorem dX4_isOfKind_15 : decode cX4_isOfKind 15 = .ok (.if_icmp .ne 7, 3) := by decide +kernel
theorem dX4_isOfKind_18 : decode cX4_isOfKind 18 = .ok (.iconst 1, 1) := by decide +kernel
theorem dX4_isOfKind_19 : decode cX4_isOfKind 19 = .ok (.goto 4, 3) := by decide +kernel
theorem dX4_isOfKind_22 : decode cX4_isOfKind 22 = .ok (.iconst 0, 1) := by decide +kernel
theorem dX4_isOfKind_23 : decode cX4_isOfKind 23 = .ok (.ireturn, 1) := by decide +kernel
theorem dX4_lawInForce_0 : decode cX4_lawInForce 0 = .ok (.aload_n 0, 1) := by decide +kernel
theorem dX4_lawInForce_1 : decode cX4_lawInForce 1 = .ok (.getfield 43, 3) := by decide +kernel
theorem dX4_lawInForce_4 : decode cX4_lawInForce 4 = .ok (.iconst 1, 1) := by decide +kernel
theorem dX4_lawInForce_5 : decode cX4_lawInForce 5 = .ok (.isub, 1) := by decide +kernel
theorem dX4_lawInForce_6 : decode cX4_lawInForce 6 = .ok (.istore 4, 2) := by decide +kernel
theorem dX4_lawInForce_8 : decode cX4_lawInForce 8 = .ok (.iload 4, 2) := by decide +kernel
theorem dX4_lawInForce_10 : decode cX4_lawInForce 10 = .ok (.ifCond .lt 52, 3) := by decide +kernel
theorem dX4_lawInForce_13 : decode cX4_lawInForce 13 = .ok (.aload_n 0, 1) := by decide +kernel
theorem dX4_lawInForce_14 : decode cX4_lawInForce 14 = .ok (.iload 4, 2) := by decide +kernel
theorem dX4_lawInForce_16 : decode cX4_lawInForce 16 = .ok (.invokevirtual 71, 3) := by decide +kernel
theorem dX4_lawInForce_19 : decode cX4_lawInForce 19 = .ok (.astore 5, 2) := by decide +kernel
theorem dX4_lawInForce_21 : decode cX4_lawInForce 21 = .ok (.aload 5, 2) := by decide +kernel
theorem dX4_lawInForce_23 : decode cX4_lawInForce 23 = .ok (.ifnull 33, 3) := by decide +kernel
theorem dX4_lawInForce_26 : decode cX4_lawInForce 26 = .ok (.aload 5, 2) := by decide +kernel
theorem dX4_lawInForce_28 : decode cX4_lawInForce 28 = .ok (.getfield 75, 3) := by decide +kernel
theorem dX4_lawInForce_31 : decode cX4_lawInForce 31 = .ok (.iload_n 1, 1) := by decide +kernel
theorem dX4_lawInForce_32 : decode cX4_lawInForce 32 = .ok (.if_icmp .ne 24, 3) := by decide +kernel
theorem dX4_lawInForce_35 : decode cX4_lawInForce 35 = .ok (.aload 5, 2) := by decide +kernel
theorem dX4_lawInForce_37 : decode cX4_lawInForce 37 = .ok (.getfield 78, 3) := by decide +kernel
theorem dX4_lawInForce_40 : decode cX4_lawInForce 40 = .ok (.iload_n 3, 1) := by decide +kernel
theorem dX4_lawInForce_41 : decode cX4_lawInForce 41 = .ok (.if_icmp .gt 15, 3) := by decide +kernel
theorem dX4_lawInForce_44 : decode cX4_lawInForce 44 = .ok (.aload 5, 2) := by decide +kernel
theorem dX4_lawInForce_46 : decode cX4_lawInForce 46 = .ok (.getfield 81, 3) := by decide +kernel
theorem dX4_lawInForce_49 : decode cX4_lawInForce 49 = .ok (.iload_n 2, 1) := by decide +kernel
theorem dX4_lawInForce_50 : decode cX4_lawInForce 50 = .ok (.if_icmp .gt 6, 3) := by decide +kernel
theorem dX4_lawInForce_53 : decode cX4_lawInForce 53 = .ok (.iload 4, 2) := by decide +kernel
theorem dX4_lawInForce_55 : decode cX4_lawInForce 55 = .ok (.ireturn, 1) := by decide +kernel
theorem dX4_lawInForce_56 : decode cX4_lawInForce 56 = .ok (.iinc 4 (-1), 3) := by decide +kernel
theorem dX4_lawInForce_59 : decode cX4_lawInForce 59 = .ok (.goto (-51), 3) := by decide +kernel
theorem dX4_lawInForce_62 : decode cX4_lawInForce 62 = .ok (.iconst (-1), 1) := by decide +kernel
theorem dX4_lawInForce_63 : decode cX4_lawInForce 63 = .ok (.ireturn, 1) := by decide +kernel
theorem dX4_tellRide_0 : decode cX4_tellRide 0 = .ok (.aload_n 0, 1) := by decide +kernel
theorem dX4_tellRide_1 : decode cX4_tellRide 1 = .ok (.getfield 24, 3) := by decide +kernel
theorem dX4_tellRide_4 : decode cX4_tellRide 4 = .ok (.iconst 0, 1) := by decide +kernel
theorem dX4_tellRide_5 : decode cX4_tellRide 5 = .ok (.iload_n 1, 1) := by decide +kernel
theorem dX4_tellRide_6 : decode cX4_tellRide 6 = .ok (.iastore, 1) := by decide +kernel
theorem dX4_tellRide_7 : decode cX4_tellRide 7 = .ok (.aload_n 0, 1) := by decide +kernel
theorem dX4_tellRide_8 : decode cX4_tellRide 8 = .ok (.getfield 24, 3) := by decide +kernel
theorem dX4_tellRide_11 : decode cX4_tellRide 11 = .ok (.iconst 1, 1) := by decide +kernel
theorem dX4_tellRide_12 : decode cX4_tellRide 12 = .ok (.iload_n 2, 1) := by decide +kernel
theorem dX4_tellRide_13 : decode cX4_tellRide 13 = .ok (.iastore, 1) := by decide +kernel
theorem dX4_tellRide_14 : decode cX4_tellRide 14 = .ok (.aload_n 0, 1) := by decide +kernel
theorem dX4_tellRide_15 : decode cX4_tellRide 15 = .ok (.getfield 24, 3) := by decide +kernel
theorem dX4_tellRide_18 : decode cX4_tellRide 18 = .ok (.iconst 2, 1) := by decide +kernel
theorem dX4_tellRide_19 : decode cX4_tellRide 19 = .ok (.iload_n 3, 1) := by decide +kernel
theorem dX4_tellRide_20 : decode cX4_tellRide 20 = .ok (.iastore, 1) := by decide +kernel
theorem dX4_tellRide_21 : decode cX4_tellRide 21 = .ok (.return_, 1) := by decide +kernel
theorem dX4_tellTime_0 : decode cX4_tellTime 0 = .ok (.aload_n 0, 1) := by decide +kernel
theorem dX4_tellTime_1 : decode cX4_tellTime 1 = .ok (.getfield 24, 3) := by decide +kernel
theorem dX4_tellTime_4 : decode cX4_tellTime 4 = .ok (.iconst 3, 1) := by decide +kernel
theorem dX4_tellTime_5 : decode cX4_tellTime 5 = .ok (.iload_n 1, 1) := by decide +kernel
theorem dX4_tellTime_6 : decode cX4_tellTime 6 = .ok (.iastore, 1) := by decide +kernel
theorem dX4_tellTime_7 : decode cX4_tellTime 7 = .ok (.aload_n 0, 1) := by decide +kernel
theorem dX4_tellTime_8 : decode cX4_tellTime 8 = .ok (.getfield 24, 3) := by decide +kernel
theorem dX4_tellTime_11 : decode cX4_tellTime 11 = .ok (.iconst 4, 1) := by decide +kernel
theorem dX4_tellTime_12 : decode cX4_tellTime 12 = .ok (.iload_n 2, 1) := by decide +kernel
theorem dX4_tellTime_13 : decode cX4_tellTime 13 = .ok (.iastore, 1) := by decide +kernel
theorem dX4_tellTime_14 : decode cX4_tellTime 14 = .ok (.aload_n 0, 1) := by decide +kernel
theorem dX4_tellTime_15 : decode cX4_tellTime 15 = .ok (.getfield 24, 3) := by decide +kernel
theorem dX4_tellTime_18 : decode cX4_tellTime 18 = .ok (.iconst 5, 1) := by decide +kernel
theorem dX4_tellTime_19 : decode cX4_tellTime 19 = .ok (.iload_n 3, 1) := by decide +kernel
theorem dX4_tellTime_20 : decode cX4_tellTime 20 = .ok (.iastore, 1) := by decide +kernel
theorem dX4_tellTime_21 : decode cX4_tellTime 21 = .ok (.return_, 1) := by decide +kernel
theorem dX4_tellLoad_0 : decode cX4_tellLoad 0 = .ok (.aload_n 0, 1) := by decide +kernel
theorem dX4_tellLoad_1 : decode cX4_tellLoad 1 = .ok (.getfield 24, 3) := by decide +kernel
theorem dX4_tellLoad_4 : decode cX4_tellLoad 4 = .ok (.bipush 6, 2) := by decide +kernel
theorem dX4_tellLoad_6 : decode cX4_tellLoad 6 = .ok (.iload_n 1, 1) := by decide +kernel
theorem dX4_tellLoad_7 : decode cX4_tellLoad 7 = .ok (.iastore, 1) := by decide +kernel
theorem dX4_tellLoad_8 : decode cX4_tellLoad 8 = .ok (.aload_n 0, 1) := by decide +kernel
theorem dX4_tellLoad_9 : decode cX4_tellLoad 9 = .ok (.getfield 24, 3) := by decide +kernel
theorem dX4_tellLoad_12 : decode cX4_tellLoad 12 = .ok (.bipush 7, 2) := by decide +kernel
theorem dX4_tellLoad_14 : decode cX4_tellLoad 14 = .ok (.iload_n 2, 1) := by decide +kernel
theorem dX4_tellLoad_15 : decode cX4_tellLoad 15 = .ok (.iastore, 1) := by decide +kernel
theorem dX4_tellLoad_16 : decode cX4_tellLoad 16 = .ok (.aload_n 0, 1) := by decide +kernel
theorem dX4_tellLoad_17 : decode cX4_tellLoad 17 = .ok (.getfield 24, 3) := by decide +kernel
theorem dX4_tellLoad_20 : decode cX4_tellLoad 20 = .ok (.bipush 8, 2) := by decide +kernel
theorem dX4_tellLoad_22 : decode cX4_tellLoad 22 = .ok (.iload_n 3, 1) := by decide +kernel
theorem dX4_tellLoad_23 : decode cX4_tellLoad 23 = .ok (.iastore, 1) := by decide +kernel
theorem dX4_tellLoad_24 : decode cX4_tellLoad 24 = .ok (.return_, 1) := by decide +kernel
theorem dX4_worthOf_0 : decode cX4_worthOf 0 = .ok (.aload_n 0, 1) := by decide +kernel
theorem dX4_worthOf_1 : decode cX4_worthOf 1 = .ok (.iload_n 1, 1) := by decide +kernel
theorem dX4_worthOf_2 : decode cX4_worthOf 2 = .ok (.invokevirtual 71, 3) := by decide +kernel
theorem dX4_worthOf_5 : decode cX4_worthOf 5 = .ok (.astore_n 2, 1) := by decide +kernel
theorem dX4_worthOf_6 : decode cX4_worthOf 6 = .ok (.aload_n 2, 1) := by decide +kernel
theorem dX4_worthOf_7 : decode cX4_worthOf 7 = .ok (.ifnonnull 7, 3) := by decide +kernel
theorem dX4_worthOf_10 : decode cX4_worthOf 10 = .ok (.iconst 0, 1) := by decide +kernel
theorem dX4_worthOf_11 : decode cX4_worthOf 11 = .ok (.goto 15, 3) := by decide +kernel
theorem dX4_worthOf_14 : decode cX4_worthOf 14 = .ok (.aload_n 2, 1) := by decide +kernel
theorem dX4_worthOf_15 : decode cX4_worthOf 15 = .ok (.aload_n 0, 1) := by decide +kernel
theorem dX4_worthOf_16 : decode cX4_worthOf 16 = .ok (.getfield 24, 3) := by decide +kernel
theorem dX4_worthOf_19 : decode cX4_worthOf 19 = .ok (.aload_n 0, 1) := by decide +kernel
theorem dX4_worthOf_20 : decode cX4_worthOf 20 = .ok (.getfield 28, 3) := by decide +kernel
theorem dX4_worthOf_23 : decode cX4_worthOf 23 = .ok (.invokevirtual 84, 3) := by decide +kernel
theorem dX4_worthOf_26 : decode cX4_worthOf 26 = .ok (.ireturn, 1) := by decide +kernel
theorem dX4_fareBy_0 : decode cX4_fareBy 0 = .ok (.aload_n 0, 1) := by decide +kernel
theorem dX4_fareBy_1 : decode cX4_fareBy 1 = .ok (.iload_n 1, 1) := by decide +kernel
theorem dX4_fareBy_2 : decode cX4_fareBy 2 = .ok (.invokevirtual 71, 3) := by decide +kernel
theorem dX4_fareBy_5 : decode cX4_fareBy 5 = .ok (.astore_n 2, 1) := by decide +kernel
theorem dX4_fareBy_6 : decode cX4_fareBy 6 = .ok (.aload_n 2, 1) := by decide +kernel
theorem dX4_fareBy_7 : decode cX4_fareBy 7 = .ok (.ifnonnull 7, 3) := by decide +kernel
theorem dX4_fareBy_10 : decode cX4_fareBy 10 = .ok (.iconst (-1), 1) := by decide +kernel
theorem dX4_fareBy_11 : decode cX4_fareBy 11 = .ok (.goto 24, 3) := by decide +kernel
theorem dX4_fareBy_14 : decode cX4_fareBy 14 = .ok (.iconst 0, 1) := by decide +kernel
theorem dX4_fareBy_15 : decode cX4_fareBy 15 = .ok (.ldc 88, 2) := by decide +kernel
theorem dX4_fareBy_17 : decode cX4_fareBy 17 = .ok (.aload_n 2, 1) := by decide +kernel
theorem dX4_fareBy_18 : decode cX4_fareBy 18 = .ok (.aload_n 0, 1) := by decide +kernel
theorem dX4_fareBy_19 : decode cX4_fareBy 19 = .ok (.getfield 24, 3) := by decide +kernel
theorem dX4_fareBy_22 : decode cX4_fareBy 22 = .ok (.aload_n 0, 1) := by decide +kernel
theorem dX4_fareBy_23 : decode cX4_fareBy 23 = .ok (.getfield 28, 3) := by decide +kernel
theorem dX4_fareBy_26 : decode cX4_fareBy 26 = .ok (.invokevirtual 84, 3) := by decide +kernel
theorem dX4_fareBy_29 : decode cX4_fareBy 29 = .ok (.invokestatic 89, 3) := by decide +kernel
theorem dX4_fareBy_32 : decode cX4_fareBy 32 = .ok (.invokestatic 95, 3) := by decide +kernel
theorem dX4_fareBy_35 : decode cX4_fareBy 35 = .ok (.ireturn, 1) := by decide +kernel
theorem dX4_lesserFare_0 : decode cX4_lesserFare 0 = .ok (.iload_n 0, 1) := by decide +kernel
theorem dX4_lesserFare_1 : decode cX4_lesserFare 1 = .ok (.ifCond .lt 7, 3) := by decide +kernel
theorem dX4_lesserFare_4 : decode cX4_lesserFare 4 = .ok (.iload_n 1, 1) := by decide +kernel
theorem dX4_lesserFare_5 : decode cX4_lesserFare 5 = .ok (.ifCond .ge 11, 3) := by decide +kernel
theorem dX4_lesserFare_8 : decode cX4_lesserFare 8 = .ok (.iload_n 0, 1) := by decide +kernel
theorem dX4_lesserFare_9 : decode cX4_lesserFare 9 = .ok (.iload_n 1, 1) := by decide +kernel
theorem dX4_lesserFare_10 : decode cX4_lesserFare 10 = .ok (.invokestatic 95, 3) := by decide +kernel
theorem dX4_lesserFare_13 : decode cX4_lesserFare 13 = .ok (.goto 8, 3) := by decide +kernel
theorem dX4_lesserFare_16 : decode cX4_lesserFare 16 = .ok (.iload_n 0, 1) := by decide +kernel
theorem dX4_lesserFare_17 : decode cX4_lesserFare 17 = .ok (.iload_n 1, 1) := by decide +kernel
theorem dX4_lesserFare_18 : decode cX4_lesserFare 18 = .ok (.invokestatic 89, 3) := by decide +kernel
theorem dX4_lesserFare_21 : decode cX4_lesserFare 21 = .ok (.ireturn, 1) := by decide +kernel
theorem dX5_init_0 : decode cX5_init 0 = .ok (.aload_n 0, 1) := by decide +kernel
theorem dX5_init_1 : decode cX5_init 1 = .ok (.invokespecial 3, 3) := by decide +kernel
theorem dX5_init_4 : decode cX5_init 4 = .ok (.aload_n 0, 1) := by decide +kernel
theorem dX5_init_5 : decode cX5_init 5 = .ok (.sipush 160, 3) := by decide +kernel
theorem dX5_init_8 : decode cX5_init 8 = .ok (.newarray .int, 2) := by decide +kernel
theorem dX5_init_10 : decode cX5_init 10 = .ok (.putfield 11, 3) := by decide +kernel
theorem dX5_init_13 : decode cX5_init 13 = .ok (.aload_n 0, 1) := by decide +kernel
theorem dX5_init_14 : decode cX5_init 14 = .ok (.sipush 160, 3) := by decide +kernel
theorem dX5_init_17 : decode cX5_init 17 = .ok (.newarray .int, 2) := by decide +kernel
theorem dX5_init_19 : decode cX5_init 19 = .ok (.putfield 15, 3) := by decide +kernel
theorem dX5_init_22 : decode cX5_init 22 = .ok (.return_, 1) := by decide +kernel
theorem dX5_addBytes_0 : decode cX5_addBytes 0 = .ok (.iload_n 1, 1) := by decide +kernel
theorem dX5_addBytes_1 : decode cX5_addBytes 1 = .ok (.ifCond .lt 15, 3) := by decide +kernel
theorem dX5_addBytes_4 : decode cX5_addBytes 4 = .ok (.aload_n 0, 1) := by decide +kernel
theorem dX5_addBytes_5 : decode cX5_addBytes 5 = .ok (.getfield 18, 3) := by decide +kernel
theorem dX5_addBytes_8 : decode cX5_addBytes 8 = .ok (.iload_n 1, 1) := by decide +kernel
theorem dX5_addBytes_9 : decode cX5_addBytes 9 = .ok (.iadd, 1) := by decide +kernel
theorem dX5_addBytes_10 : decode cX5_addBytes 10 = .ok (.sipush 160, 3) := by decide +kernel
theorem dX5_addBytes_13 : decode cX5_addBytes 13 = .ok (.if_icmp .le 6, 3) := by decide +kernel
theorem dX5_addBytes_16 : decode cX5_addBytes 16 = .ok (.bipush (-2), 2) := by decide +kernel
theorem dX5_addBytes_18 : decode cX5_addBytes 18 = .ok (.ireturn, 1) := by decide +kernel
theorem dX5_addBytes_19 : decode cX5_addBytes 19 = .ok (.iconst 0, 1) := by decide +kernel
theorem dX5_addBytes_20 : decode cX5_addBytes 20 = .ok (.istore_n 3, 1) := by decide +kernel
theorem dX5_addBytes_21 : decode cX5_addBytes 21 = .ok (.iload_n 3, 1) := by decide +kernel
theorem dX5_addBytes_22 : decode cX5_addBytes 22 = .ok (.iload_n 1, 1) := by decide +kernel
theorem dX5_addBytes_23 : decode cX5_addBytes 23 = .ok (.if_icmp .ge 30, 3) := by decide +kernel
theorem dX5_addBytes_26 : decode cX5_addBytes 26 = .ok (.aload_n 0, 1) := by decide +kernel
theorem dX5_addBytes_27 : decode cX5_addBytes 27 = .ok (.getfield 11, 3) := by decide +kernel
theorem dX5_addBytes_30 : decode cX5_addBytes 30 = .ok (.aload_n 0, 1) := by decide +kernel
theorem dX5_addBytes_31 : decode cX5_addBytes 31 = .ok (.getfield 18, 3) := by decide +kernel
theorem dX5_addBytes_34 : decode cX5_addBytes 34 = .ok (.iload_n 3, 1) := by decide +kernel
theorem dX5_addBytes_35 : decode cX5_addBytes 35 = .ok (.iadd, 1) := by decide +kernel
theorem dX5_addBytes_36 : decode cX5_addBytes 36 = .ok (.iload_n 2, 1) := by decide +kernel
theorem dX5_addBytes_37 : decode cX5_addBytes 37 = .ok (.bipush 8, 2) := by decide +kernel
theorem dX5_addBytes_39 : decode cX5_addBytes 39 = .ok (.iload_n 3, 1) := by decide +kernel
theorem dX5_addBytes_40 : decode cX5_addBytes 40 = .ok (.imul, 1) := by decide +kernel
theorem dX5_addBytes_41 : decode cX5_addBytes 41 = .ok (.ishr, 1) := by decide +kernel
theorem dX5_addBytes_42 : decode cX5_addBytes 42 = .ok (.sipush 255, 3) := by decide +kernel
theorem dX5_addBytes_45 : decode cX5_addBytes 45 = .ok (.iand, 1) := by decide +kernel
theorem dX5_addBytes_46 : decode cX5_addBytes 46 = .ok (.iastore, 1) := by decide +kernel
theorem dX5_addBytes_47 : decode cX5_addBytes 47 = .ok (.iinc 3 1, 3) := by decide +kernel
theorem dX5_addBytes_50 : decode cX5_addBytes 50 = .ok (.goto (-29), 3) := by decide +kernel
theorem dX5_addBytes_53 : decode cX5_addBytes 53 = .ok (.aload_n 0, 1) := by decide +kernel
theorem dX5_addBytes_54 : decode cX5_addBytes 54 = .ok (.dup, 1) := by decide +kernel
theorem dX5_addBytes_55 : decode cX5_addBytes 55 = .ok (.getfield 18, 3) := by decide +kernel
theorem dX5_addBytes_58 : decode cX5_addBytes 58 = .ok (.iload_n 1, 1) := by decide +kernel
theorem dX5_addBytes_59 : decode cX5_addBytes 59 = .ok (.iadd, 1) := by decide +kernel
theorem dX5_addBytes_60 : decode cX5_addBytes 60 = .ok (.putfield 18, 3) := by decide +kernel
theorem dX5_addBytes_63 : decode cX5_addBytes 63 = .ok (.aload_n 0, 1) := by decide +kernel
theorem dX5_addBytes_64 : decode cX5_addBytes 64 = .ok (.getfield 18, 3) := by decide +kernel
theorem dX5_addBytes_67 : decode cX5_addBytes 67 = .ok (.ireturn, 1) := by decide +kernel
theorem dX5_isLaw_0 : decode cX5_isLaw 0 = .ok (.aload_n 0, 1) := by decide +kernel
theorem dX5_isLaw_1 : decode cX5_isLaw 1 = .ok (.iconst 0, 1) := by decide +kernel
theorem dX5_isLaw_2 : decode cX5_isLaw 2 = .ok (.putfield 22, 3) := by decide +kernel
theorem dX5_isLaw_5 : decode cX5_isLaw 5 = .ok (.aload_n 0, 1) := by decide +kernel
theorem dX5_isLaw_6 : decode cX5_isLaw 6 = .ok (.iconst 0, 1) := by decide +kernel
theorem dX5_isLaw_7 : decode cX5_isLaw 7 = .ok (.putfield 25, 3) := by decide +kernel
theorem dX5_isLaw_10 : decode cX5_isLaw 10 = .ok (.aload_n 0, 1) := by decide +kernel
theorem dX5_isLaw_11 : decode cX5_isLaw 11 = .ok (.iconst 0, 1) := by decide +kernel
theorem dX5_isLaw_12 : decode cX5_isLaw 12 = .ok (.invokevirtual 28, 3) := by decide +kernel
theorem dX5_isLaw_15 : decode cX5_isLaw 15 = .ok (.ifCond .eq 18, 3) := by decide +kernel
theorem dX5_isLaw_18 : decode cX5_isLaw 18 = .ok (.aload_n 0, 1) := by decide +kernel
theorem dX5_isLaw_19 : decode cX5_isLaw 19 = .ok (.getfield 22, 3) := by decide +kernel
theorem dX5_isLaw_22 : decode cX5_isLaw 22 = .ok (.aload_n 0, 1) := by decide +kernel
theorem dX5_isLaw_23 : decode cX5_isLaw 23 = .ok (.getfield 18, 3) := by decide +kernel
theorem dX5_isLaw_26 : decode cX5_isLaw 26 = .ok (.if_icmp .ne 7, 3) := by decide +kernel
theorem dX5_isLaw_29 : decode cX5_isLaw 29 = .ok (.iconst 1, 1) := by decide +kernel
theorem dX5_isLaw_30 : decode cX5_isLaw 30 = .ok (.goto 4, 3) := by decide +kernel
theorem dX5_isLaw_33 : decode cX5_isLaw 33 = .ok (.iconst 0, 1) := by decide +kernel
theorem dX5_isLaw_34 : decode cX5_isLaw 34 = .ok (.ireturn, 1) := by decide +kernel
theorem dX5_sign_0 : decode cX5_sign 0 = .ok (.aload_n 0, 1) := by decide +kernel
theorem dX5_sign_1 : decode cX5_sign 1 = .ok (.getfield 22, 3) := by decide +kernel
theorem dX5_sign_4 : decode cX5_sign 4 = .ok (.ifCond .lt 36, 3) := by decide +kernel
theorem dX5_sign_7 : decode cX5_sign 7 = .ok (.aload_n 0, 1) := by decide +kernel
theorem dX5_sign_8 : decode cX5_sign 8 = .ok (.getfield 22, 3) := by decide +kernel
theorem dX5_sign_11 : decode cX5_sign 11 = .ok (.aload_n 0, 1) := by decide +kernel
theorem dX5_sign_12 : decode cX5_sign 12 = .ok (.getfield 18, 3) := by decide +kernel
theorem dX5_sign_15 : decode cX5_sign 15 = .ok (.if_icmp .ge 25, 3) := by decide +kernel
theorem dX5_sign_18 : decode cX5_sign 18 = .ok (.aload_n 0, 1) := by decide +kernel
theorem dX5_sign_19 : decode cX5_sign 19 = .ok (.getfield 22, 3) := by decide +kernel
theorem dX5_sign_22 : decode cX5_sign 22 = .ok (.sipush 160, 3) := by decide +kernel
theorem dX5_sign_25 : decode cX5_sign 25 = .ok (.if_icmp .ge 15, 3) := by decide +kernel
theorem dX5_sign_28 : decode cX5_sign 28 = .ok (.aload_n 0, 1) := by decide +kernel
theorem dX5_sign_29 : decode cX5_sign 29 = .ok (.getfield 11, 3) := by decide +kernel
theorem dX5_sign_32 : decode cX5_sign 32 = .ok (.aload_n 0, 1) := by decide +kernel
theorem dX5_sign_33 : decode cX5_sign 33 = .ok (.getfield 22, 3) := by decide +kernel
theorem dX5_sign_36 : decode cX5_sign 36 = .ok (.iaload, 1) := by decide +kernel
theorem dX5_sign_37 : decode cX5_sign 37 = .ok (.goto 4, 3) := by decide +kernel
theorem dX5_sign_40 : decode cX5_sign 40 = .ok (.iconst (-1), 1) := by decide +kernel
theorem dX5_sign_41 : decode cX5_sign 41 = .ok (.ireturn, 1) := by decide +kernel
theorem dX5_put_0 : decode cX5_put 0 = .ok (.aload_n 0, 1) := by decide +kernel
theorem dX5_put_1 : decode cX5_put 1 = .ok (.getfield 25, 3) := by decide +kernel
theorem dX5_put_4 : decode cX5_put 4 = .ok (.aload_n 0, 1) := by decide +kernel
theorem dX5_put_5 : decode cX5_put 5 = .ok (.getfield 15, 3) := by decide +kernel
theorem dX5_put_8 : decode cX5_put 8 = .ok (.arraylength, 1) := by decide +kernel
theorem dX5_put_9 : decode cX5_put 9 = .ok (.if_icmp .ge 29, 3) := by decide +kernel
theorem dX5_put_12 : decode cX5_put 12 = .ok (.aload_n 0, 1) := by decide +kernel
theorem dX5_put_13 : decode cX5_put 13 = .ok (.getfield 15, 3) := by decide +kernel
theorem dX5_put_16 : decode cX5_put 16 = .ok (.aload_n 0, 1) := by decide +kernel
theorem dX5_put_17 : decode cX5_put 17 = .ok (.getfield 25, 3) := by decide +kernel
theorem dX5_put_20 : decode cX5_put 20 = .ok (.iload_n 1, 1) := by decide +kernel
theorem dX5_put_21 : decode cX5_put 21 = .ok (.sipush 256, 3) := by decide +kernel
theorem dX5_put_24 : decode cX5_put 24 = .ok (.iload_n 2, 1) := by decide +kernel
theorem dX5_put_25 : decode cX5_put 25 = .ok (.imul, 1) := by decide +kernel
theorem dX5_put_26 : decode cX5_put 26 = .ok (.iadd, 1) := by decide +kernel
theorem dX5_put_27 : decode cX5_put 27 = .ok (.iastore, 1) := by decide +kernel
theorem dX5_put_28 : decode cX5_put 28 = .ok (.aload_n 0, 1) := by decide +kernel
theorem dX5_put_29 : decode cX5_put 29 = .ok (.dup, 1) := by decide +kernel
theorem dX5_put_30 : decode cX5_put 30 = .ok (.getfield 25, 3) := by decide +kernel
theorem dX5_put_33 : decode cX5_put 33 = .ok (.iconst 1, 1) := by decide +kernel
theorem dX5_put_34 : decode cX5_put 34 = .ok (.iadd, 1) := by decide +kernel
theorem dX5_put_35 : decode cX5_put 35 = .ok (.putfield 25, 3) := by decide +kernel
theorem dX5_put_38 : decode cX5_put 38 = .ok (.aload_n 0, 1) := by decide +kernel
theorem dX5_put_39 : decode cX5_put 39 = .ok (.getfield 25, 3) := by decide +kernel
theorem dX5_put_42 : decode cX5_put 42 = .ok (.iconst 1, 1) := by decide +kernel
theorem dX5_put_43 : decode cX5_put 43 = .ok (.isub, 1) := by decide +kernel
theorem dX5_put_44 : decode cX5_put 44 = .ok (.ireturn, 1) := by decide +kernel
theorem dX5_aimHere_0 : decode cX5_aimHere 0 = .ok (.iload_n 1, 1) := by decide +kernel
theorem dX5_aimHere_1 : decode cX5_aimHere 1 = .ok (.ifCond .lt 29, 3) := by decide +kernel
theorem dX5_aimHere_4 : decode cX5_aimHere 4 = .ok (.iload_n 1, 1) := by decide +kernel
theorem dX5_aimHere_5 : decode cX5_aimHere 5 = .ok (.aload_n 0, 1) := by decide +kernel
theorem dX5_aimHere_6 : decode cX5_aimHere 6 = .ok (.getfield 15, 3) := by decide +kernel
theorem dX5_aimHere_9 : decode cX5_aimHere 9 = .ok (.arraylength, 1) := by decide +kernel
theorem dX5_aimHere_10 : decode cX5_aimHere 10 = .ok (.if_icmp .ge 20, 3) := by decide +kernel
theorem dX5_aimHere_13 : decode cX5_aimHere 13 = .ok (.aload_n 0, 1) := by decide +kernel
theorem dX5_aimHere_14 : decode cX5_aimHere 14 = .ok (.getfield 15, 3) := by decide +kernel
theorem dX5_aimHere_17 : decode cX5_aimHere 17 = .ok (.iload_n 1, 1) := by decide +kernel
theorem dX5_aimHere_18 : decode cX5_aimHere 18 = .ok (.dup2, 1) := by decide +kernel
theorem dX5_aimHere_19 : decode cX5_aimHere 19 = .ok (.iaload, 1) := by decide +kernel
theorem dX5_aimHere_20 : decode cX5_aimHere 20 = .ok (.sipush 256, 3) := by decide +kernel
theorem dX5_aimHere_23 : decode cX5_aimHere 23 = .ok (.aload_n 0, 1) := by decide +kernel
theorem dX5_aimHere_24 : decode cX5_aimHere 24 = .ok (.getfield 25, 3) := by decide +kernel
theorem dX5_aimHere_27 : decode cX5_aimHere 27 = .ok (.imul, 1) := by decide +kernel
theorem dX5_aimHere_28 : decode cX5_aimHere 28 = .ok (.iadd, 1) := by decide +kernel
theorem dX5_aimHere_29 : decode cX5_aimHere 29 = .ok (.iastore, 1) := by decide +kernel
theorem dX5_aimHere_30 : decode cX5_aimHere 30 = .ok (.return_, 1) := by decide +kernel
theorem dX5_readE_0 : decode cX5_readE 0 = .ok (.aload_n 0, 1) := by decide +kernel
theorem dX5_readE_1 : decode cX5_readE 1 = .ok (.iload_n 1, 1) := by decide +kernel
theorem dX5_readE_2 : decode cX5_readE 2 = .ok (.invokevirtual 34, 3) := by decide +kernel
theorem dX5_readE_5 : decode cX5_readE 5 = .ok (.ifCond .ne 5, 3) := by decide +kernel
theorem dX5_readE_8 : decode cX5_readE 8 = .ok (.iconst 0, 1) := by decide +kernel
theorem dX5_readE_9 : decode cX5_readE 9 = .ok (.ireturn, 1) := by decide +kernel
theorem dX5_readE_10 : decode cX5_readE 10 = .ok (.aload_n 0, 1) := by decide +kernel
theorem dX5_readE_11 : decode cX5_readE 11 = .ok (.invokevirtual 37, 3) := by decide +kernel
theorem dX5_readE_14 : decode cX5_readE 14 = .ok (.bipush 63, 2) := by decide +kernel
theorem dX5_readE_16 : decode cX5_readE 16 = .ok (.if_icmp .eq 5, 3) := by decide +kernel
theorem dX5_readE_19 : decode cX5_readE 19 = .ok (.iconst 1, 1) := by decide +kernel
theorem dX5_readE_20 : decode cX5_readE 20 = .ok (.ireturn, 1) := by decide +kernel
theorem dX5_readE_21 : decode cX5_readE 21 = .ok (.iload_n 1, 1) := by decide +kernel
theorem dX5_readE_22 : decode cX5_readE 22 = .ok (.bipush 12, 2) := by decide +kernel
theorem dX5_readE_24 : decode cX5_readE 24 = .ok (.if_icmp .lt 5, 3) := by decide +kernel
theorem dX5_readE_27 : decode cX5_readE 27 = .ok (.iconst 0, 1) := by decide +kernel
theorem dX5_readE_28 : decode cX5_readE 28 = .ok (.ireturn, 1) := by decide +kernel
theorem dX5_readE_29 : decode cX5_readE 29 = .ok (.aload_n 0, 1) := by decide +kernel
theorem dX5_readE_30 : decode cX5_readE 30 = .ok (.dup, 1) := by decide +kernel
theorem dX5_readE_31 : decode cX5_readE 31 = .ok (.getfield 22, 3) := by decide +kernel
theorem dX5_readE_34 : decode cX5_readE 34 = .ok (.iconst 1, 1) := by decide +kernel
theorem dX5_readE_35 : decode cX5_readE 35 = .ok (.iadd, 1) := by decide +kernel
theorem dX5_readE_36 : decode cX5_readE 36 = .ok (.putfield 22, 3) := by decide +kernel
theorem dX5_readE_39 : decode cX5_readE 39 = .ok (.aload_n 0, 1) := by decide +kernel
theorem dX5_readE_40 : decode cX5_readE 40 = .ok (.bipush 63, 2) := by decide +kernel
theorem dX5_readE_42 : decode cX5_readE 42 = .ok (.iconst 0, 1) := by decide +kernel
theorem dX5_readE_43 : decode cX5_readE 43 = .ok (.invokevirtual 41, 3) := by decide +kernel
theorem dX5_readE_46 : decode cX5_readE 46 = .ok (.istore_n 2, 1) := by decide +kernel
theorem dX5_readE_47 : decode cX5_readE 47 = .ok (.aload_n 0, 1) := by decide +kernel
theorem dX5_readE_48 : decode cX5_readE 48 = .ok (.iload_n 1, 1) := by decide +kernel
theorem dX5_readE_49 : decode cX5_readE 49 = .ok (.iconst 1, 1) := by decide +kernel
theorem dX5_readE_50 : decode cX5_readE 50 = .ok (.iadd, 1) := by decide +kernel
theorem dX5_readE_51 : decode cX5_readE 51 = .ok (.invokevirtual 28, 3) := by decide +kernel
theorem dX5_readE_54 : decode cX5_readE 54 = .ok (.ifCond .eq 12, 3) := by decide +kernel
theorem dX5_readE_57 : decode cX5_readE 57 = .ok (.aload_n 0, 1) := by decide +kernel
theorem dX5_readE_58 : decode cX5_readE 58 = .ok (.invokevirtual 37, 3) := by decide +kernel
theorem dX5_readE_61 : decode cX5_readE 61 = .ok (.bipush 58, 2) := by decide +kernel
theorem dX5_readE_63 : decode cX5_readE 63 = .ok (.if_icmp .eq 5, 3) := by decide +kernel
theorem dX5_readE_66 : decode cX5_readE 66 = .ok (.iconst 0, 1) := by decide +kernel
theorem dX5_readE_67 : decode cX5_readE 67 = .ok (.ireturn, 1) := by decide +kernel
theorem dX5_readE_68 : decode cX5_readE 68 = .ok (.aload_n 0, 1) := by decide +kernel
theorem dX5_readE_69 : decode cX5_readE 69 = .ok (.dup, 1) := by decide +kernel
theorem dX5_readE_70 : decode cX5_readE 70 = .ok (.getfield 22, 3) := by decide +kernel
theorem dX5_readE_73 : decode cX5_readE 73 = .ok (.iconst 1, 1) := by decide +kernel
theorem dX5_readE_74 : decode cX5_readE 74 = .ok (.iadd, 1) := by decide +kernel
theorem dX5_readE_75 : decode cX5_readE 75 = .ok (.putfield 22, 3) := by decide +kernel
theorem dX5_readE_78 : decode cX5_readE 78 = .ok (.aload_n 0, 1) := by decide +kernel
theorem dX5_readE_79 : decode cX5_readE 79 = .ok (.bipush 58, 2) := by decide +kernel
theorem dX5_readE_81 : decode cX5_readE 81 = .ok (.iconst 0, 1) := by decide +kernel
theorem dX5_readE_82 : decode cX5_readE 82 = .ok (.invokevirtual 41, 3) := by decide +kernel
theorem dX5_readE_85 : decode cX5_readE 85 = .ok (.istore_n 3, 1) := by decide +kernel
theorem dX5_readE_86 : decode cX5_readE 86 = .ok (.aload_n 0, 1) := by decide +kernel
theorem dX5_readE_87 : decode cX5_readE 87 = .ok (.iload_n 2, 1) := by decide +kernel
theorem dX5_readE_88 : decode cX5_readE 88 = .ok (.invokevirtual 45, 3) := by decide +kernel
theorem dX5_readE_91 : decode cX5_readE 91 = .ok (.aload_n 0, 1) := by decide +kernel
theorem dX5_readE_92 : decode cX5_readE 92 = .ok (.iload_n 1, 1) := by decide +kernel
theorem dX5_readE_93 : decode cX5_readE 93 = .ok (.iconst 1, 1) := by decide +kernel
theorem dX5_readE_94 : decode cX5_readE 94 = .ok (.iadd, 1) := by decide +kernel
theorem dX5_readE_95 : decode cX5_readE 95 = .ok (.invokevirtual 28, 3) := by decide +kernel
theorem dX5_readE_98 : decode cX5_readE 98 = .ok (.ifCond .ne 5, 3) := by decide +kernel
theorem dX5_readE_101 : decode cX5_readE 101 = .ok (.iconst 0, 1) := by decide +kernel
theorem dX5_readE_102 : decode cX5_readE 102 = .ok (.ireturn, 1) := by decide +kernel
theorem dX5_readE_103 : decode cX5_readE 103 = .ok (.aload_n 0, 1) := by decide +kernel
theorem dX5_readE_104 : decode cX5_readE 104 = .ok (.iload_n 3, 1) := by decide +kernel
theorem dX5_readE_105 : decode cX5_readE 105 = .ok (.invokevirtual 45, 3) := by decide +kernel
theorem dX5_readE_108 : decode cX5_readE 108 = .ok (.iconst 1, 1) := by decide +kernel
theorem dX5_readE_109 : decode cX5_readE 109 = .ok (.ireturn, 1) := by decide +kernel
theorem dX5_readC_0 : decode cX5_readC 0 = .ok (.aload_n 0, 1) := by decide +kernel
theorem dX5_readC_1 : decode cX5_readC 1 = .ok (.iload_n 1, 1) := by decide +kernel
theorem dX5_readC_2 : decode cX5_readC 2 = .ok (.invokevirtual 49, 3) := by decide +kernel
theorem dX5_readC_5 : decode cX5_readC 5 = .ok (.ifCond .ne 5, 3) := by decide +kernel
theorem dX5_readC_8 : decode cX5_readC 8 = .ok (.iconst 0, 1) := by decide +kernel
theorem dX5_readC_9 : decode cX5_readC 9 = .ok (.ireturn, 1) := by decide +kernel
theorem dX5_readC_10 : decode cX5_readC 10 = .ok (.aload_n 0, 1) := by decide +kernel
theorem dX5_readC_11 : decode cX5_readC 11 = .ok (.invokevirtual 37, 3) := by decide +kernel
theorem dX5_readC_14 : decode cX5_readC 14 = .ok (.istore_n 2, 1) := by decide +kernel
theorem dX5_readC_15 : decode cX5_readC 15 = .ok (.iload_n 2, 1) := by decide +kernel
theorem dX5_readC_16 : decode cX5_readC 16 = .ok (.bipush 60, 2) := by decide +kernel
theorem dX5_readC_18 : decode cX5_readC 18 = .ok (.if_icmp .eq 17, 3) := by decide +kernel
theorem dX5_readC_21 : decode cX5_readC 21 = .ok (.iload_n 2, 1) := by decide +kernel
theorem dX5_readC_22 : decode cX5_readC 22 = .ok (.bipush 61, 2) := by decide +kernel
theorem dX5_readC_24 : decode cX5_readC 24 = .ok (.if_icmp .eq 11, 3) := by decide +kernel
theorem dX5_readC_27 : decode cX5_readC 27 = .ok (.iload_n 2, 1) := by decide +kernel
theorem dX5_readC_28 : decode cX5_readC 28 = .ok (.bipush 62, 2) := by decide +kernel
theorem dX5_readC_30 : decode cX5_readC 30 = .ok (.if_icmp .eq 5, 3) := by decide +kernel
theorem dX5_readC_33 : decode cX5_readC 33 = .ok (.iconst 1, 1) := by decide +kernel
theorem dX5_readC_34 : decode cX5_readC 34 = .ok (.ireturn, 1) := by decide +kernel
theorem dX5_readC_35 : decode cX5_readC 35 = .ok (.aload_n 0, 1) := by decide +kernel
theorem dX5_readC_36 : decode cX5_readC 36 = .ok (.dup, 1) := by decide +kernel
theorem dX5_readC_37 : decode cX5_readC 37 = .ok (.getfield 22, 3) := by decide +kernel
theorem dX5_readC_40 : decode cX5_readC 40 = .ok (.iconst 1, 1) := by decide +kernel
theorem dX5_readC_41 : decode cX5_readC 41 = .ok (.iadd, 1) := by decide +kernel
theorem dX5_readC_42 : decode cX5_readC 42 = .ok (.putfield 22, 3) := by decide +kernel
theorem dX5_readC_45 : decode cX5_readC 45 = .ok (.aload_n 0, 1) := by decide +kernel
theorem dX5_readC_46 : decode cX5_readC 46 = .ok (.iload_n 1, 1) := by decide +kernel
theorem dX5_readC_47 : decode cX5_readC 47 = .ok (.invokevirtual 49, 3) := by decide +kernel
theorem dX5_readC_50 : decode cX5_readC 50 = .ok (.ifCond .ne 5, 3) := by decide +kernel
theorem dX5_readC_53 : decode cX5_readC 53 = .ok (.iconst 0, 1) := by decide +kernel
theorem dX5_readC_54 : decode cX5_readC 54 = .ok (.ireturn, 1) := by decide +kernel
theorem dX5_readC_55 : decode cX5_readC 55 = .ok (.aload_n 0, 1) := by decide +kernel
theorem dX5_readC_56 : decode cX5_readC 56 = .ok (.iload_n 2, 1) := by decide +kernel
theorem dX5_readC_57 : decode cX5_readC 57 = .ok (.iconst 0, 1) := by decide +kernel
theorem dX5_readC_58 : decode cX5_readC 58 = .ok (.invokevirtual 41, 3) := by decide +kernel
theorem dX5_readC_61 : decode cX5_readC 61 = .ok (.pop, 1) := by decide +kernel
theorem dX5_readC_62 : decode cX5_readC 62 = .ok (.iconst 1, 1) := by decide +kernel
theorem dX5_readC_63 : decode cX5_readC 63 = .ok (.ireturn, 1) := by decide +kernel
theorem dX5_readS_0 : decode cX5_readS 0 = .ok (.aload_n 0, 1) := by decide +kernel
theorem dX5_readS_1 : decode cX5_readS 1 = .ok (.iload_n 1, 1) := by decide +kernel
theorem dX5_readS_2 : decode cX5_readS 2 = .ok (.invokevirtual 52, 3) := by decide +kernel
theorem dX5_readS_5 : decode cX5_readS 5 = .ok (.ifCond .ne 5, 3) := by decide +kernel
theorem dX5_readS_8 : decode cX5_readS 8 = .ok (.iconst 0, 1) := by decide +kernel
theorem dX5_readS_9 : decode cX5_readS 9 = .ok (.ireturn, 1) := by decide +kernel
theorem dX5_readS_10 : decode cX5_readS 10 = .ok (.aload_n 0, 1) := by decide +kernel
theorem dX5_readS_11 : decode cX5_readS 11 = .ok (.invokevirtual 37, 3) := by decide +kernel
theorem dX5_readS_14 : decode cX5_readS 14 = .ok (.istore_n 2, 1) := by decide +kernel
theorem dX5_readS_15 : decode cX5_readS 15 = .ok (.aload_n 0, 1) := by decide +kernel
theorem dX5_readS_16 : decode cX5_readS 16 = .ok (.getfield 22, 3) := by decide +kernel
theorem dX5_readS_19 : decode cX5_readS 19 = .ok (.aload_n 0, 1) := by decide +kernel
theorem dX5_readS_20 : decode cX5_readS 20 = .ok (.getfield 18, 3) := by decide +kernel
theorem dX5_readS_23 : decode cX5_readS 23 = .ok (.if_icmp .ge 50, 3) := by decide +kernel
theorem dX5_readS_26 : decode cX5_readS 26 = .ok (.iload_n 2, 1) := by decide +kernel
theorem dX5_readS_27 : decode cX5_readS 27 = .ok (.bipush 43, 2) := by decide +kernel
theorem dX5_readS_29 : decode cX5_readS 29 = .ok (.if_icmp .eq 9, 3) := by decide +kernel
theorem dX5_readS_32 : decode cX5_readS 32 = .ok (.iload_n 2, 1) := by decide +kernel
theorem dX5_readS_33 : decode cX5_readS 33 = .ok (.bipush 45, 2) := by decide +kernel
theorem dX5_readS_35 : decode cX5_readS 35 = .ok (.if_icmp .ne 38, 3) := by decide +kernel
theorem dX5_readS_38 : decode cX5_readS 38 = .ok (.aload_n 0, 1) := by decide +kernel
theorem dX5_readS_39 : decode cX5_readS 39 = .ok (.dup, 1) := by decide +kernel
theorem dX5_readS_40 : decode cX5_readS 40 = .ok (.getfield 22, 3) := by decide +kernel
theorem dX5_readS_43 : decode cX5_readS 43 = .ok (.iconst 1, 1) := by decide +kernel
theorem dX5_readS_44 : decode cX5_readS 44 = .ok (.iadd, 1) := by decide +kernel
theorem dX5_readS_45 : decode cX5_readS 45 = .ok (.putfield 22, 3) := by decide +kernel
theorem dX5_readS_48 : decode cX5_readS 48 = .ok (.aload_n 0, 1) := by decide +kernel
theorem dX5_readS_49 : decode cX5_readS 49 = .ok (.iload_n 1, 1) := by decide +kernel
theorem dX5_readS_50 : decode cX5_readS 50 = .ok (.invokevirtual 52, 3) := by decide +kernel
theorem dX5_readS_53 : decode cX5_readS 53 = .ok (.ifCond .ne 5, 3) := by decide +kernel
theorem dX5_readS_56 : decode cX5_readS 56 = .ok (.iconst 0, 1) := by decide +kernel
theorem dX5_readS_57 : decode cX5_readS 57 = .ok (.ireturn, 1) := by decide +kernel
theorem dX5_readS_58 : decode cX5_readS 58 = .ok (.aload_n 0, 1) := by decide +kernel
theorem dX5_readS_59 : decode cX5_readS 59 = .ok (.iload_n 2, 1) := by decide +kernel
theorem dX5_readS_60 : decode cX5_readS 60 = .ok (.iconst 0, 1) := by decide +kernel
theorem dX5_readS_61 : decode cX5_readS 61 = .ok (.invokevirtual 41, 3) := by decide +kernel
theorem dX5_readS_64 : decode cX5_readS 64 = .ok (.pop, 1) := by decide +kernel
theorem dX5_readS_65 : decode cX5_readS 65 = .ok (.aload_n 0, 1) := by decide +kernel
theorem dX5_readS_66 : decode cX5_readS 66 = .ok (.invokevirtual 37, 3) := by decide +kernel
theorem dX5_readS_69 : decode cX5_readS 69 = .ok (.istore_n 2, 1) := by decide +kernel
theorem dX5_readS_70 : decode cX5_readS 70 = .ok (.goto (-55), 3) := by decide +kernel
theorem dX5_readS_73 : decode cX5_readS 73 = .ok (.iconst 1, 1) := by decide +kernel
theorem dX5_readS_74 : decode cX5_readS 74 = .ok (.ireturn, 1) := by decide +kernel
theorem dX5_readP_0 : decode cX5_readP 0 = .ok (.aload_n 0, 1) := by decide +kernel
theorem dX5_readP_1 : decode cX5_readP 1 = .ok (.iload_n 1, 1) := by decide +kernel
theorem dX5_readP_2 : decode cX5_readP 2 = .ok (.invokevirtual 55, 3) := by decide +kernel
theorem dX5_readP_5 : decode cX5_readP 5 = .ok (.ifCond .ne 5, 3) := by decide +kernel
theorem dX5_readP_8 : decode cX5_readP 8 = .ok (.iconst 0, 1) := by decide +kernel
theorem dX5_readP_9 : decode cX5_readP 9 = .ok (.ireturn, 1) := by decide +kernel
theorem dX5_readP_10 : decode cX5_readP 10 = .ok (.aload_n 0, 1) := by decide +kernel
theorem dX5_readP_11 : decode cX5_readP 11 = .ok (.invokevirtual 37, 3) := by decide +kernel
theorem dX5_readP_14 : decode cX5_readP 14 = .ok (.istore_n 2, 1) := by decide +kernel
theorem dX5_readP_15 : decode cX5_readP 15 = .ok (.aload_n 0, 1) := by decide +kernel
theorem dX5_readP_16 : decode cX5_readP 16 = .ok (.getfield 22, 3) := by decide +kernel
theorem dX5_readP_19 : decode cX5_readP 19 = .ok (.aload_n 0, 1) := by decide +kernel
theorem dX5_readP_20 : decode cX5_readP 20 = .ok (.getfield 18, 3) := by decide +kernel
theorem dX5_readP_23 : decode cX5_readP 23 = .ok (.if_icmp .ge 56, 3) := by decide +kernel
theorem dX5_readP_26 : decode cX5_readP 26 = .ok (.iload_n 2, 1) := by decide +kernel
theorem dX5_readP_27 : decode cX5_readP 27 = .ok (.bipush 42, 2) := by decide +kernel
theorem dX5_readP_29 : decode cX5_readP 29 = .ok (.if_icmp .eq 15, 3) := by decide +kernel
theorem dX5_readP_32 : decode cX5_readP 32 = .ok (.iload_n 2, 1) := by decide +kernel
theorem dX5_readP_33 : decode cX5_readP 33 = .ok (.bipush 47, 2) := by decide +kernel
theorem dX5_readP_35 : decode cX5_readP 35 = .ok (.if_icmp .eq 9, 3) := by decide +kernel
theorem dX5_readP_38 : decode cX5_readP 38 = .ok (.iload_n 2, 1) := by decide +kernel
theorem dX5_readP_39 : decode cX5_readP 39 = .ok (.bipush 37, 2) := by decide +kernel
theorem dX5_readP_41 : decode cX5_readP 41 = .ok (.if_icmp .ne 38, 3) := by decide +kernel
theorem dX5_readP_44 : decode cX5_readP 44 = .ok (.aload_n 0, 1) := by decide +kernel
theorem dX5_readP_45 : decode cX5_readP 45 = .ok (.dup, 1) := by decide +kernel
theorem dX5_readP_46 : decode cX5_readP 46 = .ok (.getfield 22, 3) := by decide +kernel
theorem dX5_readP_49 : decode cX5_readP 49 = .ok (.iconst 1, 1) := by decide +kernel
theorem dX5_readP_50 : decode cX5_readP 50 = .ok (.iadd, 1) := by decide +kernel
theorem dX5_readP_51 : decode cX5_readP 51 = .ok (.putfield 22, 3) := by decide +kernel
theorem dX5_readP_54 : decode cX5_readP 54 = .ok (.aload_n 0, 1) := by decide +kernel
theorem dX5_readP_55 : decode cX5_readP 55 = .ok (.iload_n 1, 1) := by decide +kernel
theorem dX5_readP_56 : decode cX5_readP 56 = .ok (.invokevirtual 55, 3) := by decide +kernel
theorem dX5_readP_59 : decode cX5_readP 59 = .ok (.ifCond .ne 5, 3) := by decide +kernel
theorem dX5_readP_62 : decode cX5_readP 62 = .ok (.iconst 0, 1) := by decide +kernel
theorem dX5_readP_63 : decode cX5_readP 63 = .ok (.ireturn, 1) := by decide +kernel
theorem dX5_readP_64 : decode cX5_readP 64 = .ok (.aload_n 0, 1) := by decide +kernel
theorem dX5_readP_65 : decode cX5_readP 65 = .ok (.iload_n 2, 1) := by decide +kernel
theorem dX5_readP_66 : decode cX5_readP 66 = .ok (.iconst 0, 1) := by decide +kernel
theorem dX5_readP_67 : decode cX5_readP 67 = .ok (.invokevirtual 41, 3) := by decide +kernel
theorem dX5_readP_70 : decode cX5_readP 70 = .ok (.pop, 1) := by decide +kernel
theorem dX5_readP_71 : decode cX5_readP 71 = .ok (.aload_n 0, 1) := by decide +kernel
theorem dX5_readP_72 : decode cX5_readP 72 = .ok (.invokevirtual 37, 3) := by decide +kernel
theorem dX5_readP_75 : decode cX5_readP 75 = .ok (.istore_n 2, 1) := by decide +kernel
theorem dX5_readP_76 : decode cX5_readP 76 = .ok (.goto (-61), 3) := by decide +kernel
theorem dX5_readP_79 : decode cX5_readP 79 = .ok (.iconst 1, 1) := by decide +kernel
theorem dX5_readP_80 : decode cX5_readP 80 = .ok (.ireturn, 1) := by decide +kernel
theorem dX5_readO_0 : decode cX5_readO 0 = .ok (.aload_n 0, 1) := by decide +kernel
theorem dX5_readO_1 : decode cX5_readO 1 = .ok (.invokevirtual 37, 3) := by decide +kernel
theorem dX5_readO_4 : decode cX5_readO 4 = .ok (.istore_n 2, 1) := by decide +kernel
theorem dX5_readO_5 : decode cX5_readO 5 = .ok (.iload_n 2, 1) := by decide +kernel
theorem dX5_readO_6 : decode cX5_readO 6 = .ok (.invokestatic 58, 3) := by decide +kernel
theorem dX5_readO_9 : decode cX5_readO 9 = .ok (.ifCond .eq 8, 3) := by decide +kernel
theorem dX5_readO_12 : decode cX5_readO 12 = .ok (.aload_n 0, 1) := by decide +kernel
theorem dX5_readO_13 : decode cX5_readO 13 = .ok (.invokevirtual 61, 3) := by decide +kernel
theorem dX5_readO_16 : decode cX5_readO 16 = .ok (.ireturn, 1) := by decide +kernel
theorem dX5_readO_17 : decode cX5_readO 17 = .ok (.iload_n 2, 1) := by decide +kernel
theorem dX5_readO_18 : decode cX5_readO 18 = .ok (.bipush 40, 2) := by decide +kernel
theorem dX5_readO_20 : decode cX5_readO 20 = .ok (.if_icmp .ne 25, 3) := by decide +kernel
theorem dX5_readO_23 : decode cX5_readO 23 = .ok (.iload_n 1, 1) := by decide +kernel
theorem dX5_readO_24 : decode cX5_readO 24 = .ok (.bipush 12, 2) := by decide +kernel
theorem dX5_readO_26 : decode cX5_readO 26 = .ok (.if_icmp .ge 17, 3) := by decide +kernel
theorem dX5_readO_29 : decode cX5_readO 29 = .ok (.aload_n 0, 1) := by decide +kernel
theorem dX5_readO_30 : decode cX5_readO 30 = .ok (.iload_n 1, 1) := by decide +kernel
theorem dX5_readO_31 : decode cX5_readO 31 = .ok (.iconst 1, 1) := by decide +kernel
theorem dX5_readO_32 : decode cX5_readO 32 = .ok (.iadd, 1) := by decide +kernel
theorem dX5_readO_33 : decode cX5_readO 33 = .ok (.invokevirtual 65, 3) := by decide +kernel
theorem dX5_readO_36 : decode cX5_readO 36 = .ok (.ifCond .eq 7, 3) := by decide +kernel
theorem dX5_readO_39 : decode cX5_readO 39 = .ok (.iconst 1, 1) := by decide +kernel
theorem dX5_readO_40 : decode cX5_readO 40 = .ok (.goto 4, 3) := by decide +kernel
theorem dX5_readO_43 : decode cX5_readO 43 = .ok (.iconst 0, 1) := by decide +kernel
theorem dX5_readO_44 : decode cX5_readO 44 = .ok (.ireturn, 1) := by decide +kernel
theorem dX5_readO_45 : decode cX5_readO 45 = .ok (.iload_n 2, 1) := by decide +kernel
theorem dX5_readO_46 : decode cX5_readO 46 = .ok (.invokestatic 68, 3) := by decide +kernel
theorem dX5_readO_49 : decode cX5_readO 49 = .ok (.istore_n 3, 1) := by decide +kernel
theorem dX5_readO_50 : decode cX5_readO 50 = .ok (.iload_n 3, 1) := by decide +kernel
theorem dX5_readO_51 : decode cX5_readO 51 = .ok (.ifCond .ge 5, 3) := by decide +kernel
theorem dX5_readO_54 : decode cX5_readO 54 = .ok (.iconst 0, 1) := by decide +kernel
theorem dX5_readO_55 : decode cX5_readO 55 = .ok (.ireturn, 1) := by decide +kernel
theorem dX5_readO_56 : decode cX5_readO 56 = .ok (.aload_n 0, 1) := by decide +kernel
theorem dX5_readO_57 : decode cX5_readO 57 = .ok (.dup, 1) := by decide +kernel
theorem dX5_readO_58 : decode cX5_readO 58 = .ok (.getfield 22, 3) := by decide +kernel
theorem dX5_readO_61 : decode cX5_readO 61 = .ok (.iconst 1, 1) := by decide +kernel
theorem dX5_readO_62 : decode cX5_readO 62 = .ok (.iadd, 1) := by decide +kernel
theorem dX5_readO_63 : decode cX5_readO 63 = .ok (.putfield 22, 3) := by decide +kernel
theorem dX5_readO_66 : decode cX5_readO 66 = .ok (.aload_n 0, 1) := by decide +kernel
theorem dX5_readO_67 : decode cX5_readO 67 = .ok (.bipush 97, 2) := by decide +kernel
theorem dX5_readO_69 : decode cX5_readO 69 = .ok (.iload_n 3, 1) := by decide +kernel
theorem dX5_readO_70 : decode cX5_readO 70 = .ok (.invokevirtual 41, 3) := by decide +kernel
theorem dX5_readO_73 : decode cX5_readO 73 = .ok (.pop, 1) := by decide +kernel
theorem dX5_readO_74 : decode cX5_readO 74 = .ok (.iconst 1, 1) := by decide +kernel
theorem dX5_readO_75 : decode cX5_readO 75 = .ok (.ireturn, 1) := by decide +kernel
theorem dX5_readBraced_0 : decode cX5_readBraced 0 = .ok (.aload_n 0, 1) := by decide +kernel
theorem dX5_readBraced_1 : decode cX5_readBraced 1 = .ok (.dup, 1) := by decide +kernel
theorem dX5_readBraced_2 : decode cX5_readBraced 2 = .ok (.getfield 22, 3) := by decide +kernel
theorem dX5_readBraced_5 : decode cX5_readBraced 5 = .ok (.iconst 1, 1) := by decide +kernel
theorem dX5_readBraced_6 : decode cX5_readBraced 6 = .ok (.iadd, 1) := by decide +kernel
theorem dX5_readBraced_7 : decode cX5_readBraced 7 = .ok (.putfield 22, 3) := by decide +kernel
theorem dX5_readBraced_10 : decode cX5_readBraced 10 = .ok (.aload_n 0, 1) := by decide +kernel
theorem dX5_readBraced_11 : decode cX5_readBraced 11 = .ok (.iload_n 1, 1) := by decide +kernel
theorem dX5_readBraced_12 : decode cX5_readBraced 12 = .ok (.invokevirtual 28, 3) := by decide +kernel
theorem dX5_readBraced_15 : decode cX5_readBraced 15 = .ok (.ifCond .eq 12, 3) := by decide +kernel
theorem dX5_readBraced_18 : decode cX5_readBraced 18 = .ok (.aload_n 0, 1) := by decide +kernel
theorem dX5_readBraced_19 : decode cX5_readBraced 19 = .ok (.invokevirtual 37, 3) := by decide +kernel
theorem dX5_readBraced_22 : decode cX5_readBraced 22 = .ok (.bipush 41, 2) := by decide +kernel
theorem dX5_readBraced_24 : decode cX5_readBraced 24 = .ok (.if_icmp .eq 5, 3) := by decide +kernel
theorem dX5_readBraced_27 : decode cX5_readBraced 27 = .ok (.iconst 0, 1) := by decide +kernel
theorem dX5_readBraced_28 : decode cX5_readBraced 28 = .ok (.ireturn, 1) := by decide +kernel
theorem dX5_readBraced_29 : decode cX5_readBraced 29 = .ok (.aload_n 0, 1) := by decide +kernel
theorem dX5_readBraced_30 : decode cX5_readBraced 30 = .ok (.dup, 1) := by decide +kernel
theorem dX5_readBraced_31 : decode cX5_readBraced 31 = .ok (.getfield 22, 3) := by decide +kernel
theorem dX5_readBraced_34 : decode cX5_readBraced 34 = .ok (.iconst 1, 1) := by decide +kernel
theorem dX5_readBraced_35 : decode cX5_readBraced 35 = .ok (.iadd, 1) := by decide +kernel
theorem dX5_readBraced_36 : decode cX5_readBraced 36 = .ok (.putfield 22, 3) := by decide +kernel
theorem dX5_readBraced_39 : decode cX5_readBraced 39 = .ok (.iconst 1, 1) := by decide +kernel
theorem dX5_readBraced_40 : decode cX5_readBraced 40 = .ok (.ireturn, 1) := by decide +kernel
theorem dX5_isDigit_0 : decode cX5_isDigit 0 = .ok (.iload_n 0, 1) := by decide +kernel
theorem dX5_isDigit_1 : decode cX5_isDigit 1 = .ok (.bipush 48, 2) := by decide +kernel
theorem dX5_isDigit_3 : decode cX5_isDigit 3 = .ok (.if_icmp .lt 13, 3) := by decide +kernel
theorem dX5_isDigit_6 : decode cX5_isDigit 6 = .ok (.iload_n 0, 1) := by decide +kernel
theorem dX5_isDigit_7 : decode cX5_isDigit 7 = .ok (.bipush 57, 2) := by decide +kernel
theorem dX5_isDigit_9 : decode cX5_isDigit 9 = .ok (.if_icmp .gt 7, 3) := by decide +kernel
theorem dX5_isDigit_12 : decode cX5_isDigit 12 = .ok (.iconst 1, 1) := by decide +kernel
theorem dX5_isDigit_13 : decode cX5_isDigit 13 = .ok (.goto 4, 3) := by decide +kernel
theorem dX5_isDigit_16 : decode cX5_isDigit 16 = .ok (.iconst 0, 1) := by decide +kernel
theorem dX5_isDigit_17 : decode cX5_isDigit 17 = .ok (.ireturn, 1) := by decide +kernel
theorem dX5_readNumber_0 : decode cX5_readNumber 0 = .ok (.iconst 0, 1) := by decide +kernel
theorem dX5_readNumber_1 : decode cX5_readNumber 1 = .ok (.istore_n 1, 1) := by decide +kernel
theorem dX5_readNumber_2 : decode cX5_readNumber 2 = .ok (.iconst 0, 1) := by decide +kernel
theorem dX5_readNumber_3 : decode cX5_readNumber 3 = .ok (.istore_n 2, 1) := by decide +kernel
theorem dX5_readNumber_4 : decode cX5_readNumber 4 = .ok (.iload_n 2, 1) := by decide +kernel
theorem dX5_readNumber_5 : decode cX5_readNumber 5 = .ok (.iconst 5, 1) := by decide +kernel
theorem dX5_readNumber_6 : decode cX5_readNumber 6 = .ok (.if_icmp .ge 42, 3) := by decide +kernel
theorem dX5_readNumber_9 : decode cX5_readNumber 9 = .ok (.aload_n 0, 1) := by decide +kernel
theorem dX5_readNumber_10 : decode cX5_readNumber 10 = .ok (.invokevirtual 37, 3) := by decide +kernel
theorem dX5_readNumber_13 : decode cX5_readNumber 13 = .ok (.invokestatic 58, 3) := by decide +kernel
theorem dX5_readNumber_16 : decode cX5_readNumber 16 = .ok (.ifCond .eq 32, 3) := by decide +kernel
theorem dX5_readNumber_19 : decode cX5_readNumber 19 = .ok (.iload_n 1, 1) := by decide +kernel
theorem dX5_readNumber_20 : decode cX5_readNumber 20 = .ok (.bipush 10, 2) := by decide +kernel
theorem dX5_readNumber_22 : decode cX5_readNumber 22 = .ok (.imul, 1) := by decide +kernel
theorem dX5_readNumber_23 : decode cX5_readNumber 23 = .ok (.aload_n 0, 1) := by decide +kernel
theorem dX5_readNumber_24 : decode cX5_readNumber 24 = .ok (.invokevirtual 37, 3) := by decide +kernel
theorem dX5_readNumber_27 : decode cX5_readNumber 27 = .ok (.iadd, 1) := by decide +kernel
theorem dX5_readNumber_28 : decode cX5_readNumber 28 = .ok (.bipush 48, 2) := by decide +kernel
theorem dX5_readNumber_30 : decode cX5_readNumber 30 = .ok (.isub, 1) := by decide +kernel
theorem dX5_readNumber_31 : decode cX5_readNumber 31 = .ok (.istore_n 1, 1) := by decide +kernel
theorem dX5_readNumber_32 : decode cX5_readNumber 32 = .ok (.aload_n 0, 1) := by decide +kernel
theorem dX5_readNumber_33 : decode cX5_readNumber 33 = .ok (.dup, 1) := by decide +kernel
theorem dX5_readNumber_34 : decode cX5_readNumber 34 = .ok (.getfield 22, 3) := by decide +kernel
theorem dX5_readNumber_37 : decode cX5_readNumber 37 = .ok (.iconst 1, 1) := by decide +kernel
theorem dX5_readNumber_38 : decode cX5_readNumber 38 = .ok (.iadd, 1) := by decide +kernel
theorem dX5_readNumber_39 : decode cX5_readNumber 39 = .ok (.putfield 22, 3) := by decide +kernel
theorem dX5_readNumber_42 : decode cX5_readNumber 42 = .ok (.iinc 2 1, 3) := by decide +kernel
theorem dX5_readNumber_45 : decode cX5_readNumber 45 = .ok (.goto (-41), 3) := by decide +kernel
theorem dX5_readNumber_48 : decode cX5_readNumber 48 = .ok (.aload_n 0, 1) := by decide +kernel
theorem dX5_readNumber_49 : decode cX5_readNumber 49 = .ok (.bipush 48, 2) := by decide +kernel
theorem dX5_readNumber_51 : decode cX5_readNumber 51 = .ok (.iload_n 1, 1) := by decide +kernel
theorem dX5_readNumber_52 : decode cX5_readNumber 52 = .ok (.invokevirtual 41, 3) := by decide +kernel
theorem dX5_readNumber_55 : decode cX5_readNumber 55 = .ok (.pop, 1) := by decide +kernel
theorem dX5_readNumber_56 : decode cX5_readNumber 56 = .ok (.aload_n 0, 1) := by decide +kernel
theorem dX5_readNumber_57 : decode cX5_readNumber 57 = .ok (.invokevirtual 37, 3) := by decide +kernel
theorem dX5_readNumber_60 : decode cX5_readNumber 60 = .ok (.invokestatic 58, 3) := by decide +kernel
theorem dX5_readNumber_63 : decode cX5_readNumber 63 = .ok (.ifCond .ne 7, 3) := by decide +kernel
theorem dX5_readNumber_66 : decode cX5_readNumber 66 = .ok (.iconst 1, 1) := by decide +kernel
theorem dX5_readNumber_67 : decode cX5_readNumber 67 = .ok (.goto 4, 3) := by decide +kernel
theorem dX5_readNumber_70 : decode cX5_readNumber 70 = .ok (.iconst 0, 1) := by decide +kernel
theorem dX5_readNumber_71 : decode cX5_readNumber 71 = .ok (.ireturn, 1) := by decide +kernel
theorem dX6_init_0 : decode cX6_init 0 = .ok (.aload_n 0, 1) := by decide +kernel
theorem dX6_init_1 : decode cX6_init 1 = .ok (.invokespecial 3, 3) := by decide +kernel
theorem dX6_init_4 : decode cX6_init 4 = .ok (.aload_n 0, 1) := by decide +kernel
theorem dX6_init_5 : decode cX6_init 5 = .ok (.iload_n 1, 1) := by decide +kernel
theorem dX6_init_6 : decode cX6_init 6 = .ok (.putfield 9, 3) := by decide +kernel
theorem dX6_init_9 : decode cX6_init 9 = .ok (.aload_n 0, 1) := by decide +kernel
theorem dX6_init_10 : decode cX6_init 10 = .ok (.iload_n 2, 1) := by decide +kernel
theorem dX6_init_11 : decode cX6_init 11 = .ok (.putfield 15, 3) := by decide +kernel
theorem dX6_init_14 : decode cX6_init 14 = .ok (.aload_n 0, 1) := by decide +kernel
theorem dX6_init_15 : decode cX6_init 15 = .ok (.iload_n 1, 1) := by decide +kernel
theorem dX6_init_16 : decode cX6_init 16 = .ok (.iload_n 2, 1) := by decide +kernel
theorem dX6_init_17 : decode cX6_init 17 = .ok (.imul, 1) := by decide +kernel
theorem dX6_init_18 : decode cX6_init 18 = .ok (.newarray .int, 2) := by decide +kernel
theorem dX6_init_20 : decode cX6_init 20 = .ok (.putfield 18, 3) := by decide +kernel
theorem dX6_init_23 : decode cX6_init 23 = .ok (.return_, 1) := by decide +kernel
theorem dX6_has_0 : decode cX6_has 0 = .ok (.iload_n 1, 1) := by decide +kernel
theorem dX6_has_1 : decode cX6_has 1 = .ok (.ifCond .lt 15, 3) := by decide +kernel
theorem dX6_has_4 : decode cX6_has 4 = .ok (.iload_n 1, 1) := by decide +kernel
theorem dX6_has_5 : decode cX6_has 5 = .ok (.aload_n 0, 1) := by decide +kernel
theorem dX6_has_6 : decode cX6_has 6 = .ok (.getfield 22, 3) := by decide +kernel
theorem dX6_has_9 : decode cX6_has 9 = .ok (.if_icmp .ge 7, 3) := by decide +kernel
theorem dX6_has_12 : decode cX6_has 12 = .ok (.iconst 1, 1) := by decide +kernel
theorem dX6_has_13 : decode cX6_has 13 = .ok (.goto 4, 3) := by decide +kernel
theorem dX6_has_16 : decode cX6_has 16 = .ok (.iconst 0, 1) := by decide +kernel
theorem dX6_has_17 : decode cX6_has 17 = .ok (.ireturn, 1) := by decide +kernel
theorem dX6_isFull_0 : decode cX6_isFull 0 = .ok (.aload_n 0, 1) := by decide +kernel
theorem dX6_isFull_1 : decode cX6_isFull 1 = .ok (.getfield 22, 3) := by decide +kernel
theorem dX6_isFull_4 : decode cX6_isFull 4 = .ok (.aload_n 0, 1) := by decide +kernel
theorem dX6_isFull_5 : decode cX6_isFull 5 = .ok (.getfield 9, 3) := by decide +kernel
theorem dX6_isFull_8 : decode cX6_isFull 8 = .ok (.if_icmp .lt 7, 3) := by decide +kernel
theorem dX6_isFull_11 : decode cX6_isFull 11 = .ok (.iconst 1, 1) := by decide +kernel
theorem dX6_isFull_12 : decode cX6_isFull 12 = .ok (.goto 4, 3) := by decide +kernel
theorem dX6_isFull_15 : decode cX6_isFull 15 = .ok (.iconst 0, 1) := by decide +kernel
theorem dX6_isFull_16 : decode cX6_isFull 16 = .ok (.ireturn, 1) := by decide +kernel
theorem dX6_isCell_0 : decode cX6_isCell 0 = .ok (.aload_n 0, 1) := by decide +kernel
theorem dX6_isCell_1 : decode cX6_isCell 1 = .ok (.iload_n 1, 1) := by decide +kernel
theorem dX6_isCell_2 : decode cX6_isCell 2 = .ok (.invokevirtual 25, 3) := by decide +kernel
theorem dX6_isCell_5 : decode cX6_isCell 5 = .ok (.ifCond .eq 19, 3) := by decide +kernel
theorem dX6_isCell_8 : decode cX6_isCell 8 = .ok (.iload_n 2, 1) := by decide +kernel
theorem dX6_isCell_9 : decode cX6_isCell 9 = .ok (.ifCond .lt 15, 3) := by decide +kernel
theorem dX6_isCell_12 : decode cX6_isCell 12 = .ok (.iload_n 2, 1) := by decide +kernel
theorem dX6_isCell_13 : decode cX6_isCell 13 = .ok (.aload_n 0, 1) := by decide +kernel
theorem dX6_isCell_14 : decode cX6_isCell 14 = .ok (.getfield 15, 3) := by decide +kernel
theorem dX6_isCell_17 : decode cX6_isCell 17 = .ok (.if_icmp .ge 7, 3) := by decide +kernel
theorem dX6_isCell_20 : decode cX6_isCell 20 = .ok (.iconst 1, 1) := by decide +kernel
theorem dX6_isCell_21 : decode cX6_isCell 21 = .ok (.goto 4, 3) := by decide +kernel
theorem dX6_isCell_24 : decode cX6_isCell 24 = .ok (.iconst 0, 1) := by decide +kernel
theorem dX6_isCell_25 : decode cX6_isCell 25 = .ok (.ireturn, 1) := by decide +kernel
theorem dX6_add_0 : decode cX6_add 0 = .ok (.aload_n 0, 1) := by decide +kernel
theorem dX6_add_1 : decode cX6_add 1 = .ok (.invokevirtual 29, 3) := by decide +kernel
theorem dX6_add_4 : decode cX6_add 4 = .ok (.ifCond .eq 6, 3) := by decide +kernel
theorem dX6_add_7 : decode cX6_add 7 = .ok (.bipush (-2), 2) := by decide +kernel
theorem dX6_add_9 : decode cX6_add 9 = .ok (.ireturn, 1) := by decide +kernel
theorem dX6_add_10 : decode cX6_add 10 = .ok (.aload_n 0, 1) := by decide +kernel
theorem dX6_add_11 : decode cX6_add 11 = .ok (.dup, 1) := by decide +kernel
theorem dX6_add_12 : decode cX6_add 12 = .ok (.getfield 22, 3) := by decide +kernel
theorem dX6_add_15 : decode cX6_add 15 = .ok (.iconst 1, 1) := by decide +kernel
theorem dX6_add_16 : decode cX6_add 16 = .ok (.iadd, 1) := by decide +kernel
theorem dX6_add_17 : decode cX6_add 17 = .ok (.putfield 22, 3) := by decide +kernel
theorem dX6_add_20 : decode cX6_add 20 = .ok (.aload_n 0, 1) := by decide +kernel
theorem dX6_add_21 : decode cX6_add 21 = .ok (.getfield 22, 3) := by decide +kernel
theorem dX6_add_24 : decode cX6_add 24 = .ok (.iconst 1, 1) := by decide +kernel
theorem dX6_add_25 : decode cX6_add 25 = .ok (.isub, 1) := by decide +kernel
theorem dX6_add_26 : decode cX6_add 26 = .ok (.ireturn, 1) := by decide +kernel
theorem dX6_get_0 : decode cX6_get 0 = .ok (.iload_n 1, 1) := by decide +kernel
theorem dX6_get_1 : decode cX6_get 1 = .ok (.ifCond .lt 27, 3) := by decide +kernel
theorem dX6_get_4 : decode cX6_get 4 = .ok (.iload_n 1, 1) := by decide +kernel
theorem dX6_get_5 : decode cX6_get 5 = .ok (.aload_n 0, 1) := by decide +kernel
theorem dX6_get_6 : decode cX6_get 6 = .ok (.getfield 22, 3) := by decide +kernel
theorem dX6_get_9 : decode cX6_get 9 = .ok (.if_icmp .ge 19, 3) := by decide +kernel
theorem dX6_get_12 : decode cX6_get 12 = .ok (.iload_n 2, 1) := by decide +kernel
theorem dX6_get_13 : decode cX6_get 13 = .ok (.ifCond .lt 15, 3) := by decide +kernel
theorem dX6_get_16 : decode cX6_get 16 = .ok (.iload_n 2, 1) := by decide +kernel
theorem dX6_get_17 : decode cX6_get 17 = .ok (.aload_n 0, 1) := by decide +kernel
theorem dX6_get_18 : decode cX6_get 18 = .ok (.getfield 15, 3) := by decide +kernel
theorem dX6_get_21 : decode cX6_get 21 = .ok (.if_icmp .ge 7, 3) := by decide +kernel
theorem dX6_get_24 : decode cX6_get 24 = .ok (.iconst 1, 1) := by decide +kernel
theorem dX6_get_25 : decode cX6_get 25 = .ok (.goto 4, 3) := by decide +kernel
theorem dX6_get_28 : decode cX6_get 28 = .ok (.iconst 0, 1) := by decide +kernel
theorem dX6_get_29 : decode cX6_get 29 = .ok (.istore_n 3, 1) := by decide +kernel
theorem dX6_get_30 : decode cX6_get 30 = .ok (.iload_n 3, 1) := by decide +kernel
theorem dX6_get_31 : decode cX6_get 31 = .ok (.ifCond .eq 19, 3) := by decide +kernel
theorem dX6_get_34 : decode cX6_get 34 = .ok (.aload_n 0, 1) := by decide +kernel
theorem dX6_get_35 : decode cX6_get 35 = .ok (.getfield 18, 3) := by decide +kernel
theorem dX6_get_38 : decode cX6_get 38 = .ok (.iload_n 1, 1) := by decide +kernel
theorem dX6_get_39 : decode cX6_get 39 = .ok (.aload_n 0, 1) := by decide +kernel
theorem dX6_get_40 : decode cX6_get 40 = .ok (.getfield 15, 3) := by decide +kernel
theorem dX6_get_43 : decode cX6_get 43 = .ok (.imul, 1) := by decide +kernel
theorem dX6_get_44 : decode cX6_get 44 = .ok (.iload_n 2, 1) := by decide +kernel
theorem dX6_get_45 : decode cX6_get 45 = .ok (.iadd, 1) := by decide +kernel
theorem dX6_get_46 : decode cX6_get 46 = .ok (.iaload, 1) := by decide +kernel
theorem dX6_get_47 : decode cX6_get 47 = .ok (.goto 4, 3) := by decide +kernel
theorem dX6_get_50 : decode cX6_get 50 = .ok (.iconst (-1), 1) := by decide +kernel
theorem dX6_get_51 : decode cX6_get 51 = .ok (.ireturn, 1) := by decide +kernel
theorem dX6_set_0 : decode cX6_set 0 = .ok (.iload_n 1, 1) := by decide +kernel
theorem dX6_set_1 : decode cX6_set 1 = .ok (.ifCond .lt 37, 3) := by decide +kernel
theorem dX6_set_4 : decode cX6_set 4 = .ok (.iload_n 1, 1) := by decide +kernel
theorem dX6_set_5 : decode cX6_set 5 = .ok (.aload_n 0, 1) := by decide +kernel
theorem dX6_set_6 : decode cX6_set 6 = .ok (.getfield 22, 3) := by decide +kernel
theorem dX6_set_9 : decode cX6_set 9 = .ok (.if_icmp .ge 29, 3) := by decide +kernel
theorem dX6_set_12 : decode cX6_set 12 = .ok (.iload_n 2, 1) := by decide +kernel
theorem dX6_set_13 : decode cX6_set 13 = .ok (.ifCond .lt 25, 3) := by decide +kernel
theorem dX6_set_16 : decode cX6_set 16 = .ok (.iload_n 2, 1) := by decide +kernel
theorem dX6_set_17 : decode cX6_set 17 = .ok (.aload_n 0, 1) := by decide +kernel
theorem dX6_set_18 : decode cX6_set 18 = .ok (.getfield 15, 3) := by decide +kernel
theorem dX6_set_21 : decode cX6_set 21 = .ok (.if_icmp .ge 17, 3) := by decide +kernel
theorem dX6_set_24 : decode cX6_set 24 = .ok (.aload_n 0, 1) := by decide +kernel
theorem dX6_set_25 : decode cX6_set 25 = .ok (.getfield 18, 3) := by decide +kernel
theorem dX6_set_28 : decode cX6_set 28 = .ok (.iload_n 1, 1) := by decide +kernel
theorem dX6_set_29 : decode cX6_set 29 = .ok (.aload_n 0, 1) := by decide +kernel
theorem dX6_set_30 : decode cX6_set 30 = .ok (.getfield 15, 3) := by decide +kernel
theorem dX6_set_33 : decode cX6_set 33 = .ok (.imul, 1) := by decide +kernel
theorem dX6_set_34 : decode cX6_set 34 = .ok (.iload_n 2, 1) := by decide +kernel
theorem dX6_set_35 : decode cX6_set 35 = .ok (.iadd, 1) := by decide +kernel
theorem dX6_set_36 : decode cX6_set 36 = .ok (.iload_n 3, 1) := by decide +kernel
theorem dX6_set_37 : decode cX6_set 37 = .ok (.iastore, 1) := by decide +kernel
theorem dX6_set_38 : decode cX6_set 38 = .ok (.return_, 1) := by decide +kernel
theorem dX7_init_0 : decode cX7_init 0 = .ok (.aload_n 0, 1) := by decide +kernel
theorem dX7_init_1 : decode cX7_init 1 = .ok (.invokespecial 3, 3) := by decide +kernel
theorem dX7_init_4 : decode cX7_init 4 = .ok (.aload_n 0, 1) := by decide +kernel
theorem dX7_init_5 : decode cX7_init 5 = .ok (.new 9, 3) := by decide +kernel
theorem dX7_init_8 : decode cX7_init 8 = .ok (.dup, 1) := by decide +kernel
theorem dX7_init_9 : decode cX7_init 9 = .ok (.bipush 60, 2) := by decide +kernel
theorem dX7_init_11 : decode cX7_init 11 = .ok (.iconst 4, 1) := by decide +kernel
theorem dX7_init_12 : decode cX7_init 12 = .ok (.invokespecial 11, 3) := by decide +kernel
theorem dX7_init_15 : decode cX7_init 15 = .ok (.putfield 14, 3) := by decide +kernel
theorem dX7_init_18 : decode cX7_init 18 = .ok (.aload_n 0, 1) := by decide +kernel
theorem dX7_init_19 : decode cX7_init 19 = .ok (.new 9, 3) := by decide +kernel
theorem dX7_init_22 : decode cX7_init 22 = .ok (.dup, 1) := by decide +kernel
theorem dX7_init_23 : decode cX7_init 23 = .ok (.bipush 60, 2) := by decide +kernel
theorem dX7_init_25 : decode cX7_init 25 = .ok (.iconst 3, 1) := by decide +kernel
theorem dX7_init_26 : decode cX7_init 26 = .ok (.invokespecial 11, 3) := by decide +kernel
theorem dX7_init_29 : decode cX7_init 29 = .ok (.putfield 18, 3) := by decide +kernel
theorem dX7_init_32 : decode cX7_init 32 = .ok (.return_, 1) := by decide +kernel
theorem dX7_addLost_0 : decode cX7_addLost 0 = .ok (.aload_n 0, 1) := by decide +kernel
theorem dX7_addLost_1 : decode cX7_addLost 1 = .ok (.getfield 14, 3) := by decide +kernel
theorem dX7_addLost_4 : decode cX7_addLost 4 = .ok (.invokevirtual 21, 3) := by decide +kernel
theorem dX7_addLost_7 : decode cX7_addLost 7 = .ok (.istore 5, 2) := by decide +kernel
theorem dX7_addLost_9 : decode cX7_addLost 9 = .ok (.aload_n 0, 1) := by decide +kernel
theorem dX7_addLost_10 : decode cX7_addLost 10 = .ok (.getfield 14, 3) := by decide +kernel
theorem dX7_addLost_13 : decode cX7_addLost 13 = .ok (.iload 5, 2) := by decide +kernel
theorem dX7_addLost_15 : decode cX7_addLost 15 = .ok (.iconst 0, 1) := by decide +kernel
theorem dX7_addLost_16 : decode cX7_addLost 16 = .ok (.iload_n 1, 1) := by decide +kernel
theorem dX7_addLost_17 : decode cX7_addLost 17 = .ok (.invokevirtual 25, 3) := by decide +kernel
theorem dX7_addLost_20 : decode cX7_addLost 20 = .ok (.aload_n 0, 1) := by decide +kernel
theorem dX7_addLost_21 : decode cX7_addLost 21 = .ok (.getfield 14, 3) := by decide +kernel
theorem dX7_addLost_24 : decode cX7_addLost 24 = .ok (.iload 5, 2) := by decide +kernel
theorem dX7_addLost_26 : decode cX7_addLost 26 = .ok (.iconst 1, 1) := by decide +kernel
theorem dX7_addLost_27 : decode cX7_addLost 27 = .ok (.iload_n 2, 1) := by decide +kernel
theorem dX7_addLost_28 : decode cX7_addLost 28 = .ok (.invokevirtual 25, 3) := by decide +kernel
theorem dX7_addLost_31 : decode cX7_addLost 31 = .ok (.aload_n 0, 1) := by decide +kernel
theorem dX7_addLost_32 : decode cX7_addLost 32 = .ok (.getfield 14, 3) := by decide +kernel
theorem dX7_addLost_35 : decode cX7_addLost 35 = .ok (.iload 5, 2) := by decide +kernel
theorem dX7_addLost_37 : decode cX7_addLost 37 = .ok (.iconst 2, 1) := by decide +kernel
theorem dX7_addLost_38 : decode cX7_addLost 38 = .ok (.iload_n 3, 1) := by decide +kernel
theorem dX7_addLost_39 : decode cX7_addLost 39 = .ok (.invokevirtual 25, 3) := by decide +kernel
theorem dX7_addLost_42 : decode cX7_addLost 42 = .ok (.aload_n 0, 1) := by decide +kernel
theorem dX7_addLost_43 : decode cX7_addLost 43 = .ok (.getfield 14, 3) := by decide +kernel
theorem dX7_addLost_46 : decode cX7_addLost 46 = .ok (.iload 5, 2) := by decide +kernel
theorem dX7_addLost_48 : decode cX7_addLost 48 = .ok (.iconst 3, 1) := by decide +kernel
theorem dX7_addLost_49 : decode cX7_addLost 49 = .ok (.iload 4, 2) := by decide +kernel
theorem dX7_addLost_51 : decode cX7_addLost 51 = .ok (.invokevirtual 25, 3) := by decide +kernel
theorem dX7_addLost_54 : decode cX7_addLost 54 = .ok (.iload 5, 2) := by decide +kernel
theorem dX7_addLost_56 : decode cX7_addLost 56 = .ok (.ireturn, 1) := by decide +kernel
theorem dX7_addFound_0 : decode cX7_addFound 0 = .ok (.aload_n 0, 1) := by decide +kernel
theorem dX7_addFound_1 : decode cX7_addFound 1 = .ok (.getfield 18, 3) := by decide +kernel
theorem dX7_addFound_4 : decode cX7_addFound 4 = .ok (.invokevirtual 21, 3) := by decide +kernel
theorem dX7_addFound_7 : decode cX7_addFound 7 = .ok (.istore 4, 2) := by decide +kernel
theorem dX7_addFound_9 : decode cX7_addFound 9 = .ok (.aload_n 0, 1) := by decide +kernel
theorem dX7_addFound_10 : decode cX7_addFound 10 = .ok (.getfield 18, 3) := by decide +kernel
theorem dX7_addFound_13 : decode cX7_addFound 13 = .ok (.iload 4, 2) := by decide +kernel
theorem dX7_addFound_15 : decode cX7_addFound 15 = .ok (.iconst 0, 1) := by decide +kernel
theorem dX7_addFound_16 : decode cX7_addFound 16 = .ok (.iload_n 1, 1) := by decide +kernel
theorem dX7_addFound_17 : decode cX7_addFound 17 = .ok (.invokevirtual 25, 3) := by decide +kernel
theorem dX7_addFound_20 : decode cX7_addFound 20 = .ok (.aload_n 0, 1) := by decide +kernel
theorem dX7_addFound_21 : decode cX7_addFound 21 = .ok (.getfield 18, 3) := by decide +kernel
theorem dX7_addFound_24 : decode cX7_addFound 24 = .ok (.iload 4, 2) := by decide +kernel
theorem dX7_addFound_26 : decode cX7_addFound 26 = .ok (.iconst 1, 1) := by decide +kernel
theorem dX7_addFound_27 : decode cX7_addFound 27 = .ok (.iload_n 2, 1) := by decide +kernel
theorem dX7_addFound_28 : decode cX7_addFound 28 = .ok (.invokevirtual 25, 3) := by decide +kernel
theorem dX7_addFound_31 : decode cX7_addFound 31 = .ok (.aload_n 0, 1) := by decide +kernel
theorem dX7_addFound_32 : decode cX7_addFound 32 = .ok (.getfield 18, 3) := by decide +kernel
theorem dX7_addFound_35 : decode cX7_addFound 35 = .ok (.iload 4, 2) := by decide +kernel
theorem dX7_addFound_37 : decode cX7_addFound 37 = .ok (.iconst 2, 1) := by decide +kernel
theorem dX7_addFound_38 : decode cX7_addFound 38 = .ok (.iload_n 3, 1) := by decide +kernel
theorem dX7_addFound_39 : decode cX7_addFound 39 = .ok (.invokevirtual 25, 3) := by decide +kernel
theorem dX7_addFound_42 : decode cX7_addFound 42 = .ok (.iload 4, 2) := by decide +kernel
theorem dX7_addFound_44 : decode cX7_addFound 44 = .ok (.ireturn, 1) := by decide +kernel
theorem dX7_isPlate_0 : decode cX7_isPlate 0 = .ok (.iload_n 0, 1) := by decide +kernel
theorem dX7_isPlate_1 : decode cX7_isPlate 1 = .ok (.istore_n 2, 1) := by decide +kernel
theorem dX7_isPlate_2 : decode cX7_isPlate 2 = .ok (.iload_n 1, 1) := by decide +kernel
theorem dX7_isPlate_3 : decode cX7_isPlate 3 = .ok (.istore_n 3, 1) := by decide +kernel
theorem dX7_isPlate_4 : decode cX7_isPlate 4 = .ok (.iconst 0, 1) := by decide +kernel
theorem dX7_isPlate_5 : decode cX7_isPlate 5 = .ok (.istore 4, 2) := by decide +kernel
theorem dX7_isPlate_7 : decode cX7_isPlate 7 = .ok (.iload 4, 2) := by decide +kernel
theorem dX7_isPlate_9 : decode cX7_isPlate 9 = .ok (.iconst 4, 1) := by decide +kernel
theorem dX7_isPlate_10 : decode cX7_isPlate 10 = .ok (.if_icmp .ge 43, 3) := by decide +kernel
theorem dX7_isPlate_13 : decode cX7_isPlate 13 = .ok (.iload_n 2, 1) := by decide +kernel
theorem dX7_isPlate_14 : decode cX7_isPlate 14 = .ok (.bipush 11, 2) := by decide +kernel
theorem dX7_isPlate_16 : decode cX7_isPlate 16 = .ok (.irem, 1) := by decide +kernel
theorem dX7_isPlate_17 : decode cX7_isPlate 17 = .ok (.istore 5, 2) := by decide +kernel
theorem dX7_isPlate_19 : decode cX7_isPlate 19 = .ok (.iload 5, 2) := by decide +kernel
theorem dX7_isPlate_21 : decode cX7_isPlate 21 = .ok (.bipush 10, 2) := by decide +kernel
theorem dX7_isPlate_23 : decode cX7_isPlate 23 = .ok (.if_icmp .eq 14, 3) := by decide +kernel
theorem dX7_isPlate_26 : decode cX7_isPlate 26 = .ok (.iload 5, 2) := by decide +kernel
theorem dX7_isPlate_28 : decode cX7_isPlate 28 = .ok (.iload_n 3, 1) := by decide +kernel
theorem dX7_isPlate_29 : decode cX7_isPlate 29 = .ok (.bipush 10, 2) := by decide +kernel
theorem dX7_isPlate_31 : decode cX7_isPlate 31 = .ok (.irem, 1) := by decide +kernel
theorem dX7_isPlate_32 : decode cX7_isPlate 32 = .ok (.if_icmp .eq 5, 3) := by decide +kernel
theorem dX7_isPlate_35 : decode cX7_isPlate 35 = .ok (.iconst 0, 1) := by decide +kernel
theorem dX7_isPlate_36 : decode cX7_isPlate 36 = .ok (.ireturn, 1) := by decide +kernel
theorem dX7_isPlate_37 : decode cX7_isPlate 37 = .ok (.iload_n 2, 1) := by decide +kernel
theorem dX7_isPlate_38 : decode cX7_isPlate 38 = .ok (.bipush 11, 2) := by decide +kernel
theorem dX7_isPlate_40 : decode cX7_isPlate 40 = .ok (.idiv, 1) := by decide +kernel
theorem dX7_isPlate_41 : decode cX7_isPlate 41 = .ok (.istore_n 2, 1) := by decide +kernel
theorem dX7_isPlate_42 : decode cX7_isPlate 42 = .ok (.iload_n 3, 1) := by decide +kernel
theorem dX7_isPlate_43 : decode cX7_isPlate 43 = .ok (.bipush 10, 2) := by decide +kernel
theorem dX7_isPlate_45 : decode cX7_isPlate 45 = .ok (.idiv, 1) := by decide +kernel
theorem dX7_isPlate_46 : decode cX7_isPlate 46 = .ok (.istore_n 3, 1) := by decide +kernel
theorem dX7_isPlate_47 : decode cX7_isPlate 47 = .ok (.iinc 4 1, 3) := by decide +kernel
theorem dX7_isPlate_50 : decode cX7_isPlate 50 = .ok (.goto (-43), 3) := by decide +kernel
theorem dX7_isPlate_53 : decode cX7_isPlate 53 = .ok (.iconst 1, 1) := by decide +kernel
theorem dX7_isPlate_54 : decode cX7_isPlate 54 = .ok (.ireturn, 1) := by decide +kernel
theorem dX8_init_0 : decode cX8_init 0 = .ok (.aload_n 0, 1) := by decide +kernel
theorem dX8_init_1 : decode cX8_init 1 = .ok (.invokespecial 1, 3) := by decide +kernel
theorem dX8_init_4 : decode cX8_init 4 = .ok (.aload_n 0, 1) := by decide +kernel
theorem dX8_init_5 : decode cX8_init 5 = .ok (.new 7, 3) := by decide +kernel
theorem dX8_init_8 : decode cX8_init 8 = .ok (.dup, 1) := by decide +kernel
theorem dX8_init_9 : decode cX8_init 9 = .ok (.sipush 300, 3) := by decide +kernel
theorem dX8_init_12 : decode cX8_init 12 = .ok (.bipush 13, 2) := by decide +kernel
theorem dX8_init_14 : decode cX8_init 14 = .ok (.invokespecial 11, 3) := by decide +kernel
theorem dX8_init_17 : decode cX8_init 17 = .ok (.putfield 14, 3) := by decide +kernel
theorem dX8_init_20 : decode cX8_init 20 = .ok (.aload_n 0, 1) := by decide +kernel
theorem dX8_init_21 : decode cX8_init 21 = .ok (.new 7, 3) := by decide +kernel
theorem dX8_init_24 : decode cX8_init 24 = .ok (.dup, 1) := by decide +kernel
theorem dX8_init_25 : decode cX8_init 25 = .ok (.iconst 1, 1) := by decide +kernel
theorem dX8_init_26 : decode cX8_init 26 = .ok (.bipush 13, 2) := by decide +kernel
theorem dX8_init_28 : decode cX8_init 28 = .ok (.invokespecial 11, 3) := by decide +kernel
theorem dX8_init_31 : decode cX8_init 31 = .ok (.putfield 18, 3) := by decide +kernel
theorem dX8_init_34 : decode cX8_init 34 = .ok (.aload_n 0, 1) := by decide +kernel
theorem dX8_init_35 : decode cX8_init 35 = .ok (.new 7, 3) := by decide +kernel
theorem dX8_init_38 : decode cX8_init 38 = .ok (.dup, 1) := by decide +kernel
theorem dX8_init_39 : decode cX8_init 39 = .ok (.sipush 300, 3) := by decide +kernel
theorem dX8_init_42 : decode cX8_init 42 = .ok (.iconst 4, 1) := by decide +kernel
theorem dX8_init_43 : decode cX8_init 43 = .ok (.invokespecial 11, 3) := by decide +kernel
theorem dX8_init_46 : decode cX8_init 46 = .ok (.putfield 21, 3) := by decide +kernel
theorem dX8_init_49 : decode cX8_init 49 = .ok (.aload_n 0, 1) := by decide +kernel
theorem dX8_init_50 : decode cX8_init 50 = .ok (.getfield 18, 3) := by decide +kernel
theorem dX8_init_53 : decode cX8_init 53 = .ok (.invokevirtual 24, 3) := by decide +kernel
theorem dX8_init_56 : decode cX8_init 56 = .ok (.pop, 1) := by decide +kernel
theorem dX8_init_57 : decode cX8_init 57 = .ok (.return_, 1) := by decide +kernel
theorem dX8_draftCoach_0 : decode cX8_draftCoach 0 = .ok (.aload_n 0, 1) := by decide +kernel
theorem dX8_draftCoach_1 : decode cX8_draftCoach 1 = .ok (.getfield 18, 3) := by decide +kernel
theorem dX8_draftCoach_4 : decode cX8_draftCoach 4 = .ok (.iconst 0, 1) := by decide +kernel
theorem dX8_draftCoach_5 : decode cX8_draftCoach 5 = .ok (.iconst 0, 1) := by decide +kernel
theorem dX8_draftCoach_6 : decode cX8_draftCoach 6 = .ok (.iload_n 1, 1) := by decide +kernel
theorem dX8_draftCoach_7 : decode cX8_draftCoach 7 = .ok (.invokevirtual 28, 3) := by decide +kernel
theorem dX8_draftCoach_10 : decode cX8_draftCoach 10 = .ok (.aload_n 0, 1) := by decide +kernel
theorem dX8_draftCoach_11 : decode cX8_draftCoach 11 = .ok (.getfield 18, 3) := by decide +kernel
theorem dX8_draftCoach_14 : decode cX8_draftCoach 14 = .ok (.iconst 0, 1) := by decide +kernel
theorem dX8_draftCoach_15 : decode cX8_draftCoach 15 = .ok (.bipush 12, 2) := by decide +kernel
theorem dX8_draftCoach_17 : decode cX8_draftCoach 17 = .ok (.iload_n 2, 1) := by decide +kernel
theorem dX8_draftCoach_18 : decode cX8_draftCoach 18 = .ok (.invokevirtual 28, 3) := by decide +kernel
theorem dX8_draftCoach_21 : decode cX8_draftCoach 21 = .ok (.aload_n 0, 1) := by decide +kernel
theorem dX8_draftCoach_22 : decode cX8_draftCoach 22 = .ok (.getfield 18, 3) := by decide +kernel
theorem dX8_draftCoach_25 : decode cX8_draftCoach 25 = .ok (.iconst 0, 1) := by decide +kernel
theorem dX8_draftCoach_26 : decode cX8_draftCoach 26 = .ok (.bipush 11, 2) := by decide +kernel
theorem dX8_draftCoach_28 : decode cX8_draftCoach 28 = .ok (.iload_n 3, 1) := by decide +kernel
theorem dX8_draftCoach_29 : decode cX8_draftCoach 29 = .ok (.invokevirtual 28, 3) := by decide +kernel
theorem dX8_draftCoach_32 : decode cX8_draftCoach 32 = .ok (.return_, 1) := by decide +kernel
theorem dX8_draftTimes_0 : decode cX8_draftTimes 0 = .ok (.iload_n 1, 1) := by decide +kernel
theorem dX8_draftTimes_1 : decode cX8_draftTimes 1 = .ok (.iload_n 2, 1) := by decide +kernel
theorem dX8_draftTimes_2 : decode cX8_draftTimes 2 = .ok (.iadd, 1) := by decide +kernel
theorem dX8_draftTimes_3 : decode cX8_draftTimes 3 = .ok (.aload_n 0, 1) := by decide +kernel
theorem dX8_draftTimes_4 : decode cX8_draftTimes 4 = .ok (.getfield 18, 3) := by decide +kernel
theorem dX8_draftTimes_7 : decode cX8_draftTimes 7 = .ok (.iconst 0, 1) := by decide +kernel
theorem dX8_draftTimes_8 : decode cX8_draftTimes 8 = .ok (.bipush 9, 2) := by decide +kernel
theorem dX8_draftTimes_10 : decode cX8_draftTimes 10 = .ok (.invokevirtual 32, 3) := by decide +kernel
theorem dX8_draftTimes_13 : decode cX8_draftTimes 13 = .ok (.iadd, 1) := by decide +kernel
theorem dX8_draftTimes_14 : decode cX8_draftTimes 14 = .ok (.istore_n 3, 1) := by decide +kernel
theorem dX8_draftTimes_15 : decode cX8_draftTimes 15 = .ok (.aload_n 0, 1) := by decide +kernel
theorem dX8_draftTimes_16 : decode cX8_draftTimes 16 = .ok (.getfield 18, 3) := by decide +kernel
theorem dX8_draftTimes_19 : decode cX8_draftTimes 19 = .ok (.iconst 0, 1) := by decide +kernel
theorem dX8_draftTimes_20 : decode cX8_draftTimes 20 = .ok (.iconst 4, 1) := by decide +kernel
theorem dX8_draftTimes_21 : decode cX8_draftTimes 21 = .ok (.aload_n 0, 1) := by decide +kernel
theorem dX8_draftTimes_22 : decode cX8_draftTimes 22 = .ok (.getfield 18, 3) := by decide +kernel
theorem dX8_draftTimes_25 : decode cX8_draftTimes 25 = .ok (.iconst 0, 1) := by decide +kernel
theorem dX8_draftTimes_26 : decode cX8_draftTimes 26 = .ok (.iconst 3, 1) := by decide +kernel
theorem dX8_draftTimes_27 : decode cX8_draftTimes 27 = .ok (.invokevirtual 32, 3) := by decide +kernel
theorem dX8_draftTimes_30 : decode cX8_draftTimes 30 = .ok (.iload_n 1, 1) := by decide +kernel
theorem dX8_draftTimes_31 : decode cX8_draftTimes 31 = .ok (.iadd, 1) := by decide +kernel
theorem dX8_draftTimes_32 : decode cX8_draftTimes 32 = .ok (.invokevirtual 28, 3) := by decide +kernel
theorem dX8_draftTimes_35 : decode cX8_draftTimes 35 = .ok (.aload_n 0, 1) := by decide +kernel
theorem dX8_draftTimes_36 : decode cX8_draftTimes 36 = .ok (.getfield 18, 3) := by decide +kernel
theorem dX8_draftTimes_39 : decode cX8_draftTimes 39 = .ok (.iconst 0, 1) := by decide +kernel
theorem dX8_draftTimes_40 : decode cX8_draftTimes 40 = .ok (.iconst 5, 1) := by decide +kernel
theorem dX8_draftTimes_41 : decode cX8_draftTimes 41 = .ok (.aload_n 0, 1) := by decide +kernel
theorem dX8_draftTimes_42 : decode cX8_draftTimes 42 = .ok (.getfield 18, 3) := by decide +kernel
theorem dX8_draftTimes_45 : decode cX8_draftTimes 45 = .ok (.iconst 0, 1) := by decide +kernel
theorem dX8_draftTimes_46 : decode cX8_draftTimes 46 = .ok (.iconst 3, 1) := by decide +kernel
theorem dX8_draftTimes_47 : decode cX8_draftTimes 47 = .ok (.invokevirtual 32, 3) := by decide +kernel
theorem dX8_draftTimes_50 : decode cX8_draftTimes 50 = .ok (.iload_n 3, 1) := by decide +kernel
theorem dX8_draftTimes_51 : decode cX8_draftTimes 51 = .ok (.iadd, 1) := by decide +kernel
theorem dX8_draftTimes_52 : decode cX8_draftTimes 52 = .ok (.invokevirtual 28, 3) := by decide +kernel
theorem dX8_draftTimes_55 : decode cX8_draftTimes 55 = .ok (.iload_n 3, 1) := by decide +kernel
theorem dX8_draftTimes_56 : decode cX8_draftTimes 56 = .ok (.ireturn, 1) := by decide +kernel
theorem dX8_keepDraft_0 : decode cX8_keepDraft 0 = .ok (.aload_n 0, 1) := by decide +kernel
theorem dX8_keepDraft_1 : decode cX8_keepDraft 1 = .ok (.getfield 14, 3) := by decide +kernel
theorem dX8_keepDraft_4 : decode cX8_keepDraft 4 = .ok (.invokevirtual 24, 3) := by decide +kernel
theorem dX8_keepDraft_7 : decode cX8_keepDraft 7 = .ok (.istore_n 1, 1) := by decide +kernel
theorem dX8_keepDraft_8 : decode cX8_keepDraft 8 = .ok (.iconst 0, 1) := by decide +kernel
theorem dX8_keepDraft_9 : decode cX8_keepDraft 9 = .ok (.istore_n 2, 1) := by decide +kernel
theorem dX8_keepDraft_10 : decode cX8_keepDraft 10 = .ok (.iload_n 2, 1) := by decide +kernel
theorem dX8_keepDraft_11 : decode cX8_keepDraft 11 = .ok (.bipush 13, 2) := by decide +kernel
theorem dX8_keepDraft_13 : decode cX8_keepDraft 13 = .ok (.if_icmp .ge 27, 3) := by decide +kernel
theorem dX8_keepDraft_16 : decode cX8_keepDraft 16 = .ok (.aload_n 0, 1) := by decide +kernel
theorem dX8_keepDraft_17 : decode cX8_keepDraft 17 = .ok (.getfield 14, 3) := by decide +kernel
theorem dX8_keepDraft_20 : decode cX8_keepDraft 20 = .ok (.iload_n 1, 1) := by decide +kernel
theorem dX8_keepDraft_21 : decode cX8_keepDraft 21 = .ok (.iload_n 2, 1) := by decide +kernel
theorem dX8_keepDraft_22 : decode cX8_keepDraft 22 = .ok (.aload_n 0, 1) := by decide +kernel
theorem dX8_keepDraft_23 : decode cX8_keepDraft 23 = .ok (.getfield 18, 3) := by decide +kernel
theorem dX8_keepDraft_26 : decode cX8_keepDraft 26 = .ok (.iconst 0, 1) := by decide +kernel
theorem dX8_keepDraft_27 : decode cX8_keepDraft 27 = .ok (.iload_n 2, 1) := by decide +kernel
theorem dX8_keepDraft_28 : decode cX8_keepDraft 28 = .ok (.invokevirtual 32, 3) := by decide +kernel
theorem dX8_keepDraft_31 : decode cX8_keepDraft 31 = .ok (.invokevirtual 28, 3) := by decide +kernel
theorem dX8_keepDraft_34 : decode cX8_keepDraft 34 = .ok (.iinc 2 1, 3) := by decide +kernel
theorem dX8_keepDraft_37 : decode cX8_keepDraft 37 = .ok (.goto (-27), 3) := by decide +kernel
theorem dX8_keepDraft_40 : decode cX8_keepDraft 40 = .ok (.iload_n 1, 1) := by decide +kernel
theorem dX8_keepDraft_41 : decode cX8_keepDraft 41 = .ok (.ireturn, 1) := by decide +kernel
theorem dX8_noteRefusal_0 : decode cX8_noteRefusal 0 = .ok (.aload_n 0, 1) := by decide +kernel
theorem dX8_noteRefusal_1 : decode cX8_noteRefusal 1 = .ok (.getfield 21, 3) := by decide +kernel
theorem dX8_noteRefusal_4 : decode cX8_noteRefusal 4 = .ok (.invokevirtual 24, 3) := by decide +kernel
theorem dX8_noteRefusal_7 : decode cX8_noteRefusal 7 = .ok (.istore_n 1, 1) := by decide +kernel
theorem dX8_noteRefusal_8 : decode cX8_noteRefusal 8 = .ok (.aload_n 0, 1) := by decide +kernel
theorem dX8_noteRefusal_9 : decode cX8_noteRefusal 9 = .ok (.getfield 21, 3) := by decide +kernel
theorem dX8_noteRefusal_12 : decode cX8_noteRefusal 12 = .ok (.iload_n 1, 1) := by decide +kernel
theorem dX8_noteRefusal_13 : decode cX8_noteRefusal 13 = .ok (.iconst 0, 1) := by decide +kernel
theorem dX8_noteRefusal_14 : decode cX8_noteRefusal 14 = .ok (.aload_n 0, 1) := by decide +kernel
theorem dX8_noteRefusal_15 : decode cX8_noteRefusal 15 = .ok (.getfield 18, 3) := by decide +kernel
theorem dX8_noteRefusal_18 : decode cX8_noteRefusal 18 = .ok (.iconst 0, 1) := by decide +kernel
theorem dX8_noteRefusal_19 : decode cX8_noteRefusal 19 = .ok (.iconst 0, 1) := by decide +kernel
theorem dX8_noteRefusal_20 : decode cX8_noteRefusal 20 = .ok (.invokevirtual 32, 3) := by decide +kernel
theorem dX8_noteRefusal_23 : decode cX8_noteRefusal 23 = .ok (.invokevirtual 28, 3) := by decide +kernel
theorem dX8_noteRefusal_26 : decode cX8_noteRefusal 26 = .ok (.aload_n 0, 1) := by decide +kernel
theorem dX8_noteRefusal_27 : decode cX8_noteRefusal 27 = .ok (.getfield 21, 3) := by decide +kernel
theorem dX8_noteRefusal_30 : decode cX8_noteRefusal 30 = .ok (.iload_n 1, 1) := by decide +kernel
theorem dX8_noteRefusal_31 : decode cX8_noteRefusal 31 = .ok (.iconst 1, 1) := by decide +kernel
theorem dX8_noteRefusal_32 : decode cX8_noteRefusal 32 = .ok (.aload_n 0, 1) := by decide +kernel
theorem dX8_noteRefusal_33 : decode cX8_noteRefusal 33 = .ok (.getfield 18, 3) := by decide +kernel
theorem dX8_noteRefusal_36 : decode cX8_noteRefusal 36 = .ok (.iconst 0, 1) := by decide +kernel
theorem dX8_noteRefusal_37 : decode cX8_noteRefusal 37 = .ok (.iconst 3, 1) := by decide +kernel
theorem dX8_noteRefusal_38 : decode cX8_noteRefusal 38 = .ok (.invokevirtual 32, 3) := by decide +kernel
theorem dX8_noteRefusal_41 : decode cX8_noteRefusal 41 = .ok (.invokevirtual 28, 3) := by decide +kernel
theorem dX8_noteRefusal_44 : decode cX8_noteRefusal 44 = .ok (.aload_n 0, 1) := by decide +kernel
theorem dX8_noteRefusal_45 : decode cX8_noteRefusal 45 = .ok (.getfield 21, 3) := by decide +kernel
theorem dX8_noteRefusal_48 : decode cX8_noteRefusal 48 = .ok (.iload_n 1, 1) := by decide +kernel
theorem dX8_noteRefusal_49 : decode cX8_noteRefusal 49 = .ok (.iconst 2, 1) := by decide +kernel
theorem dX8_noteRefusal_50 : decode cX8_noteRefusal 50 = .ok (.aload_n 0, 1) := by decide +kernel
theorem dX8_noteRefusal_51 : decode cX8_noteRefusal 51 = .ok (.getfield 18, 3) := by decide +kernel
theorem dX8_noteRefusal_54 : decode cX8_noteRefusal 54 = .ok (.iconst 0, 1) := by decide +kernel
theorem dX8_noteRefusal_55 : decode cX8_noteRefusal 55 = .ok (.iconst 1, 1) := by decide +kernel
theorem dX8_noteRefusal_56 : decode cX8_noteRefusal 56 = .ok (.invokevirtual 32, 3) := by decide +kernel
theorem dX8_noteRefusal_59 : decode cX8_noteRefusal 59 = .ok (.invokevirtual 28, 3) := by decide +kernel
theorem dX8_noteRefusal_62 : decode cX8_noteRefusal 62 = .ok (.aload_n 0, 1) := by decide +kernel
theorem dX8_noteRefusal_63 : decode cX8_noteRefusal 63 = .ok (.getfield 21, 3) := by decide +kernel
theorem dX8_noteRefusal_66 : decode cX8_noteRefusal 66 = .ok (.iload_n 1, 1) := by decide +kernel
theorem dX8_noteRefusal_67 : decode cX8_noteRefusal 67 = .ok (.iconst 3, 1) := by decide +kernel
theorem dX8_noteRefusal_68 : decode cX8_noteRefusal 68 = .ok (.aload_n 0, 1) := by decide +kernel
theorem dX8_noteRefusal_69 : decode cX8_noteRefusal 69 = .ok (.getfield 18, 3) := by decide +kernel
theorem dX8_noteRefusal_72 : decode cX8_noteRefusal 72 = .ok (.iconst 0, 1) := by decide +kernel
theorem dX8_noteRefusal_73 : decode cX8_noteRefusal 73 = .ok (.iconst 2, 1) := by decide +kernel
theorem dX8_noteRefusal_74 : decode cX8_noteRefusal 74 = .ok (.invokevirtual 32, 3) := by decide +kernel
theorem dX8_noteRefusal_77 : decode cX8_noteRefusal 77 = .ok (.invokevirtual 28, 3) := by decide +kernel
theorem dX8_noteRefusal_80 : decode cX8_noteRefusal 80 = .ok (.return_, 1) := by decide +kernel
theorem dX8_tripsOf_0 : decode cX8_tripsOf 0 = .ok (.iconst 0, 1) := by decide +kernel
theorem dX8_tripsOf_1 : decode cX8_tripsOf 1 = .ok (.istore_n 2, 1) := by decide +kernel
theorem dX8_tripsOf_2 : decode cX8_tripsOf 2 = .ok (.iconst 0, 1) := by decide +kernel
theorem dX8_tripsOf_3 : decode cX8_tripsOf 3 = .ok (.istore_n 3, 1) := by decide +kernel
theorem dX8_tripsOf_4 : decode cX8_tripsOf 4 = .ok (.iload_n 3, 1) := by decide +kernel
theorem dX8_tripsOf_5 : decode cX8_tripsOf 5 = .ok (.aload_n 0, 1) := by decide +kernel
theorem dX8_tripsOf_6 : decode cX8_tripsOf 6 = .ok (.getfield 14, 3) := by decide +kernel
theorem dX8_tripsOf_9 : decode cX8_tripsOf 9 = .ok (.getfield 36, 3) := by decide +kernel
theorem dX8_tripsOf_12 : decode cX8_tripsOf 12 = .ok (.if_icmp .ge 30, 3) := by decide +kernel
theorem dX8_tripsOf_15 : decode cX8_tripsOf 15 = .ok (.iload_n 2, 1) := by decide +kernel
theorem dX8_tripsOf_16 : decode cX8_tripsOf 16 = .ok (.aload_n 0, 1) := by decide +kernel
theorem dX8_tripsOf_17 : decode cX8_tripsOf 17 = .ok (.getfield 14, 3) := by decide +kernel
theorem dX8_tripsOf_20 : decode cX8_tripsOf 20 = .ok (.iload_n 3, 1) := by decide +kernel
theorem dX8_tripsOf_21 : decode cX8_tripsOf 21 = .ok (.iconst 0, 1) := by decide +kernel
theorem dX8_tripsOf_22 : decode cX8_tripsOf 22 = .ok (.invokevirtual 32, 3) := by decide +kernel
theorem dX8_tripsOf_25 : decode cX8_tripsOf 25 = .ok (.iload_n 1, 1) := by decide +kernel
theorem dX8_tripsOf_26 : decode cX8_tripsOf 26 = .ok (.if_icmp .ne 7, 3) := by decide +kernel
theorem dX8_tripsOf_29 : decode cX8_tripsOf 29 = .ok (.iconst 1, 1) := by decide +kernel
theorem dX8_tripsOf_30 : decode cX8_tripsOf 30 = .ok (.goto 4, 3) := by decide +kernel
theorem dX8_tripsOf_33 : decode cX8_tripsOf 33 = .ok (.iconst 0, 1) := by decide +kernel
theorem dX8_tripsOf_34 : decode cX8_tripsOf 34 = .ok (.iadd, 1) := by decide +kernel
theorem dX8_tripsOf_35 : decode cX8_tripsOf 35 = .ok (.istore_n 2, 1) := by decide +kernel
theorem dX8_tripsOf_36 : decode cX8_tripsOf 36 = .ok (.iinc 3 1, 3) := by decide +kernel
theorem dX8_tripsOf_39 : decode cX8_tripsOf 39 = .ok (.goto (-35), 3) := by decide +kernel
theorem dX8_tripsOf_42 : decode cX8_tripsOf 42 = .ok (.iload_n 2, 1) := by decide +kernel
theorem dX8_tripsOf_43 : decode cX8_tripsOf 43 = .ok (.ireturn, 1) := by decide +kernel
theorem dX8_isSame_0 : decode cX8_isSame 0 = .ok (.aload_n 0, 1) := by decide +kernel
theorem dX8_isSame_1 : decode cX8_isSame 1 = .ok (.getfield 14, 3) := by decide +kernel
theorem dX8_isSame_4 : decode cX8_isSame 4 = .ok (.iload_n 1, 1) := by decide +kernel
theorem dX8_isSame_5 : decode cX8_isSame 5 = .ok (.iload_n 3, 1) := by decide +kernel
theorem dX8_isSame_6 : decode cX8_isSame 6 = .ok (.invokevirtual 32, 3) := by decide +kernel
theorem dX8_isSame_9 : decode cX8_isSame 9 = .ok (.aload_n 0, 1) := by decide +kernel
theorem dX8_isSame_10 : decode cX8_isSame 10 = .ok (.getfield 14, 3) := by decide +kernel
theorem dX8_isSame_13 : decode cX8_isSame 13 = .ok (.iload_n 2, 1) := by decide +kernel
theorem dX8_isSame_14 : decode cX8_isSame 14 = .ok (.iload_n 3, 1) := by decide +kernel
theorem dX8_isSame_15 : decode cX8_isSame 15 = .ok (.invokevirtual 32, 3) := by decide +kernel
theorem dX8_isSame_18 : decode cX8_isSame 18 = .ok (.if_icmp .ne 7, 3) := by decide +kernel
theorem dX8_isSame_21 : decode cX8_isSame 21 = .ok (.iconst 1, 1) := by decide +kernel
theorem dX8_isSame_22 : decode cX8_isSame 22 = .ok (.goto 4, 3) := by decide +kernel
theorem dX8_isSame_25 : decode cX8_isSame 25 = .ok (.iconst 0, 1) := by decide +kernel
theorem dX8_isSame_26 : decode cX8_isSame 26 = .ok (.ireturn, 1) := by decide +kernel
theorem dX8_wasOnTrip_0 : decode cX8_wasOnTrip 0 = .ok (.iconst 0, 1) := by decide +kernel
theorem dX8_wasOnTrip_1 : decode cX8_wasOnTrip 1 = .ok (.istore 4, 2) := by decide +kernel
theorem dX8_wasOnTrip_3 : decode cX8_wasOnTrip 3 = .ok (.iload 4, 2) := by decide +kernel
theorem dX8_wasOnTrip_5 : decode cX8_wasOnTrip 5 = .ok (.aload_n 0, 1) := by decide +kernel
theorem dX8_wasOnTrip_6 : decode cX8_wasOnTrip 6 = .ok (.getfield 14, 3) := by decide +kernel
theorem dX8_wasOnTrip_9 : decode cX8_wasOnTrip 9 = .ok (.getfield 36, 3) := by decide +kernel
theorem dX8_wasOnTrip_12 : decode cX8_wasOnTrip 12 = .ok (.if_icmp .ge 65, 3) := by decide +kernel
theorem dX8_wasOnTrip_15 : decode cX8_wasOnTrip 15 = .ok (.aload_n 0, 1) := by decide +kernel
theorem dX8_wasOnTrip_16 : decode cX8_wasOnTrip 16 = .ok (.getfield 14, 3) := by decide +kernel
theorem dX8_wasOnTrip_19 : decode cX8_wasOnTrip 19 = .ok (.iload 4, 2) := by decide +kernel
theorem dX8_wasOnTrip_21 : decode cX8_wasOnTrip 21 = .ok (.iconst 0, 1) := by decide +kernel
theorem dX8_wasOnTrip_22 : decode cX8_wasOnTrip 22 = .ok (.invokevirtual 32, 3) := by decide +kernel
theorem dX8_wasOnTrip_25 : decode cX8_wasOnTrip 25 = .ok (.iload_n 1, 1) := by decide +kernel
theorem dX8_wasOnTrip_26 : decode cX8_wasOnTrip 26 = .ok (.if_icmp .ne 7, 3) := by decide +kernel
theorem dX8_wasOnTrip_29 : decode cX8_wasOnTrip 29 = .ok (.iconst 1, 1) := by decide +kernel
theorem dX8_wasOnTrip_30 : decode cX8_wasOnTrip 30 = .ok (.goto 4, 3) := by decide +kernel
theorem dX8_wasOnTrip_33 : decode cX8_wasOnTrip 33 = .ok (.iconst 0, 1) := by decide +kernel
theorem dX8_wasOnTrip_34 : decode cX8_wasOnTrip 34 = .ok (.istore 5, 2) := by decide +kernel
theorem dX8_wasOnTrip_36 : decode cX8_wasOnTrip 36 = .ok (.iload 5, 2) := by decide +kernel
theorem dX8_wasOnTrip_38 : decode cX8_wasOnTrip 38 = .ok (.ifCond .eq 33, 3) := by decide +kernel
theorem dX8_wasOnTrip_41 : decode cX8_wasOnTrip 41 = .ok (.aload_n 0, 1) := by decide +kernel
theorem dX8_wasOnTrip_42 : decode cX8_wasOnTrip 42 = .ok (.getfield 14, 3) := by decide +kernel
theorem dX8_wasOnTrip_45 : decode cX8_wasOnTrip 45 = .ok (.iload 4, 2) := by decide +kernel
theorem dX8_wasOnTrip_47 : decode cX8_wasOnTrip 47 = .ok (.iconst 3, 1) := by decide +kernel
theorem dX8_wasOnTrip_48 : decode cX8_wasOnTrip 48 = .ok (.invokevirtual 32, 3) := by decide +kernel
theorem dX8_wasOnTrip_51 : decode cX8_wasOnTrip 51 = .ok (.iload_n 3, 1) := by decide +kernel
theorem dX8_wasOnTrip_52 : decode cX8_wasOnTrip 52 = .ok (.if_icmp .gt 19, 3) := by decide +kernel
theorem dX8_wasOnTrip_55 : decode cX8_wasOnTrip 55 = .ok (.aload_n 0, 1) := by decide +kernel
theorem dX8_wasOnTrip_56 : decode cX8_wasOnTrip 56 = .ok (.getfield 14, 3) := by decide +kernel
theorem dX8_wasOnTrip_59 : decode cX8_wasOnTrip 59 = .ok (.iload 4, 2) := by decide +kernel
theorem dX8_wasOnTrip_61 : decode cX8_wasOnTrip 61 = .ok (.iconst 5, 1) := by decide +kernel
theorem dX8_wasOnTrip_62 : decode cX8_wasOnTrip 62 = .ok (.invokevirtual 32, 3) := by decide +kernel
theorem dX8_wasOnTrip_65 : decode cX8_wasOnTrip 65 = .ok (.iload_n 2, 1) := by decide +kernel
theorem dX8_wasOnTrip_66 : decode cX8_wasOnTrip 66 = .ok (.if_icmp .le 5, 3) := by decide +kernel
theorem dX8_wasOnTrip_69 : decode cX8_wasOnTrip 69 = .ok (.iconst 1, 1) := by decide +kernel
theorem dX8_wasOnTrip_70 : decode cX8_wasOnTrip 70 = .ok (.ireturn, 1) := by decide +kernel
theorem dX8_wasOnTrip_71 : decode cX8_wasOnTrip 71 = .ok (.iinc 4 1, 3) := by decide +kernel
theorem dX8_wasOnTrip_74 : decode cX8_wasOnTrip 74 = .ok (.goto (-71), 3) := by decide +kernel
theorem dX8_wasOnTrip_77 : decode cX8_wasOnTrip 77 = .ok (.iconst 0, 1) := by decide +kernel
theorem dX8_wasOnTrip_78 : decode cX8_wasOnTrip 78 = .ok (.ireturn, 1) := by decide +kernel
theorem dX9_init_0 : decode cX9_init 0 = .ok (.aload_n 0, 1) := by decide +kernel
theorem dX9_init_1 : decode cX9_init 1 = .ok (.invokespecial 1, 3) := by decide +kernel
theorem dX9_init_4 : decode cX9_init 4 = .ok (.aload_n 0, 1) := by decide +kernel
theorem dX9_init_5 : decode cX9_init 5 = .ok (.iconst 0, 1) := by decide +kernel
theorem dX9_init_6 : decode cX9_init 6 = .ok (.putfield 7, 3) := by decide +kernel
theorem dX9_init_9 : decode cX9_init 9 = .ok (.aload_n 0, 1) := by decide +kernel
theorem dX9_init_10 : decode cX9_init 10 = .ok (.new 13, 3) := by decide +kernel
theorem dX9_init_13 : decode cX9_init 13 = .ok (.dup, 1) := by decide +kernel
theorem dX9_init_14 : decode cX9_init 14 = .ok (.invokespecial 15, 3) := by decide +kernel
theorem dX9_init_17 : decode cX9_init 17 = .ok (.putfield 16, 3) := by decide +kernel
theorem dX9_init_20 : decode cX9_init 20 = .ok (.aload_n 0, 1) := by decide +kernel
theorem dX9_init_21 : decode cX9_init 21 = .ok (.new 20, 3) := by decide +kernel
theorem dX9_init_24 : decode cX9_init 24 = .ok (.dup, 1) := by decide +kernel
theorem dX9_init_25 : decode cX9_init 25 = .ok (.invokespecial 22, 3) := by decide +kernel
theorem dX9_init_28 : decode cX9_init 28 = .ok (.putfield 23, 3) := by decide +kernel
theorem dX9_init_31 : decode cX9_init 31 = .ok (.aload_n 0, 1) := by decide +kernel
theorem dX9_init_32 : decode cX9_init 32 = .ok (.new 27, 3) := by decide +kernel
theorem dX9_init_35 : decode cX9_init 35 = .ok (.dup, 1) := by decide +kernel
theorem dX9_init_36 : decode cX9_init 36 = .ok (.invokespecial 29, 3) := by decide +kernel
theorem dX9_init_39 : decode cX9_init 39 = .ok (.putfield 30, 3) := by decide +kernel
theorem dX9_init_42 : decode cX9_init 42 = .ok (.aload_n 0, 1) := by decide +kernel
theorem dX9_init_43 : decode cX9_init 43 = .ok (.new 34, 3) := by decide +kernel
theorem dX9_init_46 : decode cX9_init 46 = .ok (.dup, 1) := by decide +kernel
theorem dX9_init_47 : decode cX9_init 47 = .ok (.invokespecial 36, 3) := by decide +kernel
theorem dX9_init_50 : decode cX9_init 50 = .ok (.putfield 37, 3) := by decide +kernel
theorem dX9_init_53 : decode cX9_init 53 = .ok (.aload_n 0, 1) := by decide +kernel
