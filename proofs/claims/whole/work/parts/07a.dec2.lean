theorem dX10_isShut_56 : decode cX10_isShut 56 = .ok (.iinc 4 1, 3) := by decide +kernel
theorem dX10_isShut_59 : decode cX10_isShut 59 = .ok (.goto (-54), 3) := by decide +kernel
theorem dX10_isShut_62 : decode cX10_isShut 62 = .ok (.iload_n 3, 1) := by decide +kernel
theorem dX10_isShut_63 : decode cX10_isShut 63 = .ok (.ireturn, 1) := by decide +kernel
theorem dX10_sun_0 : decode cX10_sun 0 = .ok (.iload_n 1, 1) := by decide +kernel
theorem dX10_sun_1 : decode cX10_sun 1 = .ok (.iconst 0, 1) := by decide +kernel
theorem dX10_sun_2 : decode cX10_sun 2 = .ok (.bipush 11, 2) := by decide +kernel
theorem dX10_sun_4 : decode cX10_sun 4 = .ok (.invokestatic 208, 3) := by decide +kernel
theorem dX10_sun_7 : decode cX10_sun 7 = .ok (.ifCond .eq 19, 3) := by decide +kernel
theorem dX10_sun_10 : decode cX10_sun 10 = .ok (.iload_n 2, 1) := by decide +kernel
theorem dX10_sun_11 : decode cX10_sun 11 = .ok (.ifCond .lt 15, 3) := by decide +kernel
theorem dX10_sun_14 : decode cX10_sun 14 = .ok (.iload_n 2, 1) := by decide +kernel
theorem dX10_sun_15 : decode cX10_sun 15 = .ok (.iload_n 3, 1) := by decide +kernel
theorem dX10_sun_16 : decode cX10_sun 16 = .ok (.if_icmp .gt 10, 3) := by decide +kernel
theorem dX10_sun_19 : decode cX10_sun 19 = .ok (.iload_n 3, 1) := by decide +kernel
theorem dX10_sun_20 : decode cX10_sun 20 = .ok (.sipush 1440, 3) := by decide +kernel
theorem dX10_sun_23 : decode cX10_sun 23 = .ok (.if_icmp .le 5, 3) := by decide +kernel
theorem dX10_sun_26 : decode cX10_sun 26 = .ok (.iconst (-1), 1) := by decide +kernel
theorem dX10_sun_27 : decode cX10_sun 27 = .ok (.ireturn, 1) := by decide +kernel
theorem dX10_sun_28 : decode cX10_sun 28 = .ok (.aload_n 0, 1) := by decide +kernel
theorem dX10_sun_29 : decode cX10_sun 29 = .ok (.getfield 7, 3) := by decide +kernel
theorem dX10_sun_32 : decode cX10_sun 32 = .ok (.iload_n 1, 1) := by decide +kernel
theorem dX10_sun_33 : decode cX10_sun 33 = .ok (.iload_n 2, 1) := by decide +kernel
theorem dX10_sun_34 : decode cX10_sun 34 = .ok (.iastore, 1) := by decide +kernel
theorem dX10_sun_35 : decode cX10_sun 35 = .ok (.aload_n 0, 1) := by decide +kernel
theorem dX10_sun_36 : decode cX10_sun 36 = .ok (.getfield 13, 3) := by decide +kernel
theorem dX10_sun_39 : decode cX10_sun 39 = .ok (.iload_n 1, 1) := by decide +kernel
theorem dX10_sun_40 : decode cX10_sun 40 = .ok (.iload_n 3, 1) := by decide +kernel
theorem dX10_sun_41 : decode cX10_sun 41 = .ok (.iastore, 1) := by decide +kernel
theorem dX10_sun_42 : decode cX10_sun 42 = .ok (.iconst 1, 1) := by decide +kernel
theorem dX10_sun_43 : decode cX10_sun 43 = .ok (.ireturn, 1) := by decide +kernel
theorem dX10_isNight_0 : decode cX10_isNight 0 = .ok (.iload_n 1, 1) := by decide +kernel
theorem dX10_isNight_1 : decode cX10_isNight 1 = .ok (.sipush 1440, 3) := by decide +kernel
theorem dX10_isNight_4 : decode cX10_isNight 4 = .ok (.idiv, 1) := by decide +kernel
theorem dX10_isNight_5 : decode cX10_isNight 5 = .ok (.bipush 30, 2) := by decide +kernel
theorem dX10_isNight_7 : decode cX10_isNight 7 = .ok (.idiv, 1) := by decide +kernel
theorem dX10_isNight_8 : decode cX10_isNight 8 = .ok (.bipush 12, 2) := by decide +kernel
theorem dX10_isNight_10 : decode cX10_isNight 10 = .ok (.irem, 1) := by decide +kernel
theorem dX10_isNight_11 : decode cX10_isNight 11 = .ok (.istore_n 2, 1) := by decide +kernel
theorem dX10_isNight_12 : decode cX10_isNight 12 = .ok (.iload_n 1, 1) := by decide +kernel
theorem dX10_isNight_13 : decode cX10_isNight 13 = .ok (.sipush 1440, 3) := by decide +kernel
theorem dX10_isNight_16 : decode cX10_isNight 16 = .ok (.irem, 1) := by decide +kernel
theorem dX10_isNight_17 : decode cX10_isNight 17 = .ok (.aload_n 0, 1) := by decide +kernel
theorem dX10_isNight_18 : decode cX10_isNight 18 = .ok (.getfield 7, 3) := by decide +kernel
theorem dX10_isNight_21 : decode cX10_isNight 21 = .ok (.iload_n 2, 1) := by decide +kernel
theorem dX10_isNight_22 : decode cX10_isNight 22 = .ok (.iaload, 1) := by decide +kernel
theorem dX10_isNight_23 : decode cX10_isNight 23 = .ok (.if_icmp .lt 17, 3) := by decide +kernel
theorem dX10_isNight_26 : decode cX10_isNight 26 = .ok (.iload_n 1, 1) := by decide +kernel
theorem dX10_isNight_27 : decode cX10_isNight 27 = .ok (.sipush 1440, 3) := by decide +kernel
theorem dX10_isNight_30 : decode cX10_isNight 30 = .ok (.irem, 1) := by decide +kernel
theorem dX10_isNight_31 : decode cX10_isNight 31 = .ok (.aload_n 0, 1) := by decide +kernel
theorem dX10_isNight_32 : decode cX10_isNight 32 = .ok (.getfield 13, 3) := by decide +kernel
theorem dX10_isNight_35 : decode cX10_isNight 35 = .ok (.iload_n 2, 1) := by decide +kernel
theorem dX10_isNight_36 : decode cX10_isNight 36 = .ok (.iaload, 1) := by decide +kernel
theorem dX10_isNight_37 : decode cX10_isNight 37 = .ok (.if_icmp .lt 7, 3) := by decide +kernel
theorem dX10_isNight_40 : decode cX10_isNight 40 = .ok (.iconst 1, 1) := by decide +kernel
theorem dX10_isNight_41 : decode cX10_isNight 41 = .ok (.goto 4, 3) := by decide +kernel
theorem dX10_isNight_44 : decode cX10_isNight 44 = .ok (.iconst 0, 1) := by decide +kernel
theorem dX10_isNight_45 : decode cX10_isNight 45 = .ok (.ireturn, 1) := by decide +kernel
theorem dX10_night_0 : decode cX10_night 0 = .ok (.iload_n 1, 1) := by decide +kernel
theorem dX10_night_1 : decode cX10_night 1 = .ok (.invokestatic 220, 3) := by decide +kernel
theorem dX10_night_4 : decode cX10_night 4 = .ok (.ifCond .eq 19, 3) := by decide +kernel
theorem dX10_night_7 : decode cX10_night 7 = .ok (.aload_n 0, 1) := by decide +kernel
theorem dX10_night_8 : decode cX10_night 8 = .ok (.iload_n 1, 1) := by decide +kernel
theorem dX10_night_9 : decode cX10_night 9 = .ok (.invokevirtual 223, 3) := by decide +kernel
theorem dX10_night_12 : decode cX10_night 12 = .ok (.ifCond .eq 7, 3) := by decide +kernel
theorem dX10_night_15 : decode cX10_night 15 = .ok (.iconst 1, 1) := by decide +kernel
theorem dX10_night_16 : decode cX10_night 16 = .ok (.goto 8, 3) := by decide +kernel
theorem dX10_night_19 : decode cX10_night 19 = .ok (.iconst 0, 1) := by decide +kernel
theorem dX10_night_20 : decode cX10_night 20 = .ok (.goto 4, 3) := by decide +kernel
theorem dX10_night_23 : decode cX10_night 23 = .ok (.iconst (-1), 1) := by decide +kernel
theorem dX10_night_24 : decode cX10_night 24 = .ok (.ireturn, 1) := by decide +kernel
theorem dX10_come_0 : decode cX10_come 0 = .ok (.iload_n 2, 1) := by decide +kernel
theorem dX10_come_1 : decode cX10_come 1 = .ok (.aload_n 0, 1) := by decide +kernel
theorem dX10_come_2 : decode cX10_come 2 = .ok (.getfield 37, 3) := by decide +kernel
theorem dX10_come_5 : decode cX10_come 5 = .ok (.iload_n 1, 1) := by decide +kernel
theorem dX10_come_6 : decode cX10_come 6 = .ok (.iaload, 1) := by decide +kernel
theorem dX10_come_7 : decode cX10_come 7 = .ok (.if_icmp .lt 23, 3) := by decide +kernel
theorem dX10_come_10 : decode cX10_come 10 = .ok (.iload_n 2, 1) := by decide +kernel
theorem dX10_come_11 : decode cX10_come 11 = .ok (.aload_n 0, 1) := by decide +kernel
theorem dX10_come_12 : decode cX10_come 12 = .ok (.getfield 37, 3) := by decide +kernel
theorem dX10_come_15 : decode cX10_come 15 = .ok (.iload_n 1, 1) := by decide +kernel
theorem dX10_come_16 : decode cX10_come 16 = .ok (.iaload, 1) := by decide +kernel
theorem dX10_come_17 : decode cX10_come 17 = .ok (.if_icmp .ne 17, 3) := by decide +kernel
theorem dX10_come_20 : decode cX10_come 20 = .ok (.iload_n 3, 1) := by decide +kernel
theorem dX10_come_21 : decode cX10_come 21 = .ok (.aload_n 0, 1) := by decide +kernel
theorem dX10_come_22 : decode cX10_come 22 = .ok (.getfield 40, 3) := by decide +kernel
theorem dX10_come_25 : decode cX10_come 25 = .ok (.iload_n 1, 1) := by decide +kernel
theorem dX10_come_26 : decode cX10_come 26 = .ok (.iaload, 1) := by decide +kernel
theorem dX10_come_27 : decode cX10_come 27 = .ok (.if_icmp .ge 7, 3) := by decide +kernel
theorem dX10_come_30 : decode cX10_come 30 = .ok (.iconst 1, 1) := by decide +kernel
theorem dX10_come_31 : decode cX10_come 31 = .ok (.goto 4, 3) := by decide +kernel
theorem dX10_come_34 : decode cX10_come 34 = .ok (.iconst 0, 1) := by decide +kernel
theorem dX10_come_35 : decode cX10_come 35 = .ok (.istore 4, 2) := by decide +kernel
theorem dX10_come_37 : decode cX10_come 37 = .ok (.iload 4, 2) := by decide +kernel
theorem dX10_come_39 : decode cX10_come 39 = .ok (.ifCond .eq 17, 3) := by decide +kernel
theorem dX10_come_42 : decode cX10_come 42 = .ok (.aload_n 0, 1) := by decide +kernel
theorem dX10_come_43 : decode cX10_come 43 = .ok (.getfield 37, 3) := by decide +kernel
theorem dX10_come_46 : decode cX10_come 46 = .ok (.iload_n 1, 1) := by decide +kernel
theorem dX10_come_47 : decode cX10_come 47 = .ok (.iload_n 2, 1) := by decide +kernel
theorem dX10_come_48 : decode cX10_come 48 = .ok (.iastore, 1) := by decide +kernel
theorem dX10_come_49 : decode cX10_come 49 = .ok (.aload_n 0, 1) := by decide +kernel
theorem dX10_come_50 : decode cX10_come 50 = .ok (.getfield 40, 3) := by decide +kernel
theorem dX10_come_53 : decode cX10_come 53 = .ok (.iload_n 1, 1) := by decide +kernel
theorem dX10_come_54 : decode cX10_come 54 = .ok (.iload_n 3, 1) := by decide +kernel
theorem dX10_come_55 : decode cX10_come 55 = .ok (.iastore, 1) := by decide +kernel
theorem dX10_come_56 : decode cX10_come 56 = .ok (.iload 4, 2) := by decide +kernel
theorem dX10_come_58 : decode cX10_come 58 = .ok (.ireturn, 1) := by decide +kernel
theorem dX10_findFar_0 : decode cX10_findFar 0 = .ok (.iconst 0, 1) := by decide +kernel
theorem dX10_findFar_1 : decode cX10_findFar 1 = .ok (.istore_n 3, 1) := by decide +kernel
theorem dX10_findFar_2 : decode cX10_findFar 2 = .ok (.iload_n 3, 1) := by decide +kernel
theorem dX10_findFar_3 : decode cX10_findFar 3 = .ok (.aload_n 0, 1) := by decide +kernel
theorem dX10_findFar_4 : decode cX10_findFar 4 = .ok (.getfield 198, 3) := by decide +kernel
theorem dX10_findFar_7 : decode cX10_findFar 7 = .ok (.if_icmp .ge 33, 3) := by decide +kernel
theorem dX10_findFar_10 : decode cX10_findFar 10 = .ok (.aload_n 0, 1) := by decide +kernel
theorem dX10_findFar_11 : decode cX10_findFar 11 = .ok (.getfield 37, 3) := by decide +kernel
theorem dX10_findFar_14 : decode cX10_findFar 14 = .ok (.iload_n 3, 1) := by decide +kernel
theorem dX10_findFar_15 : decode cX10_findFar 15 = .ok (.iload_n 3, 1) := by decide +kernel
theorem dX10_findFar_16 : decode cX10_findFar 16 = .ok (.iload_n 1, 1) := by decide +kernel
theorem dX10_findFar_17 : decode cX10_findFar 17 = .ok (.if_icmp .ne 7, 3) := by decide +kernel
theorem dX10_findFar_20 : decode cX10_findFar 20 = .ok (.iconst 0, 1) := by decide +kernel
theorem dX10_findFar_21 : decode cX10_findFar 21 = .ok (.goto 5, 3) := by decide +kernel
theorem dX10_findFar_24 : decode cX10_findFar 24 = .ok (.ldc 226, 2) := by decide +kernel
theorem dX10_findFar_26 : decode cX10_findFar 26 = .ok (.iastore, 1) := by decide +kernel
theorem dX10_findFar_27 : decode cX10_findFar 27 = .ok (.aload_n 0, 1) := by decide +kernel
theorem dX10_findFar_28 : decode cX10_findFar 28 = .ok (.getfield 40, 3) := by decide +kernel
theorem dX10_findFar_31 : decode cX10_findFar 31 = .ok (.iload_n 3, 1) := by decide +kernel
theorem dX10_findFar_32 : decode cX10_findFar 32 = .ok (.iconst 0, 1) := by decide +kernel
theorem dX10_findFar_33 : decode cX10_findFar 33 = .ok (.iastore, 1) := by decide +kernel
theorem dX10_findFar_34 : decode cX10_findFar 34 = .ok (.iinc 3 1, 3) := by decide +kernel
theorem dX10_findFar_37 : decode cX10_findFar 37 = .ok (.goto (-35), 3) := by decide +kernel
theorem dX10_findFar_40 : decode cX10_findFar 40 = .ok (.iconst 1, 1) := by decide +kernel
theorem dX10_findFar_41 : decode cX10_findFar 41 = .ok (.istore_n 3, 1) := by decide +kernel
theorem dX10_findFar_42 : decode cX10_findFar 42 = .ok (.iload_n 3, 1) := by decide +kernel
theorem dX10_findFar_43 : decode cX10_findFar 43 = .ok (.ifCond .eq 198, 3) := by decide +kernel
theorem dX10_findFar_46 : decode cX10_findFar 46 = .ok (.iconst 0, 1) := by decide +kernel
theorem dX10_findFar_47 : decode cX10_findFar 47 = .ok (.istore_n 3, 1) := by decide +kernel
theorem dX10_findFar_48 : decode cX10_findFar 48 = .ok (.iconst 0, 1) := by decide +kernel
theorem dX10_findFar_49 : decode cX10_findFar 49 = .ok (.istore 4, 2) := by decide +kernel
theorem dX10_findFar_51 : decode cX10_findFar 51 = .ok (.iload 4, 2) := by decide +kernel
theorem dX10_findFar_53 : decode cX10_findFar 53 = .ok (.aload_n 0, 1) := by decide +kernel
theorem dX10_findFar_54 : decode cX10_findFar 54 = .ok (.getfield 216, 3) := by decide +kernel
theorem dX10_findFar_57 : decode cX10_findFar 57 = .ok (.if_icmp .ge 181, 3) := by decide +kernel
theorem dX10_findFar_60 : decode cX10_findFar 60 = .ok (.aload_n 0, 1) := by decide +kernel
theorem dX10_findFar_61 : decode cX10_findFar 61 = .ok (.iload 4, 2) := by decide +kernel
theorem dX10_findFar_63 : decode cX10_findFar 63 = .ok (.iload_n 2, 1) := by decide +kernel
theorem dX10_findFar_64 : decode cX10_findFar 64 = .ok (.invokevirtual 227, 3) := by decide +kernel
theorem dX10_findFar_67 : decode cX10_findFar 67 = .ok (.ifCond .ne 165, 3) := by decide +kernel
theorem dX10_findFar_70 : decode cX10_findFar 70 = .ok (.aload_n 0, 1) := by decide +kernel
theorem dX10_findFar_71 : decode cX10_findFar 71 = .ok (.getfield 37, 3) := by decide +kernel
theorem dX10_findFar_74 : decode cX10_findFar 74 = .ok (.aload_n 0, 1) := by decide +kernel
theorem dX10_findFar_75 : decode cX10_findFar 75 = .ok (.getfield 16, 3) := by decide +kernel
theorem dX10_findFar_78 : decode cX10_findFar 78 = .ok (.iload 4, 2) := by decide +kernel
theorem dX10_findFar_80 : decode cX10_findFar 80 = .ok (.iaload, 1) := by decide +kernel
theorem dX10_findFar_81 : decode cX10_findFar 81 = .ok (.iaload, 1) := by decide +kernel
theorem dX10_findFar_82 : decode cX10_findFar 82 = .ok (.ldc 226, 2) := by decide +kernel
theorem dX10_findFar_84 : decode cX10_findFar 84 = .ok (.if_icmp .ge 67, 3) := by decide +kernel
theorem dX10_findFar_87 : decode cX10_findFar 87 = .ok (.aload_n 0, 1) := by decide +kernel
theorem dX10_findFar_88 : decode cX10_findFar 88 = .ok (.aload_n 0, 1) := by decide +kernel
theorem dX10_findFar_89 : decode cX10_findFar 89 = .ok (.getfield 19, 3) := by decide +kernel
theorem dX10_findFar_92 : decode cX10_findFar 92 = .ok (.iload 4, 2) := by decide +kernel
theorem dX10_findFar_94 : decode cX10_findFar 94 = .ok (.iaload, 1) := by decide +kernel
theorem dX10_findFar_95 : decode cX10_findFar 95 = .ok (.aload_n 0, 1) := by decide +kernel
theorem dX10_findFar_96 : decode cX10_findFar 96 = .ok (.getfield 37, 3) := by decide +kernel
theorem dX10_findFar_99 : decode cX10_findFar 99 = .ok (.aload_n 0, 1) := by decide +kernel
theorem dX10_findFar_100 : decode cX10_findFar 100 = .ok (.getfield 16, 3) := by decide +kernel
theorem dX10_findFar_103 : decode cX10_findFar 103 = .ok (.iload 4, 2) := by decide +kernel
theorem dX10_findFar_105 : decode cX10_findFar 105 = .ok (.iaload, 1) := by decide +kernel
theorem dX10_findFar_106 : decode cX10_findFar 106 = .ok (.iaload, 1) := by decide +kernel
theorem dX10_findFar_107 : decode cX10_findFar 107 = .ok (.aload_n 0, 1) := by decide +kernel
theorem dX10_findFar_108 : decode cX10_findFar 108 = .ok (.getfield 22, 3) := by decide +kernel
theorem dX10_findFar_111 : decode cX10_findFar 111 = .ok (.iload 4, 2) := by decide +kernel
theorem dX10_findFar_113 : decode cX10_findFar 113 = .ok (.iaload, 1) := by decide +kernel
theorem dX10_findFar_114 : decode cX10_findFar 114 = .ok (.iadd, 1) := by decide +kernel
theorem dX10_findFar_115 : decode cX10_findFar 115 = .ok (.aload_n 0, 1) := by decide +kernel
theorem dX10_findFar_116 : decode cX10_findFar 116 = .ok (.getfield 40, 3) := by decide +kernel
theorem dX10_findFar_119 : decode cX10_findFar 119 = .ok (.aload_n 0, 1) := by decide +kernel
theorem dX10_findFar_120 : decode cX10_findFar 120 = .ok (.getfield 16, 3) := by decide +kernel
theorem dX10_findFar_123 : decode cX10_findFar 123 = .ok (.iload 4, 2) := by decide +kernel
theorem dX10_findFar_125 : decode cX10_findFar 125 = .ok (.iaload, 1) := by decide +kernel
theorem dX10_findFar_126 : decode cX10_findFar 126 = .ok (.iaload, 1) := by decide +kernel
theorem dX10_findFar_127 : decode cX10_findFar 127 = .ok (.aload_n 0, 1) := by decide +kernel
theorem dX10_findFar_128 : decode cX10_findFar 128 = .ok (.getfield 25, 3) := by decide +kernel
theorem dX10_findFar_131 : decode cX10_findFar 131 = .ok (.iload 4, 2) := by decide +kernel
theorem dX10_findFar_133 : decode cX10_findFar 133 = .ok (.iaload, 1) := by decide +kernel
theorem dX10_findFar_134 : decode cX10_findFar 134 = .ok (.iadd, 1) := by decide +kernel
theorem dX10_findFar_135 : decode cX10_findFar 135 = .ok (.invokevirtual 231, 3) := by decide +kernel
theorem dX10_findFar_138 : decode cX10_findFar 138 = .ok (.ifCond .ne 7, 3) := by decide +kernel
theorem dX10_findFar_141 : decode cX10_findFar 141 = .ok (.iload_n 3, 1) := by decide +kernel
theorem dX10_findFar_142 : decode cX10_findFar 142 = .ok (.ifCond .eq 7, 3) := by decide +kernel
theorem dX10_findFar_145 : decode cX10_findFar 145 = .ok (.iconst 1, 1) := by decide +kernel
theorem dX10_findFar_146 : decode cX10_findFar 146 = .ok (.goto 4, 3) := by decide +kernel
theorem dX10_findFar_149 : decode cX10_findFar 149 = .ok (.iconst 0, 1) := by decide +kernel
theorem dX10_findFar_150 : decode cX10_findFar 150 = .ok (.istore_n 3, 1) := by decide +kernel
theorem dX10_findFar_151 : decode cX10_findFar 151 = .ok (.aload_n 0, 1) := by decide +kernel
theorem dX10_findFar_152 : decode cX10_findFar 152 = .ok (.getfield 37, 3) := by decide +kernel
theorem dX10_findFar_155 : decode cX10_findFar 155 = .ok (.aload_n 0, 1) := by decide +kernel
theorem dX10_findFar_156 : decode cX10_findFar 156 = .ok (.getfield 19, 3) := by decide +kernel
theorem dX10_findFar_159 : decode cX10_findFar 159 = .ok (.iload 4, 2) := by decide +kernel
theorem dX10_findFar_161 : decode cX10_findFar 161 = .ok (.iaload, 1) := by decide +kernel
theorem dX10_findFar_162 : decode cX10_findFar 162 = .ok (.iaload, 1) := by decide +kernel
theorem dX10_findFar_163 : decode cX10_findFar 163 = .ok (.ldc 226, 2) := by decide +kernel
theorem dX10_findFar_165 : decode cX10_findFar 165 = .ok (.if_icmp .ge 67, 3) := by decide +kernel
theorem dX10_findFar_168 : decode cX10_findFar 168 = .ok (.aload_n 0, 1) := by decide +kernel
theorem dX10_findFar_169 : decode cX10_findFar 169 = .ok (.aload_n 0, 1) := by decide +kernel
theorem dX10_findFar_170 : decode cX10_findFar 170 = .ok (.getfield 16, 3) := by decide +kernel
theorem dX10_findFar_173 : decode cX10_findFar 173 = .ok (.iload 4, 2) := by decide +kernel
theorem dX10_findFar_175 : decode cX10_findFar 175 = .ok (.iaload, 1) := by decide +kernel
theorem dX10_findFar_176 : decode cX10_findFar 176 = .ok (.aload_n 0, 1) := by decide +kernel
theorem dX10_findFar_177 : decode cX10_findFar 177 = .ok (.getfield 37, 3) := by decide +kernel
theorem dX10_findFar_180 : decode cX10_findFar 180 = .ok (.aload_n 0, 1) := by decide +kernel
theorem dX10_findFar_181 : decode cX10_findFar 181 = .ok (.getfield 19, 3) := by decide +kernel
theorem dX10_findFar_184 : decode cX10_findFar 184 = .ok (.iload 4, 2) := by decide +kernel
theorem dX10_findFar_186 : decode cX10_findFar 186 = .ok (.iaload, 1) := by decide +kernel
theorem dX10_findFar_187 : decode cX10_findFar 187 = .ok (.iaload, 1) := by decide +kernel
theorem dX10_findFar_188 : decode cX10_findFar 188 = .ok (.aload_n 0, 1) := by decide +kernel
theorem dX10_findFar_189 : decode cX10_findFar 189 = .ok (.getfield 22, 3) := by decide +kernel
theorem dX10_findFar_192 : decode cX10_findFar 192 = .ok (.iload 4, 2) := by decide +kernel
theorem dX10_findFar_194 : decode cX10_findFar 194 = .ok (.iaload, 1) := by decide +kernel
theorem dX10_findFar_195 : decode cX10_findFar 195 = .ok (.iadd, 1) := by decide +kernel
theorem dX10_findFar_196 : decode cX10_findFar 196 = .ok (.aload_n 0, 1) := by decide +kernel
theorem dX10_findFar_197 : decode cX10_findFar 197 = .ok (.getfield 40, 3) := by decide +kernel
theorem dX10_findFar_200 : decode cX10_findFar 200 = .ok (.aload_n 0, 1) := by decide +kernel
theorem dX10_findFar_201 : decode cX10_findFar 201 = .ok (.getfield 19, 3) := by decide +kernel
theorem dX10_findFar_204 : decode cX10_findFar 204 = .ok (.iload 4, 2) := by decide +kernel
theorem dX10_findFar_206 : decode cX10_findFar 206 = .ok (.iaload, 1) := by decide +kernel
theorem dX10_findFar_207 : decode cX10_findFar 207 = .ok (.iaload, 1) := by decide +kernel
theorem dX10_findFar_208 : decode cX10_findFar 208 = .ok (.aload_n 0, 1) := by decide +kernel
theorem dX10_findFar_209 : decode cX10_findFar 209 = .ok (.getfield 25, 3) := by decide +kernel
theorem dX10_findFar_212 : decode cX10_findFar 212 = .ok (.iload 4, 2) := by decide +kernel
theorem dX10_findFar_214 : decode cX10_findFar 214 = .ok (.iaload, 1) := by decide +kernel
theorem dX10_findFar_215 : decode cX10_findFar 215 = .ok (.iadd, 1) := by decide +kernel
theorem dX10_findFar_216 : decode cX10_findFar 216 = .ok (.invokevirtual 231, 3) := by decide +kernel
theorem dX10_findFar_219 : decode cX10_findFar 219 = .ok (.ifCond .ne 7, 3) := by decide +kernel
theorem dX10_findFar_222 : decode cX10_findFar 222 = .ok (.iload_n 3, 1) := by decide +kernel
theorem dX10_findFar_223 : decode cX10_findFar 223 = .ok (.ifCond .eq 7, 3) := by decide +kernel
theorem dX10_findFar_226 : decode cX10_findFar 226 = .ok (.iconst 1, 1) := by decide +kernel
theorem dX10_findFar_227 : decode cX10_findFar 227 = .ok (.goto 4, 3) := by decide +kernel
theorem dX10_findFar_230 : decode cX10_findFar 230 = .ok (.iconst 0, 1) := by decide +kernel
theorem dX10_findFar_231 : decode cX10_findFar 231 = .ok (.istore_n 3, 1) := by decide +kernel
theorem dX10_findFar_232 : decode cX10_findFar 232 = .ok (.iinc 4 1, 3) := by decide +kernel
theorem dX10_findFar_235 : decode cX10_findFar 235 = .ok (.goto (-184), 3) := by decide +kernel
theorem dX10_findFar_238 : decode cX10_findFar 238 = .ok (.goto (-196), 3) := by decide +kernel
theorem dX10_findFar_241 : decode cX10_findFar 241 = .ok (.return_, 1) := by decide +kernel
theorem dX10_yardsOf_0 : decode cX10_yardsOf 0 = .ok (.aload_n 0, 1) := by decide +kernel
theorem dX10_yardsOf_1 : decode cX10_yardsOf 1 = .ok (.iload_n 2, 1) := by decide +kernel
theorem dX10_yardsOf_2 : decode cX10_yardsOf 2 = .ok (.iload_n 3, 1) := by decide +kernel
theorem dX10_yardsOf_3 : decode cX10_yardsOf 3 = .ok (.invokevirtual 234, 3) := by decide +kernel
theorem dX10_yardsOf_6 : decode cX10_yardsOf 6 = .ok (.aload_n 0, 1) := by decide +kernel
theorem dX10_yardsOf_7 : decode cX10_yardsOf 7 = .ok (.getfield 37, 3) := by decide +kernel
theorem dX10_yardsOf_10 : decode cX10_yardsOf 10 = .ok (.iload_n 1, 1) := by decide +kernel
theorem dX10_yardsOf_11 : decode cX10_yardsOf 11 = .ok (.iaload, 1) := by decide +kernel
theorem dX10_yardsOf_12 : decode cX10_yardsOf 12 = .ok (.ldc 226, 2) := by decide +kernel
theorem dX10_yardsOf_14 : decode cX10_yardsOf 14 = .ok (.if_icmp .ge 12, 3) := by decide +kernel
theorem dX10_yardsOf_17 : decode cX10_yardsOf 17 = .ok (.aload_n 0, 1) := by decide +kernel
theorem dX10_yardsOf_18 : decode cX10_yardsOf 18 = .ok (.getfield 37, 3) := by decide +kernel
theorem dX10_yardsOf_21 : decode cX10_yardsOf 21 = .ok (.iload_n 1, 1) := by decide +kernel
theorem dX10_yardsOf_22 : decode cX10_yardsOf 22 = .ok (.iaload, 1) := by decide +kernel
theorem dX10_yardsOf_23 : decode cX10_yardsOf 23 = .ok (.goto 5, 3) := by decide +kernel
theorem dX10_yardsOf_26 : decode cX10_yardsOf 26 = .ok (.bipush (-5), 2) := by decide +kernel
theorem dX10_yardsOf_28 : decode cX10_yardsOf 28 = .ok (.ireturn, 1) := by decide +kernel
theorem dX10_findWay_0 : decode cX10_findWay 0 = .ok (.aload_n 0, 1) := by decide +kernel
theorem dX10_findWay_1 : decode cX10_findWay 1 = .ok (.getfield 43, 3) := by decide +kernel
theorem dX10_findWay_4 : decode cX10_findWay 4 = .ok (.iconst 0, 1) := by decide +kernel
theorem dX10_findWay_5 : decode cX10_findWay 5 = .ok (.iload_n 1, 1) := by decide +kernel
theorem dX10_findWay_6 : decode cX10_findWay 6 = .ok (.iastore, 1) := by decide +kernel
theorem dX10_findWay_7 : decode cX10_findWay 7 = .ok (.aload_n 0, 1) := by decide +kernel
theorem dX10_findWay_8 : decode cX10_findWay 8 = .ok (.iconst 1, 1) := by decide +kernel
theorem dX10_findWay_9 : decode cX10_findWay 9 = .ok (.putfield 238, 3) := by decide +kernel
theorem dX10_findWay_12 : decode cX10_findWay 12 = .ok (.iload_n 1, 1) := by decide +kernel
theorem dX10_findWay_13 : decode cX10_findWay 13 = .ok (.istore 4, 2) := by decide +kernel
theorem dX10_findWay_15 : decode cX10_findWay 15 = .ok (.iload 4, 2) := by decide +kernel
theorem dX10_findWay_17 : decode cX10_findWay 17 = .ok (.iload_n 2, 1) := by decide +kernel
theorem dX10_findWay_18 : decode cX10_findWay 18 = .ok (.if_icmp .eq 180, 3) := by decide +kernel
theorem dX10_findWay_21 : decode cX10_findWay 21 = .ok (.iconst (-1), 1) := by decide +kernel
theorem dX10_findWay_22 : decode cX10_findWay 22 = .ok (.istore 5, 2) := by decide +kernel
theorem dX10_findWay_24 : decode cX10_findWay 24 = .ok (.iconst 0, 1) := by decide +kernel
theorem dX10_findWay_25 : decode cX10_findWay 25 = .ok (.istore 6, 2) := by decide +kernel
theorem dX10_findWay_27 : decode cX10_findWay 27 = .ok (.iload 6, 2) := by decide +kernel
theorem dX10_findWay_29 : decode cX10_findWay 29 = .ok (.aload_n 0, 1) := by decide +kernel
theorem dX10_findWay_30 : decode cX10_findWay 30 = .ok (.getfield 216, 3) := by decide +kernel
theorem dX10_findWay_33 : decode cX10_findWay 33 = .ok (.if_icmp .ge 137, 3) := by decide +kernel
theorem dX10_findWay_36 : decode cX10_findWay 36 = .ok (.aload_n 0, 1) := by decide +kernel
theorem dX10_findWay_37 : decode cX10_findWay 37 = .ok (.getfield 16, 3) := by decide +kernel
theorem dX10_findWay_40 : decode cX10_findWay 40 = .ok (.iload 6, 2) := by decide +kernel
theorem dX10_findWay_42 : decode cX10_findWay 42 = .ok (.iaload, 1) := by decide +kernel
theorem dX10_findWay_43 : decode cX10_findWay 43 = .ok (.iload 4, 2) := by decide +kernel
theorem dX10_findWay_45 : decode cX10_findWay 45 = .ok (.if_icmp .ne 13, 3) := by decide +kernel
theorem dX10_findWay_48 : decode cX10_findWay 48 = .ok (.aload_n 0, 1) := by decide +kernel
theorem dX10_findWay_49 : decode cX10_findWay 49 = .ok (.getfield 19, 3) := by decide +kernel
theorem dX10_findWay_52 : decode cX10_findWay 52 = .ok (.iload 6, 2) := by decide +kernel
theorem dX10_findWay_54 : decode cX10_findWay 54 = .ok (.iaload, 1) := by decide +kernel
theorem dX10_findWay_55 : decode cX10_findWay 55 = .ok (.goto 26, 3) := by decide +kernel
theorem dX10_findWay_58 : decode cX10_findWay 58 = .ok (.aload_n 0, 1) := by decide +kernel
theorem dX10_findWay_59 : decode cX10_findWay 59 = .ok (.getfield 19, 3) := by decide +kernel
theorem dX10_findWay_62 : decode cX10_findWay 62 = .ok (.iload 6, 2) := by decide +kernel
theorem dX10_findWay_64 : decode cX10_findWay 64 = .ok (.iaload, 1) := by decide +kernel
theorem dX10_findWay_65 : decode cX10_findWay 65 = .ok (.iload 4, 2) := by decide +kernel
theorem dX10_findWay_67 : decode cX10_findWay 67 = .ok (.if_icmp .ne 13, 3) := by decide +kernel
theorem dX10_findWay_70 : decode cX10_findWay 70 = .ok (.aload_n 0, 1) := by decide +kernel
theorem dX10_findWay_71 : decode cX10_findWay 71 = .ok (.getfield 16, 3) := by decide +kernel
theorem dX10_findWay_74 : decode cX10_findWay 74 = .ok (.iload 6, 2) := by decide +kernel
theorem dX10_findWay_76 : decode cX10_findWay 76 = .ok (.iaload, 1) := by decide +kernel
theorem dX10_findWay_77 : decode cX10_findWay 77 = .ok (.goto 4, 3) := by decide +kernel
theorem dX10_findWay_80 : decode cX10_findWay 80 = .ok (.iconst (-1), 1) := by decide +kernel
theorem dX10_findWay_81 : decode cX10_findWay 81 = .ok (.istore 7, 2) := by decide +kernel
theorem dX10_findWay_83 : decode cX10_findWay 83 = .ok (.iload 7, 2) := by decide +kernel
theorem dX10_findWay_85 : decode cX10_findWay 85 = .ok (.ifCond .lt 79, 3) := by decide +kernel
theorem dX10_findWay_88 : decode cX10_findWay 88 = .ok (.aload_n 0, 1) := by decide +kernel
theorem dX10_findWay_89 : decode cX10_findWay 89 = .ok (.iload 6, 2) := by decide +kernel
theorem dX10_findWay_91 : decode cX10_findWay 91 = .ok (.iload_n 3, 1) := by decide +kernel
theorem dX10_findWay_92 : decode cX10_findWay 92 = .ok (.invokevirtual 227, 3) := by decide +kernel
theorem dX10_findWay_95 : decode cX10_findWay 95 = .ok (.ifCond .ne 69, 3) := by decide +kernel
theorem dX10_findWay_98 : decode cX10_findWay 98 = .ok (.aload_n 0, 1) := by decide +kernel
theorem dX10_findWay_99 : decode cX10_findWay 99 = .ok (.getfield 37, 3) := by decide +kernel
theorem dX10_findWay_102 : decode cX10_findWay 102 = .ok (.iload 4, 2) := by decide +kernel
theorem dX10_findWay_104 : decode cX10_findWay 104 = .ok (.iaload, 1) := by decide +kernel
theorem dX10_findWay_105 : decode cX10_findWay 105 = .ok (.aload_n 0, 1) := by decide +kernel
theorem dX10_findWay_106 : decode cX10_findWay 106 = .ok (.getfield 37, 3) := by decide +kernel
theorem dX10_findWay_109 : decode cX10_findWay 109 = .ok (.iload 7, 2) := by decide +kernel
theorem dX10_findWay_111 : decode cX10_findWay 111 = .ok (.iaload, 1) := by decide +kernel
theorem dX10_findWay_112 : decode cX10_findWay 112 = .ok (.aload_n 0, 1) := by decide +kernel
theorem dX10_findWay_113 : decode cX10_findWay 113 = .ok (.getfield 22, 3) := by decide +kernel
theorem dX10_findWay_116 : decode cX10_findWay 116 = .ok (.iload 6, 2) := by decide +kernel
theorem dX10_findWay_118 : decode cX10_findWay 118 = .ok (.iaload, 1) := by decide +kernel
theorem dX10_findWay_119 : decode cX10_findWay 119 = .ok (.iadd, 1) := by decide +kernel
theorem dX10_findWay_120 : decode cX10_findWay 120 = .ok (.if_icmp .ne 44, 3) := by decide +kernel
theorem dX10_findWay_123 : decode cX10_findWay 123 = .ok (.aload_n 0, 1) := by decide +kernel
theorem dX10_findWay_124 : decode cX10_findWay 124 = .ok (.getfield 40, 3) := by decide +kernel
theorem dX10_findWay_127 : decode cX10_findWay 127 = .ok (.iload 4, 2) := by decide +kernel
theorem dX10_findWay_129 : decode cX10_findWay 129 = .ok (.iaload, 1) := by decide +kernel
theorem dX10_findWay_130 : decode cX10_findWay 130 = .ok (.aload_n 0, 1) := by decide +kernel
theorem dX10_findWay_131 : decode cX10_findWay 131 = .ok (.getfield 40, 3) := by decide +kernel
theorem dX10_findWay_134 : decode cX10_findWay 134 = .ok (.iload 7, 2) := by decide +kernel
theorem dX10_findWay_136 : decode cX10_findWay 136 = .ok (.iaload, 1) := by decide +kernel
theorem dX10_findWay_137 : decode cX10_findWay 137 = .ok (.aload_n 0, 1) := by decide +kernel
theorem dX10_findWay_138 : decode cX10_findWay 138 = .ok (.getfield 25, 3) := by decide +kernel
theorem dX10_findWay_141 : decode cX10_findWay 141 = .ok (.iload 6, 2) := by decide +kernel
theorem dX10_findWay_143 : decode cX10_findWay 143 = .ok (.iaload, 1) := by decide +kernel
theorem dX10_findWay_144 : decode cX10_findWay 144 = .ok (.iadd, 1) := by decide +kernel
theorem dX10_findWay_145 : decode cX10_findWay 145 = .ok (.if_icmp .ne 19, 3) := by decide +kernel
theorem dX10_findWay_148 : decode cX10_findWay 148 = .ok (.iload 5, 2) := by decide +kernel
theorem dX10_findWay_150 : decode cX10_findWay 150 = .ok (.ifCond .lt 10, 3) := by decide +kernel
theorem dX10_findWay_153 : decode cX10_findWay 153 = .ok (.iload 7, 2) := by decide +kernel
theorem dX10_findWay_155 : decode cX10_findWay 155 = .ok (.iload 5, 2) := by decide +kernel
theorem dX10_findWay_157 : decode cX10_findWay 157 = .ok (.if_icmp .ge 7, 3) := by decide +kernel
theorem dX10_findWay_160 : decode cX10_findWay 160 = .ok (.iload 7, 2) := by decide +kernel
theorem dX10_findWay_162 : decode cX10_findWay 162 = .ok (.istore 5, 2) := by decide +kernel
theorem dX10_findWay_164 : decode cX10_findWay 164 = .ok (.iinc 6 1, 3) := by decide +kernel
theorem dX10_findWay_167 : decode cX10_findWay 167 = .ok (.goto (-140), 3) := by decide +kernel
theorem dX10_findWay_170 : decode cX10_findWay 170 = .ok (.iload 5, 2) := by decide +kernel
theorem dX10_findWay_172 : decode cX10_findWay 172 = .ok (.istore 4, 2) := by decide +kernel
theorem dX10_findWay_174 : decode cX10_findWay 174 = .ok (.aload_n 0, 1) := by decide +kernel
theorem dX10_findWay_175 : decode cX10_findWay 175 = .ok (.getfield 43, 3) := by decide +kernel
theorem dX10_findWay_178 : decode cX10_findWay 178 = .ok (.aload_n 0, 1) := by decide +kernel
theorem dX10_findWay_179 : decode cX10_findWay 179 = .ok (.getfield 238, 3) := by decide +kernel
theorem dX10_findWay_182 : decode cX10_findWay 182 = .ok (.iload 4, 2) := by decide +kernel
theorem dX10_findWay_184 : decode cX10_findWay 184 = .ok (.iastore, 1) := by decide +kernel
theorem dX10_findWay_185 : decode cX10_findWay 185 = .ok (.aload_n 0, 1) := by decide +kernel
theorem dX10_findWay_186 : decode cX10_findWay 186 = .ok (.dup, 1) := by decide +kernel
theorem dX10_findWay_187 : decode cX10_findWay 187 = .ok (.getfield 238, 3) := by decide +kernel
theorem dX10_findWay_190 : decode cX10_findWay 190 = .ok (.iconst 1, 1) := by decide +kernel
theorem dX10_findWay_191 : decode cX10_findWay 191 = .ok (.iadd, 1) := by decide +kernel
theorem dX10_findWay_192 : decode cX10_findWay 192 = .ok (.putfield 238, 3) := by decide +kernel
theorem dX10_findWay_195 : decode cX10_findWay 195 = .ok (.goto (-180), 3) := by decide +kernel
theorem dX10_findWay_198 : decode cX10_findWay 198 = .ok (.return_, 1) := by decide +kernel
theorem dX10_way_0 : decode cX10_way 0 = .ok (.aload_n 0, 1) := by decide +kernel
theorem dX10_way_1 : decode cX10_way 1 = .ok (.iload_n 1, 1) := by decide +kernel
theorem dX10_way_2 : decode cX10_way 2 = .ok (.invokevirtual 212, 3) := by decide +kernel
theorem dX10_way_5 : decode cX10_way 5 = .ok (.ifCond .eq 18, 3) := by decide +kernel
theorem dX10_way_8 : decode cX10_way 8 = .ok (.aload_n 0, 1) := by decide +kernel
theorem dX10_way_9 : decode cX10_way 9 = .ok (.iload_n 2, 1) := by decide +kernel
theorem dX10_way_10 : decode cX10_way 10 = .ok (.invokevirtual 212, 3) := by decide +kernel
theorem dX10_way_13 : decode cX10_way 13 = .ok (.ifCond .eq 10, 3) := by decide +kernel
theorem dX10_way_16 : decode cX10_way 16 = .ok (.iload_n 3, 1) := by decide +kernel
theorem dX10_way_17 : decode cX10_way 17 = .ok (.invokestatic 220, 3) := by decide +kernel
theorem dX10_way_20 : decode cX10_way 20 = .ok (.ifCond .ne 5, 3) := by decide +kernel
theorem dX10_way_23 : decode cX10_way 23 = .ok (.iconst (-1), 1) := by decide +kernel
theorem dX10_way_24 : decode cX10_way 24 = .ok (.ireturn, 1) := by decide +kernel
theorem dX10_way_25 : decode cX10_way 25 = .ok (.aload_n 0, 1) := by decide +kernel
theorem dX10_way_26 : decode cX10_way 26 = .ok (.iload_n 1, 1) := by decide +kernel
theorem dX10_way_27 : decode cX10_way 27 = .ok (.iload_n 2, 1) := by decide +kernel
theorem dX10_way_28 : decode cX10_way 28 = .ok (.iload_n 3, 1) := by decide +kernel
theorem dX10_way_29 : decode cX10_way 29 = .ok (.invokevirtual 241, 3) := by decide +kernel
theorem dX10_way_32 : decode cX10_way 32 = .ok (.istore 4, 2) := by decide +kernel
theorem dX10_way_34 : decode cX10_way 34 = .ok (.iload 4, 2) := by decide +kernel
theorem dX10_way_36 : decode cX10_way 36 = .ok (.ifCond .ge 6, 3) := by decide +kernel
theorem dX10_way_39 : decode cX10_way 39 = .ok (.bipush (-5), 2) := by decide +kernel
theorem dX10_way_41 : decode cX10_way 41 = .ok (.ireturn, 1) := by decide +kernel
theorem dX10_way_42 : decode cX10_way 42 = .ok (.aload_n 0, 1) := by decide +kernel
theorem dX10_way_43 : decode cX10_way 43 = .ok (.iload_n 1, 1) := by decide +kernel
theorem dX10_way_44 : decode cX10_way 44 = .ok (.iload_n 2, 1) := by decide +kernel
theorem dX10_way_45 : decode cX10_way 45 = .ok (.iload_n 3, 1) := by decide +kernel
theorem dX10_way_46 : decode cX10_way 46 = .ok (.invokevirtual 245, 3) := by decide +kernel
theorem dX10_way_49 : decode cX10_way 49 = .ok (.iconst 0, 1) := by decide +kernel
theorem dX10_way_50 : decode cX10_way 50 = .ok (.istore 5, 2) := by decide +kernel
theorem dX10_way_52 : decode cX10_way 52 = .ok (.iload 5, 2) := by decide +kernel
theorem dX10_way_54 : decode cX10_way 54 = .ok (.aload_n 0, 1) := by decide +kernel
theorem dX10_way_55 : decode cX10_way 55 = .ok (.getfield 238, 3) := by decide +kernel
theorem dX10_way_58 : decode cX10_way 58 = .ok (.if_icmp .ge 23, 3) := by decide +kernel
theorem dX10_way_61 : decode cX10_way 61 = .ok (.aload_n 0, 1) := by decide +kernel
theorem dX10_way_62 : decode cX10_way 62 = .ok (.getfield 46, 3) := by decide +kernel
theorem dX10_way_65 : decode cX10_way 65 = .ok (.iload 5, 2) := by decide +kernel
theorem dX10_way_67 : decode cX10_way 67 = .ok (.aload_n 0, 1) := by decide +kernel
theorem dX10_way_68 : decode cX10_way 68 = .ok (.getfield 43, 3) := by decide +kernel
theorem dX10_way_71 : decode cX10_way 71 = .ok (.iload 5, 2) := by decide +kernel
theorem dX10_way_73 : decode cX10_way 73 = .ok (.iaload, 1) := by decide +kernel
theorem dX10_way_74 : decode cX10_way 74 = .ok (.iastore, 1) := by decide +kernel
theorem dX10_way_75 : decode cX10_way 75 = .ok (.iinc 5 1, 3) := by decide +kernel
theorem dX10_way_78 : decode cX10_way 78 = .ok (.goto (-26), 3) := by decide +kernel
theorem dX10_way_81 : decode cX10_way 81 = .ok (.aload_n 0, 1) := by decide +kernel
theorem dX10_way_82 : decode cX10_way 82 = .ok (.aload_n 0, 1) := by decide +kernel
theorem dX10_way_83 : decode cX10_way 83 = .ok (.getfield 238, 3) := by decide +kernel
theorem dX10_way_86 : decode cX10_way 86 = .ok (.putfield 249, 3) := by decide +kernel
theorem dX10_way_89 : decode cX10_way 89 = .ok (.iload 4, 2) := by decide +kernel
theorem dX10_way_91 : decode cX10_way 91 = .ok (.ireturn, 1) := by decide +kernel
theorem dX10_step_0 : decode cX10_step 0 = .ok (.iload_n 1, 1) := by decide +kernel
theorem dX10_step_1 : decode cX10_step 1 = .ok (.ifCond .lt 20, 3) := by decide +kernel
theorem dX10_step_4 : decode cX10_step 4 = .ok (.iload_n 1, 1) := by decide +kernel
theorem dX10_step_5 : decode cX10_step 5 = .ok (.aload_n 0, 1) := by decide +kernel
theorem dX10_step_6 : decode cX10_step 6 = .ok (.getfield 249, 3) := by decide +kernel
theorem dX10_step_9 : decode cX10_step 9 = .ok (.if_icmp .ge 12, 3) := by decide +kernel
theorem dX10_step_12 : decode cX10_step 12 = .ok (.aload_n 0, 1) := by decide +kernel
theorem dX10_step_13 : decode cX10_step 13 = .ok (.getfield 46, 3) := by decide +kernel
theorem dX10_step_16 : decode cX10_step 16 = .ok (.iload_n 1, 1) := by decide +kernel
theorem dX10_step_17 : decode cX10_step 17 = .ok (.iaload, 1) := by decide +kernel
theorem dX10_step_18 : decode cX10_step 18 = .ok (.goto 4, 3) := by decide +kernel
theorem dX10_step_21 : decode cX10_step 21 = .ok (.iconst (-1), 1) := by decide +kernel
theorem dX10_step_22 : decode cX10_step 22 = .ok (.ireturn, 1) := by decide +kernel
theorem dX10_minutesOf_0 : decode cX10_minutesOf 0 = .ok (.iload_n 0, 1) := by decide +kernel
theorem dX10_minutesOf_1 : decode cX10_minutesOf 1 = .ok (.bipush 109, 2) := by decide +kernel
theorem dX10_minutesOf_3 : decode cX10_minutesOf 3 = .ok (.iadd, 1) := by decide +kernel
theorem dX10_minutesOf_4 : decode cX10_minutesOf 4 = .ok (.bipush 110, 2) := by decide +kernel
theorem dX10_minutesOf_6 : decode cX10_minutesOf 6 = .ok (.idiv, 1) := by decide +kernel
theorem dX10_minutesOf_7 : decode cX10_minutesOf 7 = .ok (.ireturn, 1) := by decide +kernel
theorem dX10_coach_0 : decode cX10_coach 0 = .ok (.iload_n 1, 1) := by decide +kernel
theorem dX10_coach_1 : decode cX10_coach 1 = .ok (.iconst 1, 1) := by decide +kernel
theorem dX10_coach_2 : decode cX10_coach 2 = .ok (.sipush 9999, 3) := by decide +kernel
theorem dX10_coach_5 : decode cX10_coach 5 = .ok (.invokestatic 208, 3) := by decide +kernel
theorem dX10_coach_8 : decode cX10_coach 8 = .ok (.ifCond .eq 11, 3) := by decide +kernel
theorem dX10_coach_11 : decode cX10_coach 11 = .ok (.aload_n 0, 1) := by decide +kernel
theorem dX10_coach_12 : decode cX10_coach 12 = .ok (.iload_n 2, 1) := by decide +kernel
theorem dX10_coach_13 : decode cX10_coach 13 = .ok (.invokevirtual 212, 3) := by decide +kernel
theorem dX10_coach_16 : decode cX10_coach 16 = .ok (.ifCond .ne 5, 3) := by decide +kernel
theorem dX10_coach_19 : decode cX10_coach 19 = .ok (.iconst (-1), 1) := by decide +kernel
theorem dX10_coach_20 : decode cX10_coach 20 = .ok (.ireturn, 1) := by decide +kernel
theorem dX10_coach_21 : decode cX10_coach 21 = .ok (.iconst 0, 1) := by decide +kernel
theorem dX10_coach_22 : decode cX10_coach 22 = .ok (.istore_n 3, 1) := by decide +kernel
theorem dX10_coach_23 : decode cX10_coach 23 = .ok (.iload_n 3, 1) := by decide +kernel
theorem dX10_coach_24 : decode cX10_coach 24 = .ok (.aload_n 0, 1) := by decide +kernel
theorem dX10_coach_25 : decode cX10_coach 25 = .ok (.getfield 201, 3) := by decide +kernel
theorem dX10_coach_28 : decode cX10_coach 28 = .ok (.if_icmp .ge 22, 3) := by decide +kernel
theorem dX10_coach_31 : decode cX10_coach 31 = .ok (.aload_n 0, 1) := by decide +kernel
theorem dX10_coach_32 : decode cX10_coach 32 = .ok (.getfield 49, 3) := by decide +kernel
theorem dX10_coach_35 : decode cX10_coach 35 = .ok (.iload_n 3, 1) := by decide +kernel
theorem dX10_coach_36 : decode cX10_coach 36 = .ok (.iaload, 1) := by decide +kernel
theorem dX10_coach_37 : decode cX10_coach 37 = .ok (.iload_n 1, 1) := by decide +kernel
theorem dX10_coach_38 : decode cX10_coach 38 = .ok (.if_icmp .ne 6, 3) := by decide +kernel
theorem dX10_coach_41 : decode cX10_coach 41 = .ok (.bipush (-4), 2) := by decide +kernel
theorem dX10_coach_43 : decode cX10_coach 43 = .ok (.ireturn, 1) := by decide +kernel
theorem dX10_coach_44 : decode cX10_coach 44 = .ok (.iinc 3 1, 3) := by decide +kernel
theorem dX10_coach_47 : decode cX10_coach 47 = .ok (.goto (-24), 3) := by decide +kernel
theorem dX10_coach_50 : decode cX10_coach 50 = .ok (.aload_n 0, 1) := by decide +kernel
theorem dX10_coach_51 : decode cX10_coach 51 = .ok (.getfield 201, 3) := by decide +kernel
theorem dX10_coach_54 : decode cX10_coach 54 = .ok (.bipush 30, 2) := by decide +kernel
theorem dX10_coach_56 : decode cX10_coach 56 = .ok (.if_icmp .ne 6, 3) := by decide +kernel
theorem dX10_coach_59 : decode cX10_coach 59 = .ok (.bipush (-2), 2) := by decide +kernel
theorem dX10_coach_61 : decode cX10_coach 61 = .ok (.ireturn, 1) := by decide +kernel
theorem dX10_coach_62 : decode cX10_coach 62 = .ok (.aload_n 0, 1) := by decide +kernel
theorem dX10_coach_63 : decode cX10_coach 63 = .ok (.getfield 49, 3) := by decide +kernel
theorem dX10_coach_66 : decode cX10_coach 66 = .ok (.aload_n 0, 1) := by decide +kernel
theorem dX10_coach_67 : decode cX10_coach 67 = .ok (.getfield 201, 3) := by decide +kernel
theorem dX10_coach_70 : decode cX10_coach 70 = .ok (.iload_n 1, 1) := by decide +kernel
theorem dX10_coach_71 : decode cX10_coach 71 = .ok (.iastore, 1) := by decide +kernel
theorem dX10_coach_72 : decode cX10_coach 72 = .ok (.aload_n 0, 1) := by decide +kernel
theorem dX10_coach_73 : decode cX10_coach 73 = .ok (.getfield 52, 3) := by decide +kernel
theorem dX10_coach_76 : decode cX10_coach 76 = .ok (.aload_n 0, 1) := by decide +kernel
theorem dX10_coach_77 : decode cX10_coach 77 = .ok (.getfield 201, 3) := by decide +kernel
theorem dX10_coach_80 : decode cX10_coach 80 = .ok (.iload_n 2, 1) := by decide +kernel
theorem dX10_coach_81 : decode cX10_coach 81 = .ok (.iastore, 1) := by decide +kernel
theorem dX10_coach_82 : decode cX10_coach 82 = .ok (.aload_n 0, 1) := by decide +kernel
theorem dX10_coach_83 : decode cX10_coach 83 = .ok (.getfield 64, 3) := by decide +kernel
theorem dX10_coach_86 : decode cX10_coach 86 = .ok (.aload_n 0, 1) := by decide +kernel
theorem dX10_coach_87 : decode cX10_coach 87 = .ok (.getfield 201, 3) := by decide +kernel
theorem dX10_coach_90 : decode cX10_coach 90 = .ok (.iload_n 2, 1) := by decide +kernel
theorem dX10_coach_91 : decode cX10_coach 91 = .ok (.iastore, 1) := by decide +kernel
theorem dX10_coach_92 : decode cX10_coach 92 = .ok (.aload_n 0, 1) := by decide +kernel
theorem dX10_coach_93 : decode cX10_coach 93 = .ok (.getfield 55, 3) := by decide +kernel
theorem dX10_coach_96 : decode cX10_coach 96 = .ok (.aload_n 0, 1) := by decide +kernel
theorem dX10_coach_97 : decode cX10_coach 97 = .ok (.getfield 201, 3) := by decide +kernel
theorem dX10_coach_100 : decode cX10_coach 100 = .ok (.sipush 1000, 3) := by decide +kernel
theorem dX10_coach_103 : decode cX10_coach 103 = .ok (.iastore, 1) := by decide +kernel
theorem dX10_coach_104 : decode cX10_coach 104 = .ok (.aload_n 0, 1) := by decide +kernel
theorem dX10_coach_105 : decode cX10_coach 105 = .ok (.getfield 58, 3) := by decide +kernel
theorem dX10_coach_108 : decode cX10_coach 108 = .ok (.aload_n 0, 1) := by decide +kernel
theorem dX10_coach_109 : decode cX10_coach 109 = .ok (.getfield 201, 3) := by decide +kernel
theorem dX10_coach_112 : decode cX10_coach 112 = .ok (.iconst (-1), 1) := by decide +kernel
theorem dX10_coach_113 : decode cX10_coach 113 = .ok (.iastore, 1) := by decide +kernel
theorem dX10_coach_114 : decode cX10_coach 114 = .ok (.aload_n 0, 1) := by decide +kernel
theorem dX10_coach_115 : decode cX10_coach 115 = .ok (.getfield 70, 3) := by decide +kernel
theorem dX10_coach_118 : decode cX10_coach 118 = .ok (.aload_n 0, 1) := by decide +kernel
theorem dX10_coach_119 : decode cX10_coach 119 = .ok (.getfield 201, 3) := by decide +kernel
theorem dX10_coach_122 : decode cX10_coach 122 = .ok (.iconst (-1), 1) := by decide +kernel
theorem dX10_coach_123 : decode cX10_coach 123 = .ok (.iastore, 1) := by decide +kernel
theorem dX10_coach_124 : decode cX10_coach 124 = .ok (.aload_n 0, 1) := by decide +kernel
theorem dX10_coach_125 : decode cX10_coach 125 = .ok (.dup, 1) := by decide +kernel
theorem dX10_coach_126 : decode cX10_coach 126 = .ok (.getfield 201, 3) := by decide +kernel
theorem dX10_coach_129 : decode cX10_coach 129 = .ok (.iconst 1, 1) := by decide +kernel
theorem dX10_coach_130 : decode cX10_coach 130 = .ok (.iadd, 1) := by decide +kernel
theorem dX10_coach_131 : decode cX10_coach 131 = .ok (.putfield 201, 3) := by decide +kernel
theorem dX10_coach_134 : decode cX10_coach 134 = .ok (.aload_n 0, 1) := by decide +kernel
theorem dX10_coach_135 : decode cX10_coach 135 = .ok (.getfield 201, 3) := by decide +kernel
theorem dX10_coach_138 : decode cX10_coach 138 = .ok (.iconst 1, 1) := by decide +kernel
theorem dX10_coach_139 : decode cX10_coach 139 = .ok (.isub, 1) := by decide +kernel
theorem dX10_coach_140 : decode cX10_coach 140 = .ok (.ireturn, 1) := by decide +kernel
theorem dX10_holder_0 : decode cX10_holder 0 = .ok (.iconst 0, 1) := by decide +kernel
theorem dX10_holder_1 : decode cX10_holder 1 = .ok (.istore_n 3, 1) := by decide +kernel
theorem dX10_holder_2 : decode cX10_holder 2 = .ok (.iload_n 3, 1) := by decide +kernel
theorem dX10_holder_3 : decode cX10_holder 3 = .ok (.aload_n 0, 1) := by decide +kernel
theorem dX10_holder_4 : decode cX10_holder 4 = .ok (.getfield 252, 3) := by decide +kernel
theorem dX10_holder_7 : decode cX10_holder 7 = .ok (.if_icmp .ge 36, 3) := by decide +kernel
theorem dX10_holder_10 : decode cX10_holder 10 = .ok (.aload_n 0, 1) := by decide +kernel
theorem dX10_holder_11 : decode cX10_holder 11 = .ok (.getfield 73, 3) := by decide +kernel
theorem dX10_holder_14 : decode cX10_holder 14 = .ok (.iload_n 3, 1) := by decide +kernel
theorem dX10_holder_15 : decode cX10_holder 15 = .ok (.iaload, 1) := by decide +kernel
theorem dX10_holder_16 : decode cX10_holder 16 = .ok (.iload_n 1, 1) := by decide +kernel
theorem dX10_holder_17 : decode cX10_holder 17 = .ok (.if_icmp .ne 20, 3) := by decide +kernel
theorem dX10_holder_20 : decode cX10_holder 20 = .ok (.aload_n 0, 1) := by decide +kernel
theorem dX10_holder_21 : decode cX10_holder 21 = .ok (.getfield 76, 3) := by decide +kernel
theorem dX10_holder_24 : decode cX10_holder 24 = .ok (.iload_n 3, 1) := by decide +kernel
theorem dX10_holder_25 : decode cX10_holder 25 = .ok (.iaload, 1) := by decide +kernel
theorem dX10_holder_26 : decode cX10_holder 26 = .ok (.iload_n 2, 1) := by decide +kernel
theorem dX10_holder_27 : decode cX10_holder 27 = .ok (.if_icmp .ne 10, 3) := by decide +kernel
theorem dX10_holder_30 : decode cX10_holder 30 = .ok (.aload_n 0, 1) := by decide +kernel
theorem dX10_holder_31 : decode cX10_holder 31 = .ok (.getfield 79, 3) := by decide +kernel
theorem dX10_holder_34 : decode cX10_holder 34 = .ok (.iload_n 3, 1) := by decide +kernel
theorem dX10_holder_35 : decode cX10_holder 35 = .ok (.iaload, 1) := by decide +kernel
theorem dX10_holder_36 : decode cX10_holder 36 = .ok (.ireturn, 1) := by decide +kernel
theorem dX10_holder_37 : decode cX10_holder 37 = .ok (.iinc 3 1, 3) := by decide +kernel
theorem dX10_holder_40 : decode cX10_holder 40 = .ok (.goto (-38), 3) := by decide +kernel
theorem dX10_holder_43 : decode cX10_holder 43 = .ok (.iconst (-1), 1) := by decide +kernel
theorem dX10_holder_44 : decode cX10_holder 44 = .ok (.ireturn, 1) := by decide +kernel
theorem dX10_licence_0 : decode cX10_licence 0 = .ok (.aload_n 0, 1) := by decide +kernel
theorem dX10_licence_1 : decode cX10_licence 1 = .ok (.iload_n 1, 1) := by decide +kernel
theorem dX10_licence_2 : decode cX10_licence 2 = .ok (.invokevirtual 255, 3) := by decide +kernel
theorem dX10_licence_5 : decode cX10_licence 5 = .ok (.ifCond .eq 24, 3) := by decide +kernel
theorem dX10_licence_8 : decode cX10_licence 8 = .ok (.iload_n 2, 1) := by decide +kernel
theorem dX10_licence_9 : decode cX10_licence 9 = .ok (.iconst 0, 1) := by decide +kernel
theorem dX10_licence_10 : decode cX10_licence 10 = .ok (.sipush 1999, 3) := by decide +kernel
theorem dX10_licence_13 : decode cX10_licence 13 = .ok (.invokestatic 208, 3) := by decide +kernel
theorem dX10_licence_16 : decode cX10_licence 16 = .ok (.ifCond .eq 13, 3) := by decide +kernel
theorem dX10_licence_19 : decode cX10_licence 19 = .ok (.iload_n 3, 1) := by decide +kernel
theorem dX10_licence_20 : decode cX10_licence 20 = .ok (.iconst 0, 1) := by decide +kernel
theorem dX10_licence_21 : decode cX10_licence 21 = .ok (.bipush 49, 2) := by decide +kernel
theorem dX10_licence_23 : decode cX10_licence 23 = .ok (.invokestatic 208, 3) := by decide +kernel
theorem dX10_licence_26 : decode cX10_licence 26 = .ok (.ifCond .ne 5, 3) := by decide +kernel
theorem dX10_licence_29 : decode cX10_licence 29 = .ok (.iconst (-1), 1) := by decide +kernel
theorem dX10_licence_30 : decode cX10_licence 30 = .ok (.ireturn, 1) := by decide +kernel
theorem dX10_licence_31 : decode cX10_licence 31 = .ok (.aload_n 0, 1) := by decide +kernel
theorem dX10_licence_32 : decode cX10_licence 32 = .ok (.iload_n 1, 1) := by decide +kernel
theorem dX10_licence_33 : decode cX10_licence 33 = .ok (.iload_n 2, 1) := by decide +kernel
theorem dX10_licence_34 : decode cX10_licence 34 = .ok (.invokevirtual 258, 3) := by decide +kernel
theorem dX10_licence_37 : decode cX10_licence 37 = .ok (.ifCond .lt 6, 3) := by decide +kernel
theorem dX10_licence_40 : decode cX10_licence 40 = .ok (.bipush (-4), 2) := by decide +kernel
theorem dX10_licence_42 : decode cX10_licence 42 = .ok (.ireturn, 1) := by decide +kernel
theorem dX10_licence_43 : decode cX10_licence 43 = .ok (.aload_n 0, 1) := by decide +kernel
theorem dX10_licence_44 : decode cX10_licence 44 = .ok (.getfield 252, 3) := by decide +kernel
theorem dX10_licence_47 : decode cX10_licence 47 = .ok (.sipush 200, 3) := by decide +kernel
theorem dX10_licence_50 : decode cX10_licence 50 = .ok (.if_icmp .ne 6, 3) := by decide +kernel
theorem dX10_licence_53 : decode cX10_licence 53 = .ok (.bipush (-2), 2) := by decide +kernel
theorem dX10_licence_55 : decode cX10_licence 55 = .ok (.ireturn, 1) := by decide +kernel
theorem dX10_licence_56 : decode cX10_licence 56 = .ok (.aload_n 0, 1) := by decide +kernel
theorem dX10_licence_57 : decode cX10_licence 57 = .ok (.getfield 73, 3) := by decide +kernel
theorem dX10_licence_60 : decode cX10_licence 60 = .ok (.aload_n 0, 1) := by decide +kernel
theorem dX10_licence_61 : decode cX10_licence 61 = .ok (.getfield 252, 3) := by decide +kernel
theorem dX10_licence_64 : decode cX10_licence 64 = .ok (.iload_n 1, 1) := by decide +kernel
theorem dX10_licence_65 : decode cX10_licence 65 = .ok (.iastore, 1) := by decide +kernel
theorem dX10_licence_66 : decode cX10_licence 66 = .ok (.aload_n 0, 1) := by decide +kernel
theorem dX10_licence_67 : decode cX10_licence 67 = .ok (.getfield 76, 3) := by decide +kernel
theorem dX10_licence_70 : decode cX10_licence 70 = .ok (.aload_n 0, 1) := by decide +kernel
theorem dX10_licence_71 : decode cX10_licence 71 = .ok (.getfield 252, 3) := by decide +kernel
theorem dX10_licence_74 : decode cX10_licence 74 = .ok (.iload_n 2, 1) := by decide +kernel
theorem dX10_licence_75 : decode cX10_licence 75 = .ok (.iastore, 1) := by decide +kernel
theorem dX10_licence_76 : decode cX10_licence 76 = .ok (.aload_n 0, 1) := by decide +kernel
theorem dX10_licence_77 : decode cX10_licence 77 = .ok (.getfield 79, 3) := by decide +kernel
theorem dX10_licence_80 : decode cX10_licence 80 = .ok (.aload_n 0, 1) := by decide +kernel
theorem dX10_licence_81 : decode cX10_licence 81 = .ok (.getfield 252, 3) := by decide +kernel
theorem dX10_licence_84 : decode cX10_licence 84 = .ok (.iload_n 3, 1) := by decide +kernel
theorem dX10_licence_85 : decode cX10_licence 85 = .ok (.iastore, 1) := by decide +kernel
theorem dX10_licence_86 : decode cX10_licence 86 = .ok (.aload_n 0, 1) := by decide +kernel
theorem dX10_licence_87 : decode cX10_licence 87 = .ok (.dup, 1) := by decide +kernel
theorem dX10_licence_88 : decode cX10_licence 88 = .ok (.getfield 252, 3) := by decide +kernel
theorem dX10_licence_91 : decode cX10_licence 91 = .ok (.iconst 1, 1) := by decide +kernel
theorem dX10_licence_92 : decode cX10_licence 92 = .ok (.iadd, 1) := by decide +kernel
theorem dX10_licence_93 : decode cX10_licence 93 = .ok (.putfield 252, 3) := by decide +kernel
theorem dX10_licence_96 : decode cX10_licence 96 = .ok (.iconst 1, 1) := by decide +kernel
theorem dX10_licence_97 : decode cX10_licence 97 = .ok (.ireturn, 1) := by decide +kernel
theorem dX10_look_0 : decode cX10_look 0 = .ok (.aload_n 0, 1) := by decide +kernel
theorem dX10_look_1 : decode cX10_look 1 = .ok (.iload_n 1, 1) := by decide +kernel
theorem dX10_look_2 : decode cX10_look 2 = .ok (.invokevirtual 255, 3) := by decide +kernel
theorem dX10_look_5 : decode cX10_look 5 = .ok (.ifCond .eq 17, 3) := by decide +kernel
theorem dX10_look_8 : decode cX10_look 8 = .ok (.iload_n 2, 1) := by decide +kernel
theorem dX10_look_9 : decode cX10_look 9 = .ok (.aload_n 0, 1) := by decide +kernel
theorem dX10_look_10 : decode cX10_look 10 = .ok (.invokevirtual 262, 3) := by decide +kernel
theorem dX10_look_13 : decode cX10_look 13 = .ok (.sipush 9999, 3) := by decide +kernel
theorem dX10_look_16 : decode cX10_look 16 = .ok (.invokestatic 208, 3) := by decide +kernel
theorem dX10_look_19 : decode cX10_look 19 = .ok (.ifCond .ne 6, 3) := by decide +kernel
theorem dX10_look_22 : decode cX10_look 22 = .ok (.bipush (-9), 2) := by decide +kernel
theorem dX10_look_24 : decode cX10_look 24 = .ok (.ireturn, 1) := by decide +kernel
theorem dX10_look_25 : decode cX10_look 25 = .ok (.aload_n 0, 1) := by decide +kernel
theorem dX10_look_26 : decode cX10_look 26 = .ok (.getfield 58, 3) := by decide +kernel
theorem dX10_look_29 : decode cX10_look 29 = .ok (.iload_n 1, 1) := by decide +kernel
theorem dX10_look_30 : decode cX10_look 30 = .ok (.iaload, 1) := by decide +kernel
theorem dX10_look_31 : decode cX10_look 31 = .ok (.istore_n 3, 1) := by decide +kernel
theorem dX10_look_32 : decode cX10_look 32 = .ok (.aload_n 0, 1) := by decide +kernel
theorem dX10_look_33 : decode cX10_look 33 = .ok (.getfield 58, 3) := by decide +kernel
theorem dX10_look_36 : decode cX10_look 36 = .ok (.iload_n 1, 1) := by decide +kernel
theorem dX10_look_37 : decode cX10_look 37 = .ok (.iload_n 2, 1) := by decide +kernel
theorem dX10_look_38 : decode cX10_look 38 = .ok (.iastore, 1) := by decide +kernel
theorem dX10_look_39 : decode cX10_look 39 = .ok (.iload_n 3, 1) := by decide +kernel
theorem dX10_look_40 : decode cX10_look 40 = .ok (.ireturn, 1) := by decide +kernel
theorem dX10_stand_0 : decode cX10_stand 0 = .ok (.aload_n 0, 1) := by decide +kernel
theorem dX10_stand_1 : decode cX10_stand 1 = .ok (.iload_n 1, 1) := by decide +kernel
theorem dX10_stand_2 : decode cX10_stand 2 = .ok (.invokevirtual 212, 3) := by decide +kernel
theorem dX10_stand_5 : decode cX10_stand 5 = .ok (.ifCond .eq 13, 3) := by decide +kernel
theorem dX10_stand_8 : decode cX10_stand 8 = .ok (.iload_n 2, 1) := by decide +kernel
theorem dX10_stand_9 : decode cX10_stand 9 = .ok (.iconst 1, 1) := by decide +kernel
theorem dX10_stand_10 : decode cX10_stand 10 = .ok (.bipush 10, 2) := by decide +kernel
theorem dX10_stand_12 : decode cX10_stand 12 = .ok (.invokestatic 208, 3) := by decide +kernel
theorem dX10_stand_15 : decode cX10_stand 15 = .ok (.ifCond .ne 5, 3) := by decide +kernel
theorem dX10_stand_18 : decode cX10_stand 18 = .ok (.iconst (-1), 1) := by decide +kernel
theorem dX10_stand_19 : decode cX10_stand 19 = .ok (.ireturn, 1) := by decide +kernel
theorem dX10_stand_20 : decode cX10_stand 20 = .ok (.aload_n 0, 1) := by decide +kernel
theorem dX10_stand_21 : decode cX10_stand 21 = .ok (.getfield 204, 3) := by decide +kernel
theorem dX10_stand_24 : decode cX10_stand 24 = .ok (.bipush 12, 2) := by decide +kernel
theorem dX10_stand_26 : decode cX10_stand 26 = .ok (.if_icmp .ne 6, 3) := by decide +kernel
theorem dX10_stand_29 : decode cX10_stand 29 = .ok (.bipush (-2), 2) := by decide +kernel
theorem dX10_stand_31 : decode cX10_stand 31 = .ok (.ireturn, 1) := by decide +kernel
theorem dX10_stand_32 : decode cX10_stand 32 = .ok (.aload_n 0, 1) := by decide +kernel
theorem dX10_stand_33 : decode cX10_stand 33 = .ok (.getfield 82, 3) := by decide +kernel
theorem dX10_stand_36 : decode cX10_stand 36 = .ok (.aload_n 0, 1) := by decide +kernel
theorem dX10_stand_37 : decode cX10_stand 37 = .ok (.getfield 204, 3) := by decide +kernel
theorem dX10_stand_40 : decode cX10_stand 40 = .ok (.iload_n 1, 1) := by decide +kernel
theorem dX10_stand_41 : decode cX10_stand 41 = .ok (.iastore, 1) := by decide +kernel
theorem dX10_stand_42 : decode cX10_stand 42 = .ok (.aload_n 0, 1) := by decide +kernel
theorem dX10_stand_43 : decode cX10_stand 43 = .ok (.getfield 85, 3) := by decide +kernel
theorem dX10_stand_46 : decode cX10_stand 46 = .ok (.aload_n 0, 1) := by decide +kernel
theorem dX10_stand_47 : decode cX10_stand 47 = .ok (.getfield 204, 3) := by decide +kernel
theorem dX10_stand_50 : decode cX10_stand 50 = .ok (.iload_n 2, 1) := by decide +kernel
theorem dX10_stand_51 : decode cX10_stand 51 = .ok (.iastore, 1) := by decide +kernel
theorem dX10_stand_52 : decode cX10_stand 52 = .ok (.aload_n 0, 1) := by decide +kernel
theorem dX10_stand_53 : decode cX10_stand 53 = .ok (.dup, 1) := by decide +kernel
theorem dX10_stand_54 : decode cX10_stand 54 = .ok (.getfield 204, 3) := by decide +kernel
theorem dX10_stand_57 : decode cX10_stand 57 = .ok (.iconst 1, 1) := by decide +kernel
theorem dX10_stand_58 : decode cX10_stand 58 = .ok (.iadd, 1) := by decide +kernel
theorem dX10_stand_59 : decode cX10_stand 59 = .ok (.putfield 204, 3) := by decide +kernel
theorem dX10_stand_62 : decode cX10_stand 62 = .ok (.aload_n 0, 1) := by decide +kernel
theorem dX10_stand_63 : decode cX10_stand 63 = .ok (.getfield 204, 3) := by decide +kernel
theorem dX10_stand_66 : decode cX10_stand 66 = .ok (.iconst 1, 1) := by decide +kernel
theorem dX10_stand_67 : decode cX10_stand 67 = .ok (.isub, 1) := by decide +kernel
theorem dX10_stand_68 : decode cX10_stand 68 = .ok (.ireturn, 1) := by decide +kernel
theorem dX10_standOf_0 : decode cX10_standOf 0 = .ok (.iconst 0, 1) := by decide +kernel
theorem dX10_standOf_1 : decode cX10_standOf 1 = .ok (.istore_n 2, 1) := by decide +kernel
theorem dX10_standOf_2 : decode cX10_standOf 2 = .ok (.iload_n 2, 1) := by decide +kernel
theorem dX10_standOf_3 : decode cX10_standOf 3 = .ok (.aload_n 0, 1) := by decide +kernel
theorem dX10_standOf_4 : decode cX10_standOf 4 = .ok (.getfield 204, 3) := by decide +kernel
theorem dX10_standOf_7 : decode cX10_standOf 7 = .ok (.if_icmp .ge 44, 3) := by decide +kernel
theorem dX10_standOf_10 : decode cX10_standOf 10 = .ok (.iconst 0, 1) := by decide +kernel
theorem dX10_standOf_11 : decode cX10_standOf 11 = .ok (.istore_n 3, 1) := by decide +kernel
theorem dX10_standOf_12 : decode cX10_standOf 12 = .ok (.iload_n 3, 1) := by decide +kernel
theorem dX10_standOf_13 : decode cX10_standOf 13 = .ok (.aload_n 0, 1) := by decide +kernel
theorem dX10_standOf_14 : decode cX10_standOf 14 = .ok (.getfield 91, 3) := by decide +kernel
theorem dX10_standOf_17 : decode cX10_standOf 17 = .ok (.iload_n 2, 1) := by decide +kernel
theorem dX10_standOf_18 : decode cX10_standOf 18 = .ok (.iaload, 1) := by decide +kernel
theorem dX10_standOf_19 : decode cX10_standOf 19 = .ok (.if_icmp .ge 26, 3) := by decide +kernel
theorem dX10_standOf_22 : decode cX10_standOf 22 = .ok (.aload_n 0, 1) := by decide +kernel
theorem dX10_standOf_23 : decode cX10_standOf 23 = .ok (.getfield 88, 3) := by decide +kernel
theorem dX10_standOf_26 : decode cX10_standOf 26 = .ok (.bipush 10, 2) := by decide +kernel
theorem dX10_standOf_28 : decode cX10_standOf 28 = .ok (.iload_n 2, 1) := by decide +kernel
theorem dX10_standOf_29 : decode cX10_standOf 29 = .ok (.imul, 1) := by decide +kernel
theorem dX10_standOf_30 : decode cX10_standOf 30 = .ok (.iload_n 3, 1) := by decide +kernel
theorem dX10_standOf_31 : decode cX10_standOf 31 = .ok (.iadd, 1) := by decide +kernel
theorem dX10_standOf_32 : decode cX10_standOf 32 = .ok (.iaload, 1) := by decide +kernel
theorem dX10_standOf_33 : decode cX10_standOf 33 = .ok (.iload_n 1, 1) := by decide +kernel
theorem dX10_standOf_34 : decode cX10_standOf 34 = .ok (.if_icmp .ne 5, 3) := by decide +kernel
theorem dX10_standOf_37 : decode cX10_standOf 37 = .ok (.iload_n 2, 1) := by decide +kernel
theorem dX10_standOf_38 : decode cX10_standOf 38 = .ok (.ireturn, 1) := by decide +kernel
theorem dX10_standOf_39 : decode cX10_standOf 39 = .ok (.iinc 3 1, 3) := by decide +kernel
theorem dX10_standOf_42 : decode cX10_standOf 42 = .ok (.goto (-30), 3) := by decide +kernel
theorem dX10_standOf_45 : decode cX10_standOf 45 = .ok (.iinc 2 1, 3) := by decide +kernel
theorem dX10_standOf_48 : decode cX10_standOf 48 = .ok (.goto (-46), 3) := by decide +kernel
theorem dX10_standOf_51 : decode cX10_standOf 51 = .ok (.iconst (-1), 1) := by decide +kernel
theorem dX10_standOf_52 : decode cX10_standOf 52 = .ok (.ireturn, 1) := by decide +kernel
theorem dX10_leaveRow_0 : decode cX10_leaveRow 0 = .ok (.aload_n 0, 1) := by decide +kernel
theorem dX10_leaveRow_1 : decode cX10_leaveRow 1 = .ok (.iload_n 1, 1) := by decide +kernel
theorem dX10_leaveRow_2 : decode cX10_leaveRow 2 = .ok (.invokevirtual 266, 3) := by decide +kernel
theorem dX10_leaveRow_5 : decode cX10_leaveRow 5 = .ok (.istore_n 2, 1) := by decide +kernel
theorem dX10_leaveRow_6 : decode cX10_leaveRow 6 = .ok (.iload_n 2, 1) := by decide +kernel
theorem dX10_leaveRow_7 : decode cX10_leaveRow 7 = .ok (.ifCond .lt 74, 3) := by decide +kernel
theorem dX10_leaveRow_10 : decode cX10_leaveRow 10 = .ok (.iconst 0, 1) := by decide +kernel
theorem dX10_leaveRow_11 : decode cX10_leaveRow 11 = .ok (.istore_n 3, 1) := by decide +kernel
theorem dX10_leaveRow_12 : decode cX10_leaveRow 12 = .ok (.iconst 0, 1) := by decide +kernel
theorem dX10_leaveRow_13 : decode cX10_leaveRow 13 = .ok (.istore 4, 2) := by decide +kernel
theorem dX10_leaveRow_15 : decode cX10_leaveRow 15 = .ok (.iload 4, 2) := by decide +kernel
theorem dX10_leaveRow_17 : decode cX10_leaveRow 17 = .ok (.aload_n 0, 1) := by decide +kernel
theorem dX10_leaveRow_18 : decode cX10_leaveRow 18 = .ok (.getfield 91, 3) := by decide +kernel
theorem dX10_leaveRow_21 : decode cX10_leaveRow 21 = .ok (.iload_n 2, 1) := by decide +kernel
theorem dX10_leaveRow_22 : decode cX10_leaveRow 22 = .ok (.iaload, 1) := by decide +kernel
theorem dX10_leaveRow_23 : decode cX10_leaveRow 23 = .ok (.if_icmp .ge 51, 3) := by decide +kernel
theorem dX10_leaveRow_26 : decode cX10_leaveRow 26 = .ok (.aload_n 0, 1) := by decide +kernel
theorem dX10_leaveRow_27 : decode cX10_leaveRow 27 = .ok (.getfield 88, 3) := by decide +kernel
theorem dX10_leaveRow_30 : decode cX10_leaveRow 30 = .ok (.bipush 10, 2) := by decide +kernel
theorem dX10_leaveRow_32 : decode cX10_leaveRow 32 = .ok (.iload_n 2, 1) := by decide +kernel
theorem dX10_leaveRow_33 : decode cX10_leaveRow 33 = .ok (.imul, 1) := by decide +kernel
theorem dX10_leaveRow_34 : decode cX10_leaveRow 34 = .ok (.iload 4, 2) := by decide +kernel
theorem dX10_leaveRow_36 : decode cX10_leaveRow 36 = .ok (.iadd, 1) := by decide +kernel
theorem dX10_leaveRow_37 : decode cX10_leaveRow 37 = .ok (.iaload, 1) := by decide +kernel
theorem dX10_leaveRow_38 : decode cX10_leaveRow 38 = .ok (.iload_n 1, 1) := by decide +kernel
theorem dX10_leaveRow_39 : decode cX10_leaveRow 39 = .ok (.if_icmp .eq 29, 3) := by decide +kernel
theorem dX10_leaveRow_42 : decode cX10_leaveRow 42 = .ok (.aload_n 0, 1) := by decide +kernel
theorem dX10_leaveRow_43 : decode cX10_leaveRow 43 = .ok (.getfield 88, 3) := by decide +kernel
theorem dX10_leaveRow_46 : decode cX10_leaveRow 46 = .ok (.bipush 10, 2) := by decide +kernel
theorem dX10_leaveRow_48 : decode cX10_leaveRow 48 = .ok (.iload_n 2, 1) := by decide +kernel
theorem dX10_leaveRow_49 : decode cX10_leaveRow 49 = .ok (.imul, 1) := by decide +kernel
theorem dX10_leaveRow_50 : decode cX10_leaveRow 50 = .ok (.iload_n 3, 1) := by decide +kernel
theorem dX10_leaveRow_51 : decode cX10_leaveRow 51 = .ok (.iadd, 1) := by decide +kernel
theorem dX10_leaveRow_52 : decode cX10_leaveRow 52 = .ok (.aload_n 0, 1) := by decide +kernel
theorem dX10_leaveRow_53 : decode cX10_leaveRow 53 = .ok (.getfield 88, 3) := by decide +kernel
theorem dX10_leaveRow_56 : decode cX10_leaveRow 56 = .ok (.bipush 10, 2) := by decide +kernel
theorem dX10_leaveRow_58 : decode cX10_leaveRow 58 = .ok (.iload_n 2, 1) := by decide +kernel
theorem dX10_leaveRow_59 : decode cX10_leaveRow 59 = .ok (.imul, 1) := by decide +kernel
theorem dX10_leaveRow_60 : decode cX10_leaveRow 60 = .ok (.iload 4, 2) := by decide +kernel
theorem dX10_leaveRow_62 : decode cX10_leaveRow 62 = .ok (.iadd, 1) := by decide +kernel
theorem dX10_leaveRow_63 : decode cX10_leaveRow 63 = .ok (.iaload, 1) := by decide +kernel
theorem dX10_leaveRow_64 : decode cX10_leaveRow 64 = .ok (.iastore, 1) := by decide +kernel
theorem dX10_leaveRow_65 : decode cX10_leaveRow 65 = .ok (.iinc 3 1, 3) := by decide +kernel
theorem dX10_leaveRow_68 : decode cX10_leaveRow 68 = .ok (.iinc 4 1, 3) := by decide +kernel
theorem dX10_leaveRow_71 : decode cX10_leaveRow 71 = .ok (.goto (-56), 3) := by decide +kernel
theorem dX10_leaveRow_74 : decode cX10_leaveRow 74 = .ok (.aload_n 0, 1) := by decide +kernel
theorem dX10_leaveRow_75 : decode cX10_leaveRow 75 = .ok (.getfield 91, 3) := by decide +kernel
theorem dX10_leaveRow_78 : decode cX10_leaveRow 78 = .ok (.iload_n 2, 1) := by decide +kernel
theorem dX10_leaveRow_79 : decode cX10_leaveRow 79 = .ok (.iload_n 3, 1) := by decide +kernel
theorem dX10_leaveRow_80 : decode cX10_leaveRow 80 = .ok (.iastore, 1) := by decide +kernel
theorem dX10_leaveRow_81 : decode cX10_leaveRow 81 = .ok (.return_, 1) := by decide +kernel
theorem dX10_arrive_0 : decode cX10_arrive 0 = .ok (.aload_n 0, 1) := by decide +kernel
theorem dX10_arrive_1 : decode cX10_arrive 1 = .ok (.getfield 70, 3) := by decide +kernel
theorem dX10_arrive_4 : decode cX10_arrive 4 = .ok (.iload_n 1, 1) := by decide +kernel
theorem dX10_arrive_5 : decode cX10_arrive 5 = .ok (.iaload, 1) := by decide +kernel
theorem dX10_arrive_6 : decode cX10_arrive 6 = .ok (.istore_n 2, 1) := by decide +kernel
theorem dX10_arrive_7 : decode cX10_arrive 7 = .ok (.iload_n 2, 1) := by decide +kernel
theorem dX10_arrive_8 : decode cX10_arrive 8 = .ok (.ifCond .ge 11, 3) := by decide +kernel
theorem dX10_arrive_11 : decode cX10_arrive 11 = .ok (.aload_n 0, 1) := by decide +kernel
theorem dX10_arrive_12 : decode cX10_arrive 12 = .ok (.getfield 61, 3) := by decide +kernel
theorem dX10_arrive_15 : decode cX10_arrive 15 = .ok (.iload_n 1, 1) := by decide +kernel
theorem dX10_arrive_16 : decode cX10_arrive 16 = .ok (.iconst 0, 1) := by decide +kernel
theorem dX10_arrive_17 : decode cX10_arrive 17 = .ok (.iastore, 1) := by decide +kernel
theorem dX10_arrive_18 : decode cX10_arrive 18 = .ok (.return_, 1) := by decide +kernel
theorem dX10_arrive_19 : decode cX10_arrive 19 = .ok (.aload_n 0, 1) := by decide +kernel
theorem dX10_arrive_20 : decode cX10_arrive 20 = .ok (.getfield 91, 3) := by decide +kernel
theorem dX10_arrive_23 : decode cX10_arrive 23 = .ok (.iload_n 2, 1) := by decide +kernel
theorem dX10_arrive_24 : decode cX10_arrive 24 = .ok (.iaload, 1) := by decide +kernel
theorem dX10_arrive_25 : decode cX10_arrive 25 = .ok (.aload_n 0, 1) := by decide +kernel
theorem dX10_arrive_26 : decode cX10_arrive 26 = .ok (.getfield 85, 3) := by decide +kernel
theorem dX10_arrive_29 : decode cX10_arrive 29 = .ok (.iload_n 2, 1) := by decide +kernel
theorem dX10_arrive_30 : decode cX10_arrive 30 = .ok (.iaload, 1) := by decide +kernel
theorem dX10_arrive_31 : decode cX10_arrive 31 = .ok (.if_icmp .ne 13, 3) := by decide +kernel
theorem dX10_arrive_34 : decode cX10_arrive 34 = .ok (.aload_n 0, 1) := by decide +kernel
theorem dX10_arrive_35 : decode cX10_arrive 35 = .ok (.getfield 61, 3) := by decide +kernel
theorem dX10_arrive_38 : decode cX10_arrive 38 = .ok (.iload_n 1, 1) := by decide +kernel
theorem dX10_arrive_39 : decode cX10_arrive 39 = .ok (.iconst 4, 1) := by decide +kernel
theorem dX10_arrive_40 : decode cX10_arrive 40 = .ok (.iastore, 1) := by decide +kernel
theorem dX10_arrive_41 : decode cX10_arrive 41 = .ok (.goto 37, 3) := by decide +kernel
theorem dX10_arrive_44 : decode cX10_arrive 44 = .ok (.aload_n 0, 1) := by decide +kernel
theorem dX10_arrive_45 : decode cX10_arrive 45 = .ok (.getfield 61, 3) := by decide +kernel
theorem dX10_arrive_48 : decode cX10_arrive 48 = .ok (.iload_n 1, 1) := by decide +kernel
theorem dX10_arrive_49 : decode cX10_arrive 49 = .ok (.iconst 1, 1) := by decide +kernel
theorem dX10_arrive_50 : decode cX10_arrive 50 = .ok (.iastore, 1) := by decide +kernel
theorem dX10_arrive_51 : decode cX10_arrive 51 = .ok (.aload_n 0, 1) := by decide +kernel
theorem dX10_arrive_52 : decode cX10_arrive 52 = .ok (.getfield 88, 3) := by decide +kernel
theorem dX10_arrive_55 : decode cX10_arrive 55 = .ok (.bipush 10, 2) := by decide +kernel
theorem dX10_arrive_57 : decode cX10_arrive 57 = .ok (.iload_n 2, 1) := by decide +kernel
theorem dX10_arrive_58 : decode cX10_arrive 58 = .ok (.imul, 1) := by decide +kernel
theorem dX10_arrive_59 : decode cX10_arrive 59 = .ok (.aload_n 0, 1) := by decide +kernel
theorem dX10_arrive_60 : decode cX10_arrive 60 = .ok (.getfield 91, 3) := by decide +kernel
theorem dX10_arrive_63 : decode cX10_arrive 63 = .ok (.iload_n 2, 1) := by decide +kernel
theorem dX10_arrive_64 : decode cX10_arrive 64 = .ok (.iaload, 1) := by decide +kernel
theorem dX10_arrive_65 : decode cX10_arrive 65 = .ok (.iadd, 1) := by decide +kernel
theorem dX10_arrive_66 : decode cX10_arrive 66 = .ok (.iload_n 1, 1) := by decide +kernel
theorem dX10_arrive_67 : decode cX10_arrive 67 = .ok (.iastore, 1) := by decide +kernel
theorem dX10_arrive_68 : decode cX10_arrive 68 = .ok (.aload_n 0, 1) := by decide +kernel
theorem dX10_arrive_69 : decode cX10_arrive 69 = .ok (.getfield 91, 3) := by decide +kernel
theorem dX10_arrive_72 : decode cX10_arrive 72 = .ok (.iload_n 2, 1) := by decide +kernel
theorem dX10_arrive_73 : decode cX10_arrive 73 = .ok (.dup2, 1) := by decide +kernel
theorem dX10_arrive_74 : decode cX10_arrive 74 = .ok (.iaload, 1) := by decide +kernel
theorem dX10_arrive_75 : decode cX10_arrive 75 = .ok (.iconst 1, 1) := by decide +kernel
theorem dX10_arrive_76 : decode cX10_arrive 76 = .ok (.iadd, 1) := by decide +kernel
theorem dX10_arrive_77 : decode cX10_arrive 77 = .ok (.iastore, 1) := by decide +kernel
theorem dX10_arrive_78 : decode cX10_arrive 78 = .ok (.return_, 1) := by decide +kernel
theorem dX10_go_0 : decode cX10_go 0 = .ok (.aload_n 0, 1) := by decide +kernel
theorem dX10_go_1 : decode cX10_go 1 = .ok (.iload_n 1, 1) := by decide +kernel
theorem dX10_go_2 : decode cX10_go 2 = .ok (.invokevirtual 255, 3) := by decide +kernel
theorem dX10_go_5 : decode cX10_go 5 = .ok (.ifCond .eq 16, 3) := by decide +kernel
theorem dX10_go_8 : decode cX10_go 8 = .ok (.iload_n 2, 1) := by decide +kernel
theorem dX10_go_9 : decode cX10_go 9 = .ok (.iconst (-1), 1) := by decide +kernel
theorem dX10_go_10 : decode cX10_go 10 = .ok (.if_icmp .eq 13, 3) := by decide +kernel
theorem dX10_go_13 : decode cX10_go 13 = .ok (.aload_n 0, 1) := by decide +kernel
theorem dX10_go_14 : decode cX10_go 14 = .ok (.iload_n 2, 1) := by decide +kernel
theorem dX10_go_15 : decode cX10_go 15 = .ok (.invokevirtual 270, 3) := by decide +kernel
theorem dX10_go_18 : decode cX10_go 18 = .ok (.ifCond .ne 5, 3) := by decide +kernel
theorem dX10_go_21 : decode cX10_go 21 = .ok (.iconst (-1), 1) := by decide +kernel
theorem dX10_go_22 : decode cX10_go 22 = .ok (.ireturn, 1) := by decide +kernel
theorem dX10_go_23 : decode cX10_go 23 = .ok (.aload_n 0, 1) := by decide +kernel
theorem dX10_go_24 : decode cX10_go 24 = .ok (.getfield 61, 3) := by decide +kernel
theorem dX10_go_27 : decode cX10_go 27 = .ok (.iload_n 1, 1) := by decide +kernel
theorem dX10_go_28 : decode cX10_go 28 = .ok (.iaload, 1) := by decide +kernel
theorem dX10_go_29 : decode cX10_go 29 = .ok (.iconst 2, 1) := by decide +kernel
theorem dX10_go_30 : decode cX10_go 30 = .ok (.if_icmp .eq 32, 3) := by decide +kernel
theorem dX10_go_33 : decode cX10_go 33 = .ok (.aload_n 0, 1) := by decide +kernel
theorem dX10_go_34 : decode cX10_go 34 = .ok (.getfield 61, 3) := by decide +kernel
theorem dX10_go_37 : decode cX10_go 37 = .ok (.iload_n 1, 1) := by decide +kernel
theorem dX10_go_38 : decode cX10_go 38 = .ok (.iaload, 1) := by decide +kernel
theorem dX10_go_39 : decode cX10_go 39 = .ok (.iconst 3, 1) := by decide +kernel
theorem dX10_go_40 : decode cX10_go 40 = .ok (.if_icmp .eq 22, 3) := by decide +kernel
theorem dX10_go_43 : decode cX10_go 43 = .ok (.aload_n 0, 1) := by decide +kernel
theorem dX10_go_44 : decode cX10_go 44 = .ok (.getfield 61, 3) := by decide +kernel
theorem dX10_go_47 : decode cX10_go 47 = .ok (.iload_n 1, 1) := by decide +kernel
theorem dX10_go_48 : decode cX10_go 48 = .ok (.iaload, 1) := by decide +kernel
theorem dX10_go_49 : decode cX10_go 49 = .ok (.iconst 1, 1) := by decide +kernel
theorem dX10_go_50 : decode cX10_go 50 = .ok (.if_icmp .ne 15, 3) := by decide +kernel
theorem dX10_go_53 : decode cX10_go 53 = .ok (.aload_n 0, 1) := by decide +kernel
theorem dX10_go_54 : decode cX10_go 54 = .ok (.iload_n 1, 1) := by decide +kernel
theorem dX10_go_55 : decode cX10_go 55 = .ok (.invokevirtual 266, 3) := by decide +kernel
theorem dX10_go_58 : decode cX10_go 58 = .ok (.iload_n 2, 1) := by decide +kernel
theorem dX10_go_59 : decode cX10_go 59 = .ok (.if_icmp .ne 6, 3) := by decide +kernel
theorem dX10_go_62 : decode cX10_go 62 = .ok (.bipush (-3), 2) := by decide +kernel
theorem dX10_go_64 : decode cX10_go 64 = .ok (.ireturn, 1) := by decide +kernel
theorem dX10_go_65 : decode cX10_go 65 = .ok (.iload_n 2, 1) := by decide +kernel
theorem dX10_go_66 : decode cX10_go 66 = .ok (.ifCond .ge 12, 3) := by decide +kernel
theorem dX10_go_69 : decode cX10_go 69 = .ok (.aload_n 0, 1) := by decide +kernel
theorem dX10_go_70 : decode cX10_go 70 = .ok (.getfield 52, 3) := by decide +kernel
theorem dX10_go_73 : decode cX10_go 73 = .ok (.iload_n 1, 1) := by decide +kernel
theorem dX10_go_74 : decode cX10_go 74 = .ok (.iaload, 1) := by decide +kernel
theorem dX10_go_75 : decode cX10_go 75 = .ok (.goto 9, 3) := by decide +kernel
theorem dX10_go_78 : decode cX10_go 78 = .ok (.aload_n 0, 1) := by decide +kernel
theorem dX10_go_79 : decode cX10_go 79 = .ok (.getfield 82, 3) := by decide +kernel
theorem dX10_go_82 : decode cX10_go 82 = .ok (.iload_n 2, 1) := by decide +kernel
theorem dX10_go_83 : decode cX10_go 83 = .ok (.iaload, 1) := by decide +kernel
theorem dX10_go_84 : decode cX10_go 84 = .ok (.istore_n 3, 1) := by decide +kernel
theorem dX10_go_85 : decode cX10_go 85 = .ok (.aload_n 0, 1) := by decide +kernel
theorem dX10_go_86 : decode cX10_go 86 = .ok (.aload_n 0, 1) := by decide +kernel
theorem dX10_go_87 : decode cX10_go 87 = .ok (.getfield 64, 3) := by decide +kernel
theorem dX10_go_90 : decode cX10_go 90 = .ok (.iload_n 1, 1) := by decide +kernel
theorem dX10_go_91 : decode cX10_go 91 = .ok (.iaload, 1) := by decide +kernel
theorem dX10_go_92 : decode cX10_go 92 = .ok (.iload_n 3, 1) := by decide +kernel
theorem dX10_go_93 : decode cX10_go 93 = .ok (.aload_n 0, 1) := by decide +kernel
theorem dX10_go_94 : decode cX10_go 94 = .ok (.getfield 194, 3) := by decide +kernel
theorem dX10_go_97 : decode cX10_go 97 = .ok (.invokevirtual 241, 3) := by decide +kernel
theorem dX10_go_100 : decode cX10_go 100 = .ok (.istore 4, 2) := by decide +kernel
theorem dX10_go_102 : decode cX10_go 102 = .ok (.iload 4, 2) := by decide +kernel
theorem dX10_go_104 : decode cX10_go 104 = .ok (.ifCond .ge 6, 3) := by decide +kernel
theorem dX10_go_107 : decode cX10_go 107 = .ok (.bipush (-5), 2) := by decide +kernel
theorem dX10_go_109 : decode cX10_go 109 = .ok (.ireturn, 1) := by decide +kernel
theorem dX10_go_110 : decode cX10_go 110 = .ok (.aload_n 0, 1) := by decide +kernel
theorem dX10_go_111 : decode cX10_go 111 = .ok (.iload_n 1, 1) := by decide +kernel
theorem dX10_go_112 : decode cX10_go 112 = .ok (.invokevirtual 273, 3) := by decide +kernel
theorem dX10_go_115 : decode cX10_go 115 = .ok (.aload_n 0, 1) := by decide +kernel
theorem dX10_go_116 : decode cX10_go 116 = .ok (.getfield 70, 3) := by decide +kernel
theorem dX10_go_119 : decode cX10_go 119 = .ok (.iload_n 1, 1) := by decide +kernel
theorem dX10_go_120 : decode cX10_go 120 = .ok (.iload_n 2, 1) := by decide +kernel
theorem dX10_go_121 : decode cX10_go 121 = .ok (.iastore, 1) := by decide +kernel
theorem dX10_go_122 : decode cX10_go 122 = .ok (.aload_n 0, 1) := by decide +kernel
theorem dX10_go_123 : decode cX10_go 123 = .ok (.getfield 64, 3) := by decide +kernel
theorem dX10_go_126 : decode cX10_go 126 = .ok (.iload_n 1, 1) := by decide +kernel
theorem dX10_go_127 : decode cX10_go 127 = .ok (.iload_n 3, 1) := by decide +kernel
theorem dX10_go_128 : decode cX10_go 128 = .ok (.iastore, 1) := by decide +kernel
theorem dX10_go_129 : decode cX10_go 129 = .ok (.iload 4, 2) := by decide +kernel
theorem dX10_go_131 : decode cX10_go 131 = .ok (.invokestatic 277, 3) := by decide +kernel
theorem dX10_go_134 : decode cX10_go 134 = .ok (.istore 5, 2) := by decide +kernel
theorem dX10_go_136 : decode cX10_go 136 = .ok (.iload 5, 2) := by decide +kernel
theorem dX10_go_138 : decode cX10_go 138 = .ok (.ifCond .ne 10, 3) := by decide +kernel
theorem dX10_go_141 : decode cX10_go 141 = .ok (.aload_n 0, 1) := by decide +kernel
theorem dX10_go_142 : decode cX10_go 142 = .ok (.iload_n 1, 1) := by decide +kernel
theorem dX10_go_143 : decode cX10_go 143 = .ok (.invokevirtual 280, 3) := by decide +kernel
theorem dX10_go_146 : decode cX10_go 146 = .ok (.iconst 0, 1) := by decide +kernel
theorem dX10_go_147 : decode cX10_go 147 = .ok (.ireturn, 1) := by decide +kernel
theorem dX10_go_148 : decode cX10_go 148 = .ok (.aload_n 0, 1) := by decide +kernel
theorem dX10_go_149 : decode cX10_go 149 = .ok (.getfield 61, 3) := by decide +kernel
theorem dX10_go_152 : decode cX10_go 152 = .ok (.iload_n 1, 1) := by decide +kernel
theorem dX10_go_153 : decode cX10_go 153 = .ok (.iconst 2, 1) := by decide +kernel
theorem dX10_go_154 : decode cX10_go 154 = .ok (.iastore, 1) := by decide +kernel
theorem dX10_go_155 : decode cX10_go 155 = .ok (.aload_n 0, 1) := by decide +kernel
theorem dX10_go_156 : decode cX10_go 156 = .ok (.getfield 67, 3) := by decide +kernel
theorem dX10_go_159 : decode cX10_go 159 = .ok (.iload_n 1, 1) := by decide +kernel
theorem dX10_go_160 : decode cX10_go 160 = .ok (.aload_n 0, 1) := by decide +kernel
theorem dX10_go_161 : decode cX10_go 161 = .ok (.getfield 194, 3) := by decide +kernel
theorem dX10_go_164 : decode cX10_go 164 = .ok (.iload 5, 2) := by decide +kernel
theorem dX10_go_166 : decode cX10_go 166 = .ok (.iadd, 1) := by decide +kernel
theorem dX10_go_167 : decode cX10_go 167 = .ok (.iastore, 1) := by decide +kernel
theorem dX10_go_168 : decode cX10_go 168 = .ok (.iload 5, 2) := by decide +kernel
theorem dX10_go_170 : decode cX10_go 170 = .ok (.ireturn, 1) := by decide +kernel
theorem dX10_about_0 : decode cX10_about 0 = .ok (.aload_n 0, 1) := by decide +kernel
theorem dX10_about_1 : decode cX10_about 1 = .ok (.iload_n 1, 1) := by decide +kernel
theorem dX10_about_2 : decode cX10_about 2 = .ok (.invokevirtual 255, 3) := by decide +kernel
theorem dX10_about_5 : decode cX10_about 5 = .ok (.ifCond .ne 6, 3) := by decide +kernel
theorem dX10_about_8 : decode cX10_about 8 = .ok (.bipush (-9), 2) := by decide +kernel
theorem dX10_about_10 : decode cX10_about 10 = .ok (.ireturn, 1) := by decide +kernel
theorem dX10_about_11 : decode cX10_about 11 = .ok (.aload_n 0, 1) := by decide +kernel
theorem dX10_about_12 : decode cX10_about 12 = .ok (.getfield 61, 3) := by decide +kernel
theorem dX10_about_15 : decode cX10_about 15 = .ok (.iload_n 1, 1) := by decide +kernel
theorem dX10_about_16 : decode cX10_about 16 = .ok (.iaload, 1) := by decide +kernel
theorem dX10_about_17 : decode cX10_about 17 = .ok (.iconst 2, 1) := by decide +kernel
theorem dX10_about_18 : decode cX10_about 18 = .ok (.if_icmp .eq 13, 3) := by decide +kernel
theorem dX10_about_21 : decode cX10_about 21 = .ok (.aload_n 0, 1) := by decide +kernel
theorem dX10_about_22 : decode cX10_about 22 = .ok (.getfield 61, 3) := by decide +kernel
theorem dX10_about_25 : decode cX10_about 25 = .ok (.iload_n 1, 1) := by decide +kernel
theorem dX10_about_26 : decode cX10_about 26 = .ok (.iaload, 1) := by decide +kernel
theorem dX10_about_27 : decode cX10_about 27 = .ok (.iconst 3, 1) := by decide +kernel
theorem dX10_about_28 : decode cX10_about 28 = .ok (.if_icmp .ne 7, 3) := by decide +kernel
theorem dX10_about_31 : decode cX10_about 31 = .ok (.iconst 1, 1) := by decide +kernel
theorem dX10_about_32 : decode cX10_about 32 = .ok (.goto 4, 3) := by decide +kernel
theorem dX10_about_35 : decode cX10_about 35 = .ok (.iconst 0, 1) := by decide +kernel
theorem dX10_about_36 : decode cX10_about 36 = .ok (.istore_n 3, 1) := by decide +kernel
theorem dX10_about_37 : decode cX10_about 37 = .ok (.iload_n 2, 1) := by decide +kernel
theorem dX10_about_38 : decode cX10_about 38 = .ok (.tableswitch 163 0 8 #[50, 57, 64, 71, 86, 125, 139, 146, 146], 50) := by decide +kernel
theorem dX10_about_88 : decode cX10_about 88 = .ok (.aload_n 0, 1) := by decide +kernel
theorem dX10_about_89 : decode cX10_about 89 = .ok (.getfield 61, 3) := by decide +kernel
theorem dX10_about_92 : decode cX10_about 92 = .ok (.iload_n 1, 1) := by decide +kernel
theorem dX10_about_93 : decode cX10_about 93 = .ok (.iaload, 1) := by decide +kernel
theorem dX10_about_94 : decode cX10_about 94 = .ok (.ireturn, 1) := by decide +kernel
theorem dX10_about_95 : decode cX10_about 95 = .ok (.aload_n 0, 1) := by decide +kernel
theorem dX10_about_96 : decode cX10_about 96 = .ok (.getfield 64, 3) := by decide +kernel
theorem dX10_about_99 : decode cX10_about 99 = .ok (.iload_n 1, 1) := by decide +kernel
theorem dX10_about_100 : decode cX10_about 100 = .ok (.iaload, 1) := by decide +kernel
theorem dX10_about_101 : decode cX10_about 101 = .ok (.ireturn, 1) := by decide +kernel
theorem dX10_about_102 : decode cX10_about 102 = .ok (.aload_n 0, 1) := by decide +kernel
theorem dX10_about_103 : decode cX10_about 103 = .ok (.getfield 55, 3) := by decide +kernel
theorem dX10_about_106 : decode cX10_about 106 = .ok (.iload_n 1, 1) := by decide +kernel
theorem dX10_about_107 : decode cX10_about 107 = .ok (.iaload, 1) := by decide +kernel
theorem dX10_about_108 : decode cX10_about 108 = .ok (.ireturn, 1) := by decide +kernel
theorem dX10_about_109 : decode cX10_about 109 = .ok (.iload_n 3, 1) := by decide +kernel
theorem dX10_about_110 : decode cX10_about 110 = .ok (.ifCond .eq 12, 3) := by decide +kernel
theorem dX10_about_113 : decode cX10_about 113 = .ok (.aload_n 0, 1) := by decide +kernel
theorem dX10_about_114 : decode cX10_about 114 = .ok (.getfield 67, 3) := by decide +kernel
theorem dX10_about_117 : decode cX10_about 117 = .ok (.iload_n 1, 1) := by decide +kernel
theorem dX10_about_118 : decode cX10_about 118 = .ok (.iaload, 1) := by decide +kernel
theorem dX10_about_119 : decode cX10_about 119 = .ok (.goto 4, 3) := by decide +kernel
theorem dX10_about_122 : decode cX10_about 122 = .ok (.iconst (-1), 1) := by decide +kernel
theorem dX10_about_123 : decode cX10_about 123 = .ok (.ireturn, 1) := by decide +kernel
theorem dX10_about_124 : decode cX10_about 124 = .ok (.aload_n 0, 1) := by decide +kernel
theorem dX10_about_125 : decode cX10_about 125 = .ok (.getfield 61, 3) := by decide +kernel
theorem dX10_about_128 : decode cX10_about 128 = .ok (.iload_n 1, 1) := by decide +kernel
theorem dX10_about_129 : decode cX10_about 129 = .ok (.iaload, 1) := by decide +kernel
theorem dX10_about_130 : decode cX10_about 130 = .ok (.iconst 1, 1) := by decide +kernel
theorem dX10_about_131 : decode cX10_about 131 = .ok (.if_icmp .ne 11, 3) := by decide +kernel
theorem dX10_about_134 : decode cX10_about 134 = .ok (.aload_n 0, 1) := by decide +kernel
theorem dX10_about_135 : decode cX10_about 135 = .ok (.iload_n 1, 1) := by decide +kernel
theorem dX10_about_136 : decode cX10_about 136 = .ok (.invokevirtual 266, 3) := by decide +kernel
theorem dX10_about_139 : decode cX10_about 139 = .ok (.goto 23, 3) := by decide +kernel
theorem dX10_about_142 : decode cX10_about 142 = .ok (.aload_n 0, 1) := by decide +kernel
theorem dX10_about_143 : decode cX10_about 143 = .ok (.getfield 61, 3) := by decide +kernel
theorem dX10_about_146 : decode cX10_about 146 = .ok (.iload_n 1, 1) := by decide +kernel
theorem dX10_about_147 : decode cX10_about 147 = .ok (.iaload, 1) := by decide +kernel
theorem dX10_about_148 : decode cX10_about 148 = .ok (.iconst 2, 1) := by decide +kernel
theorem dX10_about_149 : decode cX10_about 149 = .ok (.if_icmp .ne 12, 3) := by decide +kernel
theorem dX10_about_152 : decode cX10_about 152 = .ok (.aload_n 0, 1) := by decide +kernel
theorem dX10_about_153 : decode cX10_about 153 = .ok (.getfield 70, 3) := by decide +kernel
theorem dX10_about_156 : decode cX10_about 156 = .ok (.iload_n 1, 1) := by decide +kernel
theorem dX10_about_157 : decode cX10_about 157 = .ok (.iaload, 1) := by decide +kernel
theorem dX10_about_158 : decode cX10_about 158 = .ok (.goto 4, 3) := by decide +kernel
theorem dX10_about_161 : decode cX10_about 161 = .ok (.iconst (-1), 1) := by decide +kernel
theorem dX10_about_162 : decode cX10_about 162 = .ok (.ireturn, 1) := by decide +kernel
theorem dX10_about_163 : decode cX10_about 163 = .ok (.aload_n 0, 1) := by decide +kernel
theorem dX10_about_164 : decode cX10_about 164 = .ok (.iload_n 1, 1) := by decide +kernel
theorem dX10_about_165 : decode cX10_about 165 = .ok (.aload_n 0, 1) := by decide +kernel
theorem dX10_about_166 : decode cX10_about 166 = .ok (.invokevirtual 262, 3) := by decide +kernel
theorem dX10_about_169 : decode cX10_about 169 = .ok (.sipush 360, 3) := by decide +kernel
theorem dX10_about_172 : decode cX10_about 172 = .ok (.idiv, 1) := by decide +kernel
theorem dX10_about_173 : decode cX10_about 173 = .ok (.invokevirtual 258, 3) := by decide +kernel
theorem dX10_about_176 : decode cX10_about 176 = .ok (.ireturn, 1) := by decide +kernel
theorem dX10_about_177 : decode cX10_about 177 = .ok (.aload_n 0, 1) := by decide +kernel
theorem dX10_about_178 : decode cX10_about 178 = .ok (.getfield 58, 3) := by decide +kernel
theorem dX10_about_181 : decode cX10_about 181 = .ok (.iload_n 1, 1) := by decide +kernel
theorem dX10_about_182 : decode cX10_about 182 = .ok (.iaload, 1) := by decide +kernel
theorem dX10_about_183 : decode cX10_about 183 = .ok (.ireturn, 1) := by decide +kernel
theorem dX10_about_184 : decode cX10_about 184 = .ok (.aload_n 0, 1) := by decide +kernel
theorem dX10_about_185 : decode cX10_about 185 = .ok (.iload_n 1, 1) := by decide +kernel
theorem dX10_about_186 : decode cX10_about 186 = .ok (.iload_n 2, 1) := by decide +kernel
theorem dX10_about_187 : decode cX10_about 187 = .ok (.bipush 8, 2) := by decide +kernel
theorem dX10_about_189 : decode cX10_about 189 = .ok (.if_icmp .ne 7, 3) := by decide +kernel
theorem dX10_about_192 : decode cX10_about 192 = .ok (.iconst 1, 1) := by decide +kernel
theorem dX10_about_193 : decode cX10_about 193 = .ok (.goto 4, 3) := by decide +kernel
theorem dX10_about_196 : decode cX10_about 196 = .ok (.iconst 0, 1) := by decide +kernel
theorem dX10_about_197 : decode cX10_about 197 = .ok (.invokevirtual 283, 3) := by decide +kernel
theorem dX10_about_200 : decode cX10_about 200 = .ok (.ireturn, 1) := by decide +kernel
theorem dX10_about_201 : decode cX10_about 201 = .ok (.bipush (-9), 2) := by decide +kernel
theorem dX10_about_203 : decode cX10_about 203 = .ok (.ireturn, 1) := by decide +kernel
theorem dX10_tripsOf_0 : decode cX10_tripsOf 0 = .ok (.iconst 0, 1) := by decide +kernel
theorem dX10_tripsOf_1 : decode cX10_tripsOf 1 = .ok (.istore_n 3, 1) := by decide +kernel
theorem dX10_tripsOf_2 : decode cX10_tripsOf 2 = .ok (.iconst 0, 1) := by decide +kernel
theorem dX10_tripsOf_3 : decode cX10_tripsOf 3 = .ok (.istore 4, 2) := by decide +kernel
theorem dX10_tripsOf_5 : decode cX10_tripsOf 5 = .ok (.iload 4, 2) := by decide +kernel
theorem dX10_tripsOf_7 : decode cX10_tripsOf 7 = .ok (.aload_n 0, 1) := by decide +kernel
theorem dX10_tripsOf_8 : decode cX10_tripsOf 8 = .ok (.getfield 287, 3) := by decide +kernel
theorem dX10_tripsOf_11 : decode cX10_tripsOf 11 = .ok (.if_icmp .ge 54, 3) := by decide +kernel
theorem dX10_tripsOf_14 : decode cX10_tripsOf 14 = .ok (.aload_n 0, 1) := by decide +kernel
theorem dX10_tripsOf_15 : decode cX10_tripsOf 15 = .ok (.getfield 115, 3) := by decide +kernel
theorem dX10_tripsOf_18 : decode cX10_tripsOf 18 = .ok (.iload 4, 2) := by decide +kernel
theorem dX10_tripsOf_20 : decode cX10_tripsOf 20 = .ok (.iaload, 1) := by decide +kernel
theorem dX10_tripsOf_21 : decode cX10_tripsOf 21 = .ok (.iload_n 1, 1) := by decide +kernel
theorem dX10_tripsOf_22 : decode cX10_tripsOf 22 = .ok (.if_icmp .ne 37, 3) := by decide +kernel
theorem dX10_tripsOf_25 : decode cX10_tripsOf 25 = .ok (.iload_n 2, 1) := by decide +kernel
theorem dX10_tripsOf_26 : decode cX10_tripsOf 26 = .ok (.ifCond .eq 16, 3) := by decide +kernel
theorem dX10_tripsOf_29 : decode cX10_tripsOf 29 = .ok (.aload_n 0, 1) := by decide +kernel
theorem dX10_tripsOf_30 : decode cX10_tripsOf 30 = .ok (.iload 4, 2) := by decide +kernel
theorem dX10_tripsOf_32 : decode cX10_tripsOf 32 = .ok (.aload_n 0, 1) := by decide +kernel
theorem dX10_tripsOf_33 : decode cX10_tripsOf 33 = .ok (.invokevirtual 262, 3) := by decide +kernel
theorem dX10_tripsOf_36 : decode cX10_tripsOf 36 = .ok (.invokevirtual 290, 3) := by decide +kernel
theorem dX10_tripsOf_39 : decode cX10_tripsOf 39 = .ok (.goto 4, 3) := by decide +kernel
theorem dX10_tripsOf_42 : decode cX10_tripsOf 42 = .ok (.iconst 1, 1) := by decide +kernel
theorem dX10_tripsOf_43 : decode cX10_tripsOf 43 = .ok (.istore 5, 2) := by decide +kernel
theorem dX10_tripsOf_45 : decode cX10_tripsOf 45 = .ok (.iload_n 3, 1) := by decide +kernel
theorem dX10_tripsOf_46 : decode cX10_tripsOf 46 = .ok (.iload 5, 2) := by decide +kernel
theorem dX10_tripsOf_48 : decode cX10_tripsOf 48 = .ok (.ifCond .ge 7, 3) := by decide +kernel
theorem dX10_tripsOf_51 : decode cX10_tripsOf 51 = .ok (.iconst 0, 1) := by decide +kernel
theorem dX10_tripsOf_52 : decode cX10_tripsOf 52 = .ok (.goto 5, 3) := by decide +kernel
theorem dX10_tripsOf_55 : decode cX10_tripsOf 55 = .ok (.iload 5, 2) := by decide +kernel
theorem dX10_tripsOf_57 : decode cX10_tripsOf 57 = .ok (.iadd, 1) := by decide +kernel
theorem dX10_tripsOf_58 : decode cX10_tripsOf 58 = .ok (.istore_n 3, 1) := by decide +kernel
theorem dX10_tripsOf_59 : decode cX10_tripsOf 59 = .ok (.iinc 4 1, 3) := by decide +kernel
theorem dX10_tripsOf_62 : decode cX10_tripsOf 62 = .ok (.goto (-57), 3) := by decide +kernel
theorem dX10_tripsOf_65 : decode cX10_tripsOf 65 = .ok (.iload_n 3, 1) := by decide +kernel
theorem dX10_tripsOf_66 : decode cX10_tripsOf 66 = .ok (.ireturn, 1) := by decide +kernel
theorem dX10_turn_0 : decode cX10_turn 0 = .ok (.aload_n 0, 1) := by decide +kernel
theorem dX10_turn_1 : decode cX10_turn 1 = .ok (.iload_n 1, 1) := by decide +kernel
theorem dX10_turn_2 : decode cX10_turn 2 = .ok (.invokevirtual 270, 3) := by decide +kernel
theorem dX10_turn_5 : decode cX10_turn 5 = .ok (.ifCond .eq 31, 3) := by decide +kernel
theorem dX10_turn_8 : decode cX10_turn 8 = .ok (.iload_n 2, 1) := by decide +kernel
theorem dX10_turn_9 : decode cX10_turn 9 = .ok (.ifCond .lt 27, 3) := by decide +kernel
theorem dX10_turn_12 : decode cX10_turn 12 = .ok (.iload_n 2, 1) := by decide +kernel
theorem dX10_turn_13 : decode cX10_turn 13 = .ok (.aload_n 0, 1) := by decide +kernel
theorem dX10_turn_14 : decode cX10_turn 14 = .ok (.getfield 91, 3) := by decide +kernel
theorem dX10_turn_17 : decode cX10_turn 17 = .ok (.iload_n 1, 1) := by decide +kernel
theorem dX10_turn_18 : decode cX10_turn 18 = .ok (.iaload, 1) := by decide +kernel
theorem dX10_turn_19 : decode cX10_turn 19 = .ok (.if_icmp .ge 17, 3) := by decide +kernel
theorem dX10_turn_22 : decode cX10_turn 22 = .ok (.aload_n 0, 1) := by decide +kernel
theorem dX10_turn_23 : decode cX10_turn 23 = .ok (.getfield 88, 3) := by decide +kernel
theorem dX10_turn_26 : decode cX10_turn 26 = .ok (.bipush 10, 2) := by decide +kernel
theorem dX10_turn_28 : decode cX10_turn 28 = .ok (.iload_n 1, 1) := by decide +kernel
theorem dX10_turn_29 : decode cX10_turn 29 = .ok (.imul, 1) := by decide +kernel
theorem dX10_turn_30 : decode cX10_turn 30 = .ok (.iload_n 2, 1) := by decide +kernel
theorem dX10_turn_31 : decode cX10_turn 31 = .ok (.iadd, 1) := by decide +kernel
theorem dX10_turn_32 : decode cX10_turn 32 = .ok (.iaload, 1) := by decide +kernel
theorem dX10_turn_33 : decode cX10_turn 33 = .ok (.goto 4, 3) := by decide +kernel
theorem dX10_turn_36 : decode cX10_turn 36 = .ok (.iconst (-1), 1) := by decide +kernel
theorem dX10_turn_37 : decode cX10_turn 37 = .ok (.ireturn, 1) := by decide +kernel
theorem dX10_feed_0 : decode cX10_feed 0 = .ok (.iload_n 1, 1) := by decide +kernel
theorem dX10_feed_1 : decode cX10_feed 1 = .ok (.iconst 1, 1) := by decide +kernel
theorem dX10_feed_2 : decode cX10_feed 2 = .ok (.iconst 4, 1) := by decide +kernel
theorem dX10_feed_3 : decode cX10_feed 3 = .ok (.invokestatic 208, 3) := by decide +kernel
theorem dX10_feed_6 : decode cX10_feed 6 = .ok (.ifCond .ne 5, 3) := by decide +kernel
theorem dX10_feed_9 : decode cX10_feed 9 = .ok (.iconst (-1), 1) := by decide +kernel
theorem dX10_feed_10 : decode cX10_feed 10 = .ok (.ireturn, 1) := by decide +kernel
theorem dX10_feed_11 : decode cX10_feed 11 = .ok (.aload_n 0, 1) := by decide +kernel
theorem dX10_feed_12 : decode cX10_feed 12 = .ok (.getfield 293, 3) := by decide +kernel
theorem dX10_feed_15 : decode cX10_feed 15 = .ok (.iload_n 1, 1) := by decide +kernel
theorem dX10_feed_16 : decode cX10_feed 16 = .ok (.iadd, 1) := by decide +kernel
theorem dX10_feed_17 : decode cX10_feed 17 = .ok (.sipush 160, 3) := by decide +kernel
theorem dX10_feed_20 : decode cX10_feed 20 = .ok (.if_icmp .le 6, 3) := by decide +kernel
theorem dX10_feed_23 : decode cX10_feed 23 = .ok (.bipush (-2), 2) := by decide +kernel
theorem dX10_feed_25 : decode cX10_feed 25 = .ok (.ireturn, 1) := by decide +kernel
theorem dX10_feed_26 : decode cX10_feed 26 = .ok (.iconst 0, 1) := by decide +kernel
theorem dX10_feed_27 : decode cX10_feed 27 = .ok (.istore_n 3, 1) := by decide +kernel
theorem dX10_feed_28 : decode cX10_feed 28 = .ok (.iload_n 3, 1) := by decide +kernel
theorem dX10_feed_29 : decode cX10_feed 29 = .ok (.iload_n 1, 1) := by decide +kernel
theorem dX10_feed_30 : decode cX10_feed 30 = .ok (.if_icmp .ge 38, 3) := by decide +kernel
theorem dX10_feed_33 : decode cX10_feed 33 = .ok (.aload_n 0, 1) := by decide +kernel
theorem dX10_feed_34 : decode cX10_feed 34 = .ok (.getfield 94, 3) := by decide +kernel
theorem dX10_feed_37 : decode cX10_feed 37 = .ok (.aload_n 0, 1) := by decide +kernel
theorem dX10_feed_38 : decode cX10_feed 38 = .ok (.getfield 293, 3) := by decide +kernel
theorem dX10_feed_41 : decode cX10_feed 41 = .ok (.iload_n 2, 1) := by decide +kernel
theorem dX10_feed_42 : decode cX10_feed 42 = .ok (.bipush 8, 2) := by decide +kernel
theorem dX10_feed_44 : decode cX10_feed 44 = .ok (.iload_n 3, 1) := by decide +kernel
theorem dX10_feed_45 : decode cX10_feed 45 = .ok (.imul, 1) := by decide +kernel
theorem dX10_feed_46 : decode cX10_feed 46 = .ok (.ishr, 1) := by decide +kernel
theorem dX10_feed_47 : decode cX10_feed 47 = .ok (.sipush 255, 3) := by decide +kernel
theorem dX10_feed_50 : decode cX10_feed 50 = .ok (.iand, 1) := by decide +kernel
theorem dX10_feed_51 : decode cX10_feed 51 = .ok (.iastore, 1) := by decide +kernel
theorem dX10_feed_52 : decode cX10_feed 52 = .ok (.aload_n 0, 1) := by decide +kernel
theorem dX10_feed_53 : decode cX10_feed 53 = .ok (.dup, 1) := by decide +kernel
theorem dX10_feed_54 : decode cX10_feed 54 = .ok (.getfield 293, 3) := by decide +kernel
theorem dX10_feed_57 : decode cX10_feed 57 = .ok (.iconst 1, 1) := by decide +kernel
theorem dX10_feed_58 : decode cX10_feed 58 = .ok (.iadd, 1) := by decide +kernel
theorem dX10_feed_59 : decode cX10_feed 59 = .ok (.putfield 293, 3) := by decide +kernel
theorem dX10_feed_62 : decode cX10_feed 62 = .ok (.iinc 3 1, 3) := by decide +kernel
theorem dX10_feed_65 : decode cX10_feed 65 = .ok (.goto (-37), 3) := by decide +kernel
theorem dX10_feed_68 : decode cX10_feed 68 = .ok (.aload_n 0, 1) := by decide +kernel
theorem dX10_feed_69 : decode cX10_feed 69 = .ok (.getfield 293, 3) := by decide +kernel
theorem dX10_feed_72 : decode cX10_feed 72 = .ok (.ireturn, 1) := by decide +kernel
theorem dX10_byteAt_0 : decode cX10_byteAt 0 = .ok (.aload_n 0, 1) := by decide +kernel
theorem dX10_byteAt_1 : decode cX10_byteAt 1 = .ok (.getfield 296, 3) := by decide +kernel
theorem dX10_byteAt_4 : decode cX10_byteAt 4 = .ok (.aload_n 0, 1) := by decide +kernel
theorem dX10_byteAt_5 : decode cX10_byteAt 5 = .ok (.getfield 299, 3) := by decide +kernel
theorem dX10_byteAt_8 : decode cX10_byteAt 8 = .ok (.if_icmp .ge 33, 3) := by decide +kernel
theorem dX10_byteAt_11 : decode cX10_byteAt 11 = .ok (.iload_n 1, 1) := by decide +kernel
theorem dX10_byteAt_12 : decode cX10_byteAt 12 = .ok (.ifCond .ge 15, 3) := by decide +kernel
theorem dX10_byteAt_15 : decode cX10_byteAt 15 = .ok (.aload_n 0, 1) := by decide +kernel
theorem dX10_byteAt_16 : decode cX10_byteAt 16 = .ok (.getfield 94, 3) := by decide +kernel
theorem dX10_byteAt_19 : decode cX10_byteAt 19 = .ok (.aload_n 0, 1) := by decide +kernel
theorem dX10_byteAt_20 : decode cX10_byteAt 20 = .ok (.getfield 296, 3) := by decide +kernel
theorem dX10_byteAt_23 : decode cX10_byteAt 23 = .ok (.iaload, 1) := by decide +kernel
theorem dX10_byteAt_24 : decode cX10_byteAt 24 = .ok (.goto 18, 3) := by decide +kernel
theorem dX10_byteAt_27 : decode cX10_byteAt 27 = .ok (.aload_n 0, 1) := by decide +kernel
theorem dX10_byteAt_28 : decode cX10_byteAt 28 = .ok (.getfield 97, 3) := by decide +kernel
theorem dX10_byteAt_31 : decode cX10_byteAt 31 = .ok (.iload_n 1, 1) := by decide +kernel
theorem dX10_byteAt_32 : decode cX10_byteAt 32 = .ok (.aload_n 0, 1) := by decide +kernel
theorem dX10_byteAt_33 : decode cX10_byteAt 33 = .ok (.getfield 296, 3) := by decide +kernel
theorem dX10_byteAt_36 : decode cX10_byteAt 36 = .ok (.iadd, 1) := by decide +kernel
theorem dX10_byteAt_37 : decode cX10_byteAt 37 = .ok (.iaload, 1) := by decide +kernel
theorem dX10_byteAt_38 : decode cX10_byteAt 38 = .ok (.goto 4, 3) := by decide +kernel
theorem dX10_byteAt_41 : decode cX10_byteAt 41 = .ok (.iconst 0, 1) := by decide +kernel
theorem dX10_byteAt_42 : decode cX10_byteAt 42 = .ok (.ireturn, 1) := by decide +kernel
theorem dX10_wrong_0 : decode cX10_wrong 0 = .ok (.aload_n 0, 1) := by decide +kernel
theorem dX10_wrong_1 : decode cX10_wrong 1 = .ok (.aload_n 0, 1) := by decide +kernel
theorem dX10_wrong_2 : decode cX10_wrong 2 = .ok (.getfield 302, 3) := by decide +kernel
theorem dX10_wrong_5 : decode cX10_wrong 5 = .ok (.ifCond .ge 10, 3) := by decide +kernel
theorem dX10_wrong_8 : decode cX10_wrong 8 = .ok (.aload_n 0, 1) := by decide +kernel
theorem dX10_wrong_9 : decode cX10_wrong 9 = .ok (.getfield 296, 3) := by decide +kernel
theorem dX10_wrong_12 : decode cX10_wrong 12 = .ok (.goto 7, 3) := by decide +kernel
theorem dX10_wrong_15 : decode cX10_wrong 15 = .ok (.aload_n 0, 1) := by decide +kernel
theorem dX10_wrong_16 : decode cX10_wrong 16 = .ok (.getfield 302, 3) := by decide +kernel
theorem dX10_wrong_19 : decode cX10_wrong 19 = .ok (.putfield 302, 3) := by decide +kernel
theorem dX10_wrong_22 : decode cX10_wrong 22 = .ok (.iconst 0, 1) := by decide +kernel
theorem dX10_wrong_23 : decode cX10_wrong 23 = .ok (.ireturn, 1) := by decide +kernel
theorem dX10_nameOf_0 : decode cX10_nameOf 0 = .ok (.iload_n 0, 1) := by decide +kernel
theorem dX10_nameOf_1 : decode cX10_nameOf 1 = .ok (.tableswitch 132 98 121 #[121, 132, 123, 132, 132, 132, 126, 132, 132, 132, 132, 132, 117, 132, 119, 132, 132, 129, 113, 132, 132, 115, 132, 111], 111) := by decide +kernel
theorem dX10_nameOf_112 : decode cX10_nameOf 112 = .ok (.iconst 0, 1) := by decide +kernel
theorem dX10_nameOf_113 : decode cX10_nameOf 113 = .ok (.ireturn, 1) := by decide +kernel
theorem dX10_nameOf_114 : decode cX10_nameOf 114 = .ok (.iconst 1, 1) := by decide +kernel
theorem dX10_nameOf_115 : decode cX10_nameOf 115 = .ok (.ireturn, 1) := by decide +kernel
theorem dX10_nameOf_116 : decode cX10_nameOf 116 = .ok (.iconst 2, 1) := by decide +kernel
theorem dX10_nameOf_117 : decode cX10_nameOf 117 = .ok (.ireturn, 1) := by decide +kernel
theorem dX10_nameOf_118 : decode cX10_nameOf 118 = .ok (.iconst 3, 1) := by decide +kernel
theorem dX10_nameOf_119 : decode cX10_nameOf 119 = .ok (.ireturn, 1) := by decide +kernel
theorem dX10_nameOf_120 : decode cX10_nameOf 120 = .ok (.iconst 4, 1) := by decide +kernel
theorem dX10_nameOf_121 : decode cX10_nameOf 121 = .ok (.ireturn, 1) := by decide +kernel
theorem dX10_nameOf_122 : decode cX10_nameOf 122 = .ok (.iconst 5, 1) := by decide +kernel
theorem dX10_nameOf_123 : decode cX10_nameOf 123 = .ok (.ireturn, 1) := by decide +kernel
theorem dX10_nameOf_124 : decode cX10_nameOf 124 = .ok (.bipush 6, 2) := by decide +kernel
theorem dX10_nameOf_126 : decode cX10_nameOf 126 = .ok (.ireturn, 1) := by decide +kernel
theorem dX10_nameOf_127 : decode cX10_nameOf 127 = .ok (.bipush 7, 2) := by decide +kernel
theorem dX10_nameOf_129 : decode cX10_nameOf 129 = .ok (.ireturn, 1) := by decide +kernel
theorem dX10_nameOf_130 : decode cX10_nameOf 130 = .ok (.bipush 8, 2) := by decide +kernel
theorem dX10_nameOf_132 : decode cX10_nameOf 132 = .ok (.ireturn, 1) := by decide +kernel
theorem dX10_nameOf_133 : decode cX10_nameOf 133 = .ok (.iconst (-1), 1) := by decide +kernel
theorem dX10_nameOf_134 : decode cX10_nameOf 134 = .ok (.ireturn, 1) := by decide +kernel
theorem dX10_opens_0 : decode cX10_opens 0 = .ok (.aload_n 0, 1) := by decide +kernel
theorem dX10_opens_1 : decode cX10_opens 1 = .ok (.getfield 305, 3) := by decide +kernel
theorem dX10_opens_4 : decode cX10_opens 4 = .ok (.bipush 12, 2) := by decide +kernel
theorem dX10_opens_6 : decode cX10_opens 6 = .ok (.if_icmp .ne 10, 3) := by decide +kernel
theorem dX10_opens_9 : decode cX10_opens 9 = .ok (.aload_n 0, 1) := by decide +kernel
theorem dX10_opens_10 : decode cX10_opens 10 = .ok (.invokevirtual 308, 3) := by decide +kernel
theorem dX10_opens_13 : decode cX10_opens 13 = .ok (.istore_n 1, 1) := by decide +kernel
theorem dX10_opens_14 : decode cX10_opens 14 = .ok (.iconst 0, 1) := by decide +kernel
theorem dX10_opens_15 : decode cX10_opens 15 = .ok (.ireturn, 1) := by decide +kernel
theorem dX10_opens_16 : decode cX10_opens 16 = .ok (.aload_n 0, 1) := by decide +kernel
theorem dX10_opens_17 : decode cX10_opens 17 = .ok (.dup, 1) := by decide +kernel
theorem dX10_opens_18 : decode cX10_opens 18 = .ok (.getfield 305, 3) := by decide +kernel
theorem dX10_opens_21 : decode cX10_opens 21 = .ok (.iconst 1, 1) := by decide +kernel
theorem dX10_opens_22 : decode cX10_opens 22 = .ok (.iadd, 1) := by decide +kernel
theorem dX10_opens_23 : decode cX10_opens 23 = .ok (.putfield 305, 3) := by decide +kernel
theorem dX10_opens_26 : decode cX10_opens 26 = .ok (.aload_n 0, 1) := by decide +kernel
theorem dX10_opens_27 : decode cX10_opens 27 = .ok (.dup, 1) := by decide +kernel
theorem dX10_opens_28 : decode cX10_opens 28 = .ok (.getfield 296, 3) := by decide +kernel
theorem dX10_opens_31 : decode cX10_opens 31 = .ok (.iconst 1, 1) := by decide +kernel
theorem dX10_opens_32 : decode cX10_opens 32 = .ok (.iadd, 1) := by decide +kernel
theorem dX10_opens_33 : decode cX10_opens 33 = .ok (.putfield 296, 3) := by decide +kernel
theorem dX10_opens_36 : decode cX10_opens 36 = .ok (.iconst 1, 1) := by decide +kernel
theorem dX10_opens_37 : decode cX10_opens 37 = .ok (.ireturn, 1) := by decide +kernel
theorem dX10_chosen_0 : decode cX10_chosen 0 = .ok (.aload_n 0, 1) := by decide +kernel
theorem dX10_chosen_1 : decode cX10_chosen 1 = .ok (.iload_n 1, 1) := by decide +kernel
theorem dX10_chosen_2 : decode cX10_chosen 2 = .ok (.invokevirtual 311, 3) := by decide +kernel
theorem dX10_chosen_5 : decode cX10_chosen 5 = .ok (.istore_n 2, 1) := by decide +kernel
theorem dX10_chosen_6 : decode cX10_chosen 6 = .ok (.aload_n 0, 1) := by decide +kernel
theorem dX10_chosen_7 : decode cX10_chosen 7 = .ok (.getfield 302, 3) := by decide +kernel
theorem dX10_chosen_10 : decode cX10_chosen 10 = .ok (.ifCond .ge 20, 3) := by decide +kernel
theorem dX10_chosen_13 : decode cX10_chosen 13 = .ok (.aload_n 0, 1) := by decide +kernel
theorem dX10_chosen_14 : decode cX10_chosen 14 = .ok (.iload_n 1, 1) := by decide +kernel
theorem dX10_chosen_15 : decode cX10_chosen 15 = .ok (.invokevirtual 314, 3) := by decide +kernel
theorem dX10_chosen_18 : decode cX10_chosen 18 = .ok (.bipush 63, 2) := by decide +kernel
theorem dX10_chosen_20 : decode cX10_chosen 20 = .ok (.if_icmp .ne 10, 3) := by decide +kernel
theorem dX10_chosen_23 : decode cX10_chosen 23 = .ok (.aload_n 0, 1) := by decide +kernel
theorem dX10_chosen_24 : decode cX10_chosen 24 = .ok (.invokevirtual 317, 3) := by decide +kernel
theorem dX10_chosen_27 : decode cX10_chosen 27 = .ok (.ifCond .ne 5, 3) := by decide +kernel
theorem dX10_chosen_30 : decode cX10_chosen 30 = .ok (.iload_n 2, 1) := by decide +kernel
theorem dX10_chosen_31 : decode cX10_chosen 31 = .ok (.ireturn, 1) := by decide +kernel
theorem dX10_chosen_32 : decode cX10_chosen 32 = .ok (.aload_n 0, 1) := by decide +kernel
theorem dX10_chosen_33 : decode cX10_chosen 33 = .ok (.iload_n 1, 1) := by decide +kernel
theorem dX10_chosen_34 : decode cX10_chosen 34 = .ok (.invokevirtual 321, 3) := by decide +kernel
theorem dX10_chosen_37 : decode cX10_chosen 37 = .ok (.istore_n 3, 1) := by decide +kernel
theorem dX10_chosen_38 : decode cX10_chosen 38 = .ok (.aload_n 0, 1) := by decide +kernel
theorem dX10_chosen_39 : decode cX10_chosen 39 = .ok (.getfield 302, 3) := by decide +kernel
theorem dX10_chosen_42 : decode cX10_chosen 42 = .ok (.ifCond .ge 18, 3) := by decide +kernel
theorem dX10_chosen_45 : decode cX10_chosen 45 = .ok (.aload_n 0, 1) := by decide +kernel
theorem dX10_chosen_46 : decode cX10_chosen 46 = .ok (.iload_n 1, 1) := by decide +kernel
theorem dX10_chosen_47 : decode cX10_chosen 47 = .ok (.invokevirtual 314, 3) := by decide +kernel
theorem dX10_chosen_50 : decode cX10_chosen 50 = .ok (.bipush 58, 2) := by decide +kernel
theorem dX10_chosen_52 : decode cX10_chosen 52 = .ok (.if_icmp .eq 8, 3) := by decide +kernel
theorem dX10_chosen_55 : decode cX10_chosen 55 = .ok (.aload_n 0, 1) := by decide +kernel
theorem dX10_chosen_56 : decode cX10_chosen 56 = .ok (.invokevirtual 308, 3) := by decide +kernel
theorem dX10_chosen_59 : decode cX10_chosen 59 = .ok (.ireturn, 1) := by decide +kernel
theorem dX10_chosen_60 : decode cX10_chosen 60 = .ok (.aload_n 0, 1) := by decide +kernel
theorem dX10_chosen_61 : decode cX10_chosen 61 = .ok (.dup, 1) := by decide +kernel
theorem dX10_chosen_62 : decode cX10_chosen 62 = .ok (.getfield 296, 3) := by decide +kernel
theorem dX10_chosen_65 : decode cX10_chosen 65 = .ok (.iconst 1, 1) := by decide +kernel
theorem dX10_chosen_66 : decode cX10_chosen 66 = .ok (.iadd, 1) := by decide +kernel
theorem dX10_chosen_67 : decode cX10_chosen 67 = .ok (.putfield 296, 3) := by decide +kernel
theorem dX10_chosen_70 : decode cX10_chosen 70 = .ok (.aload_n 0, 1) := by decide +kernel
theorem dX10_chosen_71 : decode cX10_chosen 71 = .ok (.getfield 302, 3) := by decide +kernel
theorem dX10_chosen_74 : decode cX10_chosen 74 = .ok (.ifCond .ge 11, 3) := by decide +kernel
theorem dX10_chosen_77 : decode cX10_chosen 77 = .ok (.aload_n 0, 1) := by decide +kernel
theorem dX10_chosen_78 : decode cX10_chosen 78 = .ok (.iload_n 1, 1) := by decide +kernel
theorem dX10_chosen_79 : decode cX10_chosen 79 = .ok (.invokevirtual 321, 3) := by decide +kernel
theorem dX10_chosen_82 : decode cX10_chosen 82 = .ok (.goto 4, 3) := by decide +kernel
theorem dX10_chosen_85 : decode cX10_chosen 85 = .ok (.iconst 0, 1) := by decide +kernel
theorem dX10_chosen_86 : decode cX10_chosen 86 = .ok (.istore 4, 2) := by decide +kernel
theorem dX10_chosen_88 : decode cX10_chosen 88 = .ok (.aload_n 0, 1) := by decide +kernel
theorem dX10_chosen_89 : decode cX10_chosen 89 = .ok (.dup, 1) := by decide +kernel
theorem dX10_chosen_90 : decode cX10_chosen 90 = .ok (.getfield 305, 3) := by decide +kernel
theorem dX10_chosen_93 : decode cX10_chosen 93 = .ok (.iconst 1, 1) := by decide +kernel
theorem dX10_chosen_94 : decode cX10_chosen 94 = .ok (.isub, 1) := by decide +kernel
theorem dX10_chosen_95 : decode cX10_chosen 95 = .ok (.putfield 305, 3) := by decide +kernel
theorem dX10_chosen_98 : decode cX10_chosen 98 = .ok (.iload_n 2, 1) := by decide +kernel
theorem dX10_chosen_99 : decode cX10_chosen 99 = .ok (.ifCond .eq 7, 3) := by decide +kernel
theorem dX10_chosen_102 : decode cX10_chosen 102 = .ok (.iload_n 3, 1) := by decide +kernel
theorem dX10_chosen_103 : decode cX10_chosen 103 = .ok (.goto 5, 3) := by decide +kernel
theorem dX10_chosen_106 : decode cX10_chosen 106 = .ok (.iload 4, 2) := by decide +kernel
theorem dX10_chosen_108 : decode cX10_chosen 108 = .ok (.ireturn, 1) := by decide +kernel
theorem dX10_compared_0 : decode cX10_compared 0 = .ok (.aload_n 0, 1) := by decide +kernel
theorem dX10_compared_1 : decode cX10_compared 1 = .ok (.iload_n 1, 1) := by decide +kernel
theorem dX10_compared_2 : decode cX10_compared 2 = .ok (.invokevirtual 324, 3) := by decide +kernel
theorem dX10_compared_5 : decode cX10_compared 5 = .ok (.istore_n 2, 1) := by decide +kernel
theorem dX10_compared_6 : decode cX10_compared 6 = .ok (.aload_n 0, 1) := by decide +kernel
theorem dX10_compared_7 : decode cX10_compared 7 = .ok (.iload_n 1, 1) := by decide +kernel
theorem dX10_compared_8 : decode cX10_compared 8 = .ok (.invokevirtual 314, 3) := by decide +kernel
theorem dX10_compared_11 : decode cX10_compared 11 = .ok (.istore_n 3, 1) := by decide +kernel
theorem dX10_compared_12 : decode cX10_compared 12 = .ok (.aload_n 0, 1) := by decide +kernel
theorem dX10_compared_13 : decode cX10_compared 13 = .ok (.getfield 302, 3) := by decide +kernel
theorem dX10_compared_16 : decode cX10_compared 16 = .ok (.ifCond .ge 21, 3) := by decide +kernel
theorem dX10_compared_19 : decode cX10_compared 19 = .ok (.iload_n 3, 1) := by decide +kernel
theorem dX10_compared_20 : decode cX10_compared 20 = .ok (.bipush 60, 2) := by decide +kernel
theorem dX10_compared_22 : decode cX10_compared 22 = .ok (.if_icmp .eq 17, 3) := by decide +kernel
theorem dX10_compared_25 : decode cX10_compared 25 = .ok (.iload_n 3, 1) := by decide +kernel
theorem dX10_compared_26 : decode cX10_compared 26 = .ok (.bipush 61, 2) := by decide +kernel
theorem dX10_compared_28 : decode cX10_compared 28 = .ok (.if_icmp .eq 11, 3) := by decide +kernel
theorem dX10_compared_31 : decode cX10_compared 31 = .ok (.iload_n 3, 1) := by decide +kernel
theorem dX10_compared_32 : decode cX10_compared 32 = .ok (.bipush 62, 2) := by decide +kernel
theorem dX10_compared_34 : decode cX10_compared 34 = .ok (.if_icmp .eq 5, 3) := by decide +kernel
theorem dX10_compared_37 : decode cX10_compared 37 = .ok (.iload_n 2, 1) := by decide +kernel
theorem dX10_compared_38 : decode cX10_compared 38 = .ok (.ireturn, 1) := by decide +kernel
theorem dX10_compared_39 : decode cX10_compared 39 = .ok (.aload_n 0, 1) := by decide +kernel
theorem dX10_compared_40 : decode cX10_compared 40 = .ok (.dup, 1) := by decide +kernel
theorem dX10_compared_41 : decode cX10_compared 41 = .ok (.getfield 296, 3) := by decide +kernel
theorem dX10_compared_44 : decode cX10_compared 44 = .ok (.iconst 1, 1) := by decide +kernel
theorem dX10_compared_45 : decode cX10_compared 45 = .ok (.iadd, 1) := by decide +kernel
theorem dX10_compared_46 : decode cX10_compared 46 = .ok (.putfield 296, 3) := by decide +kernel
theorem dX10_compared_49 : decode cX10_compared 49 = .ok (.aload_n 0, 1) := by decide +kernel
theorem dX10_compared_50 : decode cX10_compared 50 = .ok (.iload_n 1, 1) := by decide +kernel
theorem dX10_compared_51 : decode cX10_compared 51 = .ok (.invokevirtual 324, 3) := by decide +kernel
theorem dX10_compared_54 : decode cX10_compared 54 = .ok (.istore 4, 2) := by decide +kernel
theorem dX10_compared_56 : decode cX10_compared 56 = .ok (.iload_n 3, 1) := by decide +kernel
theorem dX10_compared_57 : decode cX10_compared 57 = .ok (.bipush 60, 2) := by decide +kernel
theorem dX10_compared_59 : decode cX10_compared 59 = .ok (.if_icmp .ne 12, 3) := by decide +kernel
theorem dX10_compared_62 : decode cX10_compared 62 = .ok (.iload_n 2, 1) := by decide +kernel
theorem dX10_compared_63 : decode cX10_compared 63 = .ok (.iload 4, 2) := by decide +kernel
theorem dX10_compared_65 : decode cX10_compared 65 = .ok (.if_icmp .ge 31, 3) := by decide +kernel
theorem dX10_compared_68 : decode cX10_compared 68 = .ok (.goto 24, 3) := by decide +kernel
theorem dX10_compared_71 : decode cX10_compared 71 = .ok (.iload_n 3, 1) := by decide +kernel
theorem dX10_compared_72 : decode cX10_compared 72 = .ok (.bipush 61, 2) := by decide +kernel
theorem dX10_compared_74 : decode cX10_compared 74 = .ok (.if_icmp .ne 12, 3) := by decide +kernel
theorem dX10_compared_77 : decode cX10_compared 77 = .ok (.iload_n 2, 1) := by decide +kernel
theorem dX10_compared_78 : decode cX10_compared 78 = .ok (.iload 4, 2) := by decide +kernel
theorem dX10_compared_80 : decode cX10_compared 80 = .ok (.if_icmp .ne 16, 3) := by decide +kernel
theorem dX10_compared_83 : decode cX10_compared 83 = .ok (.goto 9, 3) := by decide +kernel
theorem dX10_compared_86 : decode cX10_compared 86 = .ok (.iload_n 2, 1) := by decide +kernel
theorem dX10_compared_87 : decode cX10_compared 87 = .ok (.iload 4, 2) := by decide +kernel
theorem dX10_compared_89 : decode cX10_compared 89 = .ok (.if_icmp .le 7, 3) := by decide +kernel
theorem dX10_compared_92 : decode cX10_compared 92 = .ok (.iconst 1, 1) := by decide +kernel
theorem dX10_compared_93 : decode cX10_compared 93 = .ok (.goto 4, 3) := by decide +kernel
theorem dX10_compared_96 : decode cX10_compared 96 = .ok (.iconst 0, 1) := by decide +kernel
theorem dX10_compared_97 : decode cX10_compared 97 = .ok (.ireturn, 1) := by decide +kernel
theorem dX10_sum_0 : decode cX10_sum 0 = .ok (.aload_n 0, 1) := by decide +kernel
theorem dX10_sum_1 : decode cX10_sum 1 = .ok (.iload_n 1, 1) := by decide +kernel
theorem dX10_sum_2 : decode cX10_sum 2 = .ok (.invokevirtual 327, 3) := by decide +kernel
theorem dX10_sum_5 : decode cX10_sum 5 = .ok (.istore_n 2, 1) := by decide +kernel
theorem dX10_sum_6 : decode cX10_sum 6 = .ok (.aload_n 0, 1) := by decide +kernel
theorem dX10_sum_7 : decode cX10_sum 7 = .ok (.getfield 302, 3) := by decide +kernel
theorem dX10_sum_10 : decode cX10_sum 10 = .ok (.ifCond .ge 75, 3) := by decide +kernel
theorem dX10_sum_13 : decode cX10_sum 13 = .ok (.aload_n 0, 1) := by decide +kernel
theorem dX10_sum_14 : decode cX10_sum 14 = .ok (.iload_n 1, 1) := by decide +kernel
theorem dX10_sum_15 : decode cX10_sum 15 = .ok (.invokevirtual 314, 3) := by decide +kernel
theorem dX10_sum_18 : decode cX10_sum 18 = .ok (.bipush 43, 2) := by decide +kernel
theorem dX10_sum_20 : decode cX10_sum 20 = .ok (.if_icmp .eq 13, 3) := by decide +kernel
theorem dX10_sum_23 : decode cX10_sum 23 = .ok (.aload_n 0, 1) := by decide +kernel
theorem dX10_sum_24 : decode cX10_sum 24 = .ok (.iload_n 1, 1) := by decide +kernel
theorem dX10_sum_25 : decode cX10_sum 25 = .ok (.invokevirtual 314, 3) := by decide +kernel
theorem dX10_sum_28 : decode cX10_sum 28 = .ok (.bipush 45, 2) := by decide +kernel
theorem dX10_sum_30 : decode cX10_sum 30 = .ok (.if_icmp .ne 55, 3) := by decide +kernel
theorem dX10_sum_33 : decode cX10_sum 33 = .ok (.aload_n 0, 1) := by decide +kernel
theorem dX10_sum_34 : decode cX10_sum 34 = .ok (.iload_n 1, 1) := by decide +kernel
theorem dX10_sum_35 : decode cX10_sum 35 = .ok (.invokevirtual 314, 3) := by decide +kernel
theorem dX10_sum_38 : decode cX10_sum 38 = .ok (.bipush 43, 2) := by decide +kernel
theorem dX10_sum_40 : decode cX10_sum 40 = .ok (.if_icmp .ne 7, 3) := by decide +kernel
theorem dX10_sum_43 : decode cX10_sum 43 = .ok (.iconst 1, 1) := by decide +kernel
theorem dX10_sum_44 : decode cX10_sum 44 = .ok (.goto 4, 3) := by decide +kernel
theorem dX10_sum_47 : decode cX10_sum 47 = .ok (.iconst 0, 1) := by decide +kernel
theorem dX10_sum_48 : decode cX10_sum 48 = .ok (.istore_n 3, 1) := by decide +kernel
theorem dX10_sum_49 : decode cX10_sum 49 = .ok (.aload_n 0, 1) := by decide +kernel
theorem dX10_sum_50 : decode cX10_sum 50 = .ok (.dup, 1) := by decide +kernel
theorem dX10_sum_51 : decode cX10_sum 51 = .ok (.getfield 296, 3) := by decide +kernel
theorem dX10_sum_54 : decode cX10_sum 54 = .ok (.iconst 1, 1) := by decide +kernel
theorem dX10_sum_55 : decode cX10_sum 55 = .ok (.iadd, 1) := by decide +kernel
theorem dX10_sum_56 : decode cX10_sum 56 = .ok (.putfield 296, 3) := by decide +kernel
theorem dX10_sum_59 : decode cX10_sum 59 = .ok (.aload_n 0, 1) := by decide +kernel
theorem dX10_sum_60 : decode cX10_sum 60 = .ok (.iload_n 1, 1) := by decide +kernel
theorem dX10_sum_61 : decode cX10_sum 61 = .ok (.invokevirtual 327, 3) := by decide +kernel
theorem dX10_sum_64 : decode cX10_sum 64 = .ok (.istore 4, 2) := by decide +kernel
theorem dX10_sum_66 : decode cX10_sum 66 = .ok (.iload_n 3, 1) := by decide +kernel
theorem dX10_sum_67 : decode cX10_sum 67 = .ok (.ifCond .eq 10, 3) := by decide +kernel
theorem dX10_sum_70 : decode cX10_sum 70 = .ok (.iload_n 2, 1) := by decide +kernel
theorem dX10_sum_71 : decode cX10_sum 71 = .ok (.iload 4, 2) := by decide +kernel
theorem dX10_sum_73 : decode cX10_sum 73 = .ok (.iadd, 1) := by decide +kernel
theorem dX10_sum_74 : decode cX10_sum 74 = .ok (.goto 7, 3) := by decide +kernel
theorem dX10_sum_77 : decode cX10_sum 77 = .ok (.iload_n 2, 1) := by decide +kernel
theorem dX10_sum_78 : decode cX10_sum 78 = .ok (.iload 4, 2) := by decide +kernel
theorem dX10_sum_80 : decode cX10_sum 80 = .ok (.isub, 1) := by decide +kernel
theorem dX10_sum_81 : decode cX10_sum 81 = .ok (.istore_n 2, 1) := by decide +kernel
theorem dX10_sum_82 : decode cX10_sum 82 = .ok (.goto (-76), 3) := by decide +kernel
theorem dX10_sum_85 : decode cX10_sum 85 = .ok (.iload_n 2, 1) := by decide +kernel
theorem dX10_sum_86 : decode cX10_sum 86 = .ok (.ireturn, 1) := by decide +kernel
theorem dX10_product_0 : decode cX10_product 0 = .ok (.aload_n 0, 1) := by decide +kernel
theorem dX10_product_1 : decode cX10_product 1 = .ok (.iload_n 1, 1) := by decide +kernel
theorem dX10_product_2 : decode cX10_product 2 = .ok (.invokevirtual 330, 3) := by decide +kernel
theorem dX10_product_5 : decode cX10_product 5 = .ok (.istore_n 2, 1) := by decide +kernel
theorem dX10_product_6 : decode cX10_product 6 = .ok (.aload_n 0, 1) := by decide +kernel
theorem dX10_product_7 : decode cX10_product 7 = .ok (.getfield 302, 3) := by decide +kernel
theorem dX10_product_10 : decode cX10_product 10 = .ok (.ifCond .ge 99, 3) := by decide +kernel
theorem dX10_product_13 : decode cX10_product 13 = .ok (.aload_n 0, 1) := by decide +kernel
theorem dX10_product_14 : decode cX10_product 14 = .ok (.iload_n 1, 1) := by decide +kernel
theorem dX10_product_15 : decode cX10_product 15 = .ok (.invokevirtual 314, 3) := by decide +kernel
theorem dX10_product_18 : decode cX10_product 18 = .ok (.bipush 42, 2) := by decide +kernel
theorem dX10_product_20 : decode cX10_product 20 = .ok (.if_icmp .eq 23, 3) := by decide +kernel
theorem dX10_product_23 : decode cX10_product 23 = .ok (.aload_n 0, 1) := by decide +kernel
theorem dX10_product_24 : decode cX10_product 24 = .ok (.iload_n 1, 1) := by decide +kernel
theorem dX10_product_25 : decode cX10_product 25 = .ok (.invokevirtual 314, 3) := by decide +kernel
theorem dX10_product_28 : decode cX10_product 28 = .ok (.bipush 47, 2) := by decide +kernel
theorem dX10_product_30 : decode cX10_product 30 = .ok (.if_icmp .eq 13, 3) := by decide +kernel
theorem dX10_product_33 : decode cX10_product 33 = .ok (.aload_n 0, 1) := by decide +kernel
theorem dX10_product_34 : decode cX10_product 34 = .ok (.iload_n 1, 1) := by decide +kernel
theorem dX10_product_35 : decode cX10_product 35 = .ok (.invokevirtual 314, 3) := by decide +kernel
theorem dX10_product_38 : decode cX10_product 38 = .ok (.bipush 37, 2) := by decide +kernel
theorem dX10_product_40 : decode cX10_product 40 = .ok (.if_icmp .ne 69, 3) := by decide +kernel
theorem dX10_product_43 : decode cX10_product 43 = .ok (.aload_n 0, 1) := by decide +kernel
theorem dX10_product_44 : decode cX10_product 44 = .ok (.iload_n 1, 1) := by decide +kernel
theorem dX10_product_45 : decode cX10_product 45 = .ok (.invokevirtual 314, 3) := by decide +kernel
theorem dX10_product_48 : decode cX10_product 48 = .ok (.istore_n 3, 1) := by decide +kernel
theorem dX10_product_49 : decode cX10_product 49 = .ok (.aload_n 0, 1) := by decide +kernel
theorem dX10_product_50 : decode cX10_product 50 = .ok (.dup, 1) := by decide +kernel
theorem dX10_product_51 : decode cX10_product 51 = .ok (.getfield 296, 3) := by decide +kernel
theorem dX10_product_54 : decode cX10_product 54 = .ok (.iconst 1, 1) := by decide +kernel
theorem dX10_product_55 : decode cX10_product 55 = .ok (.iadd, 1) := by decide +kernel
theorem dX10_product_56 : decode cX10_product 56 = .ok (.putfield 296, 3) := by decide +kernel
theorem dX10_product_59 : decode cX10_product 59 = .ok (.aload_n 0, 1) := by decide +kernel
theorem dX10_product_60 : decode cX10_product 60 = .ok (.iload_n 1, 1) := by decide +kernel
theorem dX10_product_61 : decode cX10_product 61 = .ok (.invokevirtual 330, 3) := by decide +kernel
theorem dX10_product_64 : decode cX10_product 64 = .ok (.istore 4, 2) := by decide +kernel
theorem dX10_product_66 : decode cX10_product 66 = .ok (.iload_n 3, 1) := by decide +kernel
theorem dX10_product_67 : decode cX10_product 67 = .ok (.bipush 42, 2) := by decide +kernel
theorem dX10_product_69 : decode cX10_product 69 = .ok (.if_icmp .ne 10, 3) := by decide +kernel
theorem dX10_product_72 : decode cX10_product 72 = .ok (.iload_n 2, 1) := by decide +kernel
theorem dX10_product_73 : decode cX10_product 73 = .ok (.iload 4, 2) := by decide +kernel
theorem dX10_product_75 : decode cX10_product 75 = .ok (.imul, 1) := by decide +kernel
theorem dX10_product_76 : decode cX10_product 76 = .ok (.goto 29, 3) := by decide +kernel
theorem dX10_product_79 : decode cX10_product 79 = .ok (.iload 4, 2) := by decide +kernel
theorem dX10_product_81 : decode cX10_product 81 = .ok (.ifCond .ne 7, 3) := by decide +kernel
theorem dX10_product_84 : decode cX10_product 84 = .ok (.iconst 0, 1) := by decide +kernel
theorem dX10_product_85 : decode cX10_product 85 = .ok (.goto 20, 3) := by decide +kernel
theorem dX10_product_88 : decode cX10_product 88 = .ok (.iload_n 3, 1) := by decide +kernel
theorem dX10_product_89 : decode cX10_product 89 = .ok (.bipush 47, 2) := by decide +kernel
theorem dX10_product_91 : decode cX10_product 91 = .ok (.if_icmp .ne 10, 3) := by decide +kernel
theorem dX10_product_94 : decode cX10_product 94 = .ok (.iload_n 2, 1) := by decide +kernel
theorem dX10_product_95 : decode cX10_product 95 = .ok (.iload 4, 2) := by decide +kernel
theorem dX10_product_97 : decode cX10_product 97 = .ok (.idiv, 1) := by decide +kernel
theorem dX10_product_98 : decode cX10_product 98 = .ok (.goto 7, 3) := by decide +kernel
theorem dX10_product_101 : decode cX10_product 101 = .ok (.iload_n 2, 1) := by decide +kernel
theorem dX10_product_102 : decode cX10_product 102 = .ok (.iload 4, 2) := by decide +kernel
theorem dX10_product_104 : decode cX10_product 104 = .ok (.irem, 1) := by decide +kernel
theorem dX10_product_105 : decode cX10_product 105 = .ok (.istore_n 2, 1) := by decide +kernel
theorem dX10_product_106 : decode cX10_product 106 = .ok (.goto (-100), 3) := by decide +kernel
theorem dX10_product_109 : decode cX10_product 109 = .ok (.iload_n 2, 1) := by decide +kernel
theorem dX10_product_110 : decode cX10_product 110 = .ok (.ireturn, 1) := by decide +kernel
theorem dX10_one_0 : decode cX10_one 0 = .ok (.aload_n 0, 1) := by decide +kernel
theorem dX10_one_1 : decode cX10_one 1 = .ok (.iload_n 1, 1) := by decide +kernel
theorem dX10_one_2 : decode cX10_one 2 = .ok (.invokevirtual 314, 3) := by decide +kernel
theorem dX10_one_5 : decode cX10_one 5 = .ok (.istore_n 2, 1) := by decide +kernel
theorem dX10_one_6 : decode cX10_one 6 = .ok (.aload_n 0, 1) := by decide +kernel
theorem dX10_one_7 : decode cX10_one 7 = .ok (.getfield 302, 3) := by decide +kernel
theorem dX10_one_10 : decode cX10_one 10 = .ok (.ifCond .lt 5, 3) := by decide +kernel
theorem dX10_one_13 : decode cX10_one 13 = .ok (.iconst 0, 1) := by decide +kernel
theorem dX10_one_14 : decode cX10_one 14 = .ok (.ireturn, 1) := by decide +kernel
theorem dX10_one_15 : decode cX10_one 15 = .ok (.iload_n 2, 1) := by decide +kernel
theorem dX10_one_16 : decode cX10_one 16 = .ok (.bipush 40, 2) := by decide +kernel
theorem dX10_one_18 : decode cX10_one 18 = .ok (.if_icmp .ne 62, 3) := by decide +kernel
theorem dX10_one_21 : decode cX10_one 21 = .ok (.aload_n 0, 1) := by decide +kernel
theorem dX10_one_22 : decode cX10_one 22 = .ok (.invokevirtual 317, 3) := by decide +kernel
theorem dX10_one_25 : decode cX10_one 25 = .ok (.ifCond .ne 5, 3) := by decide +kernel
theorem dX10_one_28 : decode cX10_one 28 = .ok (.iconst 0, 1) := by decide +kernel
theorem dX10_one_29 : decode cX10_one 29 = .ok (.ireturn, 1) := by decide +kernel
theorem dX10_one_30 : decode cX10_one 30 = .ok (.aload_n 0, 1) := by decide +kernel
theorem dX10_one_31 : decode cX10_one 31 = .ok (.iload_n 1, 1) := by decide +kernel
theorem dX10_one_32 : decode cX10_one 32 = .ok (.invokevirtual 321, 3) := by decide +kernel
theorem dX10_one_35 : decode cX10_one 35 = .ok (.istore_n 3, 1) := by decide +kernel
theorem dX10_one_36 : decode cX10_one 36 = .ok (.aload_n 0, 1) := by decide +kernel
theorem dX10_one_37 : decode cX10_one 37 = .ok (.getfield 302, 3) := by decide +kernel
theorem dX10_one_40 : decode cX10_one 40 = .ok (.ifCond .ge 18, 3) := by decide +kernel
theorem dX10_one_43 : decode cX10_one 43 = .ok (.aload_n 0, 1) := by decide +kernel
theorem dX10_one_44 : decode cX10_one 44 = .ok (.iload_n 1, 1) := by decide +kernel
theorem dX10_one_45 : decode cX10_one 45 = .ok (.invokevirtual 314, 3) := by decide +kernel
theorem dX10_one_48 : decode cX10_one 48 = .ok (.bipush 41, 2) := by decide +kernel
theorem dX10_one_50 : decode cX10_one 50 = .ok (.if_icmp .eq 8, 3) := by decide +kernel
theorem dX10_one_53 : decode cX10_one 53 = .ok (.aload_n 0, 1) := by decide +kernel
theorem dX10_one_54 : decode cX10_one 54 = .ok (.invokevirtual 308, 3) := by decide +kernel
theorem dX10_one_57 : decode cX10_one 57 = .ok (.ireturn, 1) := by decide +kernel
theorem dX10_one_58 : decode cX10_one 58 = .ok (.aload_n 0, 1) := by decide +kernel
theorem dX10_one_59 : decode cX10_one 59 = .ok (.dup, 1) := by decide +kernel
theorem dX10_one_60 : decode cX10_one 60 = .ok (.getfield 296, 3) := by decide +kernel
theorem dX10_one_63 : decode cX10_one 63 = .ok (.iconst 1, 1) := by decide +kernel
theorem dX10_one_64 : decode cX10_one 64 = .ok (.iadd, 1) := by decide +kernel
theorem dX10_one_65 : decode cX10_one 65 = .ok (.putfield 296, 3) := by decide +kernel
theorem dX10_one_68 : decode cX10_one 68 = .ok (.aload_n 0, 1) := by decide +kernel
theorem dX10_one_69 : decode cX10_one 69 = .ok (.dup, 1) := by decide +kernel
theorem dX10_one_70 : decode cX10_one 70 = .ok (.getfield 305, 3) := by decide +kernel
theorem dX10_one_73 : decode cX10_one 73 = .ok (.iconst 1, 1) := by decide +kernel
theorem dX10_one_74 : decode cX10_one 74 = .ok (.isub, 1) := by decide +kernel
theorem dX10_one_75 : decode cX10_one 75 = .ok (.putfield 305, 3) := by decide +kernel
theorem dX10_one_78 : decode cX10_one 78 = .ok (.iload_n 3, 1) := by decide +kernel
theorem dX10_one_79 : decode cX10_one 79 = .ok (.ireturn, 1) := by decide +kernel
theorem dX10_one_80 : decode cX10_one 80 = .ok (.iload_n 2, 1) := by decide +kernel
theorem dX10_one_81 : decode cX10_one 81 = .ok (.bipush 48, 2) := by decide +kernel
theorem dX10_one_83 : decode cX10_one 83 = .ok (.if_icmp .lt 9, 3) := by decide +kernel
theorem dX10_one_86 : decode cX10_one 86 = .ok (.iload_n 2, 1) := by decide +kernel
theorem dX10_one_87 : decode cX10_one 87 = .ok (.bipush 57, 2) := by decide +kernel
theorem dX10_one_89 : decode cX10_one 89 = .ok (.if_icmp .le 34, 3) := by decide +kernel
theorem dX10_one_92 : decode cX10_one 92 = .ok (.iload_n 2, 1) := by decide +kernel
theorem dX10_one_93 : decode cX10_one 93 = .ok (.invokestatic 333, 3) := by decide +kernel
theorem dX10_one_96 : decode cX10_one 96 = .ok (.istore_n 3, 1) := by decide +kernel
theorem dX10_one_97 : decode cX10_one 97 = .ok (.iload_n 3, 1) := by decide +kernel
theorem dX10_one_98 : decode cX10_one 98 = .ok (.ifCond .ge 8, 3) := by decide +kernel
theorem dX10_one_101 : decode cX10_one 101 = .ok (.aload_n 0, 1) := by decide +kernel
theorem dX10_one_102 : decode cX10_one 102 = .ok (.invokevirtual 308, 3) := by decide +kernel
theorem dX10_one_105 : decode cX10_one 105 = .ok (.ireturn, 1) := by decide +kernel
theorem dX10_one_106 : decode cX10_one 106 = .ok (.aload_n 0, 1) := by decide +kernel
theorem dX10_one_107 : decode cX10_one 107 = .ok (.dup, 1) := by decide +kernel
theorem dX10_one_108 : decode cX10_one 108 = .ok (.getfield 296, 3) := by decide +kernel
theorem dX10_one_111 : decode cX10_one 111 = .ok (.iconst 1, 1) := by decide +kernel
theorem dX10_one_112 : decode cX10_one 112 = .ok (.iadd, 1) := by decide +kernel
theorem dX10_one_113 : decode cX10_one 113 = .ok (.putfield 296, 3) := by decide +kernel
theorem dX10_one_116 : decode cX10_one 116 = .ok (.aload_n 0, 1) := by decide +kernel
theorem dX10_one_117 : decode cX10_one 117 = .ok (.getfield 112, 3) := by decide +kernel
theorem dX10_one_120 : decode cX10_one 120 = .ok (.iload_n 3, 1) := by decide +kernel
theorem dX10_one_121 : decode cX10_one 121 = .ok (.iaload, 1) := by decide +kernel
theorem dX10_one_122 : decode cX10_one 122 = .ok (.ireturn, 1) := by decide +kernel
theorem dX10_one_123 : decode cX10_one 123 = .ok (.iconst 0, 1) := by decide +kernel
theorem dX10_one_124 : decode cX10_one 124 = .ok (.istore_n 3, 1) := by decide +kernel
theorem dX10_one_125 : decode cX10_one 125 = .ok (.iconst 0, 1) := by decide +kernel
theorem dX10_one_126 : decode cX10_one 126 = .ok (.istore 4, 2) := by decide +kernel
theorem dX10_one_128 : decode cX10_one 128 = .ok (.aload_n 0, 1) := by decide +kernel
theorem dX10_one_129 : decode cX10_one 129 = .ok (.iload_n 1, 1) := by decide +kernel
theorem dX10_one_130 : decode cX10_one 130 = .ok (.invokevirtual 314, 3) := by decide +kernel
theorem dX10_one_133 : decode cX10_one 133 = .ok (.bipush 48, 2) := by decide +kernel
theorem dX10_one_135 : decode cX10_one 135 = .ok (.if_icmp .lt 54, 3) := by decide +kernel
theorem dX10_one_138 : decode cX10_one 138 = .ok (.aload_n 0, 1) := by decide +kernel
theorem dX10_one_139 : decode cX10_one 139 = .ok (.iload_n 1, 1) := by decide +kernel
theorem dX10_one_140 : decode cX10_one 140 = .ok (.invokevirtual 314, 3) := by decide +kernel
theorem dX10_one_143 : decode cX10_one 143 = .ok (.bipush 57, 2) := by decide +kernel
theorem dX10_one_145 : decode cX10_one 145 = .ok (.if_icmp .gt 44, 3) := by decide +kernel
theorem dX10_one_148 : decode cX10_one 148 = .ok (.iload 4, 2) := by decide +kernel
theorem dX10_one_150 : decode cX10_one 150 = .ok (.iconst 5, 1) := by decide +kernel
theorem dX10_one_151 : decode cX10_one 151 = .ok (.if_icmp .ne 8, 3) := by decide +kernel
theorem dX10_one_154 : decode cX10_one 154 = .ok (.aload_n 0, 1) := by decide +kernel
theorem dX10_one_155 : decode cX10_one 155 = .ok (.invokevirtual 308, 3) := by decide +kernel
theorem dX10_one_158 : decode cX10_one 158 = .ok (.ireturn, 1) := by decide +kernel
theorem dX10_one_159 : decode cX10_one 159 = .ok (.bipush 10, 2) := by decide +kernel
theorem dX10_one_161 : decode cX10_one 161 = .ok (.iload_n 3, 1) := by decide +kernel
theorem dX10_one_162 : decode cX10_one 162 = .ok (.imul, 1) := by decide +kernel
theorem dX10_one_163 : decode cX10_one 163 = .ok (.aload_n 0, 1) := by decide +kernel
theorem dX10_one_164 : decode cX10_one 164 = .ok (.iload_n 1, 1) := by decide +kernel
theorem dX10_one_165 : decode cX10_one 165 = .ok (.invokevirtual 314, 3) := by decide +kernel
theorem dX10_one_168 : decode cX10_one 168 = .ok (.iadd, 1) := by decide +kernel
theorem dX10_one_169 : decode cX10_one 169 = .ok (.bipush 48, 2) := by decide +kernel
theorem dX10_one_171 : decode cX10_one 171 = .ok (.isub, 1) := by decide +kernel
theorem dX10_one_172 : decode cX10_one 172 = .ok (.istore_n 3, 1) := by decide +kernel
theorem dX10_one_173 : decode cX10_one 173 = .ok (.iinc 4 1, 3) := by decide +kernel
theorem dX10_one_176 : decode cX10_one 176 = .ok (.aload_n 0, 1) := by decide +kernel
theorem dX10_one_177 : decode cX10_one 177 = .ok (.dup, 1) := by decide +kernel
theorem dX10_one_178 : decode cX10_one 178 = .ok (.getfield 296, 3) := by decide +kernel
theorem dX10_one_181 : decode cX10_one 181 = .ok (.iconst 1, 1) := by decide +kernel
theorem dX10_one_182 : decode cX10_one 182 = .ok (.iadd, 1) := by decide +kernel
theorem dX10_one_183 : decode cX10_one 183 = .ok (.putfield 296, 3) := by decide +kernel
theorem dX10_one_186 : decode cX10_one 186 = .ok (.goto (-58), 3) := by decide +kernel
theorem dX10_one_189 : decode cX10_one 189 = .ok (.iload_n 3, 1) := by decide +kernel
theorem dX10_one_190 : decode cX10_one 190 = .ok (.ireturn, 1) := by decide +kernel
theorem dX10_workOut_0 : decode cX10_workOut 0 = .ok (.aload_n 0, 1) := by decide +kernel
theorem dX10_workOut_1 : decode cX10_workOut 1 = .ok (.iconst 0, 1) := by decide +kernel
theorem dX10_workOut_2 : decode cX10_workOut 2 = .ok (.putfield 296, 3) := by decide +kernel
theorem dX10_workOut_5 : decode cX10_workOut 5 = .ok (.aload_n 0, 1) := by decide +kernel
theorem dX10_workOut_6 : decode cX10_workOut 6 = .ok (.iload_n 2, 1) := by decide +kernel
theorem dX10_workOut_7 : decode cX10_workOut 7 = .ok (.putfield 299, 3) := by decide +kernel
theorem dX10_workOut_10 : decode cX10_workOut 10 = .ok (.aload_n 0, 1) := by decide +kernel
theorem dX10_workOut_11 : decode cX10_workOut 11 = .ok (.iconst 0, 1) := by decide +kernel
theorem dX10_workOut_12 : decode cX10_workOut 12 = .ok (.putfield 305, 3) := by decide +kernel
theorem dX10_workOut_15 : decode cX10_workOut 15 = .ok (.aload_n 0, 1) := by decide +kernel
theorem dX10_workOut_16 : decode cX10_workOut 16 = .ok (.iconst (-1), 1) := by decide +kernel
theorem dX10_workOut_17 : decode cX10_workOut 17 = .ok (.putfield 302, 3) := by decide +kernel
theorem dX10_workOut_20 : decode cX10_workOut 20 = .ok (.aload_n 0, 1) := by decide +kernel
theorem dX10_workOut_21 : decode cX10_workOut 21 = .ok (.iload_n 1, 1) := by decide +kernel
theorem dX10_workOut_22 : decode cX10_workOut 22 = .ok (.invokevirtual 321, 3) := by decide +kernel
theorem dX10_workOut_25 : decode cX10_workOut 25 = .ok (.istore_n 3, 1) := by decide +kernel
theorem dX10_workOut_26 : decode cX10_workOut 26 = .ok (.aload_n 0, 1) := by decide +kernel
theorem dX10_workOut_27 : decode cX10_workOut 27 = .ok (.getfield 302, 3) := by decide +kernel
theorem dX10_workOut_30 : decode cX10_workOut 30 = .ok (.ifCond .ge 19, 3) := by decide +kernel
theorem dX10_workOut_33 : decode cX10_workOut 33 = .ok (.aload_n 0, 1) := by decide +kernel
theorem dX10_workOut_34 : decode cX10_workOut 34 = .ok (.getfield 296, 3) := by decide +kernel
theorem dX10_workOut_37 : decode cX10_workOut 37 = .ok (.aload_n 0, 1) := by decide +kernel
theorem dX10_workOut_38 : decode cX10_workOut 38 = .ok (.getfield 299, 3) := by decide +kernel
theorem dX10_workOut_41 : decode cX10_workOut 41 = .ok (.if_icmp .ge 8, 3) := by decide +kernel
theorem dX10_workOut_44 : decode cX10_workOut 44 = .ok (.aload_n 0, 1) := by decide +kernel
theorem dX10_workOut_45 : decode cX10_workOut 45 = .ok (.invokevirtual 308, 3) := by decide +kernel
theorem dX10_workOut_48 : decode cX10_workOut 48 = .ok (.ireturn, 1) := by decide +kernel
theorem dX10_workOut_49 : decode cX10_workOut 49 = .ok (.iload_n 3, 1) := by decide +kernel
theorem dX10_workOut_50 : decode cX10_workOut 50 = .ok (.ireturn, 1) := by decide +kernel
theorem dX10_law_0 : decode cX10_law 0 = .ok (.iload_n 1, 1) := by decide +kernel
theorem dX10_law_1 : decode cX10_law 1 = .ok (.iconst 0, 1) := by decide +kernel
theorem dX10_law_2 : decode cX10_law 2 = .ok (.iconst 2, 1) := by decide +kernel
theorem dX10_law_3 : decode cX10_law 3 = .ok (.invokestatic 208, 3) := by decide +kernel
theorem dX10_law_6 : decode cX10_law 6 = .ok (.ifCond .eq 10, 3) := by decide +kernel
theorem dX10_law_9 : decode cX10_law 9 = .ok (.iload_n 2, 1) := by decide +kernel
theorem dX10_law_10 : decode cX10_law 10 = .ok (.invokestatic 336, 3) := by decide +kernel
theorem dX10_law_13 : decode cX10_law 13 = .ok (.ifCond .ne 5, 3) := by decide +kernel
theorem dX10_law_16 : decode cX10_law 16 = .ok (.iconst (-1), 1) := by decide +kernel
theorem dX10_law_17 : decode cX10_law 17 = .ok (.ireturn, 1) := by decide +kernel
theorem dX10_law_18 : decode cX10_law 18 = .ok (.aload_n 0, 1) := by decide +kernel
theorem dX10_law_19 : decode cX10_law 19 = .ok (.getfield 339, 3) := by decide +kernel
theorem dX10_law_22 : decode cX10_law 22 = .ok (.bipush 40, 2) := by decide +kernel
theorem dX10_law_24 : decode cX10_law 24 = .ok (.if_icmp .ne 6, 3) := by decide +kernel
theorem dX10_law_27 : decode cX10_law 27 = .ok (.bipush (-2), 2) := by decide +kernel
theorem dX10_law_29 : decode cX10_law 29 = .ok (.ireturn, 1) := by decide +kernel
theorem dX10_law_30 : decode cX10_law 30 = .ok (.aload_n 0, 1) := by decide +kernel
theorem dX10_law_31 : decode cX10_law 31 = .ok (.iconst (-1), 1) := by decide +kernel
theorem dX10_law_32 : decode cX10_law 32 = .ok (.aload_n 0, 1) := by decide +kernel
theorem dX10_law_33 : decode cX10_law 33 = .ok (.getfield 293, 3) := by decide +kernel
theorem dX10_law_36 : decode cX10_law 36 = .ok (.invokevirtual 342, 3) := by decide +kernel
theorem dX10_law_39 : decode cX10_law 39 = .ok (.istore_n 3, 1) := by decide +kernel
theorem dX10_law_40 : decode cX10_law 40 = .ok (.aload_n 0, 1) := by decide +kernel
theorem dX10_law_41 : decode cX10_law 41 = .ok (.getfield 293, 3) := by decide +kernel
theorem dX10_law_44 : decode cX10_law 44 = .ok (.istore 4, 2) := by decide +kernel
theorem dX10_law_46 : decode cX10_law 46 = .ok (.aload_n 0, 1) := by decide +kernel
theorem dX10_law_47 : decode cX10_law 47 = .ok (.iconst 0, 1) := by decide +kernel
theorem dX10_law_48 : decode cX10_law 48 = .ok (.putfield 293, 3) := by decide +kernel
theorem dX10_law_51 : decode cX10_law 51 = .ok (.aload_n 0, 1) := by decide +kernel
theorem dX10_law_52 : decode cX10_law 52 = .ok (.getfield 302, 3) := by decide +kernel
theorem dX10_law_55 : decode cX10_law 55 = .ok (.ifCond .lt 11, 3) := by decide +kernel
theorem dX10_law_58 : decode cX10_law 58 = .ok (.bipush (-100), 2) := by decide +kernel
theorem dX10_law_60 : decode cX10_law 60 = .ok (.aload_n 0, 1) := by decide +kernel
theorem dX10_law_61 : decode cX10_law 61 = .ok (.getfield 302, 3) := by decide +kernel
theorem dX10_law_64 : decode cX10_law 64 = .ok (.isub, 1) := by decide +kernel
theorem dX10_law_65 : decode cX10_law 65 = .ok (.ireturn, 1) := by decide +kernel
theorem dX10_law_66 : decode cX10_law 66 = .ok (.iconst 0, 1) := by decide +kernel
theorem dX10_law_67 : decode cX10_law 67 = .ok (.istore 5, 2) := by decide +kernel
theorem dX10_law_69 : decode cX10_law 69 = .ok (.iload 5, 2) := by decide +kernel
theorem dX10_law_71 : decode cX10_law 71 = .ok (.iload 4, 2) := by decide +kernel
theorem dX10_law_73 : decode cX10_law 73 = .ok (.if_icmp .ge 32, 3) := by decide +kernel
theorem dX10_law_76 : decode cX10_law 76 = .ok (.aload_n 0, 1) := by decide +kernel
theorem dX10_law_77 : decode cX10_law 77 = .ok (.getfield 97, 3) := by decide +kernel
theorem dX10_law_80 : decode cX10_law 80 = .ok (.sipush 160, 3) := by decide +kernel
theorem dX10_law_83 : decode cX10_law 83 = .ok (.aload_n 0, 1) := by decide +kernel
theorem dX10_law_84 : decode cX10_law 84 = .ok (.getfield 339, 3) := by decide +kernel
theorem dX10_law_87 : decode cX10_law 87 = .ok (.imul, 1) := by decide +kernel
theorem dX10_law_88 : decode cX10_law 88 = .ok (.iload 5, 2) := by decide +kernel
theorem dX10_law_90 : decode cX10_law 90 = .ok (.iadd, 1) := by decide +kernel
theorem dX10_law_91 : decode cX10_law 91 = .ok (.aload_n 0, 1) := by decide +kernel
theorem dX10_law_92 : decode cX10_law 92 = .ok (.getfield 94, 3) := by decide +kernel
theorem dX10_law_95 : decode cX10_law 95 = .ok (.iload 5, 2) := by decide +kernel
theorem dX10_law_97 : decode cX10_law 97 = .ok (.iaload, 1) := by decide +kernel
theorem dX10_law_98 : decode cX10_law 98 = .ok (.iastore, 1) := by decide +kernel
theorem dX10_law_99 : decode cX10_law 99 = .ok (.iinc 5 1, 3) := by decide +kernel
theorem dX10_law_102 : decode cX10_law 102 = .ok (.goto (-33), 3) := by decide +kernel
theorem dX10_law_105 : decode cX10_law 105 = .ok (.aload_n 0, 1) := by decide +kernel
theorem dX10_law_106 : decode cX10_law 106 = .ok (.getfield 100, 3) := by decide +kernel
theorem dX10_law_109 : decode cX10_law 109 = .ok (.aload_n 0, 1) := by decide +kernel
theorem dX10_law_110 : decode cX10_law 110 = .ok (.getfield 339, 3) := by decide +kernel
theorem dX10_law_113 : decode cX10_law 113 = .ok (.iload 4, 2) := by decide +kernel
theorem dX10_law_115 : decode cX10_law 115 = .ok (.iastore, 1) := by decide +kernel
theorem dX10_law_116 : decode cX10_law 116 = .ok (.aload_n 0, 1) := by decide +kernel
theorem dX10_law_117 : decode cX10_law 117 = .ok (.getfield 103, 3) := by decide +kernel
theorem dX10_law_120 : decode cX10_law 120 = .ok (.aload_n 0, 1) := by decide +kernel
theorem dX10_law_121 : decode cX10_law 121 = .ok (.getfield 339, 3) := by decide +kernel
theorem dX10_law_124 : decode cX10_law 124 = .ok (.iload_n 1, 1) := by decide +kernel
theorem dX10_law_125 : decode cX10_law 125 = .ok (.iastore, 1) := by decide +kernel
theorem dX10_law_126 : decode cX10_law 126 = .ok (.aload_n 0, 1) := by decide +kernel
theorem dX10_law_127 : decode cX10_law 127 = .ok (.getfield 106, 3) := by decide +kernel
theorem dX10_law_130 : decode cX10_law 130 = .ok (.aload_n 0, 1) := by decide +kernel
theorem dX10_law_131 : decode cX10_law 131 = .ok (.getfield 339, 3) := by decide +kernel
theorem dX10_law_134 : decode cX10_law 134 = .ok (.iload_n 2, 1) := by decide +kernel
theorem dX10_law_135 : decode cX10_law 135 = .ok (.iastore, 1) := by decide +kernel
theorem dX10_law_136 : decode cX10_law 136 = .ok (.aload_n 0, 1) := by decide +kernel
theorem dX10_law_137 : decode cX10_law 137 = .ok (.getfield 109, 3) := by decide +kernel
theorem dX10_law_140 : decode cX10_law 140 = .ok (.aload_n 0, 1) := by decide +kernel
theorem dX10_law_141 : decode cX10_law 141 = .ok (.getfield 339, 3) := by decide +kernel
theorem dX10_law_144 : decode cX10_law 144 = .ok (.aload_n 0, 1) := by decide +kernel
theorem dX10_law_145 : decode cX10_law 145 = .ok (.invokevirtual 262, 3) := by decide +kernel
theorem dX10_law_148 : decode cX10_law 148 = .ok (.iastore, 1) := by decide +kernel
theorem dX10_law_149 : decode cX10_law 149 = .ok (.aload_n 0, 1) := by decide +kernel
theorem dX10_law_150 : decode cX10_law 150 = .ok (.dup, 1) := by decide +kernel
theorem dX10_law_151 : decode cX10_law 151 = .ok (.getfield 339, 3) := by decide +kernel
theorem dX10_law_154 : decode cX10_law 154 = .ok (.iconst 1, 1) := by decide +kernel
theorem dX10_law_155 : decode cX10_law 155 = .ok (.iadd, 1) := by decide +kernel
theorem dX10_law_156 : decode cX10_law 156 = .ok (.putfield 339, 3) := by decide +kernel
theorem dX10_law_159 : decode cX10_law 159 = .ok (.aload_n 0, 1) := by decide +kernel
theorem dX10_law_160 : decode cX10_law 160 = .ok (.getfield 339, 3) := by decide +kernel
theorem dX10_law_163 : decode cX10_law 163 = .ok (.iconst 1, 1) := by decide +kernel
theorem dX10_law_164 : decode cX10_law 164 = .ok (.isub, 1) := by decide +kernel
theorem dX10_law_165 : decode cX10_law 165 = .ok (.ireturn, 1) := by decide +kernel
theorem dX10_force_0 : decode cX10_force 0 = .ok (.bipush (-9), 2) := by decide +kernel
theorem dX10_force_2 : decode cX10_force 2 = .ok (.istore 4, 2) := by decide +kernel
theorem dX10_force_4 : decode cX10_force 4 = .ok (.iconst 0, 1) := by decide +kernel
theorem dX10_force_5 : decode cX10_force 5 = .ok (.istore 5, 2) := by decide +kernel
theorem dX10_force_7 : decode cX10_force 7 = .ok (.iload 5, 2) := by decide +kernel
theorem dX10_force_9 : decode cX10_force 9 = .ok (.aload_n 0, 1) := by decide +kernel
theorem dX10_force_10 : decode cX10_force 10 = .ok (.getfield 339, 3) := by decide +kernel
theorem dX10_force_13 : decode cX10_force 13 = .ok (.if_icmp .ge 51, 3) := by decide +kernel
theorem dX10_force_16 : decode cX10_force 16 = .ok (.aload_n 0, 1) := by decide +kernel
theorem dX10_force_17 : decode cX10_force 17 = .ok (.getfield 103, 3) := by decide +kernel
theorem dX10_force_20 : decode cX10_force 20 = .ok (.iload 5, 2) := by decide +kernel
theorem dX10_force_22 : decode cX10_force 22 = .ok (.iaload, 1) := by decide +kernel
theorem dX10_force_23 : decode cX10_force 23 = .ok (.iload_n 1, 1) := by decide +kernel
theorem dX10_force_24 : decode cX10_force 24 = .ok (.if_icmp .ne 30, 3) := by decide +kernel
theorem dX10_force_27 : decode cX10_force 27 = .ok (.aload_n 0, 1) := by decide +kernel
theorem dX10_force_28 : decode cX10_force 28 = .ok (.getfield 109, 3) := by decide +kernel
theorem dX10_force_31 : decode cX10_force 31 = .ok (.iload 5, 2) := by decide +kernel
theorem dX10_force_33 : decode cX10_force 33 = .ok (.iaload, 1) := by decide +kernel
theorem dX10_force_34 : decode cX10_force 34 = .ok (.iload_n 3, 1) := by decide +kernel
theorem dX10_force_35 : decode cX10_force 35 = .ok (.if_icmp .gt 19, 3) := by decide +kernel
theorem dX10_force_38 : decode cX10_force 38 = .ok (.aload_n 0, 1) := by decide +kernel
theorem dX10_force_39 : decode cX10_force 39 = .ok (.getfield 106, 3) := by decide +kernel
theorem dX10_force_42 : decode cX10_force 42 = .ok (.iload 5, 2) := by decide +kernel
theorem dX10_force_44 : decode cX10_force 44 = .ok (.iaload, 1) := by decide +kernel
theorem dX10_force_45 : decode cX10_force 45 = .ok (.iload_n 2, 1) := by decide +kernel
theorem dX10_force_46 : decode cX10_force 46 = .ok (.if_icmp .gt 8, 3) := by decide +kernel
theorem dX10_force_49 : decode cX10_force 49 = .ok (.iload 5, 2) := by decide +kernel
theorem dX10_force_51 : decode cX10_force 51 = .ok (.goto 5, 3) := by decide +kernel
theorem dX10_force_54 : decode cX10_force 54 = .ok (.iload 4, 2) := by decide +kernel
theorem dX10_force_56 : decode cX10_force 56 = .ok (.istore 4, 2) := by decide +kernel
theorem dX10_force_58 : decode cX10_force 58 = .ok (.iinc 5 1, 3) := by decide +kernel
theorem dX10_force_61 : decode cX10_force 61 = .ok (.goto (-54), 3) := by decide +kernel
theorem dX10_force_64 : decode cX10_force 64 = .ok (.iload 4, 2) := by decide +kernel
theorem dX10_force_66 : decode cX10_force 66 = .ok (.ireturn, 1) := by decide +kernel
theorem dX10_inForce_0 : decode cX10_inForce 0 = .ok (.iload_n 1, 1) := by decide +kernel
theorem dX10_inForce_1 : decode cX10_inForce 1 = .ok (.iconst 0, 1) := by decide +kernel
theorem dX10_inForce_2 : decode cX10_inForce 2 = .ok (.iconst 2, 1) := by decide +kernel
theorem dX10_inForce_3 : decode cX10_inForce 3 = .ok (.invokestatic 208, 3) := by decide +kernel
theorem dX10_inForce_6 : decode cX10_inForce 6 = .ok (.ifCond .eq 27, 3) := by decide +kernel
theorem dX10_inForce_9 : decode cX10_inForce 9 = .ok (.iload_n 2, 1) := by decide +kernel
theorem dX10_inForce_10 : decode cX10_inForce 10 = .ok (.invokestatic 336, 3) := by decide +kernel
theorem dX10_inForce_13 : decode cX10_inForce 13 = .ok (.ifCond .eq 20, 3) := by decide +kernel
theorem dX10_inForce_16 : decode cX10_inForce 16 = .ok (.iload_n 3, 1) := by decide +kernel
theorem dX10_inForce_17 : decode cX10_inForce 17 = .ok (.invokestatic 336, 3) := by decide +kernel
theorem dX10_inForce_20 : decode cX10_inForce 20 = .ok (.ifCond .eq 13, 3) := by decide +kernel
theorem dX10_inForce_23 : decode cX10_inForce 23 = .ok (.aload_n 0, 1) := by decide +kernel
theorem dX10_inForce_24 : decode cX10_inForce 24 = .ok (.iload_n 1, 1) := by decide +kernel
theorem dX10_inForce_25 : decode cX10_inForce 25 = .ok (.iload_n 2, 1) := by decide +kernel
theorem dX10_inForce_26 : decode cX10_inForce 26 = .ok (.iload_n 3, 1) := by decide +kernel
theorem dX10_inForce_27 : decode cX10_inForce 27 = .ok (.invokevirtual 345, 3) := by decide +kernel
theorem dX10_inForce_30 : decode cX10_inForce 30 = .ok (.goto 4, 3) := by decide +kernel
theorem dX10_inForce_33 : decode cX10_inForce 33 = .ok (.iconst (-1), 1) := by decide +kernel
theorem dX10_inForce_34 : decode cX10_inForce 34 = .ok (.ireturn, 1) := by decide +kernel
theorem dX10_name_0 : decode cX10_name 0 = .ok (.aload_n 0, 1) := by decide +kernel
theorem dX10_name_1 : decode cX10_name 1 = .ok (.getfield 112, 3) := by decide +kernel
theorem dX10_name_4 : decode cX10_name 4 = .ok (.iconst 0, 1) := by decide +kernel
theorem dX10_name_5 : decode cX10_name 5 = .ok (.iload_n 1, 1) := by decide +kernel
theorem dX10_name_6 : decode cX10_name 6 = .ok (.iastore, 1) := by decide +kernel
theorem dX10_name_7 : decode cX10_name 7 = .ok (.aload_n 0, 1) := by decide +kernel
theorem dX10_name_8 : decode cX10_name 8 = .ok (.getfield 112, 3) := by decide +kernel
theorem dX10_name_11 : decode cX10_name 11 = .ok (.iconst 1, 1) := by decide +kernel
theorem dX10_name_12 : decode cX10_name 12 = .ok (.iload_n 1, 1) := by decide +kernel
theorem dX10_name_13 : decode cX10_name 13 = .ok (.invokestatic 277, 3) := by decide +kernel
theorem dX10_name_16 : decode cX10_name 16 = .ok (.iload_n 2, 1) := by decide +kernel
theorem dX10_name_17 : decode cX10_name 17 = .ok (.iadd, 1) := by decide +kernel
theorem dX10_name_18 : decode cX10_name 18 = .ok (.iastore, 1) := by decide +kernel
theorem dX10_name_19 : decode cX10_name 19 = .ok (.aload_n 0, 1) := by decide +kernel
theorem dX10_name_20 : decode cX10_name 20 = .ok (.getfield 112, 3) := by decide +kernel
theorem dX10_name_23 : decode cX10_name 23 = .ok (.iconst 2, 1) := by decide +kernel
theorem dX10_name_24 : decode cX10_name 24 = .ok (.iload_n 2, 1) := by decide +kernel
theorem dX10_name_25 : decode cX10_name 25 = .ok (.iastore, 1) := by decide +kernel
theorem dX10_name_26 : decode cX10_name 26 = .ok (.aload_n 0, 1) := by decide +kernel
theorem dX10_name_27 : decode cX10_name 27 = .ok (.getfield 112, 3) := by decide +kernel
theorem dX10_name_30 : decode cX10_name 30 = .ok (.iconst 3, 1) := by decide +kernel
theorem dX10_name_31 : decode cX10_name 31 = .ok (.iload_n 3, 1) := by decide +kernel
theorem dX10_name_32 : decode cX10_name 32 = .ok (.iastore, 1) := by decide +kernel
theorem dX10_name_33 : decode cX10_name 33 = .ok (.aload_n 0, 1) := by decide +kernel
theorem dX10_name_34 : decode cX10_name 34 = .ok (.getfield 112, 3) := by decide +kernel
theorem dX10_name_37 : decode cX10_name 37 = .ok (.iconst 4, 1) := by decide +kernel
theorem dX10_name_38 : decode cX10_name 38 = .ok (.iload 4, 2) := by decide +kernel
theorem dX10_name_40 : decode cX10_name 40 = .ok (.iastore, 1) := by decide +kernel
theorem dX10_name_41 : decode cX10_name 41 = .ok (.aload_n 0, 1) := by decide +kernel
theorem dX10_name_42 : decode cX10_name 42 = .ok (.getfield 112, 3) := by decide +kernel
theorem dX10_name_45 : decode cX10_name 45 = .ok (.iconst 5, 1) := by decide +kernel
theorem dX10_name_46 : decode cX10_name 46 = .ok (.iload 5, 2) := by decide +kernel
theorem dX10_name_48 : decode cX10_name 48 = .ok (.iastore, 1) := by decide +kernel
theorem dX10_name_49 : decode cX10_name 49 = .ok (.aload_n 0, 1) := by decide +kernel
theorem dX10_name_50 : decode cX10_name 50 = .ok (.getfield 112, 3) := by decide +kernel
theorem dX10_name_53 : decode cX10_name 53 = .ok (.bipush 6, 2) := by decide +kernel
theorem dX10_name_55 : decode cX10_name 55 = .ok (.iload 6, 2) := by decide +kernel
theorem dX10_name_57 : decode cX10_name 57 = .ok (.iastore, 1) := by decide +kernel
theorem dX10_name_58 : decode cX10_name 58 = .ok (.aload_n 0, 1) := by decide +kernel
theorem dX10_name_59 : decode cX10_name 59 = .ok (.getfield 112, 3) := by decide +kernel
theorem dX10_name_62 : decode cX10_name 62 = .ok (.bipush 7, 2) := by decide +kernel
theorem dX10_name_64 : decode cX10_name 64 = .ok (.iload 7, 2) := by decide +kernel
theorem dX10_name_66 : decode cX10_name 66 = .ok (.iastore, 1) := by decide +kernel
theorem dX10_name_67 : decode cX10_name 67 = .ok (.aload_n 0, 1) := by decide +kernel
theorem dX10_name_68 : decode cX10_name 68 = .ok (.getfield 112, 3) := by decide +kernel
theorem dX10_name_71 : decode cX10_name 71 = .ok (.bipush 8, 2) := by decide +kernel
theorem dX10_name_73 : decode cX10_name 73 = .ok (.iload 8, 2) := by decide +kernel
theorem dX10_name_75 : decode cX10_name 75 = .ok (.iastore, 1) := by decide +kernel
theorem dX10_name_76 : decode cX10_name 76 = .ok (.return_, 1) := by decide +kernel
theorem dX10_says_0 : decode cX10_says 0 = .ok (.iload_n 1, 1) := by decide +kernel
theorem dX10_says_1 : decode cX10_says 1 = .ok (.ifCond .lt 102, 3) := by decide +kernel
theorem dX10_says_4 : decode cX10_says 4 = .ok (.iload_n 1, 1) := by decide +kernel
theorem dX10_says_5 : decode cX10_says 5 = .ok (.aload_n 0, 1) := by decide +kernel
theorem dX10_says_6 : decode cX10_says 6 = .ok (.getfield 339, 3) := by decide +kernel
theorem dX10_says_9 : decode cX10_says 9 = .ok (.if_icmp .ge 94, 3) := by decide +kernel
theorem dX10_says_12 : decode cX10_says 12 = .ok (.iload_n 2, 1) := by decide +kernel
theorem dX10_says_13 : decode cX10_says 13 = .ok (.iconst 0, 1) := by decide +kernel
theorem dX10_says_14 : decode cX10_says 14 = .ok (.ldc_w 348, 3) := by decide +kernel
theorem dX10_says_17 : decode cX10_says 17 = .ok (.invokestatic 208, 3) := by decide +kernel
theorem dX10_says_20 : decode cX10_says 20 = .ok (.ifCond .eq 83, 3) := by decide +kernel
theorem dX10_says_23 : decode cX10_says 23 = .ok (.iload_n 3, 1) := by decide +kernel
theorem dX10_says_24 : decode cX10_says 24 = .ok (.iconst 0, 1) := by decide +kernel
theorem dX10_says_25 : decode cX10_says 25 = .ok (.sipush 240, 3) := by decide +kernel
theorem dX10_says_28 : decode cX10_says 28 = .ok (.invokestatic 208, 3) := by decide +kernel
theorem dX10_says_31 : decode cX10_says 31 = .ok (.ifCond .eq 72, 3) := by decide +kernel
theorem dX10_says_34 : decode cX10_says 34 = .ok (.iload 4, 2) := by decide +kernel
theorem dX10_says_36 : decode cX10_says 36 = .ok (.ifCond .lt 67, 3) := by decide +kernel
theorem dX10_says_39 : decode cX10_says 39 = .ok (.iload 4, 2) := by decide +kernel
theorem dX10_says_41 : decode cX10_says 41 = .ok (.sipush 1000, 3) := by decide +kernel
theorem dX10_says_44 : decode cX10_says 44 = .ok (.idiv, 1) := by decide +kernel
theorem dX10_says_45 : decode cX10_says 45 = .ok (.iconst 0, 1) := by decide +kernel
theorem dX10_says_46 : decode cX10_says 46 = .ok (.bipush 9, 2) := by decide +kernel
theorem dX10_says_48 : decode cX10_says 48 = .ok (.invokestatic 208, 3) := by decide +kernel
theorem dX10_says_51 : decode cX10_says 51 = .ok (.ifCond .eq 52, 3) := by decide +kernel
theorem dX10_says_54 : decode cX10_says 54 = .ok (.iload 4, 2) := by decide +kernel
theorem dX10_says_56 : decode cX10_says 56 = .ok (.bipush 100, 2) := by decide +kernel
theorem dX10_says_58 : decode cX10_says 58 = .ok (.idiv, 1) := by decide +kernel
theorem dX10_says_59 : decode cX10_says 59 = .ok (.bipush 10, 2) := by decide +kernel
theorem dX10_says_61 : decode cX10_says 61 = .ok (.irem, 1) := by decide +kernel
theorem dX10_says_62 : decode cX10_says 62 = .ok (.iconst 0, 1) := by decide +kernel
theorem dX10_says_63 : decode cX10_says 63 = .ok (.bipush 6, 2) := by decide +kernel
theorem dX10_says_65 : decode cX10_says 65 = .ok (.invokestatic 208, 3) := by decide +kernel
theorem dX10_says_68 : decode cX10_says 68 = .ok (.ifCond .eq 35, 3) := by decide +kernel
theorem dX10_says_71 : decode cX10_says 71 = .ok (.iload 4, 2) := by decide +kernel
theorem dX10_says_73 : decode cX10_says 73 = .ok (.bipush 100, 2) := by decide +kernel
theorem dX10_says_75 : decode cX10_says 75 = .ok (.irem, 1) := by decide +kernel
theorem dX10_says_76 : decode cX10_says 76 = .ok (.iconst 0, 1) := by decide +kernel
theorem dX10_says_77 : decode cX10_says 77 = .ok (.bipush 23, 2) := by decide +kernel
theorem dX10_says_79 : decode cX10_says 79 = .ok (.invokestatic 208, 3) := by decide +kernel
theorem dX10_says_82 : decode cX10_says 82 = .ok (.ifCond .eq 21, 3) := by decide +kernel
theorem dX10_says_85 : decode cX10_says 85 = .ok (.iload 5, 2) := by decide +kernel
theorem dX10_says_87 : decode cX10_says 87 = .ok (.ifCond .lt 16, 3) := by decide +kernel
theorem dX10_says_90 : decode cX10_says 90 = .ok (.iload 5, 2) := by decide +kernel
theorem dX10_says_92 : decode cX10_says 92 = .ok (.bipush 10, 2) := by decide +kernel
theorem dX10_says_94 : decode cX10_says 94 = .ok (.irem, 1) := by decide +kernel
theorem dX10_says_95 : decode cX10_says 95 = .ok (.iconst 0, 1) := by decide +kernel
theorem dX10_says_96 : decode cX10_says 96 = .ok (.iconst 1, 1) := by decide +kernel
theorem dX10_says_97 : decode cX10_says 97 = .ok (.invokestatic 208, 3) := by decide +kernel
theorem dX10_says_100 : decode cX10_says 100 = .ok (.ifCond .ne 7, 3) := by decide +kernel
theorem dX10_says_103 : decode cX10_says 103 = .ok (.ldc_w 349, 3) := by decide +kernel
theorem dX10_says_106 : decode cX10_says 106 = .ok (.ireturn, 1) := by decide +kernel
theorem dX10_says_107 : decode cX10_says 107 = .ok (.aload_n 0, 1) := by decide +kernel
theorem dX10_says_108 : decode cX10_says 108 = .ok (.iload_n 2, 1) := by decide +kernel
theorem dX10_says_109 : decode cX10_says 109 = .ok (.iload_n 3, 1) := by decide +kernel
theorem dX10_says_110 : decode cX10_says 110 = .ok (.iload 5, 2) := by decide +kernel
theorem dX10_says_112 : decode cX10_says 112 = .ok (.bipush 10, 2) := by decide +kernel
theorem dX10_says_114 : decode cX10_says 114 = .ok (.irem, 1) := by decide +kernel
theorem dX10_says_115 : decode cX10_says 115 = .ok (.iload 4, 2) := by decide +kernel
theorem dX10_says_117 : decode cX10_says 117 = .ok (.sipush 1000, 3) := by decide +kernel
theorem dX10_says_120 : decode cX10_says 120 = .ok (.idiv, 1) := by decide +kernel
theorem dX10_says_121 : decode cX10_says 121 = .ok (.iload 5, 2) := by decide +kernel
theorem dX10_says_123 : decode cX10_says 123 = .ok (.bipush 10, 2) := by decide +kernel
theorem dX10_says_125 : decode cX10_says 125 = .ok (.idiv, 1) := by decide +kernel
theorem dX10_says_126 : decode cX10_says 126 = .ok (.iload 4, 2) := by decide +kernel
theorem dX10_says_128 : decode cX10_says 128 = .ok (.bipush 100, 2) := by decide +kernel
theorem dX10_says_130 : decode cX10_says 130 = .ok (.idiv, 1) := by decide +kernel
theorem dX10_says_131 : decode cX10_says 131 = .ok (.bipush 10, 2) := by decide +kernel
theorem dX10_says_133 : decode cX10_says 133 = .ok (.irem, 1) := by decide +kernel
theorem dX10_says_134 : decode cX10_says 134 = .ok (.iload 4, 2) := by decide +kernel
theorem dX10_says_136 : decode cX10_says 136 = .ok (.bipush 100, 2) := by decide +kernel
theorem dX10_says_138 : decode cX10_says 138 = .ok (.irem, 1) := by decide +kernel
theorem dX10_says_139 : decode cX10_says 139 = .ok (.sipush 1000, 3) := by decide +kernel
theorem dX10_says_142 : decode cX10_says 142 = .ok (.invokevirtual 350, 3) := by decide +kernel
theorem dX10_says_145 : decode cX10_says 145 = .ok (.aload_n 0, 1) := by decide +kernel
theorem dX10_says_146 : decode cX10_says 146 = .ok (.sipush 160, 3) := by decide +kernel
theorem dX10_says_149 : decode cX10_says 149 = .ok (.iload_n 1, 1) := by decide +kernel
theorem dX10_says_150 : decode cX10_says 150 = .ok (.imul, 1) := by decide +kernel
theorem dX10_says_151 : decode cX10_says 151 = .ok (.aload_n 0, 1) := by decide +kernel
theorem dX10_says_152 : decode cX10_says 152 = .ok (.getfield 100, 3) := by decide +kernel
theorem dX10_says_155 : decode cX10_says 155 = .ok (.iload_n 1, 1) := by decide +kernel
theorem dX10_says_156 : decode cX10_says 156 = .ok (.iaload, 1) := by decide +kernel
theorem dX10_says_157 : decode cX10_says 157 = .ok (.invokevirtual 342, 3) := by decide +kernel
theorem dX10_says_160 : decode cX10_says 160 = .ok (.ireturn, 1) := by decide +kernel
theorem dX10_fareBy_0 : decode cX10_fareBy 0 = .ok (.aload_n 0, 1) := by decide +kernel
theorem dX10_fareBy_1 : decode cX10_fareBy 1 = .ok (.sipush 160, 3) := by decide +kernel
theorem dX10_fareBy_4 : decode cX10_fareBy 4 = .ok (.iload_n 1, 1) := by decide +kernel
theorem dX10_fareBy_5 : decode cX10_fareBy 5 = .ok (.imul, 1) := by decide +kernel
theorem dX10_fareBy_6 : decode cX10_fareBy 6 = .ok (.aload_n 0, 1) := by decide +kernel
theorem dX10_fareBy_7 : decode cX10_fareBy 7 = .ok (.getfield 100, 3) := by decide +kernel
theorem dX10_fareBy_10 : decode cX10_fareBy 10 = .ok (.iload_n 1, 1) := by decide +kernel
theorem dX10_fareBy_11 : decode cX10_fareBy 11 = .ok (.iaload, 1) := by decide +kernel
theorem dX10_fareBy_12 : decode cX10_fareBy 12 = .ok (.invokevirtual 342, 3) := by decide +kernel
theorem dX10_fareBy_15 : decode cX10_fareBy 15 = .ok (.istore_n 2, 1) := by decide +kernel
theorem dX10_fareBy_16 : decode cX10_fareBy 16 = .ok (.iload_n 2, 1) := by decide +kernel
theorem dX10_fareBy_17 : decode cX10_fareBy 17 = .ok (.ifCond .ge 7, 3) := by decide +kernel
theorem dX10_fareBy_20 : decode cX10_fareBy 20 = .ok (.iconst 0, 1) := by decide +kernel
theorem dX10_fareBy_21 : decode cX10_fareBy 21 = .ok (.goto 17, 3) := by decide +kernel
theorem dX10_fareBy_24 : decode cX10_fareBy 24 = .ok (.iload_n 2, 1) := by decide +kernel
theorem dX10_fareBy_25 : decode cX10_fareBy 25 = .ok (.ldc_w 354, 3) := by decide +kernel
theorem dX10_fareBy_28 : decode cX10_fareBy 28 = .ok (.if_icmp .le 9, 3) := by decide +kernel
theorem dX10_fareBy_31 : decode cX10_fareBy 31 = .ok (.ldc_w 354, 3) := by decide +kernel
theorem dX10_fareBy_34 : decode cX10_fareBy 34 = .ok (.goto 4, 3) := by decide +kernel
theorem dX10_fareBy_37 : decode cX10_fareBy 37 = .ok (.iload_n 2, 1) := by decide +kernel
theorem dX10_fareBy_38 : decode cX10_fareBy 38 = .ok (.ireturn, 1) := by decide +kernel
theorem dX10_fare_0 : decode cX10_fare 0 = .ok (.aload_n 0, 1) := by decide +kernel
theorem dX10_fare_1 : decode cX10_fare 1 = .ok (.bipush (-9), 2) := by decide +kernel
theorem dX10_fare_3 : decode cX10_fare 3 = .ok (.putfield 355, 3) := by decide +kernel
theorem dX10_fare_6 : decode cX10_fare 6 = .ok (.bipush (-9), 2) := by decide +kernel
theorem dX10_fare_8 : decode cX10_fare 8 = .ok (.istore_n 3, 1) := by decide +kernel
theorem dX10_fare_9 : decode cX10_fare 9 = .ok (.iload_n 1, 1) := by decide +kernel
theorem dX10_fare_10 : decode cX10_fare 10 = .ok (.ifCond .lt 14, 3) := by decide +kernel
theorem dX10_fare_13 : decode cX10_fare 13 = .ok (.aload_n 0, 1) := by decide +kernel
theorem dX10_fare_14 : decode cX10_fare 14 = .ok (.iload_n 1, 1) := by decide +kernel
theorem dX10_fare_15 : decode cX10_fare 15 = .ok (.invokevirtual 358, 3) := by decide +kernel
theorem dX10_fare_18 : decode cX10_fare 18 = .ok (.istore_n 3, 1) := by decide +kernel
theorem dX10_fare_19 : decode cX10_fare 19 = .ok (.aload_n 0, 1) := by decide +kernel
theorem dX10_fare_20 : decode cX10_fare 20 = .ok (.iconst 0, 1) := by decide +kernel
theorem dX10_fare_21 : decode cX10_fare 21 = .ok (.putfield 355, 3) := by decide +kernel
theorem dX10_fare_24 : decode cX10_fare 24 = .ok (.iload_n 2, 1) := by decide +kernel
theorem dX10_fare_25 : decode cX10_fare 25 = .ok (.ifCond .lt 28, 3) := by decide +kernel
theorem dX10_fare_28 : decode cX10_fare 28 = .ok (.aload_n 0, 1) := by decide +kernel
theorem dX10_fare_29 : decode cX10_fare 29 = .ok (.iload_n 2, 1) := by decide +kernel
theorem dX10_fare_30 : decode cX10_fare 30 = .ok (.invokevirtual 358, 3) := by decide +kernel
theorem dX10_fare_33 : decode cX10_fare 33 = .ok (.istore 4, 2) := by decide +kernel
theorem dX10_fare_35 : decode cX10_fare 35 = .ok (.iload_n 3, 1) := by decide +kernel
theorem dX10_fare_36 : decode cX10_fare 36 = .ok (.ifCond .lt 9, 3) := by decide +kernel
theorem dX10_fare_39 : decode cX10_fare 39 = .ok (.iload 4, 2) := by decide +kernel
theorem dX10_fare_41 : decode cX10_fare 41 = .ok (.iload_n 3, 1) := by decide +kernel
theorem dX10_fare_42 : decode cX10_fare 42 = .ok (.if_icmp .ge 11, 3) := by decide +kernel
theorem dX10_fare_45 : decode cX10_fare 45 = .ok (.iload 4, 2) := by decide +kernel
theorem dX10_fare_47 : decode cX10_fare 47 = .ok (.istore_n 3, 1) := by decide +kernel
theorem dX10_fare_48 : decode cX10_fare 48 = .ok (.aload_n 0, 1) := by decide +kernel
theorem dX10_fare_49 : decode cX10_fare 49 = .ok (.iconst 1, 1) := by decide +kernel
theorem dX10_fare_50 : decode cX10_fare 50 = .ok (.putfield 355, 3) := by decide +kernel
theorem dX10_fare_53 : decode cX10_fare 53 = .ok (.iload_n 3, 1) := by decide +kernel
theorem dX10_fare_54 : decode cX10_fare 54 = .ok (.ireturn, 1) := by decide +kernel
theorem dX10_nameTrip_0 : decode cX10_nameTrip 0 = .ok (.aload_n 0, 1) := by decide +kernel
theorem dX10_nameTrip_1 : decode cX10_nameTrip 1 = .ok (.aload_n 0, 1) := by decide +kernel
theorem dX10_nameTrip_2 : decode cX10_nameTrip 2 = .ok (.getfield 133, 3) := by decide +kernel
theorem dX10_nameTrip_5 : decode cX10_nameTrip 5 = .ok (.iload_n 1, 1) := by decide +kernel
theorem dX10_nameTrip_6 : decode cX10_nameTrip 6 = .ok (.iaload, 1) := by decide +kernel
theorem dX10_nameTrip_7 : decode cX10_nameTrip 7 = .ok (.aload_n 0, 1) := by decide +kernel
theorem dX10_nameTrip_8 : decode cX10_nameTrip 8 = .ok (.getfield 142, 3) := by decide +kernel
theorem dX10_nameTrip_11 : decode cX10_nameTrip 11 = .ok (.iload_n 1, 1) := by decide +kernel
theorem dX10_nameTrip_12 : decode cX10_nameTrip 12 = .ok (.iaload, 1) := by decide +kernel
theorem dX10_nameTrip_13 : decode cX10_nameTrip 13 = .ok (.aload_n 0, 1) := by decide +kernel
theorem dX10_nameTrip_14 : decode cX10_nameTrip 14 = .ok (.getfield 148, 3) := by decide +kernel
theorem dX10_nameTrip_17 : decode cX10_nameTrip 17 = .ok (.iload_n 1, 1) := by decide +kernel
theorem dX10_nameTrip_18 : decode cX10_nameTrip 18 = .ok (.baload, 1) := by decide +kernel
theorem dX10_nameTrip_19 : decode cX10_nameTrip 19 = .ok (.ifCond .eq 7, 3) := by decide +kernel
theorem dX10_nameTrip_22 : decode cX10_nameTrip 22 = .ok (.iconst 1, 1) := by decide +kernel
theorem dX10_nameTrip_23 : decode cX10_nameTrip 23 = .ok (.goto 4, 3) := by decide +kernel
theorem dX10_nameTrip_26 : decode cX10_nameTrip 26 = .ok (.iconst 0, 1) := by decide +kernel
theorem dX10_nameTrip_27 : decode cX10_nameTrip 27 = .ok (.aload_n 0, 1) := by decide +kernel
theorem dX10_nameTrip_28 : decode cX10_nameTrip 28 = .ok (.getfield 139, 3) := by decide +kernel
theorem dX10_nameTrip_31 : decode cX10_nameTrip 31 = .ok (.iload_n 1, 1) := by decide +kernel
theorem dX10_nameTrip_32 : decode cX10_nameTrip 32 = .ok (.iaload, 1) := by decide +kernel
theorem dX10_nameTrip_33 : decode cX10_nameTrip 33 = .ok (.aload_n 0, 1) := by decide +kernel
theorem dX10_nameTrip_34 : decode cX10_nameTrip 34 = .ok (.getfield 136, 3) := by decide +kernel
theorem dX10_nameTrip_37 : decode cX10_nameTrip 37 = .ok (.iload_n 1, 1) := by decide +kernel
theorem dX10_nameTrip_38 : decode cX10_nameTrip 38 = .ok (.iaload, 1) := by decide +kernel
theorem dX10_nameTrip_39 : decode cX10_nameTrip 39 = .ok (.aload_n 0, 1) := by decide +kernel
theorem dX10_nameTrip_40 : decode cX10_nameTrip 40 = .ok (.getfield 124, 3) := by decide +kernel
theorem dX10_nameTrip_43 : decode cX10_nameTrip 43 = .ok (.iload_n 1, 1) := by decide +kernel
theorem dX10_nameTrip_44 : decode cX10_nameTrip 44 = .ok (.iaload, 1) := by decide +kernel
theorem dX10_nameTrip_45 : decode cX10_nameTrip 45 = .ok (.sipush 1440, 3) := by decide +kernel
theorem dX10_nameTrip_48 : decode cX10_nameTrip 48 = .ok (.idiv, 1) := by decide +kernel
theorem dX10_nameTrip_49 : decode cX10_nameTrip 49 = .ok (.bipush 7, 2) := by decide +kernel
theorem dX10_nameTrip_51 : decode cX10_nameTrip 51 = .ok (.irem, 1) := by decide +kernel
theorem dX10_nameTrip_52 : decode cX10_nameTrip 52 = .ok (.aload_n 0, 1) := by decide +kernel
theorem dX10_nameTrip_53 : decode cX10_nameTrip 53 = .ok (.getfield 124, 3) := by decide +kernel
theorem dX10_nameTrip_56 : decode cX10_nameTrip 56 = .ok (.iload_n 1, 1) := by decide +kernel
theorem dX10_nameTrip_57 : decode cX10_nameTrip 57 = .ok (.iaload, 1) := by decide +kernel
theorem dX10_nameTrip_58 : decode cX10_nameTrip 58 = .ok (.sipush 1440, 3) := by decide +kernel
theorem dX10_nameTrip_61 : decode cX10_nameTrip 61 = .ok (.irem, 1) := by decide +kernel
theorem dX10_nameTrip_62 : decode cX10_nameTrip 62 = .ok (.bipush 60, 2) := by decide +kernel
theorem dX10_nameTrip_64 : decode cX10_nameTrip 64 = .ok (.idiv, 1) := by decide +kernel
theorem dX10_nameTrip_65 : decode cX10_nameTrip 65 = .ok (.aload_n 0, 1) := by decide +kernel
theorem dX10_nameTrip_66 : decode cX10_nameTrip 66 = .ok (.getfield 145, 3) := by decide +kernel
theorem dX10_nameTrip_69 : decode cX10_nameTrip 69 = .ok (.iload_n 1, 1) := by decide +kernel
theorem dX10_nameTrip_70 : decode cX10_nameTrip 70 = .ok (.iaload, 1) := by decide +kernel
theorem dX10_nameTrip_71 : decode cX10_nameTrip 71 = .ok (.invokevirtual 350, 3) := by decide +kernel
theorem dX10_nameTrip_74 : decode cX10_nameTrip 74 = .ok (.return_, 1) := by decide +kernel
theorem dX10_dueOf_0 : decode cX10_dueOf 0 = .ok (.aload_n 0, 1) := by decide +kernel
theorem dX10_dueOf_1 : decode cX10_dueOf 1 = .ok (.getfield 124, 3) := by decide +kernel
theorem dX10_dueOf_4 : decode cX10_dueOf 4 = .ok (.iload_n 1, 1) := by decide +kernel
theorem dX10_dueOf_5 : decode cX10_dueOf 5 = .ok (.iaload, 1) := by decide +kernel
theorem dX10_dueOf_6 : decode cX10_dueOf 6 = .ok (.sipush 1440, 3) := by decide +kernel
theorem dX10_dueOf_9 : decode cX10_dueOf 9 = .ok (.idiv, 1) := by decide +kernel
theorem dX10_dueOf_10 : decode cX10_dueOf 10 = .ok (.istore_n 3, 1) := by decide +kernel
theorem dX10_dueOf_11 : decode cX10_dueOf 11 = .ok (.aload_n 0, 1) := by decide +kernel
theorem dX10_dueOf_12 : decode cX10_dueOf 12 = .ok (.iload_n 1, 1) := by decide +kernel
theorem dX10_dueOf_13 : decode cX10_dueOf 13 = .ok (.invokevirtual 361, 3) := by decide +kernel
theorem dX10_dueOf_16 : decode cX10_dueOf 16 = .ok (.aload_n 0, 1) := by decide +kernel
theorem dX10_dueOf_17 : decode cX10_dueOf 17 = .ok (.aload_n 0, 1) := by decide +kernel
theorem dX10_dueOf_18 : decode cX10_dueOf 18 = .ok (.iconst 0, 1) := by decide +kernel
theorem dX10_dueOf_19 : decode cX10_dueOf 19 = .ok (.iload_n 3, 1) := by decide +kernel
theorem dX10_dueOf_20 : decode cX10_dueOf 20 = .ok (.iload_n 2, 1) := by decide +kernel
theorem dX10_dueOf_21 : decode cX10_dueOf 21 = .ok (.invokevirtual 345, 3) := by decide +kernel
theorem dX10_dueOf_24 : decode cX10_dueOf 24 = .ok (.aload_n 0, 1) := by decide +kernel
theorem dX10_dueOf_25 : decode cX10_dueOf 25 = .ok (.iconst 1, 1) := by decide +kernel
theorem dX10_dueOf_26 : decode cX10_dueOf 26 = .ok (.iload_n 3, 1) := by decide +kernel
theorem dX10_dueOf_27 : decode cX10_dueOf 27 = .ok (.iload_n 2, 1) := by decide +kernel
theorem dX10_dueOf_28 : decode cX10_dueOf 28 = .ok (.invokevirtual 345, 3) := by decide +kernel
theorem dX10_dueOf_31 : decode cX10_dueOf 31 = .ok (.invokevirtual 364, 3) := by decide +kernel
theorem dX10_dueOf_34 : decode cX10_dueOf 34 = .ok (.ireturn, 1) := by decide +kernel
theorem dX10_isCall_0 : decode cX10_isCall 0 = .ok (.iload_n 0, 1) := by decide +kernel
theorem dX10_isCall_1 : decode cX10_isCall 1 = .ok (.ifCond .lt 36, 3) := by decide +kernel
theorem dX10_isCall_4 : decode cX10_isCall 4 = .ok (.iload_n 0, 1) := by decide +kernel
theorem dX10_isCall_5 : decode cX10_isCall 5 = .ok (.sipush 1000, 3) := by decide +kernel
theorem dX10_isCall_8 : decode cX10_isCall 8 = .ok (.idiv, 1) := by decide +kernel
theorem dX10_isCall_9 : decode cX10_isCall 9 = .ok (.iconst 1, 1) := by decide +kernel
theorem dX10_isCall_10 : decode cX10_isCall 10 = .ok (.bipush 6, 2) := by decide +kernel
theorem dX10_isCall_12 : decode cX10_isCall 12 = .ok (.invokestatic 208, 3) := by decide +kernel
theorem dX10_isCall_15 : decode cX10_isCall 15 = .ok (.ifCond .eq 22, 3) := by decide +kernel
theorem dX10_isCall_18 : decode cX10_isCall 18 = .ok (.iload_n 0, 1) := by decide +kernel
theorem dX10_isCall_19 : decode cX10_isCall 19 = .ok (.sipush 1000, 3) := by decide +kernel
theorem dX10_isCall_22 : decode cX10_isCall 22 = .ok (.irem, 1) := by decide +kernel
theorem dX10_isCall_23 : decode cX10_isCall 23 = .ok (.iconst 0, 1) := by decide +kernel
theorem dX10_isCall_24 : decode cX10_isCall 24 = .ok (.sipush 240, 3) := by decide +kernel
theorem dX10_isCall_27 : decode cX10_isCall 27 = .ok (.invokestatic 208, 3) := by decide +kernel
theorem dX10_isCall_30 : decode cX10_isCall 30 = .ok (.ifCond .eq 7, 3) := by decide +kernel
theorem dX10_isCall_33 : decode cX10_isCall 33 = .ok (.iconst 1, 1) := by decide +kernel
theorem dX10_isCall_34 : decode cX10_isCall 34 = .ok (.goto 4, 3) := by decide +kernel
theorem dX10_isCall_37 : decode cX10_isCall 37 = .ok (.iconst 0, 1) := by decide +kernel
theorem dX10_isCall_38 : decode cX10_isCall 38 = .ok (.ireturn, 1) := by decide +kernel
theorem dX10_mayBeCalled_0 : decode cX10_mayBeCalled 0 = .ok (.aload_n 0, 1) := by decide +kernel
theorem dX10_mayBeCalled_1 : decode cX10_mayBeCalled 1 = .ok (.iload_n 1, 1) := by decide +kernel
theorem dX10_mayBeCalled_2 : decode cX10_mayBeCalled 2 = .ok (.invokevirtual 212, 3) := by decide +kernel
theorem dX10_mayBeCalled_5 : decode cX10_mayBeCalled 5 = .ok (.ifCond .eq 27, 3) := by decide +kernel
theorem dX10_mayBeCalled_8 : decode cX10_mayBeCalled 8 = .ok (.aload_n 0, 1) := by decide +kernel
theorem dX10_mayBeCalled_9 : decode cX10_mayBeCalled 9 = .ok (.iload_n 2, 1) := by decide +kernel
theorem dX10_mayBeCalled_10 : decode cX10_mayBeCalled 10 = .ok (.invokevirtual 212, 3) := by decide +kernel
theorem dX10_mayBeCalled_13 : decode cX10_mayBeCalled 13 = .ok (.ifCond .eq 19, 3) := by decide +kernel
theorem dX10_mayBeCalled_16 : decode cX10_mayBeCalled 16 = .ok (.iload_n 1, 1) := by decide +kernel
theorem dX10_mayBeCalled_17 : decode cX10_mayBeCalled 17 = .ok (.iload_n 2, 1) := by decide +kernel
theorem dX10_mayBeCalled_18 : decode cX10_mayBeCalled 18 = .ok (.if_icmp .eq 14, 3) := by decide +kernel
theorem dX10_mayBeCalled_21 : decode cX10_mayBeCalled 21 = .ok (.iload_n 3, 1) := by decide +kernel
theorem dX10_mayBeCalled_22 : decode cX10_mayBeCalled 22 = .ok (.invokestatic 367, 3) := by decide +kernel
theorem dX10_mayBeCalled_25 : decode cX10_mayBeCalled 25 = .ok (.ifCond .eq 7, 3) := by decide +kernel
theorem dX10_mayBeCalled_28 : decode cX10_mayBeCalled 28 = .ok (.iconst 1, 1) := by decide +kernel
theorem dX10_mayBeCalled_29 : decode cX10_mayBeCalled 29 = .ok (.goto 4, 3) := by decide +kernel
theorem dX10_mayBeCalled_32 : decode cX10_mayBeCalled 32 = .ok (.iconst 0, 1) := by decide +kernel
theorem dX10_mayBeCalled_33 : decode cX10_mayBeCalled 33 = .ok (.ireturn, 1) := by decide +kernel
theorem dX10_whyNot_0 : decode cX10_whyNot 0 = .ok (.aload_n 0, 1) := by decide +kernel
theorem dX10_whyNot_1 : decode cX10_whyNot 1 = .ok (.iload_n 1, 1) := by decide +kernel
theorem dX10_whyNot_2 : decode cX10_whyNot 2 = .ok (.aload_n 0, 1) := by decide +kernel
theorem dX10_whyNot_3 : decode cX10_whyNot 3 = .ok (.invokevirtual 262, 3) := by decide +kernel
theorem dX10_whyNot_6 : decode cX10_whyNot 6 = .ok (.sipush 360, 3) := by decide +kernel
theorem dX10_whyNot_9 : decode cX10_whyNot 9 = .ok (.idiv, 1) := by decide +kernel
theorem dX10_whyNot_10 : decode cX10_whyNot 10 = .ok (.invokevirtual 258, 3) := by decide +kernel
theorem dX10_whyNot_13 : decode cX10_whyNot 13 = .ok (.ifCond .ge 5, 3) := by decide +kernel
theorem dX10_whyNot_16 : decode cX10_whyNot 16 = .ok (.iconst 1, 1) := by decide +kernel
theorem dX10_whyNot_17 : decode cX10_whyNot 17 = .ok (.ireturn, 1) := by decide +kernel
theorem dX10_whyNot_18 : decode cX10_whyNot 18 = .ok (.aload_n 0, 1) := by decide +kernel
theorem dX10_whyNot_19 : decode cX10_whyNot 19 = .ok (.getfield 58, 3) := by decide +kernel
theorem dX10_whyNot_22 : decode cX10_whyNot 22 = .ok (.iload_n 1, 1) := by decide +kernel
theorem dX10_whyNot_23 : decode cX10_whyNot 23 = .ok (.iaload, 1) := by decide +kernel
theorem dX10_whyNot_24 : decode cX10_whyNot 24 = .ok (.aload_n 0, 1) := by decide +kernel
theorem dX10_whyNot_25 : decode cX10_whyNot 25 = .ok (.invokevirtual 262, 3) := by decide +kernel
theorem dX10_whyNot_28 : decode cX10_whyNot 28 = .ok (.if_icmp .ge 5, 3) := by decide +kernel
theorem dX10_whyNot_31 : decode cX10_whyNot 31 = .ok (.iconst 2, 1) := by decide +kernel
theorem dX10_whyNot_32 : decode cX10_whyNot 32 = .ok (.ireturn, 1) := by decide +kernel
theorem dX10_whyNot_33 : decode cX10_whyNot 33 = .ok (.aload_n 0, 1) := by decide +kernel
theorem dX10_whyNot_34 : decode cX10_whyNot 34 = .ok (.getfield 55, 3) := by decide +kernel
theorem dX10_whyNot_37 : decode cX10_whyNot 37 = .ok (.iload_n 1, 1) := by decide +kernel
theorem dX10_whyNot_38 : decode cX10_whyNot 38 = .ok (.iaload, 1) := by decide +kernel
theorem dX10_whyNot_39 : decode cX10_whyNot 39 = .ok (.iconst 3, 1) := by decide +kernel
theorem dX10_whyNot_40 : decode cX10_whyNot 40 = .ok (.iload 5, 2) := by decide +kernel
theorem dX10_whyNot_42 : decode cX10_whyNot 42 = .ok (.iload 6, 2) := by decide +kernel
theorem dX10_whyNot_44 : decode cX10_whyNot 44 = .ok (.invokestatic 277, 3) := by decide +kernel
theorem dX10_whyNot_47 : decode cX10_whyNot 47 = .ok (.iadd, 1) := by decide +kernel
theorem dX10_whyNot_48 : decode cX10_whyNot 48 = .ok (.iload 4, 2) := by decide +kernel
theorem dX10_whyNot_50 : decode cX10_whyNot 50 = .ok (.sipush 1000, 3) := by decide +kernel
theorem dX10_whyNot_53 : decode cX10_whyNot 53 = .ok (.irem, 1) := by decide +kernel
theorem dX10_whyNot_54 : decode cX10_whyNot 54 = .ok (.iadd, 1) := by decide +kernel
theorem dX10_whyNot_55 : decode cX10_whyNot 55 = .ok (.imul, 1) := by decide +kernel
theorem dX10_whyNot_56 : decode cX10_whyNot 56 = .ok (.bipush 20, 2) := by decide +kernel
theorem dX10_whyNot_58 : decode cX10_whyNot 58 = .ok (.iadd, 1) := by decide +kernel
theorem dX10_whyNot_59 : decode cX10_whyNot 59 = .ok (.if_icmp .ge 5, 3) := by decide +kernel
theorem dX10_whyNot_62 : decode cX10_whyNot 62 = .ok (.iconst 3, 1) := by decide +kernel
theorem dX10_whyNot_63 : decode cX10_whyNot 63 = .ok (.ireturn, 1) := by decide +kernel
theorem dX10_whyNot_64 : decode cX10_whyNot 64 = .ok (.aload_n 0, 1) := by decide +kernel
theorem dX10_whyNot_65 : decode cX10_whyNot 65 = .ok (.iconst 2, 1) := by decide +kernel
theorem dX10_whyNot_66 : decode cX10_whyNot 66 = .ok (.aload_n 0, 1) := by decide +kernel
theorem dX10_whyNot_67 : decode cX10_whyNot 67 = .ok (.invokevirtual 262, 3) := by decide +kernel
theorem dX10_whyNot_70 : decode cX10_whyNot 70 = .ok (.aload_n 0, 1) := by decide +kernel
theorem dX10_whyNot_71 : decode cX10_whyNot 71 = .ok (.invokevirtual 262, 3) := by decide +kernel
theorem dX10_whyNot_74 : decode cX10_whyNot 74 = .ok (.invokevirtual 345, 3) := by decide +kernel
theorem dX10_whyNot_77 : decode cX10_whyNot 77 = .ok (.istore 8, 2) := by decide +kernel
theorem dX10_whyNot_79 : decode cX10_whyNot 79 = .ok (.iload 8, 2) := by decide +kernel
theorem dX10_whyNot_81 : decode cX10_whyNot 81 = .ok (.ifCond .ge 5, 3) := by decide +kernel
theorem dX10_whyNot_84 : decode cX10_whyNot 84 = .ok (.iconst 0, 1) := by decide +kernel
theorem dX10_whyNot_85 : decode cX10_whyNot 85 = .ok (.ireturn, 1) := by decide +kernel
theorem dX10_whyNot_86 : decode cX10_whyNot 86 = .ok (.aload_n 0, 1) := by decide +kernel
theorem dX10_whyNot_87 : decode cX10_whyNot 87 = .ok (.iload 6, 2) := by decide +kernel
theorem dX10_whyNot_89 : decode cX10_whyNot 89 = .ok (.iload 4, 2) := by decide +kernel
theorem dX10_whyNot_91 : decode cX10_whyNot 91 = .ok (.sipush 1000, 3) := by decide +kernel
theorem dX10_whyNot_94 : decode cX10_whyNot 94 = .ok (.irem, 1) := by decide +kernel
theorem dX10_whyNot_95 : decode cX10_whyNot 95 = .ok (.aload_n 0, 1) := by decide +kernel
theorem dX10_whyNot_96 : decode cX10_whyNot 96 = .ok (.aload_n 0, 1) := by decide +kernel
theorem dX10_whyNot_97 : decode cX10_whyNot 97 = .ok (.getfield 194, 3) := by decide +kernel
theorem dX10_whyNot_100 : decode cX10_whyNot 100 = .ok (.invokevirtual 223, 3) := by decide +kernel
theorem dX10_whyNot_103 : decode cX10_whyNot 103 = .ok (.ifCond .eq 7, 3) := by decide +kernel
theorem dX10_whyNot_106 : decode cX10_whyNot 106 = .ok (.iconst 1, 1) := by decide +kernel
theorem dX10_whyNot_107 : decode cX10_whyNot 107 = .ok (.goto 4, 3) := by decide +kernel
theorem dX10_whyNot_110 : decode cX10_whyNot 110 = .ok (.iconst 0, 1) := by decide +kernel
theorem dX10_whyNot_111 : decode cX10_whyNot 111 = .ok (.iload 4, 2) := by decide +kernel
theorem dX10_whyNot_113 : decode cX10_whyNot 113 = .ok (.sipush 1000, 3) := by decide +kernel
theorem dX10_whyNot_116 : decode cX10_whyNot 116 = .ok (.idiv, 1) := by decide +kernel
theorem dX10_whyNot_117 : decode cX10_whyNot 117 = .ok (.iload 7, 2) := by decide +kernel
theorem dX10_whyNot_119 : decode cX10_whyNot 119 = .ok (.aload_n 0, 1) := by decide +kernel
theorem dX10_whyNot_120 : decode cX10_whyNot 120 = .ok (.invokevirtual 262, 3) := by decide +kernel
theorem dX10_whyNot_123 : decode cX10_whyNot 123 = .ok (.bipush 7, 2) := by decide +kernel
theorem dX10_whyNot_125 : decode cX10_whyNot 125 = .ok (.irem, 1) := by decide +kernel
theorem dX10_whyNot_126 : decode cX10_whyNot 126 = .ok (.aload_n 0, 1) := by decide +kernel
theorem dX10_whyNot_127 : decode cX10_whyNot 127 = .ok (.getfield 194, 3) := by decide +kernel
theorem dX10_whyNot_130 : decode cX10_whyNot 130 = .ok (.sipush 1440, 3) := by decide +kernel
theorem dX10_whyNot_133 : decode cX10_whyNot 133 = .ok (.irem, 1) := by decide +kernel
theorem dX10_whyNot_134 : decode cX10_whyNot 134 = .ok (.bipush 60, 2) := by decide +kernel
theorem dX10_whyNot_136 : decode cX10_whyNot 136 = .ok (.idiv, 1) := by decide +kernel
theorem dX10_whyNot_137 : decode cX10_whyNot 137 = .ok (.aload_n 0, 1) := by decide +kernel
theorem dX10_whyNot_138 : decode cX10_whyNot 138 = .ok (.getfield 55, 3) := by decide +kernel
theorem dX10_whyNot_141 : decode cX10_whyNot 141 = .ok (.iload_n 1, 1) := by decide +kernel
theorem dX10_whyNot_142 : decode cX10_whyNot 142 = .ok (.iaload, 1) := by decide +kernel
theorem dX10_whyNot_143 : decode cX10_whyNot 143 = .ok (.invokevirtual 350, 3) := by decide +kernel
theorem dX10_whyNot_146 : decode cX10_whyNot 146 = .ok (.aload_n 0, 1) := by decide +kernel
theorem dX10_whyNot_147 : decode cX10_whyNot 147 = .ok (.sipush 160, 3) := by decide +kernel
theorem dX10_whyNot_150 : decode cX10_whyNot 150 = .ok (.iload 8, 2) := by decide +kernel
theorem dX10_whyNot_152 : decode cX10_whyNot 152 = .ok (.imul, 1) := by decide +kernel
theorem dX10_whyNot_153 : decode cX10_whyNot 153 = .ok (.aload_n 0, 1) := by decide +kernel
theorem dX10_whyNot_154 : decode cX10_whyNot 154 = .ok (.getfield 100, 3) := by decide +kernel
theorem dX10_whyNot_157 : decode cX10_whyNot 157 = .ok (.iload 8, 2) := by decide +kernel
theorem dX10_whyNot_159 : decode cX10_whyNot 159 = .ok (.iaload, 1) := by decide +kernel
theorem dX10_whyNot_160 : decode cX10_whyNot 160 = .ok (.invokevirtual 342, 3) := by decide +kernel
theorem dX10_whyNot_163 : decode cX10_whyNot 163 = .ok (.ifCond .eq 7, 3) := by decide +kernel
theorem dX10_whyNot_166 : decode cX10_whyNot 166 = .ok (.iconst 4, 1) := by decide +kernel
theorem dX10_whyNot_167 : decode cX10_whyNot 167 = .ok (.goto 4, 3) := by decide +kernel
theorem dX10_whyNot_170 : decode cX10_whyNot 170 = .ok (.iconst 0, 1) := by decide +kernel
theorem dX10_whyNot_171 : decode cX10_whyNot 171 = .ok (.ireturn, 1) := by decide +kernel
theorem dX10_note_0 : decode cX10_note 0 = .ok (.aload_n 0, 1) := by decide +kernel
theorem dX10_note_1 : decode cX10_note 1 = .ok (.getfield 370, 3) := by decide +kernel
theorem dX10_note_4 : decode cX10_note 4 = .ok (.sipush 300, 3) := by decide +kernel
theorem dX10_note_7 : decode cX10_note 7 = .ok (.if_icmp .ge 56, 3) := by decide +kernel
theorem dX10_note_10 : decode cX10_note 10 = .ok (.aload_n 0, 1) := by decide +kernel
theorem dX10_note_11 : decode cX10_note 11 = .ok (.getfield 155, 3) := by decide +kernel
theorem dX10_note_14 : decode cX10_note 14 = .ok (.aload_n 0, 1) := by decide +kernel
theorem dX10_note_15 : decode cX10_note 15 = .ok (.getfield 370, 3) := by decide +kernel
theorem dX10_note_18 : decode cX10_note 18 = .ok (.iload_n 1, 1) := by decide +kernel
theorem dX10_note_19 : decode cX10_note 19 = .ok (.iastore, 1) := by decide +kernel
theorem dX10_note_20 : decode cX10_note 20 = .ok (.aload_n 0, 1) := by decide +kernel
theorem dX10_note_21 : decode cX10_note 21 = .ok (.getfield 158, 3) := by decide +kernel
theorem dX10_note_24 : decode cX10_note 24 = .ok (.aload_n 0, 1) := by decide +kernel
theorem dX10_note_25 : decode cX10_note 25 = .ok (.getfield 370, 3) := by decide +kernel
theorem dX10_note_28 : decode cX10_note 28 = .ok (.aload_n 0, 1) := by decide +kernel
theorem dX10_note_29 : decode cX10_note 29 = .ok (.getfield 194, 3) := by decide +kernel
theorem dX10_note_32 : decode cX10_note 32 = .ok (.iastore, 1) := by decide +kernel
theorem dX10_note_33 : decode cX10_note 33 = .ok (.aload_n 0, 1) := by decide +kernel
theorem dX10_note_34 : decode cX10_note 34 = .ok (.getfield 161, 3) := by decide +kernel
theorem dX10_note_37 : decode cX10_note 37 = .ok (.aload_n 0, 1) := by decide +kernel
theorem dX10_note_38 : decode cX10_note 38 = .ok (.getfield 370, 3) := by decide +kernel
theorem dX10_note_41 : decode cX10_note 41 = .ok (.iload_n 2, 1) := by decide +kernel
theorem dX10_note_42 : decode cX10_note 42 = .ok (.iastore, 1) := by decide +kernel
theorem dX10_note_43 : decode cX10_note 43 = .ok (.aload_n 0, 1) := by decide +kernel
theorem dX10_note_44 : decode cX10_note 44 = .ok (.getfield 164, 3) := by decide +kernel
theorem dX10_note_47 : decode cX10_note 47 = .ok (.aload_n 0, 1) := by decide +kernel
theorem dX10_note_48 : decode cX10_note 48 = .ok (.getfield 370, 3) := by decide +kernel
theorem dX10_note_51 : decode cX10_note 51 = .ok (.iload_n 3, 1) := by decide +kernel
theorem dX10_note_52 : decode cX10_note 52 = .ok (.iastore, 1) := by decide +kernel
theorem dX10_note_53 : decode cX10_note 53 = .ok (.aload_n 0, 1) := by decide +kernel
theorem dX10_note_54 : decode cX10_note 54 = .ok (.dup, 1) := by decide +kernel
theorem dX10_note_55 : decode cX10_note 55 = .ok (.getfield 370, 3) := by decide +kernel
theorem dX10_note_58 : decode cX10_note 58 = .ok (.iconst 1, 1) := by decide +kernel
theorem dX10_note_59 : decode cX10_note 59 = .ok (.iadd, 1) := by decide +kernel
theorem dX10_note_60 : decode cX10_note 60 = .ok (.putfield 370, 3) := by decide +kernel
theorem dX10_note_63 : decode cX10_note 63 = .ok (.return_, 1) := by decide +kernel
theorem dX10_drive_0 : decode cX10_drive 0 = .ok (.aload_n 0, 1) := by decide +kernel
theorem dX10_drive_1 : decode cX10_drive 1 = .ok (.getfield 287, 3) := by decide +kernel
theorem dX10_drive_4 : decode cX10_drive 4 = .ok (.istore 9, 2) := by decide +kernel
theorem dX10_drive_6 : decode cX10_drive 6 = .ok (.aload_n 0, 1) := by decide +kernel
theorem dX10_drive_7 : decode cX10_drive 7 = .ok (.getfield 115, 3) := by decide +kernel
theorem dX10_drive_10 : decode cX10_drive 10 = .ok (.iload 9, 2) := by decide +kernel
theorem dX10_drive_12 : decode cX10_drive 12 = .ok (.iload_n 1, 1) := by decide +kernel
theorem dX10_drive_13 : decode cX10_drive 13 = .ok (.iastore, 1) := by decide +kernel
theorem dX10_drive_14 : decode cX10_drive 14 = .ok (.aload_n 0, 1) := by decide +kernel
theorem dX10_drive_15 : decode cX10_drive 15 = .ok (.getfield 118, 3) := by decide +kernel
theorem dX10_drive_18 : decode cX10_drive 18 = .ok (.iload 9, 2) := by decide +kernel
theorem dX10_drive_20 : decode cX10_drive 20 = .ok (.iload_n 3, 1) := by decide +kernel
theorem dX10_drive_21 : decode cX10_drive 21 = .ok (.iastore, 1) := by decide +kernel
theorem dX10_drive_22 : decode cX10_drive 22 = .ok (.aload_n 0, 1) := by decide +kernel
theorem dX10_drive_23 : decode cX10_drive 23 = .ok (.getfield 121, 3) := by decide +kernel
theorem dX10_drive_26 : decode cX10_drive 26 = .ok (.iload 9, 2) := by decide +kernel
theorem dX10_drive_28 : decode cX10_drive 28 = .ok (.iload 4, 2) := by decide +kernel
theorem dX10_drive_30 : decode cX10_drive 30 = .ok (.iastore, 1) := by decide +kernel
theorem dX10_drive_31 : decode cX10_drive 31 = .ok (.aload_n 0, 1) := by decide +kernel
theorem dX10_drive_32 : decode cX10_drive 32 = .ok (.getfield 124, 3) := by decide +kernel
theorem dX10_drive_35 : decode cX10_drive 35 = .ok (.iload 9, 2) := by decide +kernel
theorem dX10_drive_37 : decode cX10_drive 37 = .ok (.aload_n 0, 1) := by decide +kernel
theorem dX10_drive_38 : decode cX10_drive 38 = .ok (.getfield 194, 3) := by decide +kernel
theorem dX10_drive_41 : decode cX10_drive 41 = .ok (.iastore, 1) := by decide +kernel
theorem dX10_drive_42 : decode cX10_drive 42 = .ok (.aload_n 0, 1) := by decide +kernel
theorem dX10_drive_43 : decode cX10_drive 43 = .ok (.getfield 127, 3) := by decide +kernel
theorem dX10_drive_46 : decode cX10_drive 46 = .ok (.iload 9, 2) := by decide +kernel
theorem dX10_drive_48 : decode cX10_drive 48 = .ok (.aload_n 0, 1) := by decide +kernel
theorem dX10_drive_49 : decode cX10_drive 49 = .ok (.getfield 194, 3) := by decide +kernel
theorem dX10_drive_52 : decode cX10_drive 52 = .ok (.iload 6, 2) := by decide +kernel
theorem dX10_drive_54 : decode cX10_drive 54 = .ok (.iadd, 1) := by decide +kernel
theorem dX10_drive_55 : decode cX10_drive 55 = .ok (.iastore, 1) := by decide +kernel
theorem dX10_drive_56 : decode cX10_drive 56 = .ok (.aload_n 0, 1) := by decide +kernel
theorem dX10_drive_57 : decode cX10_drive 57 = .ok (.getfield 130, 3) := by decide +kernel
theorem dX10_drive_60 : decode cX10_drive 60 = .ok (.iload 9, 2) := by decide +kernel
theorem dX10_drive_62 : decode cX10_drive 62 = .ok (.aload_n 0, 1) := by decide +kernel
theorem dX10_drive_63 : decode cX10_drive 63 = .ok (.getfield 127, 3) := by decide +kernel
theorem dX10_drive_66 : decode cX10_drive 66 = .ok (.iload 9, 2) := by decide +kernel
theorem dX10_drive_68 : decode cX10_drive 68 = .ok (.iaload, 1) := by decide +kernel
theorem dX10_drive_69 : decode cX10_drive 69 = .ok (.iload 7, 2) := by decide +kernel
theorem dX10_drive_71 : decode cX10_drive 71 = .ok (.invokestatic 277, 3) := by decide +kernel
theorem dX10_drive_74 : decode cX10_drive 74 = .ok (.iadd, 1) := by decide +kernel
theorem dX10_drive_75 : decode cX10_drive 75 = .ok (.iload 5, 2) := by decide +kernel
theorem dX10_drive_77 : decode cX10_drive 77 = .ok (.sipush 1000, 3) := by decide +kernel
theorem dX10_drive_80 : decode cX10_drive 80 = .ok (.irem, 1) := by decide +kernel
theorem dX10_drive_81 : decode cX10_drive 81 = .ok (.iadd, 1) := by decide +kernel
theorem dX10_drive_82 : decode cX10_drive 82 = .ok (.iastore, 1) := by decide +kernel
theorem dX10_drive_83 : decode cX10_drive 83 = .ok (.aload_n 0, 1) := by decide +kernel
theorem dX10_drive_84 : decode cX10_drive 84 = .ok (.getfield 133, 3) := by decide +kernel
theorem dX10_drive_87 : decode cX10_drive 87 = .ok (.iload 9, 2) := by decide +kernel
theorem dX10_drive_89 : decode cX10_drive 89 = .ok (.iload 7, 2) := by decide +kernel
theorem dX10_drive_91 : decode cX10_drive 91 = .ok (.iastore, 1) := by decide +kernel
theorem dX10_drive_92 : decode cX10_drive 92 = .ok (.aload_n 0, 1) := by decide +kernel
theorem dX10_drive_93 : decode cX10_drive 93 = .ok (.getfield 136, 3) := by decide +kernel
theorem dX10_drive_96 : decode cX10_drive 96 = .ok (.iload 9, 2) := by decide +kernel
theorem dX10_drive_98 : decode cX10_drive 98 = .ok (.iload 8, 2) := by decide +kernel
theorem dX10_drive_100 : decode cX10_drive 100 = .ok (.iastore, 1) := by decide +kernel
theorem dX10_drive_101 : decode cX10_drive 101 = .ok (.aload_n 0, 1) := by decide +kernel
theorem dX10_drive_102 : decode cX10_drive 102 = .ok (.getfield 139, 3) := by decide +kernel
theorem dX10_drive_105 : decode cX10_drive 105 = .ok (.iload 9, 2) := by decide +kernel
theorem dX10_drive_107 : decode cX10_drive 107 = .ok (.iload 5, 2) := by decide +kernel
theorem dX10_drive_109 : decode cX10_drive 109 = .ok (.sipush 1000, 3) := by decide +kernel
theorem dX10_drive_112 : decode cX10_drive 112 = .ok (.idiv, 1) := by decide +kernel
theorem dX10_drive_113 : decode cX10_drive 113 = .ok (.iastore, 1) := by decide +kernel
theorem dX10_drive_114 : decode cX10_drive 114 = .ok (.aload_n 0, 1) := by decide +kernel
theorem dX10_drive_115 : decode cX10_drive 115 = .ok (.getfield 142, 3) := by decide +kernel
theorem dX10_drive_118 : decode cX10_drive 118 = .ok (.iload 9, 2) := by decide +kernel
theorem dX10_drive_120 : decode cX10_drive 120 = .ok (.iload 5, 2) := by decide +kernel
theorem dX10_drive_122 : decode cX10_drive 122 = .ok (.sipush 1000, 3) := by decide +kernel
theorem dX10_drive_125 : decode cX10_drive 125 = .ok (.irem, 1) := by decide +kernel
theorem dX10_drive_126 : decode cX10_drive 126 = .ok (.iastore, 1) := by decide +kernel
theorem dX10_drive_127 : decode cX10_drive 127 = .ok (.aload_n 0, 1) := by decide +kernel
theorem dX10_drive_128 : decode cX10_drive 128 = .ok (.getfield 145, 3) := by decide +kernel
theorem dX10_drive_131 : decode cX10_drive 131 = .ok (.iload 9, 2) := by decide +kernel
theorem dX10_drive_133 : decode cX10_drive 133 = .ok (.aload_n 0, 1) := by decide +kernel
theorem dX10_drive_134 : decode cX10_drive 134 = .ok (.getfield 55, 3) := by decide +kernel
theorem dX10_drive_137 : decode cX10_drive 137 = .ok (.iload_n 1, 1) := by decide +kernel
theorem dX10_drive_138 : decode cX10_drive 138 = .ok (.iaload, 1) := by decide +kernel
theorem dX10_drive_139 : decode cX10_drive 139 = .ok (.iastore, 1) := by decide +kernel
theorem dX10_drive_140 : decode cX10_drive 140 = .ok (.aload_n 0, 1) := by decide +kernel
theorem dX10_drive_141 : decode cX10_drive 141 = .ok (.getfield 148, 3) := by decide +kernel
theorem dX10_drive_144 : decode cX10_drive 144 = .ok (.iload 9, 2) := by decide +kernel
theorem dX10_drive_146 : decode cX10_drive 146 = .ok (.aload_n 0, 1) := by decide +kernel
theorem dX10_drive_147 : decode cX10_drive 147 = .ok (.aload_n 0, 1) := by decide +kernel
theorem dX10_drive_148 : decode cX10_drive 148 = .ok (.getfield 194, 3) := by decide +kernel
theorem dX10_drive_151 : decode cX10_drive 151 = .ok (.invokevirtual 223, 3) := by decide +kernel
theorem dX10_drive_154 : decode cX10_drive 154 = .ok (.bastore, 1) := by decide +kernel
theorem dX10_drive_155 : decode cX10_drive 155 = .ok (.aload_n 0, 1) := by decide +kernel
theorem dX10_drive_156 : decode cX10_drive 156 = .ok (.getfield 152, 3) := by decide +kernel
theorem dX10_drive_159 : decode cX10_drive 159 = .ok (.iload 9, 2) := by decide +kernel
theorem dX10_drive_161 : decode cX10_drive 161 = .ok (.iload_n 2, 1) := by decide +kernel
theorem dX10_drive_162 : decode cX10_drive 162 = .ok (.iastore, 1) := by decide +kernel
theorem dX10_drive_163 : decode cX10_drive 163 = .ok (.aload_n 0, 1) := by decide +kernel
theorem dX10_drive_164 : decode cX10_drive 164 = .ok (.dup, 1) := by decide +kernel
theorem dX10_drive_165 : decode cX10_drive 165 = .ok (.getfield 287, 3) := by decide +kernel
theorem dX10_drive_168 : decode cX10_drive 168 = .ok (.iconst 1, 1) := by decide +kernel
theorem dX10_drive_169 : decode cX10_drive 169 = .ok (.iadd, 1) := by decide +kernel
theorem dX10_drive_170 : decode cX10_drive 170 = .ok (.putfield 287, 3) := by decide +kernel
theorem dX10_drive_173 : decode cX10_drive 173 = .ok (.aload_n 0, 1) := by decide +kernel
theorem dX10_drive_174 : decode cX10_drive 174 = .ok (.iload_n 1, 1) := by decide +kernel
theorem dX10_drive_175 : decode cX10_drive 175 = .ok (.invokevirtual 273, 3) := by decide +kernel
theorem dX10_drive_178 : decode cX10_drive 178 = .ok (.aload_n 0, 1) := by decide +kernel
theorem dX10_drive_179 : decode cX10_drive 179 = .ok (.getfield 61, 3) := by decide +kernel
theorem dX10_drive_182 : decode cX10_drive 182 = .ok (.iload_n 1, 1) := by decide +kernel
theorem dX10_drive_183 : decode cX10_drive 183 = .ok (.iconst 3, 1) := by decide +kernel
theorem dX10_drive_184 : decode cX10_drive 184 = .ok (.iastore, 1) := by decide +kernel
theorem dX10_drive_185 : decode cX10_drive 185 = .ok (.aload_n 0, 1) := by decide +kernel
theorem dX10_drive_186 : decode cX10_drive 186 = .ok (.getfield 64, 3) := by decide +kernel
theorem dX10_drive_189 : decode cX10_drive 189 = .ok (.iload_n 1, 1) := by decide +kernel
theorem dX10_drive_190 : decode cX10_drive 190 = .ok (.iload 4, 2) := by decide +kernel
theorem dX10_drive_192 : decode cX10_drive 192 = .ok (.iastore, 1) := by decide +kernel
theorem dX10_drive_193 : decode cX10_drive 193 = .ok (.aload_n 0, 1) := by decide +kernel
theorem dX10_drive_194 : decode cX10_drive 194 = .ok (.getfield 67, 3) := by decide +kernel
theorem dX10_drive_197 : decode cX10_drive 197 = .ok (.iload_n 1, 1) := by decide +kernel
theorem dX10_drive_198 : decode cX10_drive 198 = .ok (.aload_n 0, 1) := by decide +kernel
theorem dX10_drive_199 : decode cX10_drive 199 = .ok (.getfield 130, 3) := by decide +kernel
theorem dX10_drive_202 : decode cX10_drive 202 = .ok (.iload 9, 2) := by decide +kernel
theorem dX10_drive_204 : decode cX10_drive 204 = .ok (.iaload, 1) := by decide +kernel
theorem dX10_drive_205 : decode cX10_drive 205 = .ok (.iastore, 1) := by decide +kernel
theorem dX10_drive_206 : decode cX10_drive 206 = .ok (.return_, 1) := by decide +kernel
theorem dX10_call_0 : decode cX10_call 0 = .ok (.aload_n 0, 1) := by decide +kernel
theorem dX10_call_1 : decode cX10_call 1 = .ok (.iload_n 1, 1) := by decide +kernel
theorem dX10_call_2 : decode cX10_call 2 = .ok (.iload_n 2, 1) := by decide +kernel
theorem dX10_call_3 : decode cX10_call 3 = .ok (.iload_n 3, 1) := by decide +kernel
theorem dX10_call_4 : decode cX10_call 4 = .ok (.invokevirtual 373, 3) := by decide +kernel
theorem dX10_call_7 : decode cX10_call 7 = .ok (.ifCond .ne 5, 3) := by decide +kernel
theorem dX10_call_10 : decode cX10_call 10 = .ok (.iconst (-1), 1) := by decide +kernel
theorem dX10_call_11 : decode cX10_call 11 = .ok (.ireturn, 1) := by decide +kernel
theorem dX10_call_12 : decode cX10_call 12 = .ok (.aload_n 0, 1) := by decide +kernel
theorem dX10_call_13 : decode cX10_call 13 = .ok (.iload_n 1, 1) := by decide +kernel
theorem dX10_call_14 : decode cX10_call 14 = .ok (.iload_n 2, 1) := by decide +kernel
theorem dX10_call_15 : decode cX10_call 15 = .ok (.aload_n 0, 1) := by decide +kernel
theorem dX10_call_16 : decode cX10_call 16 = .ok (.getfield 194, 3) := by decide +kernel
theorem dX10_call_19 : decode cX10_call 19 = .ok (.invokevirtual 241, 3) := by decide +kernel
theorem dX10_call_22 : decode cX10_call 22 = .ok (.istore 4, 2) := by decide +kernel
theorem dX10_call_24 : decode cX10_call 24 = .ok (.aload_n 0, 1) := by decide +kernel
theorem dX10_call_25 : decode cX10_call 25 = .ok (.getfield 40, 3) := by decide +kernel
theorem dX10_call_28 : decode cX10_call 28 = .ok (.iload_n 1, 1) := by decide +kernel
theorem dX10_call_29 : decode cX10_call 29 = .ok (.iaload, 1) := by decide +kernel
theorem dX10_call_30 : decode cX10_call 30 = .ok (.istore 5, 2) := by decide +kernel
theorem dX10_call_32 : decode cX10_call 32 = .ok (.iload 4, 2) := by decide +kernel
theorem dX10_call_34 : decode cX10_call 34 = .ok (.ifCond .ge 6, 3) := by decide +kernel
theorem dX10_call_37 : decode cX10_call 37 = .ok (.bipush (-5), 2) := by decide +kernel
theorem dX10_call_39 : decode cX10_call 39 = .ok (.ireturn, 1) := by decide +kernel
theorem dX10_call_40 : decode cX10_call 40 = .ok (.aload_n 0, 1) := by decide +kernel
theorem dX10_call_41 : decode cX10_call 41 = .ok (.getfield 287, 3) := by decide +kernel
theorem dX10_call_44 : decode cX10_call 44 = .ok (.sipush 300, 3) := by decide +kernel
theorem dX10_call_47 : decode cX10_call 47 = .ok (.if_icmp .ne 6, 3) := by decide +kernel
theorem dX10_call_50 : decode cX10_call 50 = .ok (.bipush (-2), 2) := by decide +kernel
theorem dX10_call_52 : decode cX10_call 52 = .ok (.ireturn, 1) := by decide +kernel
theorem dX10_call_53 : decode cX10_call 53 = .ok (.aload_n 0, 1) := by decide +kernel
theorem dX10_call_54 : decode cX10_call 54 = .ok (.iload_n 1, 1) := by decide +kernel
theorem dX10_call_55 : decode cX10_call 55 = .ok (.aload_n 0, 1) := by decide +kernel
theorem dX10_call_56 : decode cX10_call 56 = .ok (.getfield 194, 3) := by decide +kernel
theorem dX10_call_59 : decode cX10_call 59 = .ok (.invokevirtual 234, 3) := by decide +kernel
theorem dX10_call_62 : decode cX10_call 62 = .ok (.iconst 0, 1) := by decide +kernel
theorem dX10_call_63 : decode cX10_call 63 = .ok (.istore 6, 2) := by decide +kernel
theorem dX10_call_65 : decode cX10_call 65 = .ok (.iconst 0, 1) := by decide +kernel
theorem dX10_call_66 : decode cX10_call 66 = .ok (.istore 7, 2) := by decide +kernel
theorem dX10_call_68 : decode cX10_call 68 = .ok (.iload 7, 2) := by decide +kernel
theorem dX10_call_70 : decode cX10_call 70 = .ok (.aload_n 0, 1) := by decide +kernel
theorem dX10_call_71 : decode cX10_call 71 = .ok (.getfield 204, 3) := by decide +kernel
theorem dX10_call_74 : decode cX10_call 74 = .ok (.if_icmp .ge 220, 3) := by decide +kernel
theorem dX10_call_77 : decode cX10_call 77 = .ok (.iconst (-1), 1) := by decide +kernel
theorem dX10_call_78 : decode cX10_call 78 = .ok (.istore 8, 2) := by decide +kernel
theorem dX10_call_80 : decode cX10_call 80 = .ok (.iconst 0, 1) := by decide +kernel
theorem dX10_call_81 : decode cX10_call 81 = .ok (.istore 9, 2) := by decide +kernel
theorem dX10_call_83 : decode cX10_call 83 = .ok (.iload 9, 2) := by decide +kernel
theorem dX10_call_85 : decode cX10_call 85 = .ok (.aload_n 0, 1) := by decide +kernel
theorem dX10_call_86 : decode cX10_call 86 = .ok (.getfield 204, 3) := by decide +kernel
theorem dX10_call_89 : decode cX10_call 89 = .ok (.if_icmp .ge 72, 3) := by decide +kernel
theorem dX10_call_92 : decode cX10_call 92 = .ok (.iload 6, 2) := by decide +kernel
theorem dX10_call_94 : decode cX10_call 94 = .ok (.iload 9, 2) := by decide +kernel
theorem dX10_call_96 : decode cX10_call 96 = .ok (.ishr, 1) := by decide +kernel
theorem dX10_call_97 : decode cX10_call 97 = .ok (.iconst 1, 1) := by decide +kernel
theorem dX10_call_98 : decode cX10_call 98 = .ok (.iand, 1) := by decide +kernel
theorem dX10_call_99 : decode cX10_call 99 = .ok (.ifCond .ne 56, 3) := by decide +kernel
theorem dX10_call_102 : decode cX10_call 102 = .ok (.aload_n 0, 1) := by decide +kernel
theorem dX10_call_103 : decode cX10_call 103 = .ok (.getfield 37, 3) := by decide +kernel
theorem dX10_call_106 : decode cX10_call 106 = .ok (.aload_n 0, 1) := by decide +kernel
theorem dX10_call_107 : decode cX10_call 107 = .ok (.getfield 82, 3) := by decide +kernel
theorem dX10_call_110 : decode cX10_call 110 = .ok (.iload 9, 2) := by decide +kernel
theorem dX10_call_112 : decode cX10_call 112 = .ok (.iaload, 1) := by decide +kernel
theorem dX10_call_113 : decode cX10_call 113 = .ok (.iaload, 1) := by decide +kernel
theorem dX10_call_114 : decode cX10_call 114 = .ok (.ldc 226, 2) := by decide +kernel
theorem dX10_call_116 : decode cX10_call 116 = .ok (.if_icmp .ge 39, 3) := by decide +kernel
theorem dX10_call_119 : decode cX10_call 119 = .ok (.iload 8, 2) := by decide +kernel
theorem dX10_call_121 : decode cX10_call 121 = .ok (.ifCond .lt 30, 3) := by decide +kernel
theorem dX10_call_124 : decode cX10_call 124 = .ok (.aload_n 0, 1) := by decide +kernel
theorem dX10_call_125 : decode cX10_call 125 = .ok (.getfield 37, 3) := by decide +kernel
theorem dX10_call_128 : decode cX10_call 128 = .ok (.aload_n 0, 1) := by decide +kernel
theorem dX10_call_129 : decode cX10_call 129 = .ok (.getfield 82, 3) := by decide +kernel
theorem dX10_call_132 : decode cX10_call 132 = .ok (.iload 9, 2) := by decide +kernel
theorem dX10_call_134 : decode cX10_call 134 = .ok (.iaload, 1) := by decide +kernel
theorem dX10_call_135 : decode cX10_call 135 = .ok (.iaload, 1) := by decide +kernel
theorem dX10_call_136 : decode cX10_call 136 = .ok (.aload_n 0, 1) := by decide +kernel
theorem dX10_call_137 : decode cX10_call 137 = .ok (.getfield 37, 3) := by decide +kernel
theorem dX10_call_140 : decode cX10_call 140 = .ok (.aload_n 0, 1) := by decide +kernel
theorem dX10_call_141 : decode cX10_call 141 = .ok (.getfield 82, 3) := by decide +kernel
theorem dX10_call_144 : decode cX10_call 144 = .ok (.iload 8, 2) := by decide +kernel
theorem dX10_call_146 : decode cX10_call 146 = .ok (.iaload, 1) := by decide +kernel
theorem dX10_call_147 : decode cX10_call 147 = .ok (.iaload, 1) := by decide +kernel
theorem dX10_call_148 : decode cX10_call 148 = .ok (.if_icmp .ge 7, 3) := by decide +kernel
theorem dX10_call_151 : decode cX10_call 151 = .ok (.iload 9, 2) := by decide +kernel
theorem dX10_call_153 : decode cX10_call 153 = .ok (.istore 8, 2) := by decide +kernel
theorem dX10_call_155 : decode cX10_call 155 = .ok (.iinc 9 1, 3) := by decide +kernel
theorem dX10_call_158 : decode cX10_call 158 = .ok (.goto (-75), 3) := by decide +kernel
theorem dX10_call_161 : decode cX10_call 161 = .ok (.iload 8, 2) := by decide +kernel
theorem dX10_call_163 : decode cX10_call 163 = .ok (.ifCond .lt 125, 3) := by decide +kernel
theorem dX10_call_166 : decode cX10_call 166 = .ok (.iload 6, 2) := by decide +kernel
theorem dX10_call_168 : decode cX10_call 168 = .ok (.iconst 1, 1) := by decide +kernel
theorem dX10_call_169 : decode cX10_call 169 = .ok (.iload 8, 2) := by decide +kernel
theorem dX10_call_171 : decode cX10_call 171 = .ok (.ishl, 1) := by decide +kernel
theorem dX10_call_172 : decode cX10_call 172 = .ok (.ior, 1) := by decide +kernel
theorem dX10_call_173 : decode cX10_call 173 = .ok (.istore 6, 2) := by decide +kernel
theorem dX10_call_175 : decode cX10_call 175 = .ok (.aload_n 0, 1) := by decide +kernel
theorem dX10_call_176 : decode cX10_call 176 = .ok (.getfield 37, 3) := by decide +kernel
theorem dX10_call_179 : decode cX10_call 179 = .ok (.aload_n 0, 1) := by decide +kernel
theorem dX10_call_180 : decode cX10_call 180 = .ok (.getfield 82, 3) := by decide +kernel
theorem dX10_call_183 : decode cX10_call 183 = .ok (.iload 8, 2) := by decide +kernel
theorem dX10_call_185 : decode cX10_call 185 = .ok (.iaload, 1) := by decide +kernel
theorem dX10_call_186 : decode cX10_call 186 = .ok (.iaload, 1) := by decide +kernel
theorem dX10_call_187 : decode cX10_call 187 = .ok (.invokestatic 277, 3) := by decide +kernel
theorem dX10_call_190 : decode cX10_call 190 = .ok (.istore 9, 2) := by decide +kernel
theorem dX10_call_192 : decode cX10_call 192 = .ok (.iconst 0, 1) := by decide +kernel
theorem dX10_call_193 : decode cX10_call 193 = .ok (.istore 10, 2) := by decide +kernel
theorem dX10_call_195 : decode cX10_call 195 = .ok (.iload 10, 2) := by decide +kernel
theorem dX10_call_197 : decode cX10_call 197 = .ok (.aload_n 0, 1) := by decide +kernel
theorem dX10_call_198 : decode cX10_call 198 = .ok (.getfield 91, 3) := by decide +kernel
theorem dX10_call_201 : decode cX10_call 201 = .ok (.iload 8, 2) := by decide +kernel
theorem dX10_call_203 : decode cX10_call 203 = .ok (.iaload, 1) := by decide +kernel
theorem dX10_call_204 : decode cX10_call 204 = .ok (.if_icmp .ge 84, 3) := by decide +kernel
theorem dX10_call_207 : decode cX10_call 207 = .ok (.aload_n 0, 1) := by decide +kernel
theorem dX10_call_208 : decode cX10_call 208 = .ok (.getfield 88, 3) := by decide +kernel
theorem dX10_call_211 : decode cX10_call 211 = .ok (.bipush 10, 2) := by decide +kernel
theorem dX10_call_213 : decode cX10_call 213 = .ok (.iload 8, 2) := by decide +kernel
theorem dX10_call_215 : decode cX10_call 215 = .ok (.imul, 1) := by decide +kernel
theorem dX10_call_216 : decode cX10_call 216 = .ok (.iload 10, 2) := by decide +kernel
theorem dX10_call_218 : decode cX10_call 218 = .ok (.iadd, 1) := by decide +kernel
theorem dX10_call_219 : decode cX10_call 219 = .ok (.iaload, 1) := by decide +kernel
theorem dX10_call_220 : decode cX10_call 220 = .ok (.istore 11, 2) := by decide +kernel
theorem dX10_call_222 : decode cX10_call 222 = .ok (.aload_n 0, 1) := by decide +kernel
theorem dX10_call_223 : decode cX10_call 223 = .ok (.iload 11, 2) := by decide +kernel
theorem dX10_call_225 : decode cX10_call 225 = .ok (.iload_n 1, 1) := by decide +kernel
theorem dX10_call_226 : decode cX10_call 226 = .ok (.iload_n 2, 1) := by decide +kernel
theorem dX10_call_227 : decode cX10_call 227 = .ok (.iload_n 3, 1) := by decide +kernel
theorem dX10_call_228 : decode cX10_call 228 = .ok (.iload 9, 2) := by decide +kernel
theorem dX10_call_230 : decode cX10_call 230 = .ok (.iload 4, 2) := by decide +kernel
theorem dX10_call_232 : decode cX10_call 232 = .ok (.iload 5, 2) := by decide +kernel
theorem dX10_call_234 : decode cX10_call 234 = .ok (.invokevirtual 376, 3) := by decide +kernel
theorem dX10_call_237 : decode cX10_call 237 = .ok (.istore 12, 2) := by decide +kernel
theorem dX10_call_239 : decode cX10_call 239 = .ok (.iload 12, 2) := by decide +kernel
theorem dX10_call_241 : decode cX10_call 241 = .ok (.ifCond .ne 27, 3) := by decide +kernel
theorem dX10_call_244 : decode cX10_call 244 = .ok (.aload_n 0, 1) := by decide +kernel
theorem dX10_call_245 : decode cX10_call 245 = .ok (.iload 11, 2) := by decide +kernel
theorem dX10_call_247 : decode cX10_call 247 = .ok (.iload 8, 2) := by decide +kernel
theorem dX10_call_249 : decode cX10_call 249 = .ok (.iload_n 1, 1) := by decide +kernel
theorem dX10_call_250 : decode cX10_call 250 = .ok (.iload_n 2, 1) := by decide +kernel
theorem dX10_call_251 : decode cX10_call 251 = .ok (.iload_n 3, 1) := by decide +kernel
theorem dX10_call_252 : decode cX10_call 252 = .ok (.iload 9, 2) := by decide +kernel
theorem dX10_call_254 : decode cX10_call 254 = .ok (.iload 4, 2) := by decide +kernel
theorem dX10_call_256 : decode cX10_call 256 = .ok (.iload 5, 2) := by decide +kernel
theorem dX10_call_258 : decode cX10_call 258 = .ok (.invokevirtual 380, 3) := by decide +kernel
theorem dX10_call_261 : decode cX10_call 261 = .ok (.aload_n 0, 1) := by decide +kernel
theorem dX10_call_262 : decode cX10_call 262 = .ok (.getfield 287, 3) := by decide +kernel
theorem dX10_call_265 : decode cX10_call 265 = .ok (.iconst 1, 1) := by decide +kernel
theorem dX10_call_266 : decode cX10_call 266 = .ok (.isub, 1) := by decide +kernel
theorem dX10_call_267 : decode cX10_call 267 = .ok (.ireturn, 1) := by decide +kernel
theorem dX10_call_268 : decode cX10_call 268 = .ok (.iload 12, 2) := by decide +kernel
theorem dX10_call_270 : decode cX10_call 270 = .ok (.iconst 4, 1) := by decide +kernel
theorem dX10_call_271 : decode cX10_call 271 = .ok (.if_icmp .ne 11, 3) := by decide +kernel
theorem dX10_call_274 : decode cX10_call 274 = .ok (.aload_n 0, 1) := by decide +kernel
theorem dX10_call_275 : decode cX10_call 275 = .ok (.iload 11, 2) := by decide +kernel
theorem dX10_call_277 : decode cX10_call 277 = .ok (.iload_n 1, 1) := by decide +kernel
theorem dX10_call_278 : decode cX10_call 278 = .ok (.iload_n 2, 1) := by decide +kernel
theorem dX10_call_279 : decode cX10_call 279 = .ok (.invokevirtual 383, 3) := by decide +kernel
theorem dX10_call_282 : decode cX10_call 282 = .ok (.iinc 10 1, 3) := by decide +kernel
theorem dX10_call_285 : decode cX10_call 285 = .ok (.goto (-90), 3) := by decide +kernel
theorem dX10_call_288 : decode cX10_call 288 = .ok (.iinc 7 1, 3) := by decide +kernel
theorem dX10_call_291 : decode cX10_call 291 = .ok (.goto (-223), 3) := by decide +kernel
theorem dX10_call_294 : decode cX10_call 294 = .ok (.bipush (-3), 2) := by decide +kernel
theorem dX10_call_296 : decode cX10_call 296 = .ok (.ireturn, 1) := by decide +kernel
theorem dX10_why_0 : decode cX10_why 0 = .ok (.aload_n 0, 1) := by decide +kernel
theorem dX10_why_1 : decode cX10_why 1 = .ok (.iload_n 1, 1) := by decide +kernel
theorem dX10_why_2 : decode cX10_why 2 = .ok (.invokevirtual 255, 3) := by decide +kernel
theorem dX10_why_5 : decode cX10_why 5 = .ok (.ifCond .eq 24, 3) := by decide +kernel
theorem dX10_why_8 : decode cX10_why 8 = .ok (.aload_n 0, 1) := by decide +kernel
theorem dX10_why_9 : decode cX10_why 9 = .ok (.getfield 61, 3) := by decide +kernel
theorem dX10_why_12 : decode cX10_why 12 = .ok (.iload_n 1, 1) := by decide +kernel
