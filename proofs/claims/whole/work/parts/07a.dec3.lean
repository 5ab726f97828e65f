theorem dX10_why_13 : decode cX10_why 13 = .ok (.iaload, 1) := by decide +kernel
theorem dX10_why_14 : decode cX10_why 14 = .ok (.iconst 1, 1) := by decide +kernel
theorem dX10_why_15 : decode cX10_why 15 = .ok (.if_icmp .ne 14, 3) := by decide +kernel
theorem dX10_why_18 : decode cX10_why 18 = .ok (.aload_n 0, 1) := by decide +kernel
theorem dX10_why_19 : decode cX10_why 19 = .ok (.iload_n 2, 1) := by decide +kernel
theorem dX10_why_20 : decode cX10_why 20 = .ok (.iload_n 3, 1) := by decide +kernel
theorem dX10_why_21 : decode cX10_why 21 = .ok (.iload 4, 2) := by decide +kernel
theorem dX10_why_23 : decode cX10_why 23 = .ok (.invokevirtual 373, 3) := by decide +kernel
theorem dX10_why_26 : decode cX10_why 26 = .ok (.ifCond .ne 5, 3) := by decide +kernel
theorem dX10_why_29 : decode cX10_why 29 = .ok (.iconst (-1), 1) := by decide +kernel
theorem dX10_why_30 : decode cX10_why 30 = .ok (.ireturn, 1) := by decide +kernel
theorem dX10_why_31 : decode cX10_why 31 = .ok (.aload_n 0, 1) := by decide +kernel
theorem dX10_why_32 : decode cX10_why 32 = .ok (.iload_n 2, 1) := by decide +kernel
theorem dX10_why_33 : decode cX10_why 33 = .ok (.iload_n 3, 1) := by decide +kernel
theorem dX10_why_34 : decode cX10_why 34 = .ok (.aload_n 0, 1) := by decide +kernel
theorem dX10_why_35 : decode cX10_why 35 = .ok (.getfield 194, 3) := by decide +kernel
theorem dX10_why_38 : decode cX10_why 38 = .ok (.invokevirtual 241, 3) := by decide +kernel
theorem dX10_why_41 : decode cX10_why 41 = .ok (.istore 5, 2) := by decide +kernel
theorem dX10_why_43 : decode cX10_why 43 = .ok (.aload_n 0, 1) := by decide +kernel
theorem dX10_why_44 : decode cX10_why 44 = .ok (.getfield 40, 3) := by decide +kernel
theorem dX10_why_47 : decode cX10_why 47 = .ok (.iload_n 2, 1) := by decide +kernel
theorem dX10_why_48 : decode cX10_why 48 = .ok (.iaload, 1) := by decide +kernel
theorem dX10_why_49 : decode cX10_why 49 = .ok (.istore 6, 2) := by decide +kernel
theorem dX10_why_51 : decode cX10_why 51 = .ok (.aload_n 0, 1) := by decide +kernel
theorem dX10_why_52 : decode cX10_why 52 = .ok (.aload_n 0, 1) := by decide +kernel
theorem dX10_why_53 : decode cX10_why 53 = .ok (.getfield 64, 3) := by decide +kernel
theorem dX10_why_56 : decode cX10_why 56 = .ok (.iload_n 1, 1) := by decide +kernel
theorem dX10_why_57 : decode cX10_why 57 = .ok (.iaload, 1) := by decide +kernel
theorem dX10_why_58 : decode cX10_why 58 = .ok (.iload_n 2, 1) := by decide +kernel
theorem dX10_why_59 : decode cX10_why 59 = .ok (.aload_n 0, 1) := by decide +kernel
theorem dX10_why_60 : decode cX10_why 60 = .ok (.getfield 194, 3) := by decide +kernel
theorem dX10_why_63 : decode cX10_why 63 = .ok (.invokevirtual 241, 3) := by decide +kernel
theorem dX10_why_66 : decode cX10_why 66 = .ok (.istore 7, 2) := by decide +kernel
theorem dX10_why_68 : decode cX10_why 68 = .ok (.iload 5, 2) := by decide +kernel
theorem dX10_why_70 : decode cX10_why 70 = .ok (.ifCond .lt 8, 3) := by decide +kernel
theorem dX10_why_73 : decode cX10_why 73 = .ok (.iload 7, 2) := by decide +kernel
theorem dX10_why_75 : decode cX10_why 75 = .ok (.ifCond .ge 8, 3) := by decide +kernel
theorem dX10_why_78 : decode cX10_why 78 = .ok (.bipush (-5), 2) := by decide +kernel
theorem dX10_why_80 : decode cX10_why 80 = .ok (.goto 21, 3) := by decide +kernel
theorem dX10_why_83 : decode cX10_why 83 = .ok (.aload_n 0, 1) := by decide +kernel
theorem dX10_why_84 : decode cX10_why 84 = .ok (.iload_n 1, 1) := by decide +kernel
theorem dX10_why_85 : decode cX10_why 85 = .ok (.iload_n 2, 1) := by decide +kernel
theorem dX10_why_86 : decode cX10_why 86 = .ok (.iload_n 3, 1) := by decide +kernel
theorem dX10_why_87 : decode cX10_why 87 = .ok (.iload 4, 2) := by decide +kernel
theorem dX10_why_89 : decode cX10_why 89 = .ok (.iload 7, 2) := by decide +kernel
theorem dX10_why_91 : decode cX10_why 91 = .ok (.invokestatic 277, 3) := by decide +kernel
theorem dX10_why_94 : decode cX10_why 94 = .ok (.iload 5, 2) := by decide +kernel
theorem dX10_why_96 : decode cX10_why 96 = .ok (.iload 6, 2) := by decide +kernel
theorem dX10_why_98 : decode cX10_why 98 = .ok (.invokevirtual 376, 3) := by decide +kernel
theorem dX10_why_101 : decode cX10_why 101 = .ok (.ireturn, 1) := by decide +kernel
theorem dX10_oneMinute_0 : decode cX10_oneMinute 0 = .ok (.iconst 0, 1) := by decide +kernel
theorem dX10_oneMinute_1 : decode cX10_oneMinute 1 = .ok (.istore_n 1, 1) := by decide +kernel
theorem dX10_oneMinute_2 : decode cX10_oneMinute 2 = .ok (.iload_n 1, 1) := by decide +kernel
theorem dX10_oneMinute_3 : decode cX10_oneMinute 3 = .ok (.aload_n 0, 1) := by decide +kernel
theorem dX10_oneMinute_4 : decode cX10_oneMinute 4 = .ok (.getfield 201, 3) := by decide +kernel
theorem dX10_oneMinute_7 : decode cX10_oneMinute 7 = .ok (.if_icmp .ge 88, 3) := by decide +kernel
theorem dX10_oneMinute_10 : decode cX10_oneMinute 10 = .ok (.aload_n 0, 1) := by decide +kernel
theorem dX10_oneMinute_11 : decode cX10_oneMinute 11 = .ok (.getfield 55, 3) := by decide +kernel
theorem dX10_oneMinute_14 : decode cX10_oneMinute 14 = .ok (.iload_n 1, 1) := by decide +kernel
theorem dX10_oneMinute_15 : decode cX10_oneMinute 15 = .ok (.iaload, 1) := by decide +kernel
theorem dX10_oneMinute_16 : decode cX10_oneMinute 16 = .ok (.aload_n 0, 1) := by decide +kernel
theorem dX10_oneMinute_17 : decode cX10_oneMinute 17 = .ok (.getfield 61, 3) := by decide +kernel
theorem dX10_oneMinute_20 : decode cX10_oneMinute 20 = .ok (.iload_n 1, 1) := by decide +kernel
theorem dX10_oneMinute_21 : decode cX10_oneMinute 21 = .ok (.iaload, 1) := by decide +kernel
theorem dX10_oneMinute_22 : decode cX10_oneMinute 22 = .ok (.ifCond .ne 7, 3) := by decide +kernel
theorem dX10_oneMinute_25 : decode cX10_oneMinute 25 = .ok (.iconst 2, 1) := by decide +kernel
theorem dX10_oneMinute_26 : decode cX10_oneMinute 26 = .ok (.goto 33, 3) := by decide +kernel
theorem dX10_oneMinute_29 : decode cX10_oneMinute 29 = .ok (.aload_n 0, 1) := by decide +kernel
theorem dX10_oneMinute_30 : decode cX10_oneMinute 30 = .ok (.getfield 61, 3) := by decide +kernel
theorem dX10_oneMinute_33 : decode cX10_oneMinute 33 = .ok (.iload_n 1, 1) := by decide +kernel
theorem dX10_oneMinute_34 : decode cX10_oneMinute 34 = .ok (.iaload, 1) := by decide +kernel
theorem dX10_oneMinute_35 : decode cX10_oneMinute 35 = .ok (.iconst 2, 1) := by decide +kernel
theorem dX10_oneMinute_36 : decode cX10_oneMinute 36 = .ok (.if_icmp .ne 7, 3) := by decide +kernel
theorem dX10_oneMinute_39 : decode cX10_oneMinute 39 = .ok (.iconst (-1), 1) := by decide +kernel
theorem dX10_oneMinute_40 : decode cX10_oneMinute 40 = .ok (.goto 19, 3) := by decide +kernel
theorem dX10_oneMinute_43 : decode cX10_oneMinute 43 = .ok (.aload_n 0, 1) := by decide +kernel
theorem dX10_oneMinute_44 : decode cX10_oneMinute 44 = .ok (.getfield 61, 3) := by decide +kernel
theorem dX10_oneMinute_47 : decode cX10_oneMinute 47 = .ok (.iload_n 1, 1) := by decide +kernel
theorem dX10_oneMinute_48 : decode cX10_oneMinute 48 = .ok (.iaload, 1) := by decide +kernel
theorem dX10_oneMinute_49 : decode cX10_oneMinute 49 = .ok (.iconst 3, 1) := by decide +kernel
theorem dX10_oneMinute_50 : decode cX10_oneMinute 50 = .ok (.if_icmp .ne 8, 3) := by decide +kernel
theorem dX10_oneMinute_53 : decode cX10_oneMinute 53 = .ok (.bipush (-3), 2) := by decide +kernel
theorem dX10_oneMinute_55 : decode cX10_oneMinute 55 = .ok (.goto 4, 3) := by decide +kernel
theorem dX10_oneMinute_58 : decode cX10_oneMinute 58 = .ok (.iconst 0, 1) := by decide +kernel
theorem dX10_oneMinute_59 : decode cX10_oneMinute 59 = .ok (.iadd, 1) := by decide +kernel
theorem dX10_oneMinute_60 : decode cX10_oneMinute 60 = .ok (.istore_n 2, 1) := by decide +kernel
theorem dX10_oneMinute_61 : decode cX10_oneMinute 61 = .ok (.aload_n 0, 1) := by decide +kernel
theorem dX10_oneMinute_62 : decode cX10_oneMinute 62 = .ok (.getfield 55, 3) := by decide +kernel
theorem dX10_oneMinute_65 : decode cX10_oneMinute 65 = .ok (.iload_n 1, 1) := by decide +kernel
theorem dX10_oneMinute_66 : decode cX10_oneMinute 66 = .ok (.iload_n 2, 1) := by decide +kernel
theorem dX10_oneMinute_67 : decode cX10_oneMinute 67 = .ok (.ifCond .ge 7, 3) := by decide +kernel
theorem dX10_oneMinute_70 : decode cX10_oneMinute 70 = .ok (.iconst 0, 1) := by decide +kernel
theorem dX10_oneMinute_71 : decode cX10_oneMinute 71 = .ok (.goto 17, 3) := by decide +kernel
theorem dX10_oneMinute_74 : decode cX10_oneMinute 74 = .ok (.iload_n 2, 1) := by decide +kernel
theorem dX10_oneMinute_75 : decode cX10_oneMinute 75 = .ok (.sipush 1000, 3) := by decide +kernel
theorem dX10_oneMinute_78 : decode cX10_oneMinute 78 = .ok (.if_icmp .le 9, 3) := by decide +kernel
theorem dX10_oneMinute_81 : decode cX10_oneMinute 81 = .ok (.sipush 1000, 3) := by decide +kernel
theorem dX10_oneMinute_84 : decode cX10_oneMinute 84 = .ok (.goto 4, 3) := by decide +kernel
theorem dX10_oneMinute_87 : decode cX10_oneMinute 87 = .ok (.iload_n 2, 1) := by decide +kernel
theorem dX10_oneMinute_88 : decode cX10_oneMinute 88 = .ok (.iastore, 1) := by decide +kernel
theorem dX10_oneMinute_89 : decode cX10_oneMinute 89 = .ok (.iinc 1 1, 3) := by decide +kernel
theorem dX10_oneMinute_92 : decode cX10_oneMinute 92 = .ok (.goto (-90), 3) := by decide +kernel
theorem dX10_oneMinute_95 : decode cX10_oneMinute 95 = .ok (.aload_n 0, 1) := by decide +kernel
theorem dX10_oneMinute_96 : decode cX10_oneMinute 96 = .ok (.dup, 1) := by decide +kernel
theorem dX10_oneMinute_97 : decode cX10_oneMinute 97 = .ok (.getfield 194, 3) := by decide +kernel
theorem dX10_oneMinute_100 : decode cX10_oneMinute 100 = .ok (.iconst 1, 1) := by decide +kernel
theorem dX10_oneMinute_101 : decode cX10_oneMinute 101 = .ok (.iadd, 1) := by decide +kernel
theorem dX10_oneMinute_102 : decode cX10_oneMinute 102 = .ok (.putfield 194, 3) := by decide +kernel
theorem dX10_oneMinute_105 : decode cX10_oneMinute 105 = .ok (.iconst 0, 1) := by decide +kernel
theorem dX10_oneMinute_106 : decode cX10_oneMinute 106 = .ok (.istore_n 1, 1) := by decide +kernel
theorem dX10_oneMinute_107 : decode cX10_oneMinute 107 = .ok (.iload_n 1, 1) := by decide +kernel
theorem dX10_oneMinute_108 : decode cX10_oneMinute 108 = .ok (.aload_n 0, 1) := by decide +kernel
theorem dX10_oneMinute_109 : decode cX10_oneMinute 109 = .ok (.getfield 201, 3) := by decide +kernel
theorem dX10_oneMinute_112 : decode cX10_oneMinute 112 = .ok (.if_icmp .ge 67, 3) := by decide +kernel
theorem dX10_oneMinute_115 : decode cX10_oneMinute 115 = .ok (.aload_n 0, 1) := by decide +kernel
theorem dX10_oneMinute_116 : decode cX10_oneMinute 116 = .ok (.getfield 61, 3) := by decide +kernel
theorem dX10_oneMinute_119 : decode cX10_oneMinute 119 = .ok (.iload_n 1, 1) := by decide +kernel
theorem dX10_oneMinute_120 : decode cX10_oneMinute 120 = .ok (.iaload, 1) := by decide +kernel
theorem dX10_oneMinute_121 : decode cX10_oneMinute 121 = .ok (.iconst 2, 1) := by decide +kernel
theorem dX10_oneMinute_122 : decode cX10_oneMinute 122 = .ok (.if_icmp .eq 13, 3) := by decide +kernel
theorem dX10_oneMinute_125 : decode cX10_oneMinute 125 = .ok (.aload_n 0, 1) := by decide +kernel
theorem dX10_oneMinute_126 : decode cX10_oneMinute 126 = .ok (.getfield 61, 3) := by decide +kernel
theorem dX10_oneMinute_129 : decode cX10_oneMinute 129 = .ok (.iload_n 1, 1) := by decide +kernel
theorem dX10_oneMinute_130 : decode cX10_oneMinute 130 = .ok (.iaload, 1) := by decide +kernel
theorem dX10_oneMinute_131 : decode cX10_oneMinute 131 = .ok (.iconst 3, 1) := by decide +kernel
theorem dX10_oneMinute_132 : decode cX10_oneMinute 132 = .ok (.if_icmp .ne 41, 3) := by decide +kernel
theorem dX10_oneMinute_135 : decode cX10_oneMinute 135 = .ok (.aload_n 0, 1) := by decide +kernel
theorem dX10_oneMinute_136 : decode cX10_oneMinute 136 = .ok (.getfield 67, 3) := by decide +kernel
theorem dX10_oneMinute_139 : decode cX10_oneMinute 139 = .ok (.iload_n 1, 1) := by decide +kernel
theorem dX10_oneMinute_140 : decode cX10_oneMinute 140 = .ok (.iaload, 1) := by decide +kernel
theorem dX10_oneMinute_141 : decode cX10_oneMinute 141 = .ok (.aload_n 0, 1) := by decide +kernel
theorem dX10_oneMinute_142 : decode cX10_oneMinute 142 = .ok (.getfield 194, 3) := by decide +kernel
theorem dX10_oneMinute_145 : decode cX10_oneMinute 145 = .ok (.if_icmp .ne 28, 3) := by decide +kernel
theorem dX10_oneMinute_148 : decode cX10_oneMinute 148 = .ok (.aload_n 0, 1) := by decide +kernel
theorem dX10_oneMinute_149 : decode cX10_oneMinute 149 = .ok (.getfield 61, 3) := by decide +kernel
theorem dX10_oneMinute_152 : decode cX10_oneMinute 152 = .ok (.iload_n 1, 1) := by decide +kernel
theorem dX10_oneMinute_153 : decode cX10_oneMinute 153 = .ok (.iaload, 1) := by decide +kernel
theorem dX10_oneMinute_154 : decode cX10_oneMinute 154 = .ok (.iconst 3, 1) := by decide +kernel
theorem dX10_oneMinute_155 : decode cX10_oneMinute 155 = .ok (.if_icmp .ne 13, 3) := by decide +kernel
theorem dX10_oneMinute_158 : decode cX10_oneMinute 158 = .ok (.aload_n 0, 1) := by decide +kernel
theorem dX10_oneMinute_159 : decode cX10_oneMinute 159 = .ok (.getfield 61, 3) := by decide +kernel
theorem dX10_oneMinute_162 : decode cX10_oneMinute 162 = .ok (.iload_n 1, 1) := by decide +kernel
theorem dX10_oneMinute_163 : decode cX10_oneMinute 163 = .ok (.iconst 4, 1) := by decide +kernel
theorem dX10_oneMinute_164 : decode cX10_oneMinute 164 = .ok (.iastore, 1) := by decide +kernel
theorem dX10_oneMinute_165 : decode cX10_oneMinute 165 = .ok (.goto 8, 3) := by decide +kernel
theorem dX10_oneMinute_168 : decode cX10_oneMinute 168 = .ok (.aload_n 0, 1) := by decide +kernel
theorem dX10_oneMinute_169 : decode cX10_oneMinute 169 = .ok (.iload_n 1, 1) := by decide +kernel
theorem dX10_oneMinute_170 : decode cX10_oneMinute 170 = .ok (.invokevirtual 280, 3) := by decide +kernel
theorem dX10_oneMinute_173 : decode cX10_oneMinute 173 = .ok (.iinc 1 1, 3) := by decide +kernel
theorem dX10_oneMinute_176 : decode cX10_oneMinute 176 = .ok (.goto (-69), 3) := by decide +kernel
theorem dX10_oneMinute_179 : decode cX10_oneMinute 179 = .ok (.return_, 1) := by decide +kernel
theorem dX10_minutes_0 : decode cX10_minutes 0 = .ok (.iload_n 1, 1) := by decide +kernel
theorem dX10_minutes_1 : decode cX10_minutes 1 = .ok (.iconst 1, 1) := by decide +kernel
theorem dX10_minutes_2 : decode cX10_minutes 2 = .ok (.sipush 1440, 3) := by decide +kernel
theorem dX10_minutes_5 : decode cX10_minutes 5 = .ok (.invokestatic 208, 3) := by decide +kernel
theorem dX10_minutes_8 : decode cX10_minutes 8 = .ok (.ifCond .eq 14, 3) := by decide +kernel
theorem dX10_minutes_11 : decode cX10_minutes 11 = .ok (.aload_n 0, 1) := by decide +kernel
theorem dX10_minutes_12 : decode cX10_minutes 12 = .ok (.getfield 194, 3) := by decide +kernel
theorem dX10_minutes_15 : decode cX10_minutes 15 = .ok (.iload_n 1, 1) := by decide +kernel
theorem dX10_minutes_16 : decode cX10_minutes 16 = .ok (.iadd, 1) := by decide +kernel
theorem dX10_minutes_17 : decode cX10_minutes 17 = .ok (.ldc 207, 2) := by decide +kernel
theorem dX10_minutes_19 : decode cX10_minutes 19 = .ok (.if_icmp .le 5, 3) := by decide +kernel
theorem dX10_minutes_22 : decode cX10_minutes 22 = .ok (.iconst (-1), 1) := by decide +kernel
theorem dX10_minutes_23 : decode cX10_minutes 23 = .ok (.ireturn, 1) := by decide +kernel
theorem dX10_minutes_24 : decode cX10_minutes 24 = .ok (.iconst 0, 1) := by decide +kernel
theorem dX10_minutes_25 : decode cX10_minutes 25 = .ok (.istore_n 2, 1) := by decide +kernel
theorem dX10_minutes_26 : decode cX10_minutes 26 = .ok (.iload_n 2, 1) := by decide +kernel
theorem dX10_minutes_27 : decode cX10_minutes 27 = .ok (.iload_n 1, 1) := by decide +kernel
theorem dX10_minutes_28 : decode cX10_minutes 28 = .ok (.if_icmp .ge 13, 3) := by decide +kernel
theorem dX10_minutes_31 : decode cX10_minutes 31 = .ok (.aload_n 0, 1) := by decide +kernel
theorem dX10_minutes_32 : decode cX10_minutes 32 = .ok (.invokevirtual 386, 3) := by decide +kernel
theorem dX10_minutes_35 : decode cX10_minutes 35 = .ok (.iinc 2 1, 3) := by decide +kernel
theorem dX10_minutes_38 : decode cX10_minutes 38 = .ok (.goto (-12), 3) := by decide +kernel
theorem dX10_minutes_41 : decode cX10_minutes 41 = .ok (.aload_n 0, 1) := by decide +kernel
theorem dX10_minutes_42 : decode cX10_minutes 42 = .ok (.getfield 194, 3) := by decide +kernel
theorem dX10_minutes_45 : decode cX10_minutes 45 = .ok (.ireturn, 1) := by decide +kernel
theorem dX10_isTrip_0 : decode cX10_isTrip 0 = .ok (.iload_n 1, 1) := by decide +kernel
theorem dX10_isTrip_1 : decode cX10_isTrip 1 = .ok (.ifCond .lt 15, 3) := by decide +kernel
theorem dX10_isTrip_4 : decode cX10_isTrip 4 = .ok (.iload_n 1, 1) := by decide +kernel
theorem dX10_isTrip_5 : decode cX10_isTrip 5 = .ok (.aload_n 0, 1) := by decide +kernel
theorem dX10_isTrip_6 : decode cX10_isTrip 6 = .ok (.getfield 287, 3) := by decide +kernel
theorem dX10_isTrip_9 : decode cX10_isTrip 9 = .ok (.if_icmp .ge 7, 3) := by decide +kernel
theorem dX10_isTrip_12 : decode cX10_isTrip 12 = .ok (.iconst 1, 1) := by decide +kernel
theorem dX10_isTrip_13 : decode cX10_isTrip 13 = .ok (.goto 4, 3) := by decide +kernel
theorem dX10_isTrip_16 : decode cX10_isTrip 16 = .ok (.iconst 0, 1) := by decide +kernel
theorem dX10_isTrip_17 : decode cX10_isTrip 17 = .ok (.ireturn, 1) := by decide +kernel
theorem dX10_trip_0 : decode cX10_trip 0 = .ok (.aload_n 0, 1) := by decide +kernel
theorem dX10_trip_1 : decode cX10_trip 1 = .ok (.iload_n 1, 1) := by decide +kernel
theorem dX10_trip_2 : decode cX10_trip 2 = .ok (.invokevirtual 389, 3) := by decide +kernel
theorem dX10_trip_5 : decode cX10_trip 5 = .ok (.ifCond .ne 6, 3) := by decide +kernel
theorem dX10_trip_8 : decode cX10_trip 8 = .ok (.bipush (-9), 2) := by decide +kernel
theorem dX10_trip_10 : decode cX10_trip 10 = .ok (.ireturn, 1) := by decide +kernel
theorem dX10_trip_11 : decode cX10_trip 11 = .ok (.iload_n 2, 1) := by decide +kernel
theorem dX10_trip_12 : decode cX10_trip 12 = .ok (.tableswitch 167 0 12 #[68, 75, 82, 89, 96, 103, 110, 117, 124, 131, 138, 153, 160], 68) := by decide +kernel
theorem dX10_trip_80 : decode cX10_trip 80 = .ok (.aload_n 0, 1) := by decide +kernel
theorem dX10_trip_81 : decode cX10_trip 81 = .ok (.getfield 115, 3) := by decide +kernel
theorem dX10_trip_84 : decode cX10_trip 84 = .ok (.iload_n 1, 1) := by decide +kernel
theorem dX10_trip_85 : decode cX10_trip 85 = .ok (.iaload, 1) := by decide +kernel
theorem dX10_trip_86 : decode cX10_trip 86 = .ok (.ireturn, 1) := by decide +kernel
theorem dX10_trip_87 : decode cX10_trip 87 = .ok (.aload_n 0, 1) := by decide +kernel
theorem dX10_trip_88 : decode cX10_trip 88 = .ok (.getfield 118, 3) := by decide +kernel
theorem dX10_trip_91 : decode cX10_trip 91 = .ok (.iload_n 1, 1) := by decide +kernel
theorem dX10_trip_92 : decode cX10_trip 92 = .ok (.iaload, 1) := by decide +kernel
theorem dX10_trip_93 : decode cX10_trip 93 = .ok (.ireturn, 1) := by decide +kernel
theorem dX10_trip_94 : decode cX10_trip 94 = .ok (.aload_n 0, 1) := by decide +kernel
theorem dX10_trip_95 : decode cX10_trip 95 = .ok (.getfield 121, 3) := by decide +kernel
theorem dX10_trip_98 : decode cX10_trip 98 = .ok (.iload_n 1, 1) := by decide +kernel
theorem dX10_trip_99 : decode cX10_trip 99 = .ok (.iaload, 1) := by decide +kernel
theorem dX10_trip_100 : decode cX10_trip 100 = .ok (.ireturn, 1) := by decide +kernel
theorem dX10_trip_101 : decode cX10_trip 101 = .ok (.aload_n 0, 1) := by decide +kernel
theorem dX10_trip_102 : decode cX10_trip 102 = .ok (.getfield 124, 3) := by decide +kernel
theorem dX10_trip_105 : decode cX10_trip 105 = .ok (.iload_n 1, 1) := by decide +kernel
theorem dX10_trip_106 : decode cX10_trip 106 = .ok (.iaload, 1) := by decide +kernel
theorem dX10_trip_107 : decode cX10_trip 107 = .ok (.ireturn, 1) := by decide +kernel
theorem dX10_trip_108 : decode cX10_trip 108 = .ok (.aload_n 0, 1) := by decide +kernel
theorem dX10_trip_109 : decode cX10_trip 109 = .ok (.getfield 127, 3) := by decide +kernel
theorem dX10_trip_112 : decode cX10_trip 112 = .ok (.iload_n 1, 1) := by decide +kernel
theorem dX10_trip_113 : decode cX10_trip 113 = .ok (.iaload, 1) := by decide +kernel
theorem dX10_trip_114 : decode cX10_trip 114 = .ok (.ireturn, 1) := by decide +kernel
theorem dX10_trip_115 : decode cX10_trip 115 = .ok (.aload_n 0, 1) := by decide +kernel
theorem dX10_trip_116 : decode cX10_trip 116 = .ok (.getfield 130, 3) := by decide +kernel
theorem dX10_trip_119 : decode cX10_trip 119 = .ok (.iload_n 1, 1) := by decide +kernel
theorem dX10_trip_120 : decode cX10_trip 120 = .ok (.iaload, 1) := by decide +kernel
theorem dX10_trip_121 : decode cX10_trip 121 = .ok (.ireturn, 1) := by decide +kernel
theorem dX10_trip_122 : decode cX10_trip 122 = .ok (.aload_n 0, 1) := by decide +kernel
theorem dX10_trip_123 : decode cX10_trip 123 = .ok (.getfield 133, 3) := by decide +kernel
theorem dX10_trip_126 : decode cX10_trip 126 = .ok (.iload_n 1, 1) := by decide +kernel
theorem dX10_trip_127 : decode cX10_trip 127 = .ok (.iaload, 1) := by decide +kernel
theorem dX10_trip_128 : decode cX10_trip 128 = .ok (.ireturn, 1) := by decide +kernel
theorem dX10_trip_129 : decode cX10_trip 129 = .ok (.aload_n 0, 1) := by decide +kernel
theorem dX10_trip_130 : decode cX10_trip 130 = .ok (.getfield 136, 3) := by decide +kernel
theorem dX10_trip_133 : decode cX10_trip 133 = .ok (.iload_n 1, 1) := by decide +kernel
theorem dX10_trip_134 : decode cX10_trip 134 = .ok (.iaload, 1) := by decide +kernel
theorem dX10_trip_135 : decode cX10_trip 135 = .ok (.ireturn, 1) := by decide +kernel
theorem dX10_trip_136 : decode cX10_trip 136 = .ok (.aload_n 0, 1) := by decide +kernel
theorem dX10_trip_137 : decode cX10_trip 137 = .ok (.getfield 139, 3) := by decide +kernel
theorem dX10_trip_140 : decode cX10_trip 140 = .ok (.iload_n 1, 1) := by decide +kernel
theorem dX10_trip_141 : decode cX10_trip 141 = .ok (.iaload, 1) := by decide +kernel
theorem dX10_trip_142 : decode cX10_trip 142 = .ok (.ireturn, 1) := by decide +kernel
theorem dX10_trip_143 : decode cX10_trip 143 = .ok (.aload_n 0, 1) := by decide +kernel
theorem dX10_trip_144 : decode cX10_trip 144 = .ok (.getfield 142, 3) := by decide +kernel
theorem dX10_trip_147 : decode cX10_trip 147 = .ok (.iload_n 1, 1) := by decide +kernel
theorem dX10_trip_148 : decode cX10_trip 148 = .ok (.iaload, 1) := by decide +kernel
theorem dX10_trip_149 : decode cX10_trip 149 = .ok (.ireturn, 1) := by decide +kernel
theorem dX10_trip_150 : decode cX10_trip 150 = .ok (.aload_n 0, 1) := by decide +kernel
theorem dX10_trip_151 : decode cX10_trip 151 = .ok (.getfield 148, 3) := by decide +kernel
theorem dX10_trip_154 : decode cX10_trip 154 = .ok (.iload_n 1, 1) := by decide +kernel
theorem dX10_trip_155 : decode cX10_trip 155 = .ok (.baload, 1) := by decide +kernel
theorem dX10_trip_156 : decode cX10_trip 156 = .ok (.ifCond .eq 7, 3) := by decide +kernel
theorem dX10_trip_159 : decode cX10_trip 159 = .ok (.iconst 1, 1) := by decide +kernel
theorem dX10_trip_160 : decode cX10_trip 160 = .ok (.goto 4, 3) := by decide +kernel
theorem dX10_trip_163 : decode cX10_trip 163 = .ok (.iconst 0, 1) := by decide +kernel
theorem dX10_trip_164 : decode cX10_trip 164 = .ok (.ireturn, 1) := by decide +kernel
theorem dX10_trip_165 : decode cX10_trip 165 = .ok (.aload_n 0, 1) := by decide +kernel
theorem dX10_trip_166 : decode cX10_trip 166 = .ok (.getfield 145, 3) := by decide +kernel
theorem dX10_trip_169 : decode cX10_trip 169 = .ok (.iload_n 1, 1) := by decide +kernel
theorem dX10_trip_170 : decode cX10_trip 170 = .ok (.iaload, 1) := by decide +kernel
theorem dX10_trip_171 : decode cX10_trip 171 = .ok (.ireturn, 1) := by decide +kernel
theorem dX10_trip_172 : decode cX10_trip 172 = .ok (.aload_n 0, 1) := by decide +kernel
theorem dX10_trip_173 : decode cX10_trip 173 = .ok (.getfield 152, 3) := by decide +kernel
theorem dX10_trip_176 : decode cX10_trip 176 = .ok (.iload_n 1, 1) := by decide +kernel
theorem dX10_trip_177 : decode cX10_trip 177 = .ok (.iaload, 1) := by decide +kernel
theorem dX10_trip_178 : decode cX10_trip 178 = .ok (.ireturn, 1) := by decide +kernel
theorem dX10_trip_179 : decode cX10_trip 179 = .ok (.bipush (-9), 2) := by decide +kernel
theorem dX10_trip_181 : decode cX10_trip 181 = .ok (.ireturn, 1) := by decide +kernel
theorem dX10_due_0 : decode cX10_due 0 = .ok (.aload_n 0, 1) := by decide +kernel
theorem dX10_due_1 : decode cX10_due 1 = .ok (.iload_n 1, 1) := by decide +kernel
theorem dX10_due_2 : decode cX10_due 2 = .ok (.invokevirtual 389, 3) := by decide +kernel
theorem dX10_due_5 : decode cX10_due 5 = .ok (.ifCond .eq 19, 3) := by decide +kernel
theorem dX10_due_8 : decode cX10_due 8 = .ok (.iload_n 2, 1) := by decide +kernel
theorem dX10_due_9 : decode cX10_due 9 = .ok (.invokestatic 336, 3) := by decide +kernel
theorem dX10_due_12 : decode cX10_due 12 = .ok (.ifCond .eq 12, 3) := by decide +kernel
theorem dX10_due_15 : decode cX10_due 15 = .ok (.iload_n 3, 1) := by decide +kernel
theorem dX10_due_16 : decode cX10_due 16 = .ok (.iconst 0, 1) := by decide +kernel
theorem dX10_due_17 : decode cX10_due 17 = .ok (.iconst 1, 1) := by decide +kernel
theorem dX10_due_18 : decode cX10_due 18 = .ok (.invokestatic 208, 3) := by decide +kernel
theorem dX10_due_21 : decode cX10_due 21 = .ok (.ifCond .ne 6, 3) := by decide +kernel
theorem dX10_due_24 : decode cX10_due 24 = .ok (.bipush (-9), 2) := by decide +kernel
theorem dX10_due_26 : decode cX10_due 26 = .ok (.ireturn, 1) := by decide +kernel
theorem dX10_due_27 : decode cX10_due 27 = .ok (.aload_n 0, 1) := by decide +kernel
theorem dX10_due_28 : decode cX10_due 28 = .ok (.iload_n 1, 1) := by decide +kernel
theorem dX10_due_29 : decode cX10_due 29 = .ok (.iload_n 2, 1) := by decide +kernel
theorem dX10_due_30 : decode cX10_due 30 = .ok (.invokevirtual 290, 3) := by decide +kernel
theorem dX10_due_33 : decode cX10_due 33 = .ok (.istore 4, 2) := by decide +kernel
theorem dX10_due_35 : decode cX10_due 35 = .ok (.iload_n 3, 1) := by decide +kernel
theorem dX10_due_36 : decode cX10_due 36 = .ok (.ifCond .ne 8, 3) := by decide +kernel
theorem dX10_due_39 : decode cX10_due 39 = .ok (.iload 4, 2) := by decide +kernel
theorem dX10_due_41 : decode cX10_due 41 = .ok (.goto 7, 3) := by decide +kernel
theorem dX10_due_44 : decode cX10_due 44 = .ok (.aload_n 0, 1) := by decide +kernel
theorem dX10_due_45 : decode cX10_due 45 = .ok (.getfield 355, 3) := by decide +kernel
theorem dX10_due_48 : decode cX10_due 48 = .ok (.ireturn, 1) := by decide +kernel
theorem dX10_refusal_0 : decode cX10_refusal 0 = .ok (.iload_n 1, 1) := by decide +kernel
theorem dX10_refusal_1 : decode cX10_refusal 1 = .ok (.ifCond .lt 20, 3) := by decide +kernel
theorem dX10_refusal_4 : decode cX10_refusal 4 = .ok (.iload_n 1, 1) := by decide +kernel
theorem dX10_refusal_5 : decode cX10_refusal 5 = .ok (.aload_n 0, 1) := by decide +kernel
theorem dX10_refusal_6 : decode cX10_refusal 6 = .ok (.getfield 370, 3) := by decide +kernel
theorem dX10_refusal_9 : decode cX10_refusal 9 = .ok (.if_icmp .ge 12, 3) := by decide +kernel
theorem dX10_refusal_12 : decode cX10_refusal 12 = .ok (.iload_n 2, 1) := by decide +kernel
theorem dX10_refusal_13 : decode cX10_refusal 13 = .ok (.iconst 0, 1) := by decide +kernel
theorem dX10_refusal_14 : decode cX10_refusal 14 = .ok (.iconst 3, 1) := by decide +kernel
theorem dX10_refusal_15 : decode cX10_refusal 15 = .ok (.invokestatic 208, 3) := by decide +kernel
theorem dX10_refusal_18 : decode cX10_refusal 18 = .ok (.ifCond .ne 5, 3) := by decide +kernel
theorem dX10_refusal_21 : decode cX10_refusal 21 = .ok (.iconst (-1), 1) := by decide +kernel
theorem dX10_refusal_22 : decode cX10_refusal 22 = .ok (.ireturn, 1) := by decide +kernel
theorem dX10_refusal_23 : decode cX10_refusal 23 = .ok (.iload_n 2, 1) := by decide +kernel
theorem dX10_refusal_24 : decode cX10_refusal 24 = .ok (.ifCond .ne 12, 3) := by decide +kernel
theorem dX10_refusal_27 : decode cX10_refusal 27 = .ok (.aload_n 0, 1) := by decide +kernel
theorem dX10_refusal_28 : decode cX10_refusal 28 = .ok (.getfield 155, 3) := by decide +kernel
theorem dX10_refusal_31 : decode cX10_refusal 31 = .ok (.iload_n 1, 1) := by decide +kernel
theorem dX10_refusal_32 : decode cX10_refusal 32 = .ok (.iaload, 1) := by decide +kernel
theorem dX10_refusal_33 : decode cX10_refusal 33 = .ok (.goto 37, 3) := by decide +kernel
theorem dX10_refusal_36 : decode cX10_refusal 36 = .ok (.iload_n 2, 1) := by decide +kernel
theorem dX10_refusal_37 : decode cX10_refusal 37 = .ok (.iconst 1, 1) := by decide +kernel
theorem dX10_refusal_38 : decode cX10_refusal 38 = .ok (.if_icmp .ne 12, 3) := by decide +kernel
theorem dX10_refusal_41 : decode cX10_refusal 41 = .ok (.aload_n 0, 1) := by decide +kernel
theorem dX10_refusal_42 : decode cX10_refusal 42 = .ok (.getfield 158, 3) := by decide +kernel
theorem dX10_refusal_45 : decode cX10_refusal 45 = .ok (.iload_n 1, 1) := by decide +kernel
theorem dX10_refusal_46 : decode cX10_refusal 46 = .ok (.iaload, 1) := by decide +kernel
theorem dX10_refusal_47 : decode cX10_refusal 47 = .ok (.goto 23, 3) := by decide +kernel
theorem dX10_refusal_50 : decode cX10_refusal 50 = .ok (.iload_n 2, 1) := by decide +kernel
theorem dX10_refusal_51 : decode cX10_refusal 51 = .ok (.iconst 2, 1) := by decide +kernel
theorem dX10_refusal_52 : decode cX10_refusal 52 = .ok (.if_icmp .ne 12, 3) := by decide +kernel
theorem dX10_refusal_55 : decode cX10_refusal 55 = .ok (.aload_n 0, 1) := by decide +kernel
theorem dX10_refusal_56 : decode cX10_refusal 56 = .ok (.getfield 161, 3) := by decide +kernel
theorem dX10_refusal_59 : decode cX10_refusal 59 = .ok (.iload_n 1, 1) := by decide +kernel
theorem dX10_refusal_60 : decode cX10_refusal 60 = .ok (.iaload, 1) := by decide +kernel
theorem dX10_refusal_61 : decode cX10_refusal 61 = .ok (.goto 9, 3) := by decide +kernel
theorem dX10_refusal_64 : decode cX10_refusal 64 = .ok (.aload_n 0, 1) := by decide +kernel
theorem dX10_refusal_65 : decode cX10_refusal 65 = .ok (.getfield 164, 3) := by decide +kernel
theorem dX10_refusal_68 : decode cX10_refusal 68 = .ok (.iload_n 1, 1) := by decide +kernel
theorem dX10_refusal_69 : decode cX10_refusal 69 = .ok (.iaload, 1) := by decide +kernel
theorem dX10_refusal_70 : decode cX10_refusal 70 = .ok (.ireturn, 1) := by decide +kernel
theorem dX10_complain_0 : decode cX10_complain 0 = .ok (.aload_n 0, 1) := by decide +kernel
theorem dX10_complain_1 : decode cX10_complain 1 = .ok (.iload_n 1, 1) := by decide +kernel
theorem dX10_complain_2 : decode cX10_complain 2 = .ok (.invokevirtual 389, 3) := by decide +kernel
theorem dX10_complain_5 : decode cX10_complain 5 = .ok (.ifCond .eq 14, 3) := by decide +kernel
theorem dX10_complain_8 : decode cX10_complain 8 = .ok (.iload_n 2, 1) := by decide +kernel
theorem dX10_complain_9 : decode cX10_complain 9 = .ok (.iconst 0, 1) := by decide +kernel
theorem dX10_complain_10 : decode cX10_complain 10 = .ok (.ldc_w 354, 3) := by decide +kernel
theorem dX10_complain_13 : decode cX10_complain 13 = .ok (.invokestatic 208, 3) := by decide +kernel
theorem dX10_complain_16 : decode cX10_complain 16 = .ok (.ifCond .ne 5, 3) := by decide +kernel
theorem dX10_complain_19 : decode cX10_complain 19 = .ok (.iconst (-1), 1) := by decide +kernel
theorem dX10_complain_20 : decode cX10_complain 20 = .ok (.ireturn, 1) := by decide +kernel
theorem dX10_complain_21 : decode cX10_complain 21 = .ok (.iconst 0, 1) := by decide +kernel
theorem dX10_complain_22 : decode cX10_complain 22 = .ok (.istore_n 3, 1) := by decide +kernel
theorem dX10_complain_23 : decode cX10_complain 23 = .ok (.iload_n 3, 1) := by decide +kernel
theorem dX10_complain_24 : decode cX10_complain 24 = .ok (.aload_n 0, 1) := by decide +kernel
theorem dX10_complain_25 : decode cX10_complain 25 = .ok (.getfield 392, 3) := by decide +kernel
theorem dX10_complain_28 : decode cX10_complain 28 = .ok (.if_icmp .ge 22, 3) := by decide +kernel
theorem dX10_complain_31 : decode cX10_complain 31 = .ok (.aload_n 0, 1) := by decide +kernel
theorem dX10_complain_32 : decode cX10_complain 32 = .ok (.getfield 167, 3) := by decide +kernel
theorem dX10_complain_35 : decode cX10_complain 35 = .ok (.iload_n 3, 1) := by decide +kernel
theorem dX10_complain_36 : decode cX10_complain 36 = .ok (.iaload, 1) := by decide +kernel
theorem dX10_complain_37 : decode cX10_complain 37 = .ok (.iload_n 1, 1) := by decide +kernel
theorem dX10_complain_38 : decode cX10_complain 38 = .ok (.if_icmp .ne 6, 3) := by decide +kernel
theorem dX10_complain_41 : decode cX10_complain 41 = .ok (.bipush (-4), 2) := by decide +kernel
theorem dX10_complain_43 : decode cX10_complain 43 = .ok (.ireturn, 1) := by decide +kernel
theorem dX10_complain_44 : decode cX10_complain 44 = .ok (.iinc 3 1, 3) := by decide +kernel
theorem dX10_complain_47 : decode cX10_complain 47 = .ok (.goto (-24), 3) := by decide +kernel
theorem dX10_complain_50 : decode cX10_complain 50 = .ok (.aload_n 0, 1) := by decide +kernel
theorem dX10_complain_51 : decode cX10_complain 51 = .ok (.getfield 167, 3) := by decide +kernel
theorem dX10_complain_54 : decode cX10_complain 54 = .ok (.aload_n 0, 1) := by decide +kernel
theorem dX10_complain_55 : decode cX10_complain 55 = .ok (.getfield 392, 3) := by decide +kernel
theorem dX10_complain_58 : decode cX10_complain 58 = .ok (.iload_n 1, 1) := by decide +kernel
theorem dX10_complain_59 : decode cX10_complain 59 = .ok (.iastore, 1) := by decide +kernel
theorem dX10_complain_60 : decode cX10_complain 60 = .ok (.aload_n 0, 1) := by decide +kernel
theorem dX10_complain_61 : decode cX10_complain 61 = .ok (.getfield 170, 3) := by decide +kernel
theorem dX10_complain_64 : decode cX10_complain 64 = .ok (.aload_n 0, 1) := by decide +kernel
theorem dX10_complain_65 : decode cX10_complain 65 = .ok (.getfield 392, 3) := by decide +kernel
theorem dX10_complain_68 : decode cX10_complain 68 = .ok (.iload_n 2, 1) := by decide +kernel
theorem dX10_complain_69 : decode cX10_complain 69 = .ok (.iastore, 1) := by decide +kernel
theorem dX10_complain_70 : decode cX10_complain 70 = .ok (.aload_n 0, 1) := by decide +kernel
theorem dX10_complain_71 : decode cX10_complain 71 = .ok (.dup, 1) := by decide +kernel
theorem dX10_complain_72 : decode cX10_complain 72 = .ok (.getfield 392, 3) := by decide +kernel
theorem dX10_complain_75 : decode cX10_complain 75 = .ok (.iconst 1, 1) := by decide +kernel
theorem dX10_complain_76 : decode cX10_complain 76 = .ok (.iadd, 1) := by decide +kernel
theorem dX10_complain_77 : decode cX10_complain 77 = .ok (.putfield 392, 3) := by decide +kernel
theorem dX10_complain_80 : decode cX10_complain 80 = .ok (.aload_n 0, 1) := by decide +kernel
theorem dX10_complain_81 : decode cX10_complain 81 = .ok (.getfield 392, 3) := by decide +kernel
theorem dX10_complain_84 : decode cX10_complain 84 = .ok (.iconst 1, 1) := by decide +kernel
theorem dX10_complain_85 : decode cX10_complain 85 = .ok (.isub, 1) := by decide +kernel
theorem dX10_complain_86 : decode cX10_complain 86 = .ok (.ireturn, 1) := by decide +kernel
theorem dX10_over_0 : decode cX10_over 0 = .ok (.aload_n 0, 1) := by decide +kernel
theorem dX10_over_1 : decode cX10_over 1 = .ok (.getfield 167, 3) := by decide +kernel
theorem dX10_over_4 : decode cX10_over 4 = .ok (.iload_n 1, 1) := by decide +kernel
theorem dX10_over_5 : decode cX10_over 5 = .ok (.iaload, 1) := by decide +kernel
theorem dX10_over_6 : decode cX10_over 6 = .ok (.istore_n 2, 1) := by decide +kernel
theorem dX10_over_7 : decode cX10_over 7 = .ok (.aload_n 0, 1) := by decide +kernel
theorem dX10_over_8 : decode cX10_over 8 = .ok (.iload_n 2, 1) := by decide +kernel
theorem dX10_over_9 : decode cX10_over 9 = .ok (.aload_n 0, 1) := by decide +kernel
theorem dX10_over_10 : decode cX10_over 10 = .ok (.getfield 124, 3) := by decide +kernel
theorem dX10_over_13 : decode cX10_over 13 = .ok (.iload_n 2, 1) := by decide +kernel
theorem dX10_over_14 : decode cX10_over 14 = .ok (.iaload, 1) := by decide +kernel
theorem dX10_over_15 : decode cX10_over 15 = .ok (.sipush 1440, 3) := by decide +kernel
theorem dX10_over_18 : decode cX10_over 18 = .ok (.idiv, 1) := by decide +kernel
theorem dX10_over_19 : decode cX10_over 19 = .ok (.invokevirtual 290, 3) := by decide +kernel
theorem dX10_over_22 : decode cX10_over 22 = .ok (.istore_n 3, 1) := by decide +kernel
theorem dX10_over_23 : decode cX10_over 23 = .ok (.aload_n 0, 1) := by decide +kernel
theorem dX10_over_24 : decode cX10_over 24 = .ok (.getfield 170, 3) := by decide +kernel
theorem dX10_over_27 : decode cX10_over 27 = .ok (.iload_n 1, 1) := by decide +kernel
theorem dX10_over_28 : decode cX10_over 28 = .ok (.iaload, 1) := by decide +kernel
theorem dX10_over_29 : decode cX10_over 29 = .ok (.iload_n 3, 1) := by decide +kernel
theorem dX10_over_30 : decode cX10_over 30 = .ok (.ifCond .ge 7, 3) := by decide +kernel
theorem dX10_over_33 : decode cX10_over 33 = .ok (.iconst 0, 1) := by decide +kernel
theorem dX10_over_34 : decode cX10_over 34 = .ok (.goto 4, 3) := by decide +kernel
theorem dX10_over_37 : decode cX10_over 37 = .ok (.iload_n 3, 1) := by decide +kernel
theorem dX10_over_38 : decode cX10_over 38 = .ok (.isub, 1) := by decide +kernel
theorem dX10_over_39 : decode cX10_over 39 = .ok (.istore 4, 2) := by decide +kernel
theorem dX10_over_41 : decode cX10_over 41 = .ok (.iload 4, 2) := by decide +kernel
theorem dX10_over_43 : decode cX10_over 43 = .ok (.ifCond .ge 7, 3) := by decide +kernel
theorem dX10_over_46 : decode cX10_over 46 = .ok (.iconst 0, 1) := by decide +kernel
theorem dX10_over_47 : decode cX10_over 47 = .ok (.goto 5, 3) := by decide +kernel
theorem dX10_over_50 : decode cX10_over 50 = .ok (.iload 4, 2) := by decide +kernel
theorem dX10_over_52 : decode cX10_over 52 = .ok (.ireturn, 1) := by decide +kernel
theorem dX10_areLike_0 : decode cX10_areLike 0 = .ok (.aload_n 0, 1) := by decide +kernel
theorem dX10_areLike_1 : decode cX10_areLike 1 = .ok (.getfield 167, 3) := by decide +kernel
theorem dX10_areLike_4 : decode cX10_areLike 4 = .ok (.iload_n 1, 1) := by decide +kernel
theorem dX10_areLike_5 : decode cX10_areLike 5 = .ok (.iaload, 1) := by decide +kernel
theorem dX10_areLike_6 : decode cX10_areLike 6 = .ok (.istore_n 3, 1) := by decide +kernel
theorem dX10_areLike_7 : decode cX10_areLike 7 = .ok (.aload_n 0, 1) := by decide +kernel
theorem dX10_areLike_8 : decode cX10_areLike 8 = .ok (.getfield 167, 3) := by decide +kernel
theorem dX10_areLike_11 : decode cX10_areLike 11 = .ok (.iload_n 2, 1) := by decide +kernel
theorem dX10_areLike_12 : decode cX10_areLike 12 = .ok (.iaload, 1) := by decide +kernel
theorem dX10_areLike_13 : decode cX10_areLike 13 = .ok (.istore 4, 2) := by decide +kernel
theorem dX10_areLike_15 : decode cX10_areLike 15 = .ok (.aload_n 0, 1) := by decide +kernel
theorem dX10_areLike_16 : decode cX10_areLike 16 = .ok (.getfield 133, 3) := by decide +kernel
theorem dX10_areLike_19 : decode cX10_areLike 19 = .ok (.iload_n 3, 1) := by decide +kernel
theorem dX10_areLike_20 : decode cX10_areLike 20 = .ok (.iaload, 1) := by decide +kernel
theorem dX10_areLike_21 : decode cX10_areLike 21 = .ok (.sipush 1000, 3) := by decide +kernel
theorem dX10_areLike_24 : decode cX10_areLike 24 = .ok (.idiv, 1) := by decide +kernel
theorem dX10_areLike_25 : decode cX10_areLike 25 = .ok (.aload_n 0, 1) := by decide +kernel
theorem dX10_areLike_26 : decode cX10_areLike 26 = .ok (.getfield 133, 3) := by decide +kernel
theorem dX10_areLike_29 : decode cX10_areLike 29 = .ok (.iload 4, 2) := by decide +kernel
theorem dX10_areLike_31 : decode cX10_areLike 31 = .ok (.iaload, 1) := by decide +kernel
theorem dX10_areLike_32 : decode cX10_areLike 32 = .ok (.sipush 1000, 3) := by decide +kernel
theorem dX10_areLike_35 : decode cX10_areLike 35 = .ok (.idiv, 1) := by decide +kernel
theorem dX10_areLike_36 : decode cX10_areLike 36 = .ok (.if_icmp .ne 69, 3) := by decide +kernel
theorem dX10_areLike_39 : decode cX10_areLike 39 = .ok (.aload_n 0, 1) := by decide +kernel
theorem dX10_areLike_40 : decode cX10_areLike 40 = .ok (.getfield 148, 3) := by decide +kernel
theorem dX10_areLike_43 : decode cX10_areLike 43 = .ok (.iload_n 3, 1) := by decide +kernel
theorem dX10_areLike_44 : decode cX10_areLike 44 = .ok (.baload, 1) := by decide +kernel
theorem dX10_areLike_45 : decode cX10_areLike 45 = .ok (.aload_n 0, 1) := by decide +kernel
theorem dX10_areLike_46 : decode cX10_areLike 46 = .ok (.getfield 148, 3) := by decide +kernel
theorem dX10_areLike_49 : decode cX10_areLike 49 = .ok (.iload 4, 2) := by decide +kernel
theorem dX10_areLike_51 : decode cX10_areLike 51 = .ok (.baload, 1) := by decide +kernel
theorem dX10_areLike_52 : decode cX10_areLike 52 = .ok (.if_icmp .ne 53, 3) := by decide +kernel
theorem dX10_areLike_55 : decode cX10_areLike 55 = .ok (.aload_n 0, 1) := by decide +kernel
theorem dX10_areLike_56 : decode cX10_areLike 56 = .ok (.getfield 124, 3) := by decide +kernel
theorem dX10_areLike_59 : decode cX10_areLike 59 = .ok (.iload_n 3, 1) := by decide +kernel
theorem dX10_areLike_60 : decode cX10_areLike 60 = .ok (.iaload, 1) := by decide +kernel
theorem dX10_areLike_61 : decode cX10_areLike 61 = .ok (.sipush 1440, 3) := by decide +kernel
theorem dX10_areLike_64 : decode cX10_areLike 64 = .ok (.idiv, 1) := by decide +kernel
theorem dX10_areLike_65 : decode cX10_areLike 65 = .ok (.bipush 7, 2) := by decide +kernel
theorem dX10_areLike_67 : decode cX10_areLike 67 = .ok (.irem, 1) := by decide +kernel
theorem dX10_areLike_68 : decode cX10_areLike 68 = .ok (.aload_n 0, 1) := by decide +kernel
theorem dX10_areLike_69 : decode cX10_areLike 69 = .ok (.getfield 124, 3) := by decide +kernel
theorem dX10_areLike_72 : decode cX10_areLike 72 = .ok (.iload 4, 2) := by decide +kernel
theorem dX10_areLike_74 : decode cX10_areLike 74 = .ok (.iaload, 1) := by decide +kernel
theorem dX10_areLike_75 : decode cX10_areLike 75 = .ok (.sipush 1440, 3) := by decide +kernel
theorem dX10_areLike_78 : decode cX10_areLike 78 = .ok (.idiv, 1) := by decide +kernel
theorem dX10_areLike_79 : decode cX10_areLike 79 = .ok (.bipush 7, 2) := by decide +kernel
theorem dX10_areLike_81 : decode cX10_areLike 81 = .ok (.irem, 1) := by decide +kernel
theorem dX10_areLike_82 : decode cX10_areLike 82 = .ok (.if_icmp .ne 23, 3) := by decide +kernel
theorem dX10_areLike_85 : decode cX10_areLike 85 = .ok (.aload_n 0, 1) := by decide +kernel
theorem dX10_areLike_86 : decode cX10_areLike 86 = .ok (.getfield 139, 3) := by decide +kernel
theorem dX10_areLike_89 : decode cX10_areLike 89 = .ok (.iload_n 3, 1) := by decide +kernel
theorem dX10_areLike_90 : decode cX10_areLike 90 = .ok (.iaload, 1) := by decide +kernel
theorem dX10_areLike_91 : decode cX10_areLike 91 = .ok (.aload_n 0, 1) := by decide +kernel
theorem dX10_areLike_92 : decode cX10_areLike 92 = .ok (.getfield 139, 3) := by decide +kernel
theorem dX10_areLike_95 : decode cX10_areLike 95 = .ok (.iload 4, 2) := by decide +kernel
theorem dX10_areLike_97 : decode cX10_areLike 97 = .ok (.iaload, 1) := by decide +kernel
theorem dX10_areLike_98 : decode cX10_areLike 98 = .ok (.if_icmp .ne 7, 3) := by decide +kernel
theorem dX10_areLike_101 : decode cX10_areLike 101 = .ok (.iconst 1, 1) := by decide +kernel
theorem dX10_areLike_102 : decode cX10_areLike 102 = .ok (.goto 4, 3) := by decide +kernel
theorem dX10_areLike_105 : decode cX10_areLike 105 = .ok (.iconst 0, 1) := by decide +kernel
theorem dX10_areLike_106 : decode cX10_areLike 106 = .ok (.ireturn, 1) := by decide +kernel
theorem dX10_judged_0 : decode cX10_judged 0 = .ok (.iload_n 1, 1) := by decide +kernel
theorem dX10_judged_1 : decode cX10_judged 1 = .ok (.ifCond .lt 20, 3) := by decide +kernel
theorem dX10_judged_4 : decode cX10_judged 4 = .ok (.iload_n 1, 1) := by decide +kernel
theorem dX10_judged_5 : decode cX10_judged 5 = .ok (.aload_n 0, 1) := by decide +kernel
theorem dX10_judged_6 : decode cX10_judged 6 = .ok (.getfield 392, 3) := by decide +kernel
theorem dX10_judged_9 : decode cX10_judged 9 = .ok (.if_icmp .ge 12, 3) := by decide +kernel
theorem dX10_judged_12 : decode cX10_judged 12 = .ok (.iload_n 2, 1) := by decide +kernel
theorem dX10_judged_13 : decode cX10_judged 13 = .ok (.iconst 0, 1) := by decide +kernel
theorem dX10_judged_14 : decode cX10_judged 14 = .ok (.iconst 5, 1) := by decide +kernel
theorem dX10_judged_15 : decode cX10_judged 15 = .ok (.invokestatic 208, 3) := by decide +kernel
theorem dX10_judged_18 : decode cX10_judged 18 = .ok (.ifCond .ne 6, 3) := by decide +kernel
theorem dX10_judged_21 : decode cX10_judged 21 = .ok (.bipush (-9), 2) := by decide +kernel
theorem dX10_judged_23 : decode cX10_judged 23 = .ok (.ireturn, 1) := by decide +kernel
theorem dX10_judged_24 : decode cX10_judged 24 = .ok (.iconst 0, 1) := by decide +kernel
theorem dX10_judged_25 : decode cX10_judged 25 = .ok (.istore_n 3, 1) := by decide +kernel
theorem dX10_judged_26 : decode cX10_judged 26 = .ok (.iconst (-1), 1) := by decide +kernel
theorem dX10_judged_27 : decode cX10_judged 27 = .ok (.istore 4, 2) := by decide +kernel
theorem dX10_judged_29 : decode cX10_judged 29 = .ok (.iconst 0, 1) := by decide +kernel
theorem dX10_judged_30 : decode cX10_judged 30 = .ok (.istore 5, 2) := by decide +kernel
theorem dX10_judged_32 : decode cX10_judged 32 = .ok (.iconst 0, 1) := by decide +kernel
theorem dX10_judged_33 : decode cX10_judged 33 = .ok (.istore 6, 2) := by decide +kernel
theorem dX10_judged_35 : decode cX10_judged 35 = .ok (.iload 6, 2) := by decide +kernel
theorem dX10_judged_37 : decode cX10_judged 37 = .ok (.iload_n 1, 1) := by decide +kernel
theorem dX10_judged_38 : decode cX10_judged 38 = .ok (.if_icmp .ge 45, 3) := by decide +kernel
theorem dX10_judged_41 : decode cX10_judged 41 = .ok (.aload_n 0, 1) := by decide +kernel
theorem dX10_judged_42 : decode cX10_judged 42 = .ok (.iload_n 1, 1) := by decide +kernel
theorem dX10_judged_43 : decode cX10_judged 43 = .ok (.iload 6, 2) := by decide +kernel
theorem dX10_judged_45 : decode cX10_judged 45 = .ok (.invokevirtual 395, 3) := by decide +kernel
theorem dX10_judged_48 : decode cX10_judged 48 = .ok (.ifCond .eq 29, 3) := by decide +kernel
theorem dX10_judged_51 : decode cX10_judged 51 = .ok (.iinc 3 1, 3) := by decide +kernel
theorem dX10_judged_54 : decode cX10_judged 54 = .ok (.iload 6, 2) := by decide +kernel
theorem dX10_judged_56 : decode cX10_judged 56 = .ok (.istore 4, 2) := by decide +kernel
theorem dX10_judged_58 : decode cX10_judged 58 = .ok (.iload 5, 2) := by decide +kernel
theorem dX10_judged_60 : decode cX10_judged 60 = .ok (.aload_n 0, 1) := by decide +kernel
theorem dX10_judged_61 : decode cX10_judged 61 = .ok (.iload 6, 2) := by decide +kernel
theorem dX10_judged_63 : decode cX10_judged 63 = .ok (.invokevirtual 398, 3) := by decide +kernel
theorem dX10_judged_66 : decode cX10_judged 66 = .ok (.ifCond .le 7, 3) := by decide +kernel
theorem dX10_judged_69 : decode cX10_judged 69 = .ok (.iconst 1, 1) := by decide +kernel
theorem dX10_judged_70 : decode cX10_judged 70 = .ok (.goto 4, 3) := by decide +kernel
theorem dX10_judged_73 : decode cX10_judged 73 = .ok (.iconst 0, 1) := by decide +kernel
theorem dX10_judged_74 : decode cX10_judged 74 = .ok (.iadd, 1) := by decide +kernel
theorem dX10_judged_75 : decode cX10_judged 75 = .ok (.istore 5, 2) := by decide +kernel
theorem dX10_judged_77 : decode cX10_judged 77 = .ok (.iinc 6 1, 3) := by decide +kernel
theorem dX10_judged_80 : decode cX10_judged 80 = .ok (.goto (-45), 3) := by decide +kernel
theorem dX10_judged_83 : decode cX10_judged 83 = .ok (.iload_n 2, 1) := by decide +kernel
theorem dX10_judged_84 : decode cX10_judged 84 = .ok (.tableswitch 61 0 4 #[36, 43, 50, 56, 58], 36) := by decide +kernel
theorem dX10_judged_120 : decode cX10_judged 120 = .ok (.aload_n 0, 1) := by decide +kernel
theorem dX10_judged_121 : decode cX10_judged 121 = .ok (.getfield 167, 3) := by decide +kernel
theorem dX10_judged_124 : decode cX10_judged 124 = .ok (.iload_n 1, 1) := by decide +kernel
theorem dX10_judged_125 : decode cX10_judged 125 = .ok (.iaload, 1) := by decide +kernel
theorem dX10_judged_126 : decode cX10_judged 126 = .ok (.ireturn, 1) := by decide +kernel
theorem dX10_judged_127 : decode cX10_judged 127 = .ok (.aload_n 0, 1) := by decide +kernel
theorem dX10_judged_128 : decode cX10_judged 128 = .ok (.getfield 170, 3) := by decide +kernel
theorem dX10_judged_131 : decode cX10_judged 131 = .ok (.iload_n 1, 1) := by decide +kernel
theorem dX10_judged_132 : decode cX10_judged 132 = .ok (.iaload, 1) := by decide +kernel
theorem dX10_judged_133 : decode cX10_judged 133 = .ok (.ireturn, 1) := by decide +kernel
theorem dX10_judged_134 : decode cX10_judged 134 = .ok (.aload_n 0, 1) := by decide +kernel
theorem dX10_judged_135 : decode cX10_judged 135 = .ok (.iload_n 1, 1) := by decide +kernel
theorem dX10_judged_136 : decode cX10_judged 136 = .ok (.invokevirtual 398, 3) := by decide +kernel
theorem dX10_judged_139 : decode cX10_judged 139 = .ok (.ireturn, 1) := by decide +kernel
theorem dX10_judged_140 : decode cX10_judged 140 = .ok (.iload_n 3, 1) := by decide +kernel
theorem dX10_judged_141 : decode cX10_judged 141 = .ok (.ireturn, 1) := by decide +kernel
theorem dX10_judged_142 : decode cX10_judged 142 = .ok (.iload 4, 2) := by decide +kernel
theorem dX10_judged_144 : decode cX10_judged 144 = .ok (.ireturn, 1) := by decide +kernel
theorem dX10_judged_145 : decode cX10_judged 145 = .ok (.iload 5, 2) := by decide +kernel
theorem dX10_judged_147 : decode cX10_judged 147 = .ok (.ireturn, 1) := by decide +kernel
theorem dX10_lost_0 : decode cX10_lost 0 = .ok (.iload_n 1, 1) := by decide +kernel
theorem dX10_lost_1 : decode cX10_lost 1 = .ok (.iconst 0, 1) := by decide +kernel
theorem dX10_lost_2 : decode cX10_lost 2 = .ok (.bipush 9, 2) := by decide +kernel
theorem dX10_lost_4 : decode cX10_lost 4 = .ok (.invokestatic 208, 3) := by decide +kernel
theorem dX10_lost_7 : decode cX10_lost 7 = .ok (.ifCond .eq 35, 3) := by decide +kernel
theorem dX10_lost_10 : decode cX10_lost 10 = .ok (.iload_n 2, 1) := by decide +kernel
theorem dX10_lost_11 : decode cX10_lost 11 = .ok (.iconst 0, 1) := by decide +kernel
theorem dX10_lost_12 : decode cX10_lost 12 = .ok (.sipush 14640, 3) := by decide +kernel
theorem dX10_lost_15 : decode cX10_lost 15 = .ok (.invokestatic 208, 3) := by decide +kernel
theorem dX10_lost_18 : decode cX10_lost 18 = .ok (.ifCond .eq 24, 3) := by decide +kernel
theorem dX10_lost_21 : decode cX10_lost 21 = .ok (.iload_n 3, 1) := by decide +kernel
theorem dX10_lost_22 : decode cX10_lost 22 = .ok (.invokestatic 220, 3) := by decide +kernel
theorem dX10_lost_25 : decode cX10_lost 25 = .ok (.ifCond .eq 17, 3) := by decide +kernel
theorem dX10_lost_28 : decode cX10_lost 28 = .ok (.iload 4, 2) := by decide +kernel
theorem dX10_lost_30 : decode cX10_lost 30 = .ok (.invokestatic 220, 3) := by decide +kernel
theorem dX10_lost_33 : decode cX10_lost 33 = .ok (.ifCond .eq 9, 3) := by decide +kernel
theorem dX10_lost_36 : decode cX10_lost 36 = .ok (.iload_n 3, 1) := by decide +kernel
theorem dX10_lost_37 : decode cX10_lost 37 = .ok (.iload 4, 2) := by decide +kernel
theorem dX10_lost_39 : decode cX10_lost 39 = .ok (.if_icmp .le 5, 3) := by decide +kernel
theorem dX10_lost_42 : decode cX10_lost 42 = .ok (.iconst (-1), 1) := by decide +kernel
theorem dX10_lost_43 : decode cX10_lost 43 = .ok (.ireturn, 1) := by decide +kernel
theorem dX10_lost_44 : decode cX10_lost 44 = .ok (.aload_n 0, 1) := by decide +kernel
theorem dX10_lost_45 : decode cX10_lost 45 = .ok (.getfield 401, 3) := by decide +kernel
theorem dX10_lost_48 : decode cX10_lost 48 = .ok (.bipush 60, 2) := by decide +kernel
theorem dX10_lost_50 : decode cX10_lost 50 = .ok (.if_icmp .ne 6, 3) := by decide +kernel
theorem dX10_lost_53 : decode cX10_lost 53 = .ok (.bipush (-2), 2) := by decide +kernel
theorem dX10_lost_55 : decode cX10_lost 55 = .ok (.ireturn, 1) := by decide +kernel
theorem dX10_lost_56 : decode cX10_lost 56 = .ok (.aload_n 0, 1) := by decide +kernel
theorem dX10_lost_57 : decode cX10_lost 57 = .ok (.getfield 173, 3) := by decide +kernel
theorem dX10_lost_60 : decode cX10_lost 60 = .ok (.aload_n 0, 1) := by decide +kernel
theorem dX10_lost_61 : decode cX10_lost 61 = .ok (.getfield 401, 3) := by decide +kernel
theorem dX10_lost_64 : decode cX10_lost 64 = .ok (.iload_n 1, 1) := by decide +kernel
theorem dX10_lost_65 : decode cX10_lost 65 = .ok (.iastore, 1) := by decide +kernel
theorem dX10_lost_66 : decode cX10_lost 66 = .ok (.aload_n 0, 1) := by decide +kernel
theorem dX10_lost_67 : decode cX10_lost 67 = .ok (.getfield 176, 3) := by decide +kernel
theorem dX10_lost_70 : decode cX10_lost 70 = .ok (.aload_n 0, 1) := by decide +kernel
theorem dX10_lost_71 : decode cX10_lost 71 = .ok (.getfield 401, 3) := by decide +kernel
theorem dX10_lost_74 : decode cX10_lost 74 = .ok (.iload_n 2, 1) := by decide +kernel
theorem dX10_lost_75 : decode cX10_lost 75 = .ok (.iastore, 1) := by decide +kernel
theorem dX10_lost_76 : decode cX10_lost 76 = .ok (.aload_n 0, 1) := by decide +kernel
theorem dX10_lost_77 : decode cX10_lost 77 = .ok (.getfield 179, 3) := by decide +kernel
theorem dX10_lost_80 : decode cX10_lost 80 = .ok (.aload_n 0, 1) := by decide +kernel
theorem dX10_lost_81 : decode cX10_lost 81 = .ok (.getfield 401, 3) := by decide +kernel
theorem dX10_lost_84 : decode cX10_lost 84 = .ok (.iload_n 3, 1) := by decide +kernel
theorem dX10_lost_85 : decode cX10_lost 85 = .ok (.iastore, 1) := by decide +kernel
theorem dX10_lost_86 : decode cX10_lost 86 = .ok (.aload_n 0, 1) := by decide +kernel
theorem dX10_lost_87 : decode cX10_lost 87 = .ok (.getfield 182, 3) := by decide +kernel
theorem dX10_lost_90 : decode cX10_lost 90 = .ok (.aload_n 0, 1) := by decide +kernel
theorem dX10_lost_91 : decode cX10_lost 91 = .ok (.getfield 401, 3) := by decide +kernel
theorem dX10_lost_94 : decode cX10_lost 94 = .ok (.iload 4, 2) := by decide +kernel
theorem dX10_lost_96 : decode cX10_lost 96 = .ok (.iastore, 1) := by decide +kernel
theorem dX10_lost_97 : decode cX10_lost 97 = .ok (.aload_n 0, 1) := by decide +kernel
theorem dX10_lost_98 : decode cX10_lost 98 = .ok (.dup, 1) := by decide +kernel
theorem dX10_lost_99 : decode cX10_lost 99 = .ok (.getfield 401, 3) := by decide +kernel
theorem dX10_lost_102 : decode cX10_lost 102 = .ok (.iconst 1, 1) := by decide +kernel
theorem dX10_lost_103 : decode cX10_lost 103 = .ok (.iadd, 1) := by decide +kernel
theorem dX10_lost_104 : decode cX10_lost 104 = .ok (.putfield 401, 3) := by decide +kernel
theorem dX10_lost_107 : decode cX10_lost 107 = .ok (.aload_n 0, 1) := by decide +kernel
theorem dX10_lost_108 : decode cX10_lost 108 = .ok (.getfield 401, 3) := by decide +kernel
theorem dX10_lost_111 : decode cX10_lost 111 = .ok (.iconst 1, 1) := by decide +kernel
theorem dX10_lost_112 : decode cX10_lost 112 = .ok (.isub, 1) := by decide +kernel
theorem dX10_lost_113 : decode cX10_lost 113 = .ok (.ireturn, 1) := by decide +kernel
theorem dX10_found_0 : decode cX10_found 0 = .ok (.iload_n 1, 1) := by decide +kernel
theorem dX10_found_1 : decode cX10_found 1 = .ok (.iconst 0, 1) := by decide +kernel
theorem dX10_found_2 : decode cX10_found 2 = .ok (.bipush 9, 2) := by decide +kernel
theorem dX10_found_4 : decode cX10_found 4 = .ok (.invokestatic 208, 3) := by decide +kernel
theorem dX10_found_7 : decode cX10_found 7 = .ok (.ifCond .eq 11, 3) := by decide +kernel
theorem dX10_found_10 : decode cX10_found 10 = .ok (.aload_n 0, 1) := by decide +kernel
theorem dX10_found_11 : decode cX10_found 11 = .ok (.iload_n 2, 1) := by decide +kernel
theorem dX10_found_12 : decode cX10_found 12 = .ok (.invokevirtual 255, 3) := by decide +kernel
theorem dX10_found_15 : decode cX10_found 15 = .ok (.ifCond .ne 5, 3) := by decide +kernel
theorem dX10_found_18 : decode cX10_found 18 = .ok (.iconst (-1), 1) := by decide +kernel
theorem dX10_found_19 : decode cX10_found 19 = .ok (.ireturn, 1) := by decide +kernel
theorem dX10_found_20 : decode cX10_found 20 = .ok (.aload_n 0, 1) := by decide +kernel
theorem dX10_found_21 : decode cX10_found 21 = .ok (.getfield 404, 3) := by decide +kernel
theorem dX10_found_24 : decode cX10_found 24 = .ok (.bipush 60, 2) := by decide +kernel
theorem dX10_found_26 : decode cX10_found 26 = .ok (.if_icmp .ne 6, 3) := by decide +kernel
theorem dX10_found_29 : decode cX10_found 29 = .ok (.bipush (-2), 2) := by decide +kernel
theorem dX10_found_31 : decode cX10_found 31 = .ok (.ireturn, 1) := by decide +kernel
theorem dX10_found_32 : decode cX10_found 32 = .ok (.aload_n 0, 1) := by decide +kernel
theorem dX10_found_33 : decode cX10_found 33 = .ok (.getfield 185, 3) := by decide +kernel
theorem dX10_found_36 : decode cX10_found 36 = .ok (.aload_n 0, 1) := by decide +kernel
theorem dX10_found_37 : decode cX10_found 37 = .ok (.getfield 404, 3) := by decide +kernel
theorem dX10_found_40 : decode cX10_found 40 = .ok (.iload_n 1, 1) := by decide +kernel
theorem dX10_found_41 : decode cX10_found 41 = .ok (.iastore, 1) := by decide +kernel
theorem dX10_found_42 : decode cX10_found 42 = .ok (.aload_n 0, 1) := by decide +kernel
theorem dX10_found_43 : decode cX10_found 43 = .ok (.getfield 188, 3) := by decide +kernel
theorem dX10_found_46 : decode cX10_found 46 = .ok (.aload_n 0, 1) := by decide +kernel
theorem dX10_found_47 : decode cX10_found 47 = .ok (.getfield 404, 3) := by decide +kernel
theorem dX10_found_50 : decode cX10_found 50 = .ok (.iload_n 2, 1) := by decide +kernel
theorem dX10_found_51 : decode cX10_found 51 = .ok (.iastore, 1) := by decide +kernel
theorem dX10_found_52 : decode cX10_found 52 = .ok (.aload_n 0, 1) := by decide +kernel
theorem dX10_found_53 : decode cX10_found 53 = .ok (.getfield 191, 3) := by decide +kernel
theorem dX10_found_56 : decode cX10_found 56 = .ok (.aload_n 0, 1) := by decide +kernel
theorem dX10_found_57 : decode cX10_found 57 = .ok (.getfield 404, 3) := by decide +kernel
theorem dX10_found_60 : decode cX10_found 60 = .ok (.aload_n 0, 1) := by decide +kernel
theorem dX10_found_61 : decode cX10_found 61 = .ok (.getfield 194, 3) := by decide +kernel
theorem dX10_found_64 : decode cX10_found 64 = .ok (.iastore, 1) := by decide +kernel
theorem dX10_found_65 : decode cX10_found 65 = .ok (.aload_n 0, 1) := by decide +kernel
theorem dX10_found_66 : decode cX10_found 66 = .ok (.dup, 1) := by decide +kernel
theorem dX10_found_67 : decode cX10_found 67 = .ok (.getfield 404, 3) := by decide +kernel
theorem dX10_found_70 : decode cX10_found 70 = .ok (.iconst 1, 1) := by decide +kernel
theorem dX10_found_71 : decode cX10_found 71 = .ok (.iadd, 1) := by decide +kernel
theorem dX10_found_72 : decode cX10_found 72 = .ok (.putfield 404, 3) := by decide +kernel
theorem dX10_found_75 : decode cX10_found 75 = .ok (.aload_n 0, 1) := by decide +kernel
theorem dX10_found_76 : decode cX10_found 76 = .ok (.getfield 404, 3) := by decide +kernel
theorem dX10_found_79 : decode cX10_found 79 = .ok (.iconst 1, 1) := by decide +kernel
theorem dX10_found_80 : decode cX10_found 80 = .ok (.isub, 1) := by decide +kernel
theorem dX10_found_81 : decode cX10_found 81 = .ok (.ireturn, 1) := by decide +kernel
theorem dX10_fitsPlate_0 : decode cX10_fitsPlate 0 = .ok (.iconst 1, 1) := by decide +kernel
theorem dX10_fitsPlate_1 : decode cX10_fitsPlate 1 = .ok (.istore_n 3, 1) := by decide +kernel
theorem dX10_fitsPlate_2 : decode cX10_fitsPlate 2 = .ok (.iload_n 1, 1) := by decide +kernel
theorem dX10_fitsPlate_3 : decode cX10_fitsPlate 3 = .ok (.istore 4, 2) := by decide +kernel
theorem dX10_fitsPlate_5 : decode cX10_fitsPlate 5 = .ok (.iload_n 2, 1) := by decide +kernel
theorem dX10_fitsPlate_6 : decode cX10_fitsPlate 6 = .ok (.istore 5, 2) := by decide +kernel
theorem dX10_fitsPlate_8 : decode cX10_fitsPlate 8 = .ok (.iconst 0, 1) := by decide +kernel
theorem dX10_fitsPlate_9 : decode cX10_fitsPlate 9 = .ok (.istore 6, 2) := by decide +kernel
theorem dX10_fitsPlate_11 : decode cX10_fitsPlate 11 = .ok (.iload 6, 2) := by decide +kernel
theorem dX10_fitsPlate_13 : decode cX10_fitsPlate 13 = .ok (.iconst 4, 1) := by decide +kernel
theorem dX10_fitsPlate_14 : decode cX10_fitsPlate 14 = .ok (.if_icmp .ge 56, 3) := by decide +kernel
theorem dX10_fitsPlate_17 : decode cX10_fitsPlate 17 = .ok (.iload_n 3, 1) := by decide +kernel
theorem dX10_fitsPlate_18 : decode cX10_fitsPlate 18 = .ok (.ifCond .eq 30, 3) := by decide +kernel
theorem dX10_fitsPlate_21 : decode cX10_fitsPlate 21 = .ok (.iload 4, 2) := by decide +kernel
theorem dX10_fitsPlate_23 : decode cX10_fitsPlate 23 = .ok (.bipush 11, 2) := by decide +kernel
theorem dX10_fitsPlate_25 : decode cX10_fitsPlate 25 = .ok (.irem, 1) := by decide +kernel
theorem dX10_fitsPlate_26 : decode cX10_fitsPlate 26 = .ok (.bipush 10, 2) := by decide +kernel
theorem dX10_fitsPlate_28 : decode cX10_fitsPlate 28 = .ok (.if_icmp .eq 16, 3) := by decide +kernel
theorem dX10_fitsPlate_31 : decode cX10_fitsPlate 31 = .ok (.iload 4, 2) := by decide +kernel
theorem dX10_fitsPlate_33 : decode cX10_fitsPlate 33 = .ok (.bipush 11, 2) := by decide +kernel
theorem dX10_fitsPlate_35 : decode cX10_fitsPlate 35 = .ok (.irem, 1) := by decide +kernel
theorem dX10_fitsPlate_36 : decode cX10_fitsPlate 36 = .ok (.iload 5, 2) := by decide +kernel
theorem dX10_fitsPlate_38 : decode cX10_fitsPlate 38 = .ok (.bipush 10, 2) := by decide +kernel
theorem dX10_fitsPlate_40 : decode cX10_fitsPlate 40 = .ok (.irem, 1) := by decide +kernel
theorem dX10_fitsPlate_41 : decode cX10_fitsPlate 41 = .ok (.if_icmp .ne 7, 3) := by decide +kernel
theorem dX10_fitsPlate_44 : decode cX10_fitsPlate 44 = .ok (.iconst 1, 1) := by decide +kernel
theorem dX10_fitsPlate_45 : decode cX10_fitsPlate 45 = .ok (.goto 4, 3) := by decide +kernel
theorem dX10_fitsPlate_48 : decode cX10_fitsPlate 48 = .ok (.iconst 0, 1) := by decide +kernel
theorem dX10_fitsPlate_49 : decode cX10_fitsPlate 49 = .ok (.istore_n 3, 1) := by decide +kernel
theorem dX10_fitsPlate_50 : decode cX10_fitsPlate 50 = .ok (.iload 4, 2) := by decide +kernel
theorem dX10_fitsPlate_52 : decode cX10_fitsPlate 52 = .ok (.bipush 11, 2) := by decide +kernel
theorem dX10_fitsPlate_54 : decode cX10_fitsPlate 54 = .ok (.idiv, 1) := by decide +kernel
theorem dX10_fitsPlate_55 : decode cX10_fitsPlate 55 = .ok (.istore 4, 2) := by decide +kernel
theorem dX10_fitsPlate_57 : decode cX10_fitsPlate 57 = .ok (.iload 5, 2) := by decide +kernel
theorem dX10_fitsPlate_59 : decode cX10_fitsPlate 59 = .ok (.bipush 10, 2) := by decide +kernel
theorem dX10_fitsPlate_61 : decode cX10_fitsPlate 61 = .ok (.idiv, 1) := by decide +kernel
theorem dX10_fitsPlate_62 : decode cX10_fitsPlate 62 = .ok (.istore 5, 2) := by decide +kernel
theorem dX10_fitsPlate_64 : decode cX10_fitsPlate 64 = .ok (.iinc 6 1, 3) := by decide +kernel
theorem dX10_fitsPlate_67 : decode cX10_fitsPlate 67 = .ok (.goto (-56), 3) := by decide +kernel
theorem dX10_fitsPlate_70 : decode cX10_fitsPlate 70 = .ok (.iload_n 3, 1) := by decide +kernel
theorem dX10_fitsPlate_71 : decode cX10_fitsPlate 71 = .ok (.ireturn, 1) := by decide +kernel
theorem dX10_fit_0 : decode cX10_fit 0 = .ok (.aload_n 0, 1) := by decide +kernel
theorem dX10_fit_1 : decode cX10_fit 1 = .ok (.getfield 188, 3) := by decide +kernel
theorem dX10_fit_4 : decode cX10_fit 4 = .ok (.iload_n 2, 1) := by decide +kernel
theorem dX10_fit_5 : decode cX10_fit 5 = .ok (.iaload, 1) := by decide +kernel
theorem dX10_fit_6 : decode cX10_fit 6 = .ok (.istore_n 3, 1) := by decide +kernel
theorem dX10_fit_7 : decode cX10_fit 7 = .ok (.aload_n 0, 1) := by decide +kernel
theorem dX10_fit_8 : decode cX10_fit 8 = .ok (.getfield 173, 3) := by decide +kernel
theorem dX10_fit_11 : decode cX10_fit 11 = .ok (.iload_n 1, 1) := by decide +kernel
theorem dX10_fit_12 : decode cX10_fit 12 = .ok (.iaload, 1) := by decide +kernel
theorem dX10_fit_13 : decode cX10_fit 13 = .ok (.aload_n 0, 1) := by decide +kernel
theorem dX10_fit_14 : decode cX10_fit 14 = .ok (.getfield 185, 3) := by decide +kernel
theorem dX10_fit_17 : decode cX10_fit 17 = .ok (.iload_n 2, 1) := by decide +kernel
theorem dX10_fit_18 : decode cX10_fit 18 = .ok (.iaload, 1) := by decide +kernel
theorem dX10_fit_19 : decode cX10_fit 19 = .ok (.if_icmp .ne 37, 3) := by decide +kernel
theorem dX10_fit_22 : decode cX10_fit 22 = .ok (.aload_n 0, 1) := by decide +kernel
theorem dX10_fit_23 : decode cX10_fit 23 = .ok (.getfield 191, 3) := by decide +kernel
theorem dX10_fit_26 : decode cX10_fit 26 = .ok (.iload_n 2, 1) := by decide +kernel
theorem dX10_fit_27 : decode cX10_fit 27 = .ok (.iaload, 1) := by decide +kernel
theorem dX10_fit_28 : decode cX10_fit 28 = .ok (.aload_n 0, 1) := by decide +kernel
theorem dX10_fit_29 : decode cX10_fit 29 = .ok (.getfield 179, 3) := by decide +kernel
theorem dX10_fit_32 : decode cX10_fit 32 = .ok (.iload_n 1, 1) := by decide +kernel
theorem dX10_fit_33 : decode cX10_fit 33 = .ok (.iaload, 1) := by decide +kernel
theorem dX10_fit_34 : decode cX10_fit 34 = .ok (.if_icmp .lt 22, 3) := by decide +kernel
theorem dX10_fit_37 : decode cX10_fit 37 = .ok (.aload_n 0, 1) := by decide +kernel
theorem dX10_fit_38 : decode cX10_fit 38 = .ok (.aload_n 0, 1) := by decide +kernel
theorem dX10_fit_39 : decode cX10_fit 39 = .ok (.getfield 176, 3) := by decide +kernel
theorem dX10_fit_42 : decode cX10_fit 42 = .ok (.iload_n 1, 1) := by decide +kernel
theorem dX10_fit_43 : decode cX10_fit 43 = .ok (.iaload, 1) := by decide +kernel
theorem dX10_fit_44 : decode cX10_fit 44 = .ok (.aload_n 0, 1) := by decide +kernel
theorem dX10_fit_45 : decode cX10_fit 45 = .ok (.getfield 49, 3) := by decide +kernel
theorem dX10_fit_48 : decode cX10_fit 48 = .ok (.iload_n 3, 1) := by decide +kernel
theorem dX10_fit_49 : decode cX10_fit 49 = .ok (.iaload, 1) := by decide +kernel
theorem dX10_fit_50 : decode cX10_fit 50 = .ok (.invokevirtual 407, 3) := by decide +kernel
theorem dX10_fit_53 : decode cX10_fit 53 = .ok (.ifCond .ne 5, 3) := by decide +kernel
theorem dX10_fit_56 : decode cX10_fit 56 = .ok (.iconst 0, 1) := by decide +kernel
theorem dX10_fit_57 : decode cX10_fit 57 = .ok (.ireturn, 1) := by decide +kernel
theorem dX10_fit_58 : decode cX10_fit 58 = .ok (.iconst 0, 1) := by decide +kernel
theorem dX10_fit_59 : decode cX10_fit 59 = .ok (.istore 4, 2) := by decide +kernel
theorem dX10_fit_61 : decode cX10_fit 61 = .ok (.iconst 0, 1) := by decide +kernel
theorem dX10_fit_62 : decode cX10_fit 62 = .ok (.istore 5, 2) := by decide +kernel
theorem dX10_fit_64 : decode cX10_fit 64 = .ok (.iload 5, 2) := by decide +kernel
theorem dX10_fit_66 : decode cX10_fit 66 = .ok (.aload_n 0, 1) := by decide +kernel
theorem dX10_fit_67 : decode cX10_fit 67 = .ok (.getfield 287, 3) := by decide +kernel
theorem dX10_fit_70 : decode cX10_fit 70 = .ok (.if_icmp .ge 64, 3) := by decide +kernel
theorem dX10_fit_73 : decode cX10_fit 73 = .ok (.iload 4, 2) := by decide +kernel
theorem dX10_fit_75 : decode cX10_fit 75 = .ok (.ifCond .ne 46, 3) := by decide +kernel
theorem dX10_fit_78 : decode cX10_fit 78 = .ok (.aload_n 0, 1) := by decide +kernel
theorem dX10_fit_79 : decode cX10_fit 79 = .ok (.getfield 115, 3) := by decide +kernel
theorem dX10_fit_82 : decode cX10_fit 82 = .ok (.iload 5, 2) := by decide +kernel
theorem dX10_fit_84 : decode cX10_fit 84 = .ok (.iaload, 1) := by decide +kernel
theorem dX10_fit_85 : decode cX10_fit 85 = .ok (.iload_n 3, 1) := by decide +kernel
theorem dX10_fit_86 : decode cX10_fit 86 = .ok (.if_icmp .ne 39, 3) := by decide +kernel
theorem dX10_fit_89 : decode cX10_fit 89 = .ok (.aload_n 0, 1) := by decide +kernel
theorem dX10_fit_90 : decode cX10_fit 90 = .ok (.getfield 124, 3) := by decide +kernel
theorem dX10_fit_93 : decode cX10_fit 93 = .ok (.iload 5, 2) := by decide +kernel
theorem dX10_fit_95 : decode cX10_fit 95 = .ok (.iaload, 1) := by decide +kernel
theorem dX10_fit_96 : decode cX10_fit 96 = .ok (.aload_n 0, 1) := by decide +kernel
theorem dX10_fit_97 : decode cX10_fit 97 = .ok (.getfield 182, 3) := by decide +kernel
theorem dX10_fit_100 : decode cX10_fit 100 = .ok (.iload_n 1, 1) := by decide +kernel
theorem dX10_fit_101 : decode cX10_fit 101 = .ok (.iaload, 1) := by decide +kernel
theorem dX10_fit_102 : decode cX10_fit 102 = .ok (.if_icmp .gt 23, 3) := by decide +kernel
theorem dX10_fit_105 : decode cX10_fit 105 = .ok (.aload_n 0, 1) := by decide +kernel
theorem dX10_fit_106 : decode cX10_fit 106 = .ok (.getfield 130, 3) := by decide +kernel
theorem dX10_fit_109 : decode cX10_fit 109 = .ok (.iload 5, 2) := by decide +kernel
theorem dX10_fit_111 : decode cX10_fit 111 = .ok (.iaload, 1) := by decide +kernel
theorem dX10_fit_112 : decode cX10_fit 112 = .ok (.aload_n 0, 1) := by decide +kernel
theorem dX10_fit_113 : decode cX10_fit 113 = .ok (.getfield 179, 3) := by decide +kernel
theorem dX10_fit_116 : decode cX10_fit 116 = .ok (.iload_n 1, 1) := by decide +kernel
theorem dX10_fit_117 : decode cX10_fit 117 = .ok (.iaload, 1) := by decide +kernel
theorem dX10_fit_118 : decode cX10_fit 118 = .ok (.if_icmp .le 7, 3) := by decide +kernel
theorem dX10_fit_121 : decode cX10_fit 121 = .ok (.iconst 1, 1) := by decide +kernel
theorem dX10_fit_122 : decode cX10_fit 122 = .ok (.goto 4, 3) := by decide +kernel
theorem dX10_fit_125 : decode cX10_fit 125 = .ok (.iconst 0, 1) := by decide +kernel
theorem dX10_fit_126 : decode cX10_fit 126 = .ok (.istore 4, 2) := by decide +kernel
theorem dX10_fit_128 : decode cX10_fit 128 = .ok (.iinc 5 1, 3) := by decide +kernel
theorem dX10_fit_131 : decode cX10_fit 131 = .ok (.goto (-67), 3) := by decide +kernel
theorem dX10_fit_134 : decode cX10_fit 134 = .ok (.iload 4, 2) := by decide +kernel
theorem dX10_fit_136 : decode cX10_fit 136 = .ok (.ireturn, 1) := by decide +kernel
theorem dX10_fits_0 : decode cX10_fits 0 = .ok (.iload_n 1, 1) := by decide +kernel
theorem dX10_fits_1 : decode cX10_fits 1 = .ok (.ifCond .lt 11, 3) := by decide +kernel
theorem dX10_fits_4 : decode cX10_fits 4 = .ok (.iload_n 1, 1) := by decide +kernel
theorem dX10_fits_5 : decode cX10_fits 5 = .ok (.aload_n 0, 1) := by decide +kernel
theorem dX10_fits_6 : decode cX10_fits 6 = .ok (.getfield 401, 3) := by decide +kernel
theorem dX10_fits_9 : decode cX10_fits 9 = .ok (.if_icmp .lt 5, 3) := by decide +kernel
theorem dX10_fits_12 : decode cX10_fits 12 = .ok (.iconst (-1), 1) := by decide +kernel
theorem dX10_fits_13 : decode cX10_fits 13 = .ok (.ireturn, 1) := by decide +kernel
theorem dX10_fits_14 : decode cX10_fits 14 = .ok (.iconst 0, 1) := by decide +kernel
theorem dX10_fits_15 : decode cX10_fits 15 = .ok (.istore_n 2, 1) := by decide +kernel
theorem dX10_fits_16 : decode cX10_fits 16 = .ok (.iconst 0, 1) := by decide +kernel
theorem dX10_fits_17 : decode cX10_fits 17 = .ok (.istore_n 3, 1) := by decide +kernel
theorem dX10_fits_18 : decode cX10_fits 18 = .ok (.iload_n 3, 1) := by decide +kernel
theorem dX10_fits_19 : decode cX10_fits 19 = .ok (.aload_n 0, 1) := by decide +kernel
theorem dX10_fits_20 : decode cX10_fits 20 = .ok (.getfield 404, 3) := by decide +kernel
theorem dX10_fits_23 : decode cX10_fits 23 = .ok (.if_icmp .ge 26, 3) := by decide +kernel
theorem dX10_fits_26 : decode cX10_fits 26 = .ok (.iload_n 2, 1) := by decide +kernel
theorem dX10_fits_27 : decode cX10_fits 27 = .ok (.aload_n 0, 1) := by decide +kernel
theorem dX10_fits_28 : decode cX10_fits 28 = .ok (.iload_n 1, 1) := by decide +kernel
theorem dX10_fits_29 : decode cX10_fits 29 = .ok (.iload_n 3, 1) := by decide +kernel
theorem dX10_fits_30 : decode cX10_fits 30 = .ok (.invokevirtual 410, 3) := by decide +kernel
theorem dX10_fits_33 : decode cX10_fits 33 = .ok (.ifCond .eq 7, 3) := by decide +kernel
theorem dX10_fits_36 : decode cX10_fits 36 = .ok (.iconst 1, 1) := by decide +kernel
theorem dX10_fits_37 : decode cX10_fits 37 = .ok (.goto 4, 3) := by decide +kernel
theorem dX10_fits_40 : decode cX10_fits 40 = .ok (.iconst 0, 1) := by decide +kernel
theorem dX10_fits_41 : decode cX10_fits 41 = .ok (.iadd, 1) := by decide +kernel
theorem dX10_fits_42 : decode cX10_fits 42 = .ok (.istore_n 2, 1) := by decide +kernel
theorem dX10_fits_43 : decode cX10_fits 43 = .ok (.iinc 3 1, 3) := by decide +kernel
theorem dX10_fits_46 : decode cX10_fits 46 = .ok (.goto (-28), 3) := by decide +kernel
theorem dX10_fits_49 : decode cX10_fits 49 = .ok (.iload_n 2, 1) := by decide +kernel
theorem dX10_fits_50 : decode cX10_fits 50 = .ok (.ireturn, 1) := by decide +kernel
theorem dX10_joined_0 : decode cX10_joined 0 = .ok (.iload_n 1, 1) := by decide +kernel
theorem dX10_joined_1 : decode cX10_joined 1 = .ok (.ifCond .lt 11, 3) := by decide +kernel
theorem dX10_joined_4 : decode cX10_joined 4 = .ok (.iload_n 1, 1) := by decide +kernel
theorem dX10_joined_5 : decode cX10_joined 5 = .ok (.aload_n 0, 1) := by decide +kernel
theorem dX10_joined_6 : decode cX10_joined 6 = .ok (.getfield 401, 3) := by decide +kernel
theorem dX10_joined_9 : decode cX10_joined 9 = .ok (.if_icmp .lt 5, 3) := by decide +kernel
theorem dX10_joined_12 : decode cX10_joined 12 = .ok (.iconst (-1), 1) := by decide +kernel
theorem dX10_joined_13 : decode cX10_joined 13 = .ok (.ireturn, 1) := by decide +kernel
theorem dX10_joined_14 : decode cX10_joined 14 = .ok (.aload_n 0, 1) := by decide +kernel
theorem dX10_joined_15 : decode cX10_joined 15 = .ok (.iload_n 1, 1) := by decide +kernel
theorem dX10_joined_16 : decode cX10_joined 16 = .ok (.invokevirtual 413, 3) := by decide +kernel
theorem dX10_joined_19 : decode cX10_joined 19 = .ok (.iconst 1, 1) := by decide +kernel
theorem dX10_joined_20 : decode cX10_joined 20 = .ok (.if_icmp .eq 6, 3) := by decide +kernel
theorem dX10_joined_23 : decode cX10_joined 23 = .ok (.bipush (-9), 2) := by decide +kernel
theorem dX10_joined_25 : decode cX10_joined 25 = .ok (.ireturn, 1) := by decide +kernel
theorem dX10_joined_26 : decode cX10_joined 26 = .ok (.iconst 0, 1) := by decide +kernel
theorem dX10_joined_27 : decode cX10_joined 27 = .ok (.istore_n 2, 1) := by decide +kernel
theorem dX10_joined_28 : decode cX10_joined 28 = .ok (.aload_n 0, 1) := by decide +kernel
theorem dX10_joined_29 : decode cX10_joined 29 = .ok (.iload_n 1, 1) := by decide +kernel
theorem dX10_joined_30 : decode cX10_joined 30 = .ok (.iload_n 2, 1) := by decide +kernel
theorem dX10_joined_31 : decode cX10_joined 31 = .ok (.invokevirtual 410, 3) := by decide +kernel
theorem dX10_joined_34 : decode cX10_joined 34 = .ok (.ifCond .ne 9, 3) := by decide +kernel
theorem dX10_joined_37 : decode cX10_joined 37 = .ok (.iinc 2 1, 3) := by decide +kernel
theorem dX10_joined_40 : decode cX10_joined 40 = .ok (.goto (-12), 3) := by decide +kernel
theorem dX10_joined_43 : decode cX10_joined 43 = .ok (.iconst 0, 1) := by decide +kernel
theorem dX10_joined_44 : decode cX10_joined 44 = .ok (.istore_n 3, 1) := by decide +kernel
theorem dX10_joined_45 : decode cX10_joined 45 = .ok (.iconst 0, 1) := by decide +kernel
theorem dX10_joined_46 : decode cX10_joined 46 = .ok (.istore 4, 2) := by decide +kernel
theorem dX10_joined_48 : decode cX10_joined 48 = .ok (.iload 4, 2) := by decide +kernel
theorem dX10_joined_50 : decode cX10_joined 50 = .ok (.aload_n 0, 1) := by decide +kernel
theorem dX10_joined_51 : decode cX10_joined 51 = .ok (.getfield 401, 3) := by decide +kernel
theorem dX10_joined_54 : decode cX10_joined 54 = .ok (.if_icmp .ge 27, 3) := by decide +kernel
theorem dX10_joined_57 : decode cX10_joined 57 = .ok (.iload_n 3, 1) := by decide +kernel
theorem dX10_joined_58 : decode cX10_joined 58 = .ok (.aload_n 0, 1) := by decide +kernel
theorem dX10_joined_59 : decode cX10_joined 59 = .ok (.iload 4, 2) := by decide +kernel
theorem dX10_joined_61 : decode cX10_joined 61 = .ok (.iload_n 2, 1) := by decide +kernel
theorem dX10_joined_62 : decode cX10_joined 62 = .ok (.invokevirtual 410, 3) := by decide +kernel
theorem dX10_joined_65 : decode cX10_joined 65 = .ok (.ifCond .eq 7, 3) := by decide +kernel
theorem dX10_joined_68 : decode cX10_joined 68 = .ok (.iconst 1, 1) := by decide +kernel
theorem dX10_joined_69 : decode cX10_joined 69 = .ok (.goto 4, 3) := by decide +kernel
theorem dX10_joined_72 : decode cX10_joined 72 = .ok (.iconst 0, 1) := by decide +kernel
theorem dX10_joined_73 : decode cX10_joined 73 = .ok (.iadd, 1) := by decide +kernel
theorem dX10_joined_74 : decode cX10_joined 74 = .ok (.istore_n 3, 1) := by decide +kernel
theorem dX10_joined_75 : decode cX10_joined 75 = .ok (.iinc 4 1, 3) := by decide +kernel
theorem dX10_joined_78 : decode cX10_joined 78 = .ok (.goto (-30), 3) := by decide +kernel
theorem dX10_joined_81 : decode cX10_joined 81 = .ok (.iload_n 3, 1) := by decide +kernel
theorem dX10_joined_82 : decode cX10_joined 82 = .ok (.iconst 1, 1) := by decide +kernel
theorem dX10_joined_83 : decode cX10_joined 83 = .ok (.if_icmp .ne 7, 3) := by decide +kernel
theorem dX10_joined_86 : decode cX10_joined 86 = .ok (.iload_n 2, 1) := by decide +kernel
theorem dX10_joined_87 : decode cX10_joined 87 = .ok (.goto 5, 3) := by decide +kernel
theorem dX10_joined_90 : decode cX10_joined 90 = .ok (.bipush (-9), 2) := by decide +kernel
theorem dX10_joined_92 : decode cX10_joined 92 = .ok (.ireturn, 1) := by decide +kernel
theorem dX10_isFareLaw_0 : decode cX10_isFareLaw 0 = .ok (.iload_n 1, 1) := by decide +kernel
theorem dX10_isFareLaw_1 : decode cX10_isFareLaw 1 = .ok (.iconst (-1), 1) := by decide +kernel
theorem dX10_isFareLaw_2 : decode cX10_isFareLaw 2 = .ok (.if_icmp .eq 25, 3) := by decide +kernel
theorem dX10_isFareLaw_5 : decode cX10_isFareLaw 5 = .ok (.iload_n 1, 1) := by decide +kernel
theorem dX10_isFareLaw_6 : decode cX10_isFareLaw 6 = .ok (.ifCond .lt 25, 3) := by decide +kernel
theorem dX10_isFareLaw_9 : decode cX10_isFareLaw 9 = .ok (.iload_n 1, 1) := by decide +kernel
theorem dX10_isFareLaw_10 : decode cX10_isFareLaw 10 = .ok (.aload_n 0, 1) := by decide +kernel
theorem dX10_isFareLaw_11 : decode cX10_isFareLaw 11 = .ok (.getfield 339, 3) := by decide +kernel
theorem dX10_isFareLaw_14 : decode cX10_isFareLaw 14 = .ok (.if_icmp .ge 17, 3) := by decide +kernel
theorem dX10_isFareLaw_17 : decode cX10_isFareLaw 17 = .ok (.aload_n 0, 1) := by decide +kernel
theorem dX10_isFareLaw_18 : decode cX10_isFareLaw 18 = .ok (.getfield 103, 3) := by decide +kernel
theorem dX10_isFareLaw_21 : decode cX10_isFareLaw 21 = .ok (.iload_n 1, 1) := by decide +kernel
theorem dX10_isFareLaw_22 : decode cX10_isFareLaw 22 = .ok (.iaload, 1) := by decide +kernel
theorem dX10_isFareLaw_23 : decode cX10_isFareLaw 23 = .ok (.iload_n 2, 1) := by decide +kernel
theorem dX10_isFareLaw_24 : decode cX10_isFareLaw 24 = .ok (.if_icmp .ne 7, 3) := by decide +kernel
theorem dX10_isFareLaw_27 : decode cX10_isFareLaw 27 = .ok (.iconst 1, 1) := by decide +kernel
theorem dX10_isFareLaw_28 : decode cX10_isFareLaw 28 = .ok (.goto 4, 3) := by decide +kernel
theorem dX10_isFareLaw_31 : decode cX10_isFareLaw 31 = .ok (.iconst 0, 1) := by decide +kernel
theorem dX10_isFareLaw_32 : decode cX10_isFareLaw 32 = .ok (.ireturn, 1) := by decide +kernel
theorem dX10_tried_0 : decode cX10_tried 0 = .ok (.aload_n 0, 1) := by decide +kernel
theorem dX10_tried_1 : decode cX10_tried 1 = .ok (.iload_n 1, 1) := by decide +kernel
theorem dX10_tried_2 : decode cX10_tried 2 = .ok (.iconst 0, 1) := by decide +kernel
theorem dX10_tried_3 : decode cX10_tried 3 = .ok (.invokevirtual 416, 3) := by decide +kernel
theorem dX10_tried_6 : decode cX10_tried 6 = .ok (.ifCond .eq 40, 3) := by decide +kernel
theorem dX10_tried_9 : decode cX10_tried 9 = .ok (.aload_n 0, 1) := by decide +kernel
theorem dX10_tried_10 : decode cX10_tried 10 = .ok (.iload_n 2, 1) := by decide +kernel
theorem dX10_tried_11 : decode cX10_tried 11 = .ok (.iconst 1, 1) := by decide +kernel
theorem dX10_tried_12 : decode cX10_tried 12 = .ok (.invokevirtual 416, 3) := by decide +kernel
theorem dX10_tried_15 : decode cX10_tried 15 = .ok (.ifCond .eq 31, 3) := by decide +kernel
theorem dX10_tried_18 : decode cX10_tried 18 = .ok (.iload_n 3, 1) := by decide +kernel
theorem dX10_tried_19 : decode cX10_tried 19 = .ok (.ifCond .lt 27, 3) := by decide +kernel
theorem dX10_tried_22 : decode cX10_tried 22 = .ok (.iload_n 3, 1) := by decide +kernel
theorem dX10_tried_23 : decode cX10_tried 23 = .ok (.sipush 10000, 3) := by decide +kernel
theorem dX10_tried_26 : decode cX10_tried 26 = .ok (.idiv, 1) := by decide +kernel
theorem dX10_tried_27 : decode cX10_tried 27 = .ok (.invokestatic 336, 3) := by decide +kernel
theorem dX10_tried_30 : decode cX10_tried 30 = .ok (.ifCond .eq 16, 3) := by decide +kernel
theorem dX10_tried_33 : decode cX10_tried 33 = .ok (.iload_n 3, 1) := by decide +kernel
theorem dX10_tried_34 : decode cX10_tried 34 = .ok (.sipush 10000, 3) := by decide +kernel
theorem dX10_tried_37 : decode cX10_tried 37 = .ok (.idiv, 1) := by decide +kernel
theorem dX10_tried_38 : decode cX10_tried 38 = .ok (.iload_n 3, 1) := by decide +kernel
theorem dX10_tried_39 : decode cX10_tried 39 = .ok (.sipush 10000, 3) := by decide +kernel
theorem dX10_tried_42 : decode cX10_tried 42 = .ok (.irem, 1) := by decide +kernel
theorem dX10_tried_43 : decode cX10_tried 43 = .ok (.if_icmp .le 5, 3) := by decide +kernel
theorem dX10_tried_46 : decode cX10_tried 46 = .ok (.iconst (-1), 1) := by decide +kernel
theorem dX10_tried_47 : decode cX10_tried 47 = .ok (.ireturn, 1) := by decide +kernel
theorem dX10_tried_48 : decode cX10_tried 48 = .ok (.iconst 0, 1) := by decide +kernel
theorem dX10_tried_49 : decode cX10_tried 49 = .ok (.istore 4, 2) := by decide +kernel
theorem dX10_tried_51 : decode cX10_tried 51 = .ok (.iconst 0, 1) := by decide +kernel
theorem dX10_tried_52 : decode cX10_tried 52 = .ok (.istore 5, 2) := by decide +kernel
theorem dX10_tried_54 : decode cX10_tried 54 = .ok (.iload 5, 2) := by decide +kernel
theorem dX10_tried_56 : decode cX10_tried 56 = .ok (.aload_n 0, 1) := by decide +kernel
theorem dX10_tried_57 : decode cX10_tried 57 = .ok (.getfield 287, 3) := by decide +kernel
theorem dX10_tried_60 : decode cX10_tried 60 = .ok (.if_icmp .ge 66, 3) := by decide +kernel
theorem dX10_tried_63 : decode cX10_tried 63 = .ok (.aload_n 0, 1) := by decide +kernel
theorem dX10_tried_64 : decode cX10_tried 64 = .ok (.getfield 124, 3) := by decide +kernel
theorem dX10_tried_67 : decode cX10_tried 67 = .ok (.iload 5, 2) := by decide +kernel
theorem dX10_tried_69 : decode cX10_tried 69 = .ok (.iaload, 1) := by decide +kernel
theorem dX10_tried_70 : decode cX10_tried 70 = .ok (.sipush 1440, 3) := by decide +kernel
theorem dX10_tried_73 : decode cX10_tried 73 = .ok (.idiv, 1) := by decide +kernel
theorem dX10_tried_74 : decode cX10_tried 74 = .ok (.iload_n 3, 1) := by decide +kernel
theorem dX10_tried_75 : decode cX10_tried 75 = .ok (.sipush 10000, 3) := by decide +kernel
theorem dX10_tried_78 : decode cX10_tried 78 = .ok (.idiv, 1) := by decide +kernel
theorem dX10_tried_79 : decode cX10_tried 79 = .ok (.iload_n 3, 1) := by decide +kernel
theorem dX10_tried_80 : decode cX10_tried 80 = .ok (.sipush 10000, 3) := by decide +kernel
theorem dX10_tried_83 : decode cX10_tried 83 = .ok (.irem, 1) := by decide +kernel
theorem dX10_tried_84 : decode cX10_tried 84 = .ok (.invokestatic 208, 3) := by decide +kernel
theorem dX10_tried_87 : decode cX10_tried 87 = .ok (.ifCond .eq 33, 3) := by decide +kernel
theorem dX10_tried_90 : decode cX10_tried 90 = .ok (.aload_n 0, 1) := by decide +kernel
theorem dX10_tried_91 : decode cX10_tried 91 = .ok (.iload 5, 2) := by decide +kernel
theorem dX10_tried_93 : decode cX10_tried 93 = .ok (.invokevirtual 361, 3) := by decide +kernel
theorem dX10_tried_96 : decode cX10_tried 96 = .ok (.aload_n 0, 1) := by decide +kernel
theorem dX10_tried_97 : decode cX10_tried 97 = .ok (.iload_n 1, 1) := by decide +kernel
theorem dX10_tried_98 : decode cX10_tried 98 = .ok (.iload_n 2, 1) := by decide +kernel
theorem dX10_tried_99 : decode cX10_tried 99 = .ok (.invokevirtual 364, 3) := by decide +kernel
theorem dX10_tried_102 : decode cX10_tried 102 = .ok (.istore 6, 2) := by decide +kernel
theorem dX10_tried_104 : decode cX10_tried 104 = .ok (.iload 4, 2) := by decide +kernel
theorem dX10_tried_106 : decode cX10_tried 106 = .ok (.iload 6, 2) := by decide +kernel
theorem dX10_tried_108 : decode cX10_tried 108 = .ok (.ifCond .ge 7, 3) := by decide +kernel
theorem dX10_tried_111 : decode cX10_tried 111 = .ok (.iconst 0, 1) := by decide +kernel
theorem dX10_tried_112 : decode cX10_tried 112 = .ok (.goto 5, 3) := by decide +kernel
theorem dX10_tried_115 : decode cX10_tried 115 = .ok (.iload 6, 2) := by decide +kernel
theorem dX10_tried_117 : decode cX10_tried 117 = .ok (.iadd, 1) := by decide +kernel
theorem dX10_tried_118 : decode cX10_tried 118 = .ok (.istore 4, 2) := by decide +kernel
theorem dX10_tried_120 : decode cX10_tried 120 = .ok (.iinc 5 1, 3) := by decide +kernel
theorem dX10_tried_123 : decode cX10_tried 123 = .ok (.goto (-69), 3) := by decide +kernel
theorem dX10_tried_126 : decode cX10_tried 126 = .ok (.iload 4, 2) := by decide +kernel
theorem dX10_tried_128 : decode cX10_tried 128 = .ok (.ireturn, 1) := by decide +kernel
theorem dX10_count_0 : decode cX10_count 0 = .ok (.iload_n 1, 1) := by decide +kernel
theorem dX10_count_1 : decode cX10_count 1 = .ok (.tableswitch 132 0 12 #[67, 72, 77, 82, 87, 92, 97, 102, 107, 112, 117, 122, 127], 67) := by decide +kernel
theorem dX10_count_68 : decode cX10_count 68 = .ok (.aload_n 0, 1) := by decide +kernel
theorem dX10_count_69 : decode cX10_count 69 = .ok (.getfield 198, 3) := by decide +kernel
theorem dX10_count_72 : decode cX10_count 72 = .ok (.ireturn, 1) := by decide +kernel
theorem dX10_count_73 : decode cX10_count 73 = .ok (.aload_n 0, 1) := by decide +kernel
theorem dX10_count_74 : decode cX10_count 74 = .ok (.getfield 216, 3) := by decide +kernel
theorem dX10_count_77 : decode cX10_count 77 = .ok (.ireturn, 1) := by decide +kernel
theorem dX10_count_78 : decode cX10_count 78 = .ok (.aload_n 0, 1) := by decide +kernel
theorem dX10_count_79 : decode cX10_count 79 = .ok (.getfield 201, 3) := by decide +kernel
theorem dX10_count_82 : decode cX10_count 82 = .ok (.ireturn, 1) := by decide +kernel
theorem dX10_count_83 : decode cX10_count 83 = .ok (.aload_n 0, 1) := by decide +kernel
theorem dX10_count_84 : decode cX10_count 84 = .ok (.getfield 204, 3) := by decide +kernel
theorem dX10_count_87 : decode cX10_count 87 = .ok (.ireturn, 1) := by decide +kernel
theorem dX10_count_88 : decode cX10_count 88 = .ok (.aload_n 0, 1) := by decide +kernel
theorem dX10_count_89 : decode cX10_count 89 = .ok (.getfield 339, 3) := by decide +kernel
theorem dX10_count_92 : decode cX10_count 92 = .ok (.ireturn, 1) := by decide +kernel
theorem dX10_count_93 : decode cX10_count 93 = .ok (.aload_n 0, 1) := by decide +kernel
theorem dX10_count_94 : decode cX10_count 94 = .ok (.getfield 287, 3) := by decide +kernel
theorem dX10_count_97 : decode cX10_count 97 = .ok (.ireturn, 1) := by decide +kernel
theorem dX10_count_98 : decode cX10_count 98 = .ok (.aload_n 0, 1) := by decide +kernel
theorem dX10_count_99 : decode cX10_count 99 = .ok (.getfield 370, 3) := by decide +kernel
theorem dX10_count_102 : decode cX10_count 102 = .ok (.ireturn, 1) := by decide +kernel
theorem dX10_count_103 : decode cX10_count 103 = .ok (.aload_n 0, 1) := by decide +kernel
theorem dX10_count_104 : decode cX10_count 104 = .ok (.getfield 392, 3) := by decide +kernel
theorem dX10_count_107 : decode cX10_count 107 = .ok (.ireturn, 1) := by decide +kernel
theorem dX10_count_108 : decode cX10_count 108 = .ok (.aload_n 0, 1) := by decide +kernel
theorem dX10_count_109 : decode cX10_count 109 = .ok (.getfield 194, 3) := by decide +kernel
theorem dX10_count_112 : decode cX10_count 112 = .ok (.ireturn, 1) := by decide +kernel
theorem dX10_count_113 : decode cX10_count 113 = .ok (.aload_n 0, 1) := by decide +kernel
theorem dX10_count_114 : decode cX10_count 114 = .ok (.getfield 293, 3) := by decide +kernel
theorem dX10_count_117 : decode cX10_count 117 = .ok (.ireturn, 1) := by decide +kernel
theorem dX10_count_118 : decode cX10_count 118 = .ok (.aload_n 0, 1) := by decide +kernel
theorem dX10_count_119 : decode cX10_count 119 = .ok (.getfield 401, 3) := by decide +kernel
theorem dX10_count_122 : decode cX10_count 122 = .ok (.ireturn, 1) := by decide +kernel
theorem dX10_count_123 : decode cX10_count 123 = .ok (.aload_n 0, 1) := by decide +kernel
theorem dX10_count_124 : decode cX10_count 124 = .ok (.getfield 404, 3) := by decide +kernel
theorem dX10_count_127 : decode cX10_count 127 = .ok (.ireturn, 1) := by decide +kernel
theorem dX10_count_128 : decode cX10_count 128 = .ok (.aload_n 0, 1) := by decide +kernel
theorem dX10_count_129 : decode cX10_count 129 = .ok (.getfield 252, 3) := by decide +kernel
theorem dX10_count_132 : decode cX10_count 132 = .ok (.ireturn, 1) := by decide +kernel
theorem dX10_count_133 : decode cX10_count 133 = .ok (.iconst (-1), 1) := by decide +kernel
theorem dX10_count_134 : decode cX10_count 134 = .ok (.ireturn, 1) := by decide +kernel
theorem dJ9_floorMod_7cf53_0 : decode cJ9_floorMod_7cf53 0 = .ok (.iload_n 0, 1) := by decide +kernel
theorem dJ9_floorMod_7cf53_1 : decode cJ9_floorMod_7cf53 1 = .ok (.iload_n 1, 1) := by decide +kernel
theorem dJ9_floorMod_7cf53_2 : decode cJ9_floorMod_7cf53 2 = .ok (.irem, 1) := by decide +kernel
theorem dJ9_floorMod_7cf53_3 : decode cJ9_floorMod_7cf53 3 = .ok (.istore_n 2, 1) := by decide +kernel
theorem dJ9_floorMod_7cf53_4 : decode cJ9_floorMod_7cf53 4 = .ok (.iload_n 0, 1) := by decide +kernel
theorem dJ9_floorMod_7cf53_5 : decode cJ9_floorMod_7cf53 5 = .ok (.iload_n 1, 1) := by decide +kernel
theorem dJ9_floorMod_7cf53_6 : decode cJ9_floorMod_7cf53 6 = .ok (.ixor, 1) := by decide +kernel
theorem dJ9_floorMod_7cf53_7 : decode cJ9_floorMod_7cf53 7 = .ok (.ifCond .ge 11, 3) := by decide +kernel
theorem dJ9_floorMod_7cf53_10 : decode cJ9_floorMod_7cf53 10 = .ok (.iload_n 2, 1) := by decide +kernel
theorem dJ9_floorMod_7cf53_11 : decode cJ9_floorMod_7cf53 11 = .ok (.ifCond .eq 7, 3) := by decide +kernel
theorem dJ9_floorMod_7cf53_14 : decode cJ9_floorMod_7cf53 14 = .ok (.iload_n 2, 1) := by decide +kernel
theorem dJ9_floorMod_7cf53_15 : decode cJ9_floorMod_7cf53 15 = .ok (.iload_n 1, 1) := by decide +kernel
theorem dJ9_floorMod_7cf53_16 : decode cJ9_floorMod_7cf53 16 = .ok (.iadd, 1) := by decide +kernel
theorem dJ9_floorMod_7cf53_17 : decode cJ9_floorMod_7cf53 17 = .ok (.ireturn, 1) := by decide +kernel
theorem dJ9_floorMod_7cf53_18 : decode cJ9_floorMod_7cf53 18 = .ok (.iload_n 2, 1) := by decide +kernel
theorem dJ9_floorMod_7cf53_19 : decode cJ9_floorMod_7cf53 19 = .ok (.ireturn, 1) := by decide +kernel
theorem dJ9_max_7cf53_0 : decode cJ9_max_7cf53 0 = .ok (.iload_n 0, 1) := by decide +kernel
theorem dJ9_max_7cf53_1 : decode cJ9_max_7cf53 1 = .ok (.iload_n 1, 1) := by decide +kernel
theorem dJ9_max_7cf53_2 : decode cJ9_max_7cf53 2 = .ok (.if_icmp .lt 7, 3) := by decide +kernel
theorem dJ9_max_7cf53_5 : decode cJ9_max_7cf53 5 = .ok (.iload_n 0, 1) := by decide +kernel
theorem dJ9_max_7cf53_6 : decode cJ9_max_7cf53 6 = .ok (.goto 4, 3) := by decide +kernel
theorem dJ9_max_7cf53_9 : decode cJ9_max_7cf53 9 = .ok (.iload_n 1, 1) := by decide +kernel
theorem dJ9_max_7cf53_10 : decode cJ9_max_7cf53 10 = .ok (.ireturn, 1) := by decide +kernel
theorem dJ9_min_7cf53_0 : decode cJ9_min_7cf53 0 = .ok (.iload_n 0, 1) := by decide +kernel
theorem dJ9_min_7cf53_1 : decode cJ9_min_7cf53 1 = .ok (.iload_n 1, 1) := by decide +kernel
theorem dJ9_min_7cf53_2 : decode cJ9_min_7cf53 2 = .ok (.if_icmp .gt 7, 3) := by decide +kernel
theorem dJ9_min_7cf53_5 : decode cJ9_min_7cf53 5 = .ok (.iload_n 0, 1) := by decide +kernel
theorem dJ9_min_7cf53_6 : decode cJ9_min_7cf53 6 = .ok (.goto 4, 3) := by decide +kernel
theorem dJ9_min_7cf53_9 : decode cJ9_min_7cf53 9 = .ok (.iload_n 1, 1) := by decide +kernel
theorem dJ9_min_7cf53_10 : decode cJ9_min_7cf53 10 = .ok (.ireturn, 1) := by decide +kernel
theorem dJ9_min_f86c9_0 : decode cJ9_min_f86c9 0 = .ok (.lload_n 0, 1) := by decide +kernel
theorem dJ9_min_f86c9_1 : decode cJ9_min_f86c9 1 = .ok (.lload_n 2, 1) := by decide +kernel
theorem dJ9_min_f86c9_2 : decode cJ9_min_f86c9 2 = .ok (.lcmp, 1) := by decide +kernel
theorem dJ9_min_f86c9_3 : decode cJ9_min_f86c9 3 = .ok (.ifCond .gt 7, 3) := by decide +kernel
theorem dJ9_min_f86c9_6 : decode cJ9_min_f86c9 6 = .ok (.lload_n 0, 1) := by decide +kernel
theorem dJ9_min_f86c9_7 : decode cJ9_min_f86c9 7 = .ok (.goto 4, 3) := by decide +kernel
theorem dJ9_min_f86c9_10 : decode cJ9_min_f86c9 10 = .ok (.lload_n 2, 1) := by decide +kernel
theorem dJ9_min_f86c9_11 : decode cJ9_min_f86c9 11 = .ok (.lreturn, 1) := by decide +kernel
theorem dJ0_length_8abf5_0 : decode cJ0_length_8abf5 0 = .ok (.aload_n 0, 1) := by decide +kernel
theorem dJ0_length_8abf5_1 : decode cJ0_length_8abf5 1 = .ok (.getfield 9, 3) := by decide +kernel
theorem dJ0_length_8abf5_4 : decode cJ0_length_8abf5 4 = .ok (.arraylength, 1) := by decide +kernel
theorem dJ0_length_8abf5_5 : decode cJ0_length_8abf5 5 = .ok (.aload_n 0, 1) := by decide +kernel
theorem dJ0_length_8abf5_6 : decode cJ0_length_8abf5 6 = .ok (.invokevirtual 335, 3) := by decide +kernel
theorem dJ0_length_8abf5_9 : decode cJ0_length_8abf5 9 = .ok (.ishr, 1) := by decide +kernel
theorem dJ0_length_8abf5_10 : decode cJ0_length_8abf5 10 = .ok (.ireturn, 1) := by decide +kernel
theorem dJ0_charAt_5068e_0 : decode cJ0_charAt_5068e 0 = .ok (.aload_n 0, 1) := by decide +kernel
theorem dJ0_charAt_5068e_1 : decode cJ0_charAt_5068e 1 = .ok (.invokevirtual 492, 3) := by decide +kernel
theorem dJ0_charAt_5068e_4 : decode cJ0_charAt_5068e 4 = .ok (.ifCond .eq 12, 3) := by decide +kernel
theorem dJ0_charAt_5068e_7 : decode cJ0_charAt_5068e 7 = .ok (.aload_n 0, 1) := by decide +kernel
theorem dJ0_charAt_5068e_8 : decode cJ0_charAt_5068e 8 = .ok (.getfield 9, 3) := by decide +kernel
theorem dJ0_charAt_5068e_11 : decode cJ0_charAt_5068e 11 = .ok (.iload_n 1, 1) := by decide +kernel
theorem dJ0_charAt_5068e_12 : decode cJ0_charAt_5068e 12 = .ok (.invokestatic 495, 3) := by decide +kernel
theorem dJ0_charAt_5068e_15 : decode cJ0_charAt_5068e 15 = .ok (.ireturn, 1) := by decide +kernel
theorem dJ0_charAt_5068e_16 : decode cJ0_charAt_5068e 16 = .ok (.aload_n 0, 1) := by decide +kernel
theorem dJ0_charAt_5068e_17 : decode cJ0_charAt_5068e 17 = .ok (.getfield 9, 3) := by decide +kernel
theorem dJ0_charAt_5068e_20 : decode cJ0_charAt_5068e 20 = .ok (.iload_n 1, 1) := by decide +kernel
theorem dJ0_charAt_5068e_21 : decode cJ0_charAt_5068e 21 = .ok (.invokestatic 498, 3) := by decide +kernel
theorem dJ0_charAt_5068e_24 : decode cJ0_charAt_5068e 24 = .ok (.ireturn, 1) := by decide +kernel
theorem dJ0_coder_7d493_0 : decode cJ0_coder_7d493 0 = .ok (.getstatic 38, 3) := by decide +kernel
theorem dJ0_coder_7d493_3 : decode cJ0_coder_7d493 3 = .ok (.ifCond .eq 10, 3) := by decide +kernel
theorem dJ0_coder_7d493_6 : decode cJ0_coder_7d493 6 = .ok (.aload_n 0, 1) := by decide +kernel
theorem dJ0_coder_7d493_7 : decode cJ0_coder_7d493 7 = .ok (.getfield 15, 3) := by decide +kernel
theorem dJ0_coder_7d493_10 : decode cJ0_coder_7d493 10 = .ok (.goto 4, 3) := by decide +kernel
theorem dJ0_coder_7d493_13 : decode cJ0_coder_7d493 13 = .ok (.iconst 1, 1) := by decide +kernel
theorem dJ0_coder_7d493_14 : decode cJ0_coder_7d493 14 = .ok (.ireturn, 1) := by decide +kernel
theorem dJ0_isLatin1_aae02_0 : decode cJ0_isLatin1_aae02 0 = .ok (.getstatic 38, 3) := by decide +kernel
theorem dJ0_isLatin1_aae02_3 : decode cJ0_isLatin1_aae02 3 = .ok (.ifCond .eq 14, 3) := by decide +kernel
theorem dJ0_isLatin1_aae02_6 : decode cJ0_isLatin1_aae02 6 = .ok (.aload_n 0, 1) := by decide +kernel
theorem dJ0_isLatin1_aae02_7 : decode cJ0_isLatin1_aae02 7 = .ok (.getfield 15, 3) := by decide +kernel
theorem dJ0_isLatin1_aae02_10 : decode cJ0_isLatin1_aae02 10 = .ok (.ifCond .ne 7, 3) := by decide +kernel
theorem dJ0_isLatin1_aae02_13 : decode cJ0_isLatin1_aae02 13 = .ok (.iconst 1, 1) := by decide +kernel
theorem dJ0_isLatin1_aae02_14 : decode cJ0_isLatin1_aae02 14 = .ok (.goto 4, 3) := by decide +kernel
theorem dJ0_isLatin1_aae02_17 : decode cJ0_isLatin1_aae02 17 = .ok (.iconst 0, 1) := by decide +kernel
theorem dJ0_isLatin1_aae02_18 : decode cJ0_isLatin1_aae02 18 = .ok (.ireturn, 1) := by decide +kernel
theorem dJ0_checkIndex_df160_0 : decode cJ0_checkIndex_df160 0 = .ok (.iload_n 0, 1) := by decide +kernel
theorem dJ0_checkIndex_df160_1 : decode cJ0_checkIndex_df160 1 = .ok (.iload_n 1, 1) := by decide +kernel
theorem dJ0_checkIndex_df160_2 : decode cJ0_checkIndex_df160 2 = .ok (.getstatic 1053, 3) := by decide +kernel
theorem dJ0_checkIndex_df160_5 : decode cJ0_checkIndex_df160 5 = .ok (.invokestatic 1059, 3) := by decide +kernel
theorem dJ0_checkIndex_df160_8 : decode cJ0_checkIndex_df160 8 = .ok (.pop, 1) := by decide +kernel
theorem dJ0_checkIndex_df160_9 : decode cJ0_checkIndex_df160 9 = .ok (.return_, 1) := by decide +kernel
theorem dJ1_charAt_3b067_0 : decode cJ1_charAt_3b067 0 = .ok (.iload_n 1, 1) := by decide +kernel
theorem dJ1_charAt_3b067_1 : decode cJ1_charAt_3b067 1 = .ok (.aload_n 0, 1) := by decide +kernel
theorem dJ1_charAt_3b067_2 : decode cJ1_charAt_3b067 2 = .ok (.arraylength, 1) := by decide +kernel
theorem dJ1_charAt_3b067_3 : decode cJ1_charAt_3b067 3 = .ok (.invokestatic 9, 3) := by decide +kernel
theorem dJ1_charAt_3b067_6 : decode cJ1_charAt_3b067 6 = .ok (.aload_n 0, 1) := by decide +kernel
theorem dJ1_charAt_3b067_7 : decode cJ1_charAt_3b067 7 = .ok (.iload_n 1, 1) := by decide +kernel
theorem dJ1_charAt_3b067_8 : decode cJ1_charAt_3b067 8 = .ok (.baload, 1) := by decide +kernel
theorem dJ1_charAt_3b067_9 : decode cJ1_charAt_3b067 9 = .ok (.sipush 255, 3) := by decide +kernel
theorem dJ1_charAt_3b067_12 : decode cJ1_charAt_3b067 12 = .ok (.iand, 1) := by decide +kernel
theorem dJ1_charAt_3b067_13 : decode cJ1_charAt_3b067 13 = .ok (.i2c, 1) := by decide +kernel
theorem dJ1_charAt_3b067_14 : decode cJ1_charAt_3b067 14 = .ok (.ireturn, 1) := by decide +kernel
theorem dJ2_getChar_3b067_0 : decode cJ2_getChar_3b067 0 = .ok (.getstatic 44, 3) := by decide +kernel
theorem dJ2_getChar_3b067_3 : decode cJ2_getChar_3b067 3 = .ok (.ifCond .ne 25, 3) := by decide +kernel
theorem dJ2_getChar_3b067_6 : decode cJ2_getChar_3b067 6 = .ok (.iload_n 1, 1) := by decide +kernel
theorem dJ2_getChar_3b067_7 : decode cJ2_getChar_3b067 7 = .ok (.ifCond .lt 11, 3) := by decide +kernel
theorem dJ2_getChar_3b067_10 : decode cJ2_getChar_3b067 10 = .ok (.iload_n 1, 1) := by decide +kernel
theorem dJ2_getChar_3b067_11 : decode cJ2_getChar_3b067 11 = .ok (.aload_n 0, 1) := by decide +kernel
theorem dJ2_getChar_3b067_12 : decode cJ2_getChar_3b067 12 = .ok (.invokestatic 48, 3) := by decide +kernel
theorem dJ2_getChar_3b067_15 : decode cJ2_getChar_3b067 15 = .ok (.if_icmp .lt 13, 3) := by decide +kernel
theorem dJ2_getChar_3b067_18 : decode cJ2_getChar_3b067 18 = .ok (.new 52, 3) := by decide +kernel
theorem dJ2_getChar_3b067_21 : decode cJ2_getChar_3b067 21 = .ok (.dup, 1) := by decide +kernel
theorem dJ2_getChar_3b067_22 : decode cJ2_getChar_3b067 22 = .ok (.ldc 54, 2) := by decide +kernel
theorem dJ2_getChar_3b067_24 : decode cJ2_getChar_3b067 24 = .ok (.invokespecial 56, 3) := by decide +kernel
theorem dJ2_getChar_3b067_27 : decode cJ2_getChar_3b067 27 = .ok (.athrow, 1) := by decide +kernel
theorem dJ2_getChar_3b067_28 : decode cJ2_getChar_3b067 28 = .ok (.iload_n 1, 1) := by decide +kernel
theorem dJ2_getChar_3b067_29 : decode cJ2_getChar_3b067 29 = .ok (.iconst 1, 1) := by decide +kernel
theorem dJ2_getChar_3b067_30 : decode cJ2_getChar_3b067 30 = .ok (.ishl, 1) := by decide +kernel
theorem dJ2_getChar_3b067_31 : decode cJ2_getChar_3b067 31 = .ok (.istore_n 1, 1) := by decide +kernel
theorem dJ2_getChar_3b067_32 : decode cJ2_getChar_3b067 32 = .ok (.aload_n 0, 1) := by decide +kernel
theorem dJ2_getChar_3b067_33 : decode cJ2_getChar_3b067 33 = .ok (.iload_n 1, 1) := by decide +kernel
theorem dJ2_getChar_3b067_34 : decode cJ2_getChar_3b067 34 = .ok (.iinc 1 1, 3) := by decide +kernel
theorem dJ2_getChar_3b067_37 : decode cJ2_getChar_3b067 37 = .ok (.baload, 1) := by decide +kernel
theorem dJ2_getChar_3b067_38 : decode cJ2_getChar_3b067 38 = .ok (.sipush 255, 3) := by decide +kernel
theorem dJ2_getChar_3b067_41 : decode cJ2_getChar_3b067 41 = .ok (.iand, 1) := by decide +kernel
theorem dJ2_getChar_3b067_42 : decode cJ2_getChar_3b067 42 = .ok (.getstatic 59, 3) := by decide +kernel
theorem dJ2_getChar_3b067_45 : decode cJ2_getChar_3b067 45 = .ok (.ishl, 1) := by decide +kernel
theorem dJ2_getChar_3b067_46 : decode cJ2_getChar_3b067 46 = .ok (.aload_n 0, 1) := by decide +kernel
theorem dJ2_getChar_3b067_47 : decode cJ2_getChar_3b067 47 = .ok (.iload_n 1, 1) := by decide +kernel
theorem dJ2_getChar_3b067_48 : decode cJ2_getChar_3b067 48 = .ok (.baload, 1) := by decide +kernel
theorem dJ2_getChar_3b067_49 : decode cJ2_getChar_3b067 49 = .ok (.sipush 255, 3) := by decide +kernel
theorem dJ2_getChar_3b067_52 : decode cJ2_getChar_3b067 52 = .ok (.iand, 1) := by decide +kernel
theorem dJ2_getChar_3b067_53 : decode cJ2_getChar_3b067 53 = .ok (.getstatic 63, 3) := by decide +kernel
theorem dJ2_getChar_3b067_56 : decode cJ2_getChar_3b067 56 = .ok (.ishl, 1) := by decide +kernel
theorem dJ2_getChar_3b067_57 : decode cJ2_getChar_3b067 57 = .ok (.ior, 1) := by decide +kernel
theorem dJ2_getChar_3b067_58 : decode cJ2_getChar_3b067 58 = .ok (.i2c, 1) := by decide +kernel
theorem dJ2_getChar_3b067_59 : decode cJ2_getChar_3b067 59 = .ok (.ireturn, 1) := by decide +kernel
theorem dJ2_length_9d52b_0 : decode cJ2_length_9d52b 0 = .ok (.aload_n 0, 1) := by decide +kernel
theorem dJ2_length_9d52b_1 : decode cJ2_length_9d52b 1 = .ok (.arraylength, 1) := by decide +kernel
theorem dJ2_length_9d52b_2 : decode cJ2_length_9d52b 2 = .ok (.iconst 1, 1) := by decide +kernel
theorem dJ2_length_9d52b_3 : decode cJ2_length_9d52b 3 = .ok (.ishr, 1) := by decide +kernel
theorem dJ2_length_9d52b_4 : decode cJ2_length_9d52b 4 = .ok (.ireturn, 1) := by decide +kernel
theorem dJ2_charAt_3b067_0 : decode cJ2_charAt_3b067 0 = .ok (.iload_n 1, 1) := by decide +kernel
theorem dJ2_charAt_3b067_1 : decode cJ2_charAt_3b067 1 = .ok (.aload_n 0, 1) := by decide +kernel
theorem dJ2_charAt_3b067_2 : decode cJ2_charAt_3b067 2 = .ok (.invokestatic 67, 3) := by decide +kernel
theorem dJ2_charAt_3b067_5 : decode cJ2_charAt_3b067 5 = .ok (.aload_n 0, 1) := by decide +kernel
theorem dJ2_charAt_3b067_6 : decode cJ2_charAt_3b067 6 = .ok (.iload_n 1, 1) := by decide +kernel
theorem dJ2_charAt_3b067_7 : decode cJ2_charAt_3b067 7 = .ok (.invokestatic 71, 3) := by decide +kernel
theorem dJ2_charAt_3b067_10 : decode cJ2_charAt_3b067 10 = .ok (.ireturn, 1) := by decide +kernel
theorem dJ2_checkIndex_2214a_0 : decode cJ2_checkIndex_2214a 0 = .ok (.iload_n 0, 1) := by decide +kernel
theorem dJ2_checkIndex_2214a_1 : decode cJ2_checkIndex_2214a 1 = .ok (.aload_n 1, 1) := by decide +kernel
theorem dJ2_checkIndex_2214a_2 : decode cJ2_checkIndex_2214a 2 = .ok (.invokestatic 48, 3) := by decide +kernel
theorem dJ2_checkIndex_2214a_5 : decode cJ2_checkIndex_2214a 5 = .ok (.invokestatic 414, 3) := by decide +kernel
theorem dJ2_checkIndex_2214a_8 : decode cJ2_checkIndex_2214a 8 = .ok (.return_, 1) := by decide +kernel
theorem dJ7_copyOf_59c91_0 : decode cJ7_copyOf_59c91 0 = .ok (.iload_n 1, 1) := by decide +kernel
theorem dJ7_copyOf_59c91_1 : decode cJ7_copyOf_59c91 1 = .ok (.aload_n 0, 1) := by decide +kernel
theorem dJ7_copyOf_59c91_2 : decode cJ7_copyOf_59c91 2 = .ok (.arraylength, 1) := by decide +kernel
theorem dJ7_copyOf_59c91_3 : decode cJ7_copyOf_59c91 3 = .ok (.if_icmp .ne 11, 3) := by decide +kernel
theorem dJ7_copyOf_59c91_6 : decode cJ7_copyOf_59c91 6 = .ok (.aload_n 0, 1) := by decide +kernel
theorem dJ7_copyOf_59c91_7 : decode cJ7_copyOf_59c91 7 = .ok (.invokevirtual 316, 3) := by decide +kernel
theorem dJ7_copyOf_59c91_10 : decode cJ7_copyOf_59c91 10 = .ok (.checkcast 317, 3) := by decide +kernel
theorem dJ7_copyOf_59c91_13 : decode cJ7_copyOf_59c91 13 = .ok (.areturn, 1) := by decide +kernel
theorem dJ7_copyOf_59c91_14 : decode cJ7_copyOf_59c91 14 = .ok (.iload_n 1, 1) := by decide +kernel
theorem dJ7_copyOf_59c91_15 : decode cJ7_copyOf_59c91 15 = .ok (.newarray .int, 2) := by decide +kernel
theorem dJ7_copyOf_59c91_17 : decode cJ7_copyOf_59c91 17 = .ok (.astore_n 2, 1) := by decide +kernel
theorem dJ7_copyOf_59c91_18 : decode cJ7_copyOf_59c91 18 = .ok (.aload_n 0, 1) := by decide +kernel
theorem dJ7_copyOf_59c91_19 : decode cJ7_copyOf_59c91 19 = .ok (.iconst 0, 1) := by decide +kernel
theorem dJ7_copyOf_59c91_20 : decode cJ7_copyOf_59c91 20 = .ok (.aload_n 2, 1) := by decide +kernel
theorem dJ7_copyOf_59c91_21 : decode cJ7_copyOf_59c91 21 = .ok (.iconst 0, 1) := by decide +kernel
theorem dJ7_copyOf_59c91_22 : decode cJ7_copyOf_59c91 22 = .ok (.aload_n 0, 1) := by decide +kernel
theorem dJ7_copyOf_59c91_23 : decode cJ7_copyOf_59c91 23 = .ok (.arraylength, 1) := by decide +kernel
theorem dJ7_copyOf_59c91_24 : decode cJ7_copyOf_59c91 24 = .ok (.iload_n 1, 1) := by decide +kernel
theorem dJ7_copyOf_59c91_25 : decode cJ7_copyOf_59c91 25 = .ok (.invokestatic 304, 3) := by decide +kernel
theorem dJ7_copyOf_59c91_28 : decode cJ7_copyOf_59c91 28 = .ok (.invokestatic 150, 3) := by decide +kernel
theorem dJ7_copyOf_59c91_31 : decode cJ7_copyOf_59c91 31 = .ok (.aload_n 2, 1) := by decide +kernel
theorem dJ7_copyOf_59c91_32 : decode cJ7_copyOf_59c91 32 = .ok (.areturn, 1) := by decide +kernel
theorem dJ3_checkIndex_8e157_0 : decode cJ3_checkIndex_8e157 0 = .ok (.iload_n 0, 1) := by decide +kernel
theorem dJ3_checkIndex_8e157_1 : decode cJ3_checkIndex_8e157 1 = .ok (.ifCond .lt 8, 3) := by decide +kernel
theorem dJ3_checkIndex_8e157_4 : decode cJ3_checkIndex_8e157 4 = .ok (.iload_n 0, 1) := by decide +kernel
theorem dJ3_checkIndex_8e157_5 : decode cJ3_checkIndex_8e157 5 = .ok (.iload_n 1, 1) := by decide +kernel
theorem dJ3_checkIndex_8e157_6 : decode cJ3_checkIndex_8e157 6 = .ok (.if_icmp .lt 10, 3) := by decide +kernel
theorem dJ3_checkIndex_8e157_9 : decode cJ3_checkIndex_8e157 9 = .ok (.aload_n 2, 1) := by decide +kernel
theorem dJ3_checkIndex_8e157_10 : decode cJ3_checkIndex_8e157 10 = .ok (.iload_n 0, 1) := by decide +kernel
theorem dJ3_checkIndex_8e157_11 : decode cJ3_checkIndex_8e157 11 = .ok (.iload_n 1, 1) := by decide +kernel
theorem dJ3_checkIndex_8e157_12 : decode cJ3_checkIndex_8e157 12 = .ok (.invokestatic 95, 3) := by decide +kernel
theorem dJ3_checkIndex_8e157_15 : decode cJ3_checkIndex_8e157 15 = .ok (.athrow, 1) := by decide +kernel
theorem dJ3_checkIndex_8e157_16 : decode cJ3_checkIndex_8e157 16 = .ok (.iload_n 0, 1) := by decide +kernel
theorem dJ3_checkIndex_8e157_17 : decode cJ3_checkIndex_8e157 17 = .ok (.ireturn, 1) := by decide +kernel
theorem dL_law_0 : decode cL_law 0 = .ok (.new 7, 3) := by decide +kernel
theorem dL_law_3 : decode cL_law 3 = .ok (.dup, 1) := by decide +kernel
theorem dL_law_4 : decode cL_law 4 = .ok (.invokespecial 9, 3) := by decide +kernel
theorem dL_law_7 : decode cL_law 7 = .ok (.astore_n 1, 1) := by decide +kernel
theorem dL_law_8 : decode cL_law 8 = .ok (.new 10, 3) := by decide +kernel
theorem dL_law_11 : decode cL_law 11 = .ok (.dup, 1) := by decide +kernel
theorem dL_law_12 : decode cL_law 12 = .ok (.invokespecial 12, 3) := by decide +kernel
theorem dL_law_15 : decode cL_law 15 = .ok (.astore_n 2, 1) := by decide +kernel
theorem dL_law_16 : decode cL_law 16 = .ok (.iconst 0, 1) := by decide +kernel
theorem dL_law_17 : decode cL_law 17 = .ok (.istore_n 3, 1) := by decide +kernel
theorem dL_law_18 : decode cL_law 18 = .ok (.iload_n 3, 1) := by decide +kernel
theorem dL_law_19 : decode cL_law 19 = .ok (.aload_n 0, 1) := by decide +kernel
theorem dL_law_20 : decode cL_law 20 = .ok (.arraylength, 1) := by decide +kernel
theorem dL_law_21 : decode cL_law 21 = .ok (.bipush 6, 2) := by decide +kernel
theorem dL_law_23 : decode cL_law 23 = .ok (.isub, 1) := by decide +kernel
theorem dL_law_24 : decode cL_law 24 = .ok (.if_icmp .gt 1294, 3) := by decide +kernel
theorem dL_law_27 : decode cL_law 27 = .ok (.aload_n 0, 1) := by decide +kernel
theorem dL_law_28 : decode cL_law 28 = .ok (.iload_n 3, 1) := by decide +kernel
theorem dL_law_29 : decode cL_law 29 = .ok (.iaload, 1) := by decide +kernel
theorem dL_law_30 : decode cL_law 30 = .ok (.bipush 31, 2) := by decide +kernel
theorem dL_law_32 : decode cL_law 32 = .ok (.iand, 1) := by decide +kernel
theorem dL_law_33 : decode cL_law 33 = .ok (.tableswitch 1279 0 31 #[143, 156, 199, 242, 285, 328, 351, 374, 407, 450, 483, 516, 549, 582, 615, 648, 681, 724, 787, 830, 883, 906, 939, 982, 1015, 1048, 1081, 1134, 1167, 1190, 1213, 1256], 143) := by decide +kernel
theorem dL_law_176 : decode cL_law 176 = .ok (.aload_n 1, 1) := by decide +kernel
theorem dL_law_177 : decode cL_law 177 = .ok (.invokevirtual 13, 3) := by decide +kernel
theorem dL_law_180 : decode cL_law 180 = .ok (.aload_n 2, 1) := by decide +kernel
theorem dL_law_181 : decode cL_law 181 = .ok (.invokevirtual 17, 3) := by decide +kernel
theorem dL_law_184 : decode cL_law 184 = .ok (.if_icmp .eq 1128, 3) := by decide +kernel
theorem dL_law_187 : decode cL_law 187 = .ok (.iconst 0, 1) := by decide +kernel
theorem dL_law_188 : decode cL_law 188 = .ok (.ireturn, 1) := by decide +kernel
theorem dL_law_189 : decode cL_law 189 = .ok (.aload_n 1, 1) := by decide +kernel
theorem dL_law_190 : decode cL_law 190 = .ok (.aload_n 0, 1) := by decide +kernel
theorem dL_law_191 : decode cL_law 191 = .ok (.iload_n 3, 1) := by decide +kernel
theorem dL_law_192 : decode cL_law 192 = .ok (.iconst 1, 1) := by decide +kernel
theorem dL_law_193 : decode cL_law 193 = .ok (.iadd, 1) := by decide +kernel
theorem dL_law_194 : decode cL_law 194 = .ok (.iaload, 1) := by decide +kernel
theorem dL_law_195 : decode cL_law 195 = .ok (.aload_n 0, 1) := by decide +kernel
theorem dL_law_196 : decode cL_law 196 = .ok (.iload_n 3, 1) := by decide +kernel
theorem dL_law_197 : decode cL_law 197 = .ok (.iconst 2, 1) := by decide +kernel
theorem dL_law_198 : decode cL_law 198 = .ok (.iadd, 1) := by decide +kernel
theorem dL_law_199 : decode cL_law 199 = .ok (.iaload, 1) := by decide +kernel
theorem dL_law_200 : decode cL_law 200 = .ok (.aload_n 0, 1) := by decide +kernel
theorem dL_law_201 : decode cL_law 201 = .ok (.iload_n 3, 1) := by decide +kernel
theorem dL_law_202 : decode cL_law 202 = .ok (.iconst 3, 1) := by decide +kernel
theorem dL_law_203 : decode cL_law 203 = .ok (.iadd, 1) := by decide +kernel
theorem dL_law_204 : decode cL_law 204 = .ok (.iaload, 1) := by decide +kernel
theorem dL_law_205 : decode cL_law 205 = .ok (.invokevirtual 18, 3) := by decide +kernel
theorem dL_law_208 : decode cL_law 208 = .ok (.aload_n 2, 1) := by decide +kernel
theorem dL_law_209 : decode cL_law 209 = .ok (.aload_n 0, 1) := by decide +kernel
theorem dL_law_210 : decode cL_law 210 = .ok (.iload_n 3, 1) := by decide +kernel
theorem dL_law_211 : decode cL_law 211 = .ok (.iconst 1, 1) := by decide +kernel
theorem dL_law_212 : decode cL_law 212 = .ok (.iadd, 1) := by decide +kernel
theorem dL_law_213 : decode cL_law 213 = .ok (.iaload, 1) := by decide +kernel
theorem dL_law_214 : decode cL_law 214 = .ok (.aload_n 0, 1) := by decide +kernel
theorem dL_law_215 : decode cL_law 215 = .ok (.iload_n 3, 1) := by decide +kernel
theorem dL_law_216 : decode cL_law 216 = .ok (.iconst 2, 1) := by decide +kernel
theorem dL_law_217 : decode cL_law 217 = .ok (.iadd, 1) := by decide +kernel
theorem dL_law_218 : decode cL_law 218 = .ok (.iaload, 1) := by decide +kernel
theorem dL_law_219 : decode cL_law 219 = .ok (.aload_n 0, 1) := by decide +kernel
theorem dL_law_220 : decode cL_law 220 = .ok (.iload_n 3, 1) := by decide +kernel
theorem dL_law_221 : decode cL_law 221 = .ok (.iconst 3, 1) := by decide +kernel
theorem dL_law_222 : decode cL_law 222 = .ok (.iadd, 1) := by decide +kernel
theorem dL_law_223 : decode cL_law 223 = .ok (.iaload, 1) := by decide +kernel
theorem dL_law_224 : decode cL_law 224 = .ok (.invokevirtual 22, 3) := by decide +kernel
theorem dL_law_227 : decode cL_law 227 = .ok (.if_icmp .eq 1085, 3) := by decide +kernel
theorem dL_law_230 : decode cL_law 230 = .ok (.iconst 0, 1) := by decide +kernel
theorem dL_law_231 : decode cL_law 231 = .ok (.ireturn, 1) := by decide +kernel
theorem dL_law_232 : decode cL_law 232 = .ok (.aload_n 1, 1) := by decide +kernel
theorem dL_law_233 : decode cL_law 233 = .ok (.aload_n 0, 1) := by decide +kernel
theorem dL_law_234 : decode cL_law 234 = .ok (.iload_n 3, 1) := by decide +kernel
theorem dL_law_235 : decode cL_law 235 = .ok (.iconst 1, 1) := by decide +kernel
theorem dL_law_236 : decode cL_law 236 = .ok (.iadd, 1) := by decide +kernel
theorem dL_law_237 : decode cL_law 237 = .ok (.iaload, 1) := by decide +kernel
theorem dL_law_238 : decode cL_law 238 = .ok (.aload_n 0, 1) := by decide +kernel
theorem dL_law_239 : decode cL_law 239 = .ok (.iload_n 3, 1) := by decide +kernel
theorem dL_law_240 : decode cL_law 240 = .ok (.iconst 2, 1) := by decide +kernel
theorem dL_law_241 : decode cL_law 241 = .ok (.iadd, 1) := by decide +kernel
theorem dL_law_242 : decode cL_law 242 = .ok (.iaload, 1) := by decide +kernel
theorem dL_law_243 : decode cL_law 243 = .ok (.aload_n 0, 1) := by decide +kernel
theorem dL_law_244 : decode cL_law 244 = .ok (.iload_n 3, 1) := by decide +kernel
theorem dL_law_245 : decode cL_law 245 = .ok (.iconst 3, 1) := by decide +kernel
theorem dL_law_246 : decode cL_law 246 = .ok (.iadd, 1) := by decide +kernel
theorem dL_law_247 : decode cL_law 247 = .ok (.iaload, 1) := by decide +kernel
theorem dL_law_248 : decode cL_law 248 = .ok (.invokevirtual 23, 3) := by decide +kernel
theorem dL_law_251 : decode cL_law 251 = .ok (.aload_n 2, 1) := by decide +kernel
theorem dL_law_252 : decode cL_law 252 = .ok (.aload_n 0, 1) := by decide +kernel
theorem dL_law_253 : decode cL_law 253 = .ok (.iload_n 3, 1) := by decide +kernel
theorem dL_law_254 : decode cL_law 254 = .ok (.iconst 1, 1) := by decide +kernel
theorem dL_law_255 : decode cL_law 255 = .ok (.iadd, 1) := by decide +kernel
theorem dL_law_256 : decode cL_law 256 = .ok (.iaload, 1) := by decide +kernel
theorem dL_law_257 : decode cL_law 257 = .ok (.aload_n 0, 1) := by decide +kernel
theorem dL_law_258 : decode cL_law 258 = .ok (.iload_n 3, 1) := by decide +kernel
theorem dL_law_259 : decode cL_law 259 = .ok (.iconst 2, 1) := by decide +kernel
theorem dL_law_260 : decode cL_law 260 = .ok (.iadd, 1) := by decide +kernel
theorem dL_law_261 : decode cL_law 261 = .ok (.iaload, 1) := by decide +kernel
theorem dL_law_262 : decode cL_law 262 = .ok (.aload_n 0, 1) := by decide +kernel
theorem dL_law_263 : decode cL_law 263 = .ok (.iload_n 3, 1) := by decide +kernel
theorem dL_law_264 : decode cL_law 264 = .ok (.iconst 3, 1) := by decide +kernel
theorem dL_law_265 : decode cL_law 265 = .ok (.iadd, 1) := by decide +kernel
theorem dL_law_266 : decode cL_law 266 = .ok (.iaload, 1) := by decide +kernel
theorem dL_law_267 : decode cL_law 267 = .ok (.invokevirtual 26, 3) := by decide +kernel
theorem dL_law_270 : decode cL_law 270 = .ok (.if_icmp .eq 1042, 3) := by decide +kernel
theorem dL_law_273 : decode cL_law 273 = .ok (.iconst 0, 1) := by decide +kernel
theorem dL_law_274 : decode cL_law 274 = .ok (.ireturn, 1) := by decide +kernel
theorem dL_law_275 : decode cL_law 275 = .ok (.aload_n 1, 1) := by decide +kernel
theorem dL_law_276 : decode cL_law 276 = .ok (.aload_n 0, 1) := by decide +kernel
theorem dL_law_277 : decode cL_law 277 = .ok (.iload_n 3, 1) := by decide +kernel
theorem dL_law_278 : decode cL_law 278 = .ok (.iconst 1, 1) := by decide +kernel
theorem dL_law_279 : decode cL_law 279 = .ok (.iadd, 1) := by decide +kernel
theorem dL_law_280 : decode cL_law 280 = .ok (.iaload, 1) := by decide +kernel
theorem dL_law_281 : decode cL_law 281 = .ok (.aload_n 0, 1) := by decide +kernel
theorem dL_law_282 : decode cL_law 282 = .ok (.iload_n 3, 1) := by decide +kernel
theorem dL_law_283 : decode cL_law 283 = .ok (.iconst 2, 1) := by decide +kernel
theorem dL_law_284 : decode cL_law 284 = .ok (.iadd, 1) := by decide +kernel
theorem dL_law_285 : decode cL_law 285 = .ok (.iaload, 1) := by decide +kernel
theorem dL_law_286 : decode cL_law 286 = .ok (.aload_n 0, 1) := by decide +kernel
theorem dL_law_287 : decode cL_law 287 = .ok (.iload_n 3, 1) := by decide +kernel
theorem dL_law_288 : decode cL_law 288 = .ok (.iconst 3, 1) := by decide +kernel
theorem dL_law_289 : decode cL_law 289 = .ok (.iadd, 1) := by decide +kernel
theorem dL_law_290 : decode cL_law 290 = .ok (.iaload, 1) := by decide +kernel
theorem dL_law_291 : decode cL_law 291 = .ok (.invokevirtual 27, 3) := by decide +kernel
theorem dL_law_294 : decode cL_law 294 = .ok (.aload_n 2, 1) := by decide +kernel
theorem dL_law_295 : decode cL_law 295 = .ok (.aload_n 0, 1) := by decide +kernel
theorem dL_law_296 : decode cL_law 296 = .ok (.iload_n 3, 1) := by decide +kernel
theorem dL_law_297 : decode cL_law 297 = .ok (.iconst 1, 1) := by decide +kernel
theorem dL_law_298 : decode cL_law 298 = .ok (.iadd, 1) := by decide +kernel
theorem dL_law_299 : decode cL_law 299 = .ok (.iaload, 1) := by decide +kernel
theorem dL_law_300 : decode cL_law 300 = .ok (.aload_n 0, 1) := by decide +kernel
theorem dL_law_301 : decode cL_law 301 = .ok (.iload_n 3, 1) := by decide +kernel
theorem dL_law_302 : decode cL_law 302 = .ok (.iconst 2, 1) := by decide +kernel
theorem dL_law_303 : decode cL_law 303 = .ok (.iadd, 1) := by decide +kernel
theorem dL_law_304 : decode cL_law 304 = .ok (.iaload, 1) := by decide +kernel
theorem dL_law_305 : decode cL_law 305 = .ok (.aload_n 0, 1) := by decide +kernel
theorem dL_law_306 : decode cL_law 306 = .ok (.iload_n 3, 1) := by decide +kernel
theorem dL_law_307 : decode cL_law 307 = .ok (.iconst 3, 1) := by decide +kernel
theorem dL_law_308 : decode cL_law 308 = .ok (.iadd, 1) := by decide +kernel
theorem dL_law_309 : decode cL_law 309 = .ok (.iaload, 1) := by decide +kernel
theorem dL_law_310 : decode cL_law 310 = .ok (.invokevirtual 30, 3) := by decide +kernel
theorem dL_law_313 : decode cL_law 313 = .ok (.if_icmp .eq 999, 3) := by decide +kernel
theorem dL_law_316 : decode cL_law 316 = .ok (.iconst 0, 1) := by decide +kernel
theorem dL_law_317 : decode cL_law 317 = .ok (.ireturn, 1) := by decide +kernel
theorem dL_law_318 : decode cL_law 318 = .ok (.aload_n 1, 1) := by decide +kernel
theorem dL_law_319 : decode cL_law 319 = .ok (.aload_n 0, 1) := by decide +kernel
theorem dL_law_320 : decode cL_law 320 = .ok (.iload_n 3, 1) := by decide +kernel
theorem dL_law_321 : decode cL_law 321 = .ok (.iconst 1, 1) := by decide +kernel
theorem dL_law_322 : decode cL_law 322 = .ok (.iadd, 1) := by decide +kernel
theorem dL_law_323 : decode cL_law 323 = .ok (.iaload, 1) := by decide +kernel
theorem dL_law_324 : decode cL_law 324 = .ok (.aload_n 0, 1) := by decide +kernel
theorem dL_law_325 : decode cL_law 325 = .ok (.iload_n 3, 1) := by decide +kernel
theorem dL_law_326 : decode cL_law 326 = .ok (.iconst 2, 1) := by decide +kernel
theorem dL_law_327 : decode cL_law 327 = .ok (.iadd, 1) := by decide +kernel
theorem dL_law_328 : decode cL_law 328 = .ok (.iaload, 1) := by decide +kernel
theorem dL_law_329 : decode cL_law 329 = .ok (.aload_n 0, 1) := by decide +kernel
theorem dL_law_330 : decode cL_law 330 = .ok (.iload_n 3, 1) := by decide +kernel
theorem dL_law_331 : decode cL_law 331 = .ok (.iconst 3, 1) := by decide +kernel
theorem dL_law_332 : decode cL_law 332 = .ok (.iadd, 1) := by decide +kernel
theorem dL_law_333 : decode cL_law 333 = .ok (.iaload, 1) := by decide +kernel
theorem dL_law_334 : decode cL_law 334 = .ok (.invokevirtual 31, 3) := by decide +kernel
theorem dL_law_337 : decode cL_law 337 = .ok (.aload_n 2, 1) := by decide +kernel
theorem dL_law_338 : decode cL_law 338 = .ok (.aload_n 0, 1) := by decide +kernel
theorem dL_law_339 : decode cL_law 339 = .ok (.iload_n 3, 1) := by decide +kernel
theorem dL_law_340 : decode cL_law 340 = .ok (.iconst 1, 1) := by decide +kernel
theorem dL_law_341 : decode cL_law 341 = .ok (.iadd, 1) := by decide +kernel
theorem dL_law_342 : decode cL_law 342 = .ok (.iaload, 1) := by decide +kernel
theorem dL_law_343 : decode cL_law 343 = .ok (.aload_n 0, 1) := by decide +kernel
theorem dL_law_344 : decode cL_law 344 = .ok (.iload_n 3, 1) := by decide +kernel
theorem dL_law_345 : decode cL_law 345 = .ok (.iconst 2, 1) := by decide +kernel
theorem dL_law_346 : decode cL_law 346 = .ok (.iadd, 1) := by decide +kernel
theorem dL_law_347 : decode cL_law 347 = .ok (.iaload, 1) := by decide +kernel
theorem dL_law_348 : decode cL_law 348 = .ok (.aload_n 0, 1) := by decide +kernel
theorem dL_law_349 : decode cL_law 349 = .ok (.iload_n 3, 1) := by decide +kernel
theorem dL_law_350 : decode cL_law 350 = .ok (.iconst 3, 1) := by decide +kernel
theorem dL_law_351 : decode cL_law 351 = .ok (.iadd, 1) := by decide +kernel
theorem dL_law_352 : decode cL_law 352 = .ok (.iaload, 1) := by decide +kernel
theorem dL_law_353 : decode cL_law 353 = .ok (.invokevirtual 34, 3) := by decide +kernel
theorem dL_law_356 : decode cL_law 356 = .ok (.if_icmp .eq 956, 3) := by decide +kernel
theorem dL_law_359 : decode cL_law 359 = .ok (.iconst 0, 1) := by decide +kernel
theorem dL_law_360 : decode cL_law 360 = .ok (.ireturn, 1) := by decide +kernel
theorem dL_law_361 : decode cL_law 361 = .ok (.aload_n 1, 1) := by decide +kernel
theorem dL_law_362 : decode cL_law 362 = .ok (.aload_n 0, 1) := by decide +kernel
theorem dL_law_363 : decode cL_law 363 = .ok (.iload_n 3, 1) := by decide +kernel
theorem dL_law_364 : decode cL_law 364 = .ok (.iconst 1, 1) := by decide +kernel
theorem dL_law_365 : decode cL_law 365 = .ok (.iadd, 1) := by decide +kernel
theorem dL_law_366 : decode cL_law 366 = .ok (.iaload, 1) := by decide +kernel
theorem dL_law_367 : decode cL_law 367 = .ok (.invokevirtual 35, 3) := by decide +kernel
theorem dL_law_370 : decode cL_law 370 = .ok (.aload_n 2, 1) := by decide +kernel
theorem dL_law_371 : decode cL_law 371 = .ok (.aload_n 0, 1) := by decide +kernel
theorem dL_law_372 : decode cL_law 372 = .ok (.iload_n 3, 1) := by decide +kernel
theorem dL_law_373 : decode cL_law 373 = .ok (.iconst 1, 1) := by decide +kernel
theorem dL_law_374 : decode cL_law 374 = .ok (.iadd, 1) := by decide +kernel
theorem dL_law_375 : decode cL_law 375 = .ok (.iaload, 1) := by decide +kernel
theorem dL_law_376 : decode cL_law 376 = .ok (.invokevirtual 39, 3) := by decide +kernel
theorem dL_law_379 : decode cL_law 379 = .ok (.if_icmp .eq 933, 3) := by decide +kernel
theorem dL_law_382 : decode cL_law 382 = .ok (.iconst 0, 1) := by decide +kernel
theorem dL_law_383 : decode cL_law 383 = .ok (.ireturn, 1) := by decide +kernel
theorem dL_law_384 : decode cL_law 384 = .ok (.aload_n 1, 1) := by decide +kernel
theorem dL_law_385 : decode cL_law 385 = .ok (.aload_n 0, 1) := by decide +kernel
theorem dL_law_386 : decode cL_law 386 = .ok (.iload_n 3, 1) := by decide +kernel
theorem dL_law_387 : decode cL_law 387 = .ok (.iconst 1, 1) := by decide +kernel
theorem dL_law_388 : decode cL_law 388 = .ok (.iadd, 1) := by decide +kernel
theorem dL_law_389 : decode cL_law 389 = .ok (.iaload, 1) := by decide +kernel
theorem dL_law_390 : decode cL_law 390 = .ok (.invokevirtual 40, 3) := by decide +kernel
theorem dL_law_393 : decode cL_law 393 = .ok (.aload_n 2, 1) := by decide +kernel
theorem dL_law_394 : decode cL_law 394 = .ok (.aload_n 0, 1) := by decide +kernel
theorem dL_law_395 : decode cL_law 395 = .ok (.iload_n 3, 1) := by decide +kernel
theorem dL_law_396 : decode cL_law 396 = .ok (.iconst 1, 1) := by decide +kernel
theorem dL_law_397 : decode cL_law 397 = .ok (.iadd, 1) := by decide +kernel
theorem dL_law_398 : decode cL_law 398 = .ok (.iaload, 1) := by decide +kernel
theorem dL_law_399 : decode cL_law 399 = .ok (.invokevirtual 43, 3) := by decide +kernel
theorem dL_law_402 : decode cL_law 402 = .ok (.if_icmp .eq 910, 3) := by decide +kernel
theorem dL_law_405 : decode cL_law 405 = .ok (.iconst 0, 1) := by decide +kernel
theorem dL_law_406 : decode cL_law 406 = .ok (.ireturn, 1) := by decide +kernel
theorem dL_law_407 : decode cL_law 407 = .ok (.aload_n 1, 1) := by decide +kernel
theorem dL_law_408 : decode cL_law 408 = .ok (.aload_n 0, 1) := by decide +kernel
theorem dL_law_409 : decode cL_law 409 = .ok (.iload_n 3, 1) := by decide +kernel
theorem dL_law_410 : decode cL_law 410 = .ok (.iconst 1, 1) := by decide +kernel
theorem dL_law_411 : decode cL_law 411 = .ok (.iadd, 1) := by decide +kernel
theorem dL_law_412 : decode cL_law 412 = .ok (.iaload, 1) := by decide +kernel
theorem dL_law_413 : decode cL_law 413 = .ok (.aload_n 0, 1) := by decide +kernel
theorem dL_law_414 : decode cL_law 414 = .ok (.iload_n 3, 1) := by decide +kernel
theorem dL_law_415 : decode cL_law 415 = .ok (.iconst 2, 1) := by decide +kernel
theorem dL_law_416 : decode cL_law 416 = .ok (.iadd, 1) := by decide +kernel
theorem dL_law_417 : decode cL_law 417 = .ok (.iaload, 1) := by decide +kernel
theorem dL_law_418 : decode cL_law 418 = .ok (.invokevirtual 44, 3) := by decide +kernel
theorem dL_law_421 : decode cL_law 421 = .ok (.aload_n 2, 1) := by decide +kernel
theorem dL_law_422 : decode cL_law 422 = .ok (.aload_n 0, 1) := by decide +kernel
theorem dL_law_423 : decode cL_law 423 = .ok (.iload_n 3, 1) := by decide +kernel
theorem dL_law_424 : decode cL_law 424 = .ok (.iconst 1, 1) := by decide +kernel
theorem dL_law_425 : decode cL_law 425 = .ok (.iadd, 1) := by decide +kernel
theorem dL_law_426 : decode cL_law 426 = .ok (.iaload, 1) := by decide +kernel
theorem dL_law_427 : decode cL_law 427 = .ok (.aload_n 0, 1) := by decide +kernel
theorem dL_law_428 : decode cL_law 428 = .ok (.iload_n 3, 1) := by decide +kernel
theorem dL_law_429 : decode cL_law 429 = .ok (.iconst 2, 1) := by decide +kernel
theorem dL_law_430 : decode cL_law 430 = .ok (.iadd, 1) := by decide +kernel
theorem dL_law_431 : decode cL_law 431 = .ok (.iaload, 1) := by decide +kernel
theorem dL_law_432 : decode cL_law 432 = .ok (.invokevirtual 48, 3) := by decide +kernel
theorem dL_law_435 : decode cL_law 435 = .ok (.if_icmp .eq 877, 3) := by decide +kernel
theorem dL_law_438 : decode cL_law 438 = .ok (.iconst 0, 1) := by decide +kernel
theorem dL_law_439 : decode cL_law 439 = .ok (.ireturn, 1) := by decide +kernel
theorem dL_law_440 : decode cL_law 440 = .ok (.aload_n 1, 1) := by decide +kernel
theorem dL_law_441 : decode cL_law 441 = .ok (.aload_n 0, 1) := by decide +kernel
theorem dL_law_442 : decode cL_law 442 = .ok (.iload_n 3, 1) := by decide +kernel
theorem dL_law_443 : decode cL_law 443 = .ok (.iconst 1, 1) := by decide +kernel
theorem dL_law_444 : decode cL_law 444 = .ok (.iadd, 1) := by decide +kernel
theorem dL_law_445 : decode cL_law 445 = .ok (.iaload, 1) := by decide +kernel
theorem dL_law_446 : decode cL_law 446 = .ok (.aload_n 0, 1) := by decide +kernel
theorem dL_law_447 : decode cL_law 447 = .ok (.iload_n 3, 1) := by decide +kernel
theorem dL_law_448 : decode cL_law 448 = .ok (.iconst 2, 1) := by decide +kernel
theorem dL_law_449 : decode cL_law 449 = .ok (.iadd, 1) := by decide +kernel
theorem dL_law_450 : decode cL_law 450 = .ok (.iaload, 1) := by decide +kernel
theorem dL_law_451 : decode cL_law 451 = .ok (.aload_n 0, 1) := by decide +kernel
theorem dL_law_452 : decode cL_law 452 = .ok (.iload_n 3, 1) := by decide +kernel
theorem dL_law_453 : decode cL_law 453 = .ok (.iconst 3, 1) := by decide +kernel
theorem dL_law_454 : decode cL_law 454 = .ok (.iadd, 1) := by decide +kernel
theorem dL_law_455 : decode cL_law 455 = .ok (.iaload, 1) := by decide +kernel
theorem dL_law_456 : decode cL_law 456 = .ok (.invokevirtual 49, 3) := by decide +kernel
theorem dL_law_459 : decode cL_law 459 = .ok (.aload_n 2, 1) := by decide +kernel
theorem dL_law_460 : decode cL_law 460 = .ok (.aload_n 0, 1) := by decide +kernel
theorem dL_law_461 : decode cL_law 461 = .ok (.iload_n 3, 1) := by decide +kernel
theorem dL_law_462 : decode cL_law 462 = .ok (.iconst 1, 1) := by decide +kernel
theorem dL_law_463 : decode cL_law 463 = .ok (.iadd, 1) := by decide +kernel
theorem dL_law_464 : decode cL_law 464 = .ok (.iaload, 1) := by decide +kernel
theorem dL_law_465 : decode cL_law 465 = .ok (.aload_n 0, 1) := by decide +kernel
theorem dL_law_466 : decode cL_law 466 = .ok (.iload_n 3, 1) := by decide +kernel
theorem dL_law_467 : decode cL_law 467 = .ok (.iconst 2, 1) := by decide +kernel
theorem dL_law_468 : decode cL_law 468 = .ok (.iadd, 1) := by decide +kernel
theorem dL_law_469 : decode cL_law 469 = .ok (.iaload, 1) := by decide +kernel
theorem dL_law_470 : decode cL_law 470 = .ok (.aload_n 0, 1) := by decide +kernel
theorem dL_law_471 : decode cL_law 471 = .ok (.iload_n 3, 1) := by decide +kernel
theorem dL_law_472 : decode cL_law 472 = .ok (.iconst 3, 1) := by decide +kernel
theorem dL_law_473 : decode cL_law 473 = .ok (.iadd, 1) := by decide +kernel
theorem dL_law_474 : decode cL_law 474 = .ok (.iaload, 1) := by decide +kernel
theorem dL_law_475 : decode cL_law 475 = .ok (.invokevirtual 52, 3) := by decide +kernel
theorem dL_law_478 : decode cL_law 478 = .ok (.if_icmp .eq 834, 3) := by decide +kernel
theorem dL_law_481 : decode cL_law 481 = .ok (.iconst 0, 1) := by decide +kernel
theorem dL_law_482 : decode cL_law 482 = .ok (.ireturn, 1) := by decide +kernel
theorem dL_law_483 : decode cL_law 483 = .ok (.aload_n 1, 1) := by decide +kernel
theorem dL_law_484 : decode cL_law 484 = .ok (.aload_n 0, 1) := by decide +kernel
theorem dL_law_485 : decode cL_law 485 = .ok (.iload_n 3, 1) := by decide +kernel
theorem dL_law_486 : decode cL_law 486 = .ok (.iconst 1, 1) := by decide +kernel
theorem dL_law_487 : decode cL_law 487 = .ok (.iadd, 1) := by decide +kernel
theorem dL_law_488 : decode cL_law 488 = .ok (.iaload, 1) := by decide +kernel
theorem dL_law_489 : decode cL_law 489 = .ok (.aload_n 0, 1) := by decide +kernel
theorem dL_law_490 : decode cL_law 490 = .ok (.iload_n 3, 1) := by decide +kernel
theorem dL_law_491 : decode cL_law 491 = .ok (.iconst 2, 1) := by decide +kernel
theorem dL_law_492 : decode cL_law 492 = .ok (.iadd, 1) := by decide +kernel
theorem dL_law_493 : decode cL_law 493 = .ok (.iaload, 1) := by decide +kernel
theorem dL_law_494 : decode cL_law 494 = .ok (.invokevirtual 53, 3) := by decide +kernel
theorem dL_law_497 : decode cL_law 497 = .ok (.aload_n 2, 1) := by decide +kernel
theorem dL_law_498 : decode cL_law 498 = .ok (.aload_n 0, 1) := by decide +kernel
theorem dL_law_499 : decode cL_law 499 = .ok (.iload_n 3, 1) := by decide +kernel
theorem dL_law_500 : decode cL_law 500 = .ok (.iconst 1, 1) := by decide +kernel
theorem dL_law_501 : decode cL_law 501 = .ok (.iadd, 1) := by decide +kernel
theorem dL_law_502 : decode cL_law 502 = .ok (.iaload, 1) := by decide +kernel
theorem dL_law_503 : decode cL_law 503 = .ok (.aload_n 0, 1) := by decide +kernel
theorem dL_law_504 : decode cL_law 504 = .ok (.iload_n 3, 1) := by decide +kernel
theorem dL_law_505 : decode cL_law 505 = .ok (.iconst 2, 1) := by decide +kernel
theorem dL_law_506 : decode cL_law 506 = .ok (.iadd, 1) := by decide +kernel
theorem dL_law_507 : decode cL_law 507 = .ok (.iaload, 1) := by decide +kernel
theorem dL_law_508 : decode cL_law 508 = .ok (.invokevirtual 56, 3) := by decide +kernel
theorem dL_law_511 : decode cL_law 511 = .ok (.if_icmp .eq 801, 3) := by decide +kernel
theorem dL_law_514 : decode cL_law 514 = .ok (.iconst 0, 1) := by decide +kernel
theorem dL_law_515 : decode cL_law 515 = .ok (.ireturn, 1) := by decide +kernel
theorem dL_law_516 : decode cL_law 516 = .ok (.aload_n 1, 1) := by decide +kernel
theorem dL_law_517 : decode cL_law 517 = .ok (.aload_n 0, 1) := by decide +kernel
theorem dL_law_518 : decode cL_law 518 = .ok (.iload_n 3, 1) := by decide +kernel
theorem dL_law_519 : decode cL_law 519 = .ok (.iconst 1, 1) := by decide +kernel
theorem dL_law_520 : decode cL_law 520 = .ok (.iadd, 1) := by decide +kernel
theorem dL_law_521 : decode cL_law 521 = .ok (.iaload, 1) := by decide +kernel
theorem dL_law_522 : decode cL_law 522 = .ok (.aload_n 0, 1) := by decide +kernel
theorem dL_law_523 : decode cL_law 523 = .ok (.iload_n 3, 1) := by decide +kernel
theorem dL_law_524 : decode cL_law 524 = .ok (.iconst 2, 1) := by decide +kernel
theorem dL_law_525 : decode cL_law 525 = .ok (.iadd, 1) := by decide +kernel
theorem dL_law_526 : decode cL_law 526 = .ok (.iaload, 1) := by decide +kernel
theorem dL_law_527 : decode cL_law 527 = .ok (.invokevirtual 57, 3) := by decide +kernel
theorem dL_law_530 : decode cL_law 530 = .ok (.aload_n 2, 1) := by decide +kernel
theorem dL_law_531 : decode cL_law 531 = .ok (.aload_n 0, 1) := by decide +kernel
theorem dL_law_532 : decode cL_law 532 = .ok (.iload_n 3, 1) := by decide +kernel
theorem dL_law_533 : decode cL_law 533 = .ok (.iconst 1, 1) := by decide +kernel
theorem dL_law_534 : decode cL_law 534 = .ok (.iadd, 1) := by decide +kernel
theorem dL_law_535 : decode cL_law 535 = .ok (.iaload, 1) := by decide +kernel
theorem dL_law_536 : decode cL_law 536 = .ok (.aload_n 0, 1) := by decide +kernel
theorem dL_law_537 : decode cL_law 537 = .ok (.iload_n 3, 1) := by decide +kernel
theorem dL_law_538 : decode cL_law 538 = .ok (.iconst 2, 1) := by decide +kernel
theorem dL_law_539 : decode cL_law 539 = .ok (.iadd, 1) := by decide +kernel
theorem dL_law_540 : decode cL_law 540 = .ok (.iaload, 1) := by decide +kernel
theorem dL_law_541 : decode cL_law 541 = .ok (.invokevirtual 60, 3) := by decide +kernel
theorem dL_law_544 : decode cL_law 544 = .ok (.if_icmp .eq 768, 3) := by decide +kernel
theorem dL_law_547 : decode cL_law 547 = .ok (.iconst 0, 1) := by decide +kernel
theorem dL_law_548 : decode cL_law 548 = .ok (.ireturn, 1) := by decide +kernel
theorem dL_law_549 : decode cL_law 549 = .ok (.aload_n 1, 1) := by decide +kernel
theorem dL_law_550 : decode cL_law 550 = .ok (.aload_n 0, 1) := by decide +kernel
theorem dL_law_551 : decode cL_law 551 = .ok (.iload_n 3, 1) := by decide +kernel
theorem dL_law_552 : decode cL_law 552 = .ok (.iconst 1, 1) := by decide +kernel
theorem dL_law_553 : decode cL_law 553 = .ok (.iadd, 1) := by decide +kernel
theorem dL_law_554 : decode cL_law 554 = .ok (.iaload, 1) := by decide +kernel
theorem dL_law_555 : decode cL_law 555 = .ok (.aload_n 0, 1) := by decide +kernel
theorem dL_law_556 : decode cL_law 556 = .ok (.iload_n 3, 1) := by decide +kernel
theorem dL_law_557 : decode cL_law 557 = .ok (.iconst 2, 1) := by decide +kernel
theorem dL_law_558 : decode cL_law 558 = .ok (.iadd, 1) := by decide +kernel
theorem dL_law_559 : decode cL_law 559 = .ok (.iaload, 1) := by decide +kernel
theorem dL_law_560 : decode cL_law 560 = .ok (.invokevirtual 61, 3) := by decide +kernel
theorem dL_law_563 : decode cL_law 563 = .ok (.aload_n 2, 1) := by decide +kernel
theorem dL_law_564 : decode cL_law 564 = .ok (.aload_n 0, 1) := by decide +kernel
theorem dL_law_565 : decode cL_law 565 = .ok (.iload_n 3, 1) := by decide +kernel
theorem dL_law_566 : decode cL_law 566 = .ok (.iconst 1, 1) := by decide +kernel
theorem dL_law_567 : decode cL_law 567 = .ok (.iadd, 1) := by decide +kernel
theorem dL_law_568 : decode cL_law 568 = .ok (.iaload, 1) := by decide +kernel
theorem dL_law_569 : decode cL_law 569 = .ok (.aload_n 0, 1) := by decide +kernel
theorem dL_law_570 : decode cL_law 570 = .ok (.iload_n 3, 1) := by decide +kernel
theorem dL_law_571 : decode cL_law 571 = .ok (.iconst 2, 1) := by decide +kernel
theorem dL_law_572 : decode cL_law 572 = .ok (.iadd, 1) := by decide +kernel
theorem dL_law_573 : decode cL_law 573 = .ok (.iaload, 1) := by decide +kernel
theorem dL_law_574 : decode cL_law 574 = .ok (.invokevirtual 64, 3) := by decide +kernel
theorem dL_law_577 : decode cL_law 577 = .ok (.if_icmp .eq 735, 3) := by decide +kernel
theorem dL_law_580 : decode cL_law 580 = .ok (.iconst 0, 1) := by decide +kernel
theorem dL_law_581 : decode cL_law 581 = .ok (.ireturn, 1) := by decide +kernel
theorem dL_law_582 : decode cL_law 582 = .ok (.aload_n 1, 1) := by decide +kernel
theorem dL_law_583 : decode cL_law 583 = .ok (.aload_n 0, 1) := by decide +kernel
theorem dL_law_584 : decode cL_law 584 = .ok (.iload_n 3, 1) := by decide +kernel
theorem dL_law_585 : decode cL_law 585 = .ok (.iconst 1, 1) := by decide +kernel
theorem dL_law_586 : decode cL_law 586 = .ok (.iadd, 1) := by decide +kernel
theorem dL_law_587 : decode cL_law 587 = .ok (.iaload, 1) := by decide +kernel
theorem dL_law_588 : decode cL_law 588 = .ok (.aload_n 0, 1) := by decide +kernel
theorem dL_law_589 : decode cL_law 589 = .ok (.iload_n 3, 1) := by decide +kernel
theorem dL_law_590 : decode cL_law 590 = .ok (.iconst 2, 1) := by decide +kernel
theorem dL_law_591 : decode cL_law 591 = .ok (.iadd, 1) := by decide +kernel
theorem dL_law_592 : decode cL_law 592 = .ok (.iaload, 1) := by decide +kernel
theorem dL_law_593 : decode cL_law 593 = .ok (.invokevirtual 65, 3) := by decide +kernel
theorem dL_law_596 : decode cL_law 596 = .ok (.aload_n 2, 1) := by decide +kernel
theorem dL_law_597 : decode cL_law 597 = .ok (.aload_n 0, 1) := by decide +kernel
theorem dL_law_598 : decode cL_law 598 = .ok (.iload_n 3, 1) := by decide +kernel
theorem dL_law_599 : decode cL_law 599 = .ok (.iconst 1, 1) := by decide +kernel
theorem dL_law_600 : decode cL_law 600 = .ok (.iadd, 1) := by decide +kernel
theorem dL_law_601 : decode cL_law 601 = .ok (.iaload, 1) := by decide +kernel
theorem dL_law_602 : decode cL_law 602 = .ok (.aload_n 0, 1) := by decide +kernel
theorem dL_law_603 : decode cL_law 603 = .ok (.iload_n 3, 1) := by decide +kernel
theorem dL_law_604 : decode cL_law 604 = .ok (.iconst 2, 1) := by decide +kernel
theorem dL_law_605 : decode cL_law 605 = .ok (.iadd, 1) := by decide +kernel
theorem dL_law_606 : decode cL_law 606 = .ok (.iaload, 1) := by decide +kernel
theorem dL_law_607 : decode cL_law 607 = .ok (.invokevirtual 68, 3) := by decide +kernel
theorem dL_law_610 : decode cL_law 610 = .ok (.if_icmp .eq 702, 3) := by decide +kernel
theorem dL_law_613 : decode cL_law 613 = .ok (.iconst 0, 1) := by decide +kernel
theorem dL_law_614 : decode cL_law 614 = .ok (.ireturn, 1) := by decide +kernel
theorem dL_law_615 : decode cL_law 615 = .ok (.aload_n 1, 1) := by decide +kernel
theorem dL_law_616 : decode cL_law 616 = .ok (.aload_n 0, 1) := by decide +kernel
theorem dL_law_617 : decode cL_law 617 = .ok (.iload_n 3, 1) := by decide +kernel
theorem dL_law_618 : decode cL_law 618 = .ok (.iconst 1, 1) := by decide +kernel
theorem dL_law_619 : decode cL_law 619 = .ok (.iadd, 1) := by decide +kernel
theorem dL_law_620 : decode cL_law 620 = .ok (.iaload, 1) := by decide +kernel
theorem dL_law_621 : decode cL_law 621 = .ok (.aload_n 0, 1) := by decide +kernel
theorem dL_law_622 : decode cL_law 622 = .ok (.iload_n 3, 1) := by decide +kernel
theorem dL_law_623 : decode cL_law 623 = .ok (.iconst 2, 1) := by decide +kernel
theorem dL_law_624 : decode cL_law 624 = .ok (.iadd, 1) := by decide +kernel
theorem dL_law_625 : decode cL_law 625 = .ok (.iaload, 1) := by decide +kernel
theorem dL_law_626 : decode cL_law 626 = .ok (.invokevirtual 69, 3) := by decide +kernel
theorem dL_law_629 : decode cL_law 629 = .ok (.aload_n 2, 1) := by decide +kernel
theorem dL_law_630 : decode cL_law 630 = .ok (.aload_n 0, 1) := by decide +kernel
theorem dL_law_631 : decode cL_law 631 = .ok (.iload_n 3, 1) := by decide +kernel
theorem dL_law_632 : decode cL_law 632 = .ok (.iconst 1, 1) := by decide +kernel
theorem dL_law_633 : decode cL_law 633 = .ok (.iadd, 1) := by decide +kernel
theorem dL_law_634 : decode cL_law 634 = .ok (.iaload, 1) := by decide +kernel
theorem dL_law_635 : decode cL_law 635 = .ok (.aload_n 0, 1) := by decide +kernel
theorem dL_law_636 : decode cL_law 636 = .ok (.iload_n 3, 1) := by decide +kernel
theorem dL_law_637 : decode cL_law 637 = .ok (.iconst 2, 1) := by decide +kernel
theorem dL_law_638 : decode cL_law 638 = .ok (.iadd, 1) := by decide +kernel
theorem dL_law_639 : decode cL_law 639 = .ok (.iaload, 1) := by decide +kernel
theorem dL_law_640 : decode cL_law 640 = .ok (.invokevirtual 72, 3) := by decide +kernel
theorem dL_law_643 : decode cL_law 643 = .ok (.if_icmp .eq 669, 3) := by decide +kernel
theorem dL_law_646 : decode cL_law 646 = .ok (.iconst 0, 1) := by decide +kernel
theorem dL_law_647 : decode cL_law 647 = .ok (.ireturn, 1) := by decide +kernel
theorem dL_law_648 : decode cL_law 648 = .ok (.aload_n 1, 1) := by decide +kernel
theorem dL_law_649 : decode cL_law 649 = .ok (.aload_n 0, 1) := by decide +kernel
theorem dL_law_650 : decode cL_law 650 = .ok (.iload_n 3, 1) := by decide +kernel
theorem dL_law_651 : decode cL_law 651 = .ok (.iconst 1, 1) := by decide +kernel
theorem dL_law_652 : decode cL_law 652 = .ok (.iadd, 1) := by decide +kernel
theorem dL_law_653 : decode cL_law 653 = .ok (.iaload, 1) := by decide +kernel
theorem dL_law_654 : decode cL_law 654 = .ok (.aload_n 0, 1) := by decide +kernel
theorem dL_law_655 : decode cL_law 655 = .ok (.iload_n 3, 1) := by decide +kernel
theorem dL_law_656 : decode cL_law 656 = .ok (.iconst 2, 1) := by decide +kernel
theorem dL_law_657 : decode cL_law 657 = .ok (.iadd, 1) := by decide +kernel
theorem dL_law_658 : decode cL_law 658 = .ok (.iaload, 1) := by decide +kernel
theorem dL_law_659 : decode cL_law 659 = .ok (.invokevirtual 73, 3) := by decide +kernel
theorem dL_law_662 : decode cL_law 662 = .ok (.aload_n 2, 1) := by decide +kernel
theorem dL_law_663 : decode cL_law 663 = .ok (.aload_n 0, 1) := by decide +kernel
theorem dL_law_664 : decode cL_law 664 = .ok (.iload_n 3, 1) := by decide +kernel
theorem dL_law_665 : decode cL_law 665 = .ok (.iconst 1, 1) := by decide +kernel
theorem dL_law_666 : decode cL_law 666 = .ok (.iadd, 1) := by decide +kernel
theorem dL_law_667 : decode cL_law 667 = .ok (.iaload, 1) := by decide +kernel
theorem dL_law_668 : decode cL_law 668 = .ok (.aload_n 0, 1) := by decide +kernel
theorem dL_law_669 : decode cL_law 669 = .ok (.iload_n 3, 1) := by decide +kernel
theorem dL_law_670 : decode cL_law 670 = .ok (.iconst 2, 1) := by decide +kernel
theorem dL_law_671 : decode cL_law 671 = .ok (.iadd, 1) := by decide +kernel
theorem dL_law_672 : decode cL_law 672 = .ok (.iaload, 1) := by decide +kernel
theorem dL_law_673 : decode cL_law 673 = .ok (.invokevirtual 76, 3) := by decide +kernel
theorem dL_law_676 : decode cL_law 676 = .ok (.if_icmp .eq 636, 3) := by decide +kernel
theorem dL_law_679 : decode cL_law 679 = .ok (.iconst 0, 1) := by decide +kernel
theorem dL_law_680 : decode cL_law 680 = .ok (.ireturn, 1) := by decide +kernel
theorem dL_law_681 : decode cL_law 681 = .ok (.aload_n 1, 1) := by decide +kernel
theorem dL_law_682 : decode cL_law 682 = .ok (.aload_n 0, 1) := by decide +kernel
theorem dL_law_683 : decode cL_law 683 = .ok (.iload_n 3, 1) := by decide +kernel
theorem dL_law_684 : decode cL_law 684 = .ok (.iconst 1, 1) := by decide +kernel
theorem dL_law_685 : decode cL_law 685 = .ok (.iadd, 1) := by decide +kernel
theorem dL_law_686 : decode cL_law 686 = .ok (.iaload, 1) := by decide +kernel
theorem dL_law_687 : decode cL_law 687 = .ok (.aload_n 0, 1) := by decide +kernel
theorem dL_law_688 : decode cL_law 688 = .ok (.iload_n 3, 1) := by decide +kernel
theorem dL_law_689 : decode cL_law 689 = .ok (.iconst 2, 1) := by decide +kernel
theorem dL_law_690 : decode cL_law 690 = .ok (.iadd, 1) := by decide +kernel
theorem dL_law_691 : decode cL_law 691 = .ok (.iaload, 1) := by decide +kernel
theorem dL_law_692 : decode cL_law 692 = .ok (.invokevirtual 77, 3) := by decide +kernel
theorem dL_law_695 : decode cL_law 695 = .ok (.aload_n 2, 1) := by decide +kernel
theorem dL_law_696 : decode cL_law 696 = .ok (.aload_n 0, 1) := by decide +kernel
theorem dL_law_697 : decode cL_law 697 = .ok (.iload_n 3, 1) := by decide +kernel
theorem dL_law_698 : decode cL_law 698 = .ok (.iconst 1, 1) := by decide +kernel
theorem dL_law_699 : decode cL_law 699 = .ok (.iadd, 1) := by decide +kernel
theorem dL_law_700 : decode cL_law 700 = .ok (.iaload, 1) := by decide +kernel
theorem dL_law_701 : decode cL_law 701 = .ok (.aload_n 0, 1) := by decide +kernel
theorem dL_law_702 : decode cL_law 702 = .ok (.iload_n 3, 1) := by decide +kernel
theorem dL_law_703 : decode cL_law 703 = .ok (.iconst 2, 1) := by decide +kernel
theorem dL_law_704 : decode cL_law 704 = .ok (.iadd, 1) := by decide +kernel
theorem dL_law_705 : decode cL_law 705 = .ok (.iaload, 1) := by decide +kernel
theorem dL_law_706 : decode cL_law 706 = .ok (.invokevirtual 80, 3) := by decide +kernel
theorem dL_law_709 : decode cL_law 709 = .ok (.if_icmp .eq 603, 3) := by decide +kernel
theorem dL_law_712 : decode cL_law 712 = .ok (.iconst 0, 1) := by decide +kernel
theorem dL_law_713 : decode cL_law 713 = .ok (.ireturn, 1) := by decide +kernel
theorem dL_law_714 : decode cL_law 714 = .ok (.aload_n 1, 1) := by decide +kernel
theorem dL_law_715 : decode cL_law 715 = .ok (.aload_n 0, 1) := by decide +kernel
theorem dL_law_716 : decode cL_law 716 = .ok (.iload_n 3, 1) := by decide +kernel
theorem dL_law_717 : decode cL_law 717 = .ok (.iconst 1, 1) := by decide +kernel
theorem dL_law_718 : decode cL_law 718 = .ok (.iadd, 1) := by decide +kernel
theorem dL_law_719 : decode cL_law 719 = .ok (.iaload, 1) := by decide +kernel
theorem dL_law_720 : decode cL_law 720 = .ok (.aload_n 0, 1) := by decide +kernel
theorem dL_law_721 : decode cL_law 721 = .ok (.iload_n 3, 1) := by decide +kernel
theorem dL_law_722 : decode cL_law 722 = .ok (.iconst 2, 1) := by decide +kernel
theorem dL_law_723 : decode cL_law 723 = .ok (.iadd, 1) := by decide +kernel
theorem dL_law_724 : decode cL_law 724 = .ok (.iaload, 1) := by decide +kernel
theorem dL_law_725 : decode cL_law 725 = .ok (.aload_n 0, 1) := by decide +kernel
theorem dL_law_726 : decode cL_law 726 = .ok (.iload_n 3, 1) := by decide +kernel
theorem dL_law_727 : decode cL_law 727 = .ok (.iconst 3, 1) := by decide +kernel
theorem dL_law_728 : decode cL_law 728 = .ok (.iadd, 1) := by decide +kernel
theorem dL_law_729 : decode cL_law 729 = .ok (.iaload, 1) := by decide +kernel
theorem dL_law_730 : decode cL_law 730 = .ok (.invokevirtual 81, 3) := by decide +kernel
theorem dL_law_733 : decode cL_law 733 = .ok (.aload_n 2, 1) := by decide +kernel
theorem dL_law_734 : decode cL_law 734 = .ok (.aload_n 0, 1) := by decide +kernel
theorem dL_law_735 : decode cL_law 735 = .ok (.iload_n 3, 1) := by decide +kernel
theorem dL_law_736 : decode cL_law 736 = .ok (.iconst 1, 1) := by decide +kernel
theorem dL_law_737 : decode cL_law 737 = .ok (.iadd, 1) := by decide +kernel
theorem dL_law_738 : decode cL_law 738 = .ok (.iaload, 1) := by decide +kernel
theorem dL_law_739 : decode cL_law 739 = .ok (.aload_n 0, 1) := by decide +kernel
theorem dL_law_740 : decode cL_law 740 = .ok (.iload_n 3, 1) := by decide +kernel
theorem dL_law_741 : decode cL_law 741 = .ok (.iconst 2, 1) := by decide +kernel
theorem dL_law_742 : decode cL_law 742 = .ok (.iadd, 1) := by decide +kernel
theorem dL_law_743 : decode cL_law 743 = .ok (.iaload, 1) := by decide +kernel
theorem dL_law_744 : decode cL_law 744 = .ok (.aload_n 0, 1) := by decide +kernel
theorem dL_law_745 : decode cL_law 745 = .ok (.iload_n 3, 1) := by decide +kernel
theorem dL_law_746 : decode cL_law 746 = .ok (.iconst 3, 1) := by decide +kernel
theorem dL_law_747 : decode cL_law 747 = .ok (.iadd, 1) := by decide +kernel
theorem dL_law_748 : decode cL_law 748 = .ok (.iaload, 1) := by decide +kernel
theorem dL_law_749 : decode cL_law 749 = .ok (.invokevirtual 84, 3) := by decide +kernel
theorem dL_law_752 : decode cL_law 752 = .ok (.if_icmp .eq 560, 3) := by decide +kernel
theorem dL_law_755 : decode cL_law 755 = .ok (.iconst 0, 1) := by decide +kernel
theorem dL_law_756 : decode cL_law 756 = .ok (.ireturn, 1) := by decide +kernel
theorem dL_law_757 : decode cL_law 757 = .ok (.aload_n 1, 1) := by decide +kernel
theorem dL_law_758 : decode cL_law 758 = .ok (.aload_n 0, 1) := by decide +kernel
theorem dL_law_759 : decode cL_law 759 = .ok (.iload_n 3, 1) := by decide +kernel
theorem dL_law_760 : decode cL_law 760 = .ok (.iconst 1, 1) := by decide +kernel
theorem dL_law_761 : decode cL_law 761 = .ok (.iadd, 1) := by decide +kernel
theorem dL_law_762 : decode cL_law 762 = .ok (.iaload, 1) := by decide +kernel
theorem dL_law_763 : decode cL_law 763 = .ok (.aload_n 0, 1) := by decide +kernel
theorem dL_law_764 : decode cL_law 764 = .ok (.iload_n 3, 1) := by decide +kernel
theorem dL_law_765 : decode cL_law 765 = .ok (.iconst 2, 1) := by decide +kernel
theorem dL_law_766 : decode cL_law 766 = .ok (.iadd, 1) := by decide +kernel
theorem dL_law_767 : decode cL_law 767 = .ok (.iaload, 1) := by decide +kernel
theorem dL_law_768 : decode cL_law 768 = .ok (.aload_n 0, 1) := by decide +kernel
theorem dL_law_769 : decode cL_law 769 = .ok (.iload_n 3, 1) := by decide +kernel
theorem dL_law_770 : decode cL_law 770 = .ok (.iconst 3, 1) := by decide +kernel
theorem dL_law_771 : decode cL_law 771 = .ok (.iadd, 1) := by decide +kernel
theorem dL_law_772 : decode cL_law 772 = .ok (.iaload, 1) := by decide +kernel
theorem dL_law_773 : decode cL_law 773 = .ok (.aload_n 0, 1) := by decide +kernel
theorem dL_law_774 : decode cL_law 774 = .ok (.iload_n 3, 1) := by decide +kernel
theorem dL_law_775 : decode cL_law 775 = .ok (.iconst 4, 1) := by decide +kernel
theorem dL_law_776 : decode cL_law 776 = .ok (.iadd, 1) := by decide +kernel
theorem dL_law_777 : decode cL_law 777 = .ok (.iaload, 1) := by decide +kernel
theorem dL_law_778 : decode cL_law 778 = .ok (.aload_n 0, 1) := by decide +kernel
theorem dL_law_779 : decode cL_law 779 = .ok (.iload_n 3, 1) := by decide +kernel
theorem dL_law_780 : decode cL_law 780 = .ok (.iconst 5, 1) := by decide +kernel
theorem dL_law_781 : decode cL_law 781 = .ok (.iadd, 1) := by decide +kernel
theorem dL_law_782 : decode cL_law 782 = .ok (.iaload, 1) := by decide +kernel
theorem dL_law_783 : decode cL_law 783 = .ok (.invokevirtual 85, 3) := by decide +kernel
theorem dL_law_786 : decode cL_law 786 = .ok (.aload_n 2, 1) := by decide +kernel
theorem dL_law_787 : decode cL_law 787 = .ok (.aload_n 0, 1) := by decide +kernel
theorem dL_law_788 : decode cL_law 788 = .ok (.iload_n 3, 1) := by decide +kernel
theorem dL_law_789 : decode cL_law 789 = .ok (.iconst 1, 1) := by decide +kernel
theorem dL_law_790 : decode cL_law 790 = .ok (.iadd, 1) := by decide +kernel
theorem dL_law_791 : decode cL_law 791 = .ok (.iaload, 1) := by decide +kernel
theorem dL_law_792 : decode cL_law 792 = .ok (.aload_n 0, 1) := by decide +kernel
theorem dL_law_793 : decode cL_law 793 = .ok (.iload_n 3, 1) := by decide +kernel
theorem dL_law_794 : decode cL_law 794 = .ok (.iconst 2, 1) := by decide +kernel
theorem dL_law_795 : decode cL_law 795 = .ok (.iadd, 1) := by decide +kernel
theorem dL_law_796 : decode cL_law 796 = .ok (.iaload, 1) := by decide +kernel
theorem dL_law_797 : decode cL_law 797 = .ok (.aload_n 0, 1) := by decide +kernel
theorem dL_law_798 : decode cL_law 798 = .ok (.iload_n 3, 1) := by decide +kernel
theorem dL_law_799 : decode cL_law 799 = .ok (.iconst 3, 1) := by decide +kernel
theorem dL_law_800 : decode cL_law 800 = .ok (.iadd, 1) := by decide +kernel
theorem dL_law_801 : decode cL_law 801 = .ok (.iaload, 1) := by decide +kernel
theorem dL_law_802 : decode cL_law 802 = .ok (.aload_n 0, 1) := by decide +kernel
theorem dL_law_803 : decode cL_law 803 = .ok (.iload_n 3, 1) := by decide +kernel
theorem dL_law_804 : decode cL_law 804 = .ok (.iconst 4, 1) := by decide +kernel
theorem dL_law_805 : decode cL_law 805 = .ok (.iadd, 1) := by decide +kernel
theorem dL_law_806 : decode cL_law 806 = .ok (.iaload, 1) := by decide +kernel
theorem dL_law_807 : decode cL_law 807 = .ok (.aload_n 0, 1) := by decide +kernel
theorem dL_law_808 : decode cL_law 808 = .ok (.iload_n 3, 1) := by decide +kernel
theorem dL_law_809 : decode cL_law 809 = .ok (.iconst 5, 1) := by decide +kernel
theorem dL_law_810 : decode cL_law 810 = .ok (.iadd, 1) := by decide +kernel
theorem dL_law_811 : decode cL_law 811 = .ok (.iaload, 1) := by decide +kernel
theorem dL_law_812 : decode cL_law 812 = .ok (.invokevirtual 89, 3) := by decide +kernel
theorem dL_law_815 : decode cL_law 815 = .ok (.if_icmp .eq 497, 3) := by decide +kernel
theorem dL_law_818 : decode cL_law 818 = .ok (.iconst 0, 1) := by decide +kernel
theorem dL_law_819 : decode cL_law 819 = .ok (.ireturn, 1) := by decide +kernel
theorem dL_law_820 : decode cL_law 820 = .ok (.aload_n 1, 1) := by decide +kernel
theorem dL_law_821 : decode cL_law 821 = .ok (.aload_n 0, 1) := by decide +kernel
theorem dL_law_822 : decode cL_law 822 = .ok (.iload_n 3, 1) := by decide +kernel
theorem dL_law_823 : decode cL_law 823 = .ok (.iconst 1, 1) := by decide +kernel
theorem dL_law_824 : decode cL_law 824 = .ok (.iadd, 1) := by decide +kernel
theorem dL_law_825 : decode cL_law 825 = .ok (.iaload, 1) := by decide +kernel
theorem dL_law_826 : decode cL_law 826 = .ok (.aload_n 0, 1) := by decide +kernel
theorem dL_law_827 : decode cL_law 827 = .ok (.iload_n 3, 1) := by decide +kernel
theorem dL_law_828 : decode cL_law 828 = .ok (.iconst 2, 1) := by decide +kernel
theorem dL_law_829 : decode cL_law 829 = .ok (.iadd, 1) := by decide +kernel
theorem dL_law_830 : decode cL_law 830 = .ok (.iaload, 1) := by decide +kernel
theorem dL_law_831 : decode cL_law 831 = .ok (.aload_n 0, 1) := by decide +kernel
theorem dL_law_832 : decode cL_law 832 = .ok (.iload_n 3, 1) := by decide +kernel
theorem dL_law_833 : decode cL_law 833 = .ok (.iconst 3, 1) := by decide +kernel
theorem dL_law_834 : decode cL_law 834 = .ok (.iadd, 1) := by decide +kernel
theorem dL_law_835 : decode cL_law 835 = .ok (.iaload, 1) := by decide +kernel
theorem dL_law_836 : decode cL_law 836 = .ok (.invokevirtual 90, 3) := by decide +kernel
theorem dL_law_839 : decode cL_law 839 = .ok (.aload_n 2, 1) := by decide +kernel
theorem dL_law_840 : decode cL_law 840 = .ok (.aload_n 0, 1) := by decide +kernel
theorem dL_law_841 : decode cL_law 841 = .ok (.iload_n 3, 1) := by decide +kernel
theorem dL_law_842 : decode cL_law 842 = .ok (.iconst 1, 1) := by decide +kernel
theorem dL_law_843 : decode cL_law 843 = .ok (.iadd, 1) := by decide +kernel
theorem dL_law_844 : decode cL_law 844 = .ok (.iaload, 1) := by decide +kernel
theorem dL_law_845 : decode cL_law 845 = .ok (.aload_n 0, 1) := by decide +kernel
theorem dL_law_846 : decode cL_law 846 = .ok (.iload_n 3, 1) := by decide +kernel
theorem dL_law_847 : decode cL_law 847 = .ok (.iconst 2, 1) := by decide +kernel
theorem dL_law_848 : decode cL_law 848 = .ok (.iadd, 1) := by decide +kernel
theorem dL_law_849 : decode cL_law 849 = .ok (.iaload, 1) := by decide +kernel
theorem dL_law_850 : decode cL_law 850 = .ok (.aload_n 0, 1) := by decide +kernel
theorem dL_law_851 : decode cL_law 851 = .ok (.iload_n 3, 1) := by decide +kernel
theorem dL_law_852 : decode cL_law 852 = .ok (.iconst 3, 1) := by decide +kernel
theorem dL_law_853 : decode cL_law 853 = .ok (.iadd, 1) := by decide +kernel
theorem dL_law_854 : decode cL_law 854 = .ok (.iaload, 1) := by decide +kernel
theorem dL_law_855 : decode cL_law 855 = .ok (.invokevirtual 93, 3) := by decide +kernel
theorem dL_law_858 : decode cL_law 858 = .ok (.if_icmp .eq 454, 3) := by decide +kernel
theorem dL_law_861 : decode cL_law 861 = .ok (.iconst 0, 1) := by decide +kernel
theorem dL_law_862 : decode cL_law 862 = .ok (.ireturn, 1) := by decide +kernel
theorem dL_law_863 : decode cL_law 863 = .ok (.aload_n 1, 1) := by decide +kernel
theorem dL_law_864 : decode cL_law 864 = .ok (.aload_n 0, 1) := by decide +kernel
theorem dL_law_865 : decode cL_law 865 = .ok (.iload_n 3, 1) := by decide +kernel
theorem dL_law_866 : decode cL_law 866 = .ok (.iconst 1, 1) := by decide +kernel
theorem dL_law_867 : decode cL_law 867 = .ok (.iadd, 1) := by decide +kernel
theorem dL_law_868 : decode cL_law 868 = .ok (.iaload, 1) := by decide +kernel
theorem dL_law_869 : decode cL_law 869 = .ok (.aload_n 0, 1) := by decide +kernel
theorem dL_law_870 : decode cL_law 870 = .ok (.iload_n 3, 1) := by decide +kernel
theorem dL_law_871 : decode cL_law 871 = .ok (.iconst 2, 1) := by decide +kernel
theorem dL_law_872 : decode cL_law 872 = .ok (.iadd, 1) := by decide +kernel
theorem dL_law_873 : decode cL_law 873 = .ok (.iaload, 1) := by decide +kernel
theorem dL_law_874 : decode cL_law 874 = .ok (.aload_n 0, 1) := by decide +kernel
theorem dL_law_875 : decode cL_law 875 = .ok (.iload_n 3, 1) := by decide +kernel
theorem dL_law_876 : decode cL_law 876 = .ok (.iconst 3, 1) := by decide +kernel
theorem dL_law_877 : decode cL_law 877 = .ok (.iadd, 1) := by decide +kernel
theorem dL_law_878 : decode cL_law 878 = .ok (.iaload, 1) := by decide +kernel
theorem dL_law_879 : decode cL_law 879 = .ok (.aload_n 0, 1) := by decide +kernel
theorem dL_law_880 : decode cL_law 880 = .ok (.iload_n 3, 1) := by decide +kernel
theorem dL_law_881 : decode cL_law 881 = .ok (.iconst 4, 1) := by decide +kernel
theorem dL_law_882 : decode cL_law 882 = .ok (.iadd, 1) := by decide +kernel
theorem dL_law_883 : decode cL_law 883 = .ok (.iaload, 1) := by decide +kernel
theorem dL_law_884 : decode cL_law 884 = .ok (.invokevirtual 94, 3) := by decide +kernel
theorem dL_law_887 : decode cL_law 887 = .ok (.aload_n 2, 1) := by decide +kernel
theorem dL_law_888 : decode cL_law 888 = .ok (.aload_n 0, 1) := by decide +kernel
theorem dL_law_889 : decode cL_law 889 = .ok (.iload_n 3, 1) := by decide +kernel
theorem dL_law_890 : decode cL_law 890 = .ok (.iconst 1, 1) := by decide +kernel
theorem dL_law_891 : decode cL_law 891 = .ok (.iadd, 1) := by decide +kernel
theorem dL_law_892 : decode cL_law 892 = .ok (.iaload, 1) := by decide +kernel
theorem dL_law_893 : decode cL_law 893 = .ok (.aload_n 0, 1) := by decide +kernel
theorem dL_law_894 : decode cL_law 894 = .ok (.iload_n 3, 1) := by decide +kernel
theorem dL_law_895 : decode cL_law 895 = .ok (.iconst 2, 1) := by decide +kernel
theorem dL_law_896 : decode cL_law 896 = .ok (.iadd, 1) := by decide +kernel
theorem dL_law_897 : decode cL_law 897 = .ok (.iaload, 1) := by decide +kernel
theorem dL_law_898 : decode cL_law 898 = .ok (.aload_n 0, 1) := by decide +kernel
theorem dL_law_899 : decode cL_law 899 = .ok (.iload_n 3, 1) := by decide +kernel
theorem dL_law_900 : decode cL_law 900 = .ok (.iconst 3, 1) := by decide +kernel
theorem dL_law_901 : decode cL_law 901 = .ok (.iadd, 1) := by decide +kernel
theorem dL_law_902 : decode cL_law 902 = .ok (.iaload, 1) := by decide +kernel
theorem dL_law_903 : decode cL_law 903 = .ok (.aload_n 0, 1) := by decide +kernel
theorem dL_law_904 : decode cL_law 904 = .ok (.iload_n 3, 1) := by decide +kernel
theorem dL_law_905 : decode cL_law 905 = .ok (.iconst 4, 1) := by decide +kernel
theorem dL_law_906 : decode cL_law 906 = .ok (.iadd, 1) := by decide +kernel
theorem dL_law_907 : decode cL_law 907 = .ok (.iaload, 1) := by decide +kernel
theorem dL_law_908 : decode cL_law 908 = .ok (.invokevirtual 98, 3) := by decide +kernel
theorem dL_law_911 : decode cL_law 911 = .ok (.if_icmp .eq 401, 3) := by decide +kernel
theorem dL_law_914 : decode cL_law 914 = .ok (.iconst 0, 1) := by decide +kernel
theorem dL_law_915 : decode cL_law 915 = .ok (.ireturn, 1) := by decide +kernel
theorem dL_law_916 : decode cL_law 916 = .ok (.aload_n 1, 1) := by decide +kernel
theorem dL_law_917 : decode cL_law 917 = .ok (.aload_n 0, 1) := by decide +kernel
theorem dL_law_918 : decode cL_law 918 = .ok (.iload_n 3, 1) := by decide +kernel
theorem dL_law_919 : decode cL_law 919 = .ok (.iconst 1, 1) := by decide +kernel
theorem dL_law_920 : decode cL_law 920 = .ok (.iadd, 1) := by decide +kernel
theorem dL_law_921 : decode cL_law 921 = .ok (.iaload, 1) := by decide +kernel
theorem dL_law_922 : decode cL_law 922 = .ok (.invokevirtual 99, 3) := by decide +kernel
theorem dL_law_925 : decode cL_law 925 = .ok (.aload_n 2, 1) := by decide +kernel
theorem dL_law_926 : decode cL_law 926 = .ok (.aload_n 0, 1) := by decide +kernel
theorem dL_law_927 : decode cL_law 927 = .ok (.iload_n 3, 1) := by decide +kernel
theorem dL_law_928 : decode cL_law 928 = .ok (.iconst 1, 1) := by decide +kernel
theorem dL_law_929 : decode cL_law 929 = .ok (.iadd, 1) := by decide +kernel
theorem dL_law_930 : decode cL_law 930 = .ok (.iaload, 1) := by decide +kernel
theorem dL_law_931 : decode cL_law 931 = .ok (.invokevirtual 102, 3) := by decide +kernel
theorem dL_law_934 : decode cL_law 934 = .ok (.if_icmp .eq 378, 3) := by decide +kernel
theorem dL_law_937 : decode cL_law 937 = .ok (.iconst 0, 1) := by decide +kernel
theorem dL_law_938 : decode cL_law 938 = .ok (.ireturn, 1) := by decide +kernel
theorem dL_law_939 : decode cL_law 939 = .ok (.aload_n 1, 1) := by decide +kernel
theorem dL_law_940 : decode cL_law 940 = .ok (.aload_n 0, 1) := by decide +kernel
theorem dL_law_941 : decode cL_law 941 = .ok (.iload_n 3, 1) := by decide +kernel
theorem dL_law_942 : decode cL_law 942 = .ok (.iconst 1, 1) := by decide +kernel
theorem dL_law_943 : decode cL_law 943 = .ok (.iadd, 1) := by decide +kernel
theorem dL_law_944 : decode cL_law 944 = .ok (.iaload, 1) := by decide +kernel
theorem dL_law_945 : decode cL_law 945 = .ok (.aload_n 0, 1) := by decide +kernel
theorem dL_law_946 : decode cL_law 946 = .ok (.iload_n 3, 1) := by decide +kernel
theorem dL_law_947 : decode cL_law 947 = .ok (.iconst 2, 1) := by decide +kernel
theorem dL_law_948 : decode cL_law 948 = .ok (.iadd, 1) := by decide +kernel
theorem dL_law_949 : decode cL_law 949 = .ok (.iaload, 1) := by decide +kernel
theorem dL_law_950 : decode cL_law 950 = .ok (.invokevirtual 103, 3) := by decide +kernel
theorem dL_law_953 : decode cL_law 953 = .ok (.aload_n 2, 1) := by decide +kernel
theorem dL_law_954 : decode cL_law 954 = .ok (.aload_n 0, 1) := by decide +kernel
theorem dL_law_955 : decode cL_law 955 = .ok (.iload_n 3, 1) := by decide +kernel
theorem dL_law_956 : decode cL_law 956 = .ok (.iconst 1, 1) := by decide +kernel
theorem dL_law_957 : decode cL_law 957 = .ok (.iadd, 1) := by decide +kernel
theorem dL_law_958 : decode cL_law 958 = .ok (.iaload, 1) := by decide +kernel
theorem dL_law_959 : decode cL_law 959 = .ok (.aload_n 0, 1) := by decide +kernel
theorem dL_law_960 : decode cL_law 960 = .ok (.iload_n 3, 1) := by decide +kernel
theorem dL_law_961 : decode cL_law 961 = .ok (.iconst 2, 1) := by decide +kernel
theorem dL_law_962 : decode cL_law 962 = .ok (.iadd, 1) := by decide +kernel
theorem dL_law_963 : decode cL_law 963 = .ok (.iaload, 1) := by decide +kernel
theorem dL_law_964 : decode cL_law 964 = .ok (.invokevirtual 106, 3) := by decide +kernel
theorem dL_law_967 : decode cL_law 967 = .ok (.if_icmp .eq 345, 3) := by decide +kernel
theorem dL_law_970 : decode cL_law 970 = .ok (.iconst 0, 1) := by decide +kernel
theorem dL_law_971 : decode cL_law 971 = .ok (.ireturn, 1) := by decide +kernel
theorem dL_law_972 : decode cL_law 972 = .ok (.aload_n 1, 1) := by decide +kernel
theorem dL_law_973 : decode cL_law 973 = .ok (.aload_n 0, 1) := by decide +kernel
theorem dL_law_974 : decode cL_law 974 = .ok (.iload_n 3, 1) := by decide +kernel
theorem dL_law_975 : decode cL_law 975 = .ok (.iconst 1, 1) := by decide +kernel
theorem dL_law_976 : decode cL_law 976 = .ok (.iadd, 1) := by decide +kernel
theorem dL_law_977 : decode cL_law 977 = .ok (.iaload, 1) := by decide +kernel
theorem dL_law_978 : decode cL_law 978 = .ok (.aload_n 0, 1) := by decide +kernel
theorem dL_law_979 : decode cL_law 979 = .ok (.iload_n 3, 1) := by decide +kernel
theorem dL_law_980 : decode cL_law 980 = .ok (.iconst 2, 1) := by decide +kernel
theorem dL_law_981 : decode cL_law 981 = .ok (.iadd, 1) := by decide +kernel
theorem dL_law_982 : decode cL_law 982 = .ok (.iaload, 1) := by decide +kernel
theorem dL_law_983 : decode cL_law 983 = .ok (.aload_n 0, 1) := by decide +kernel
theorem dL_law_984 : decode cL_law 984 = .ok (.iload_n 3, 1) := by decide +kernel
theorem dL_law_985 : decode cL_law 985 = .ok (.iconst 3, 1) := by decide +kernel
theorem dL_law_986 : decode cL_law 986 = .ok (.iadd, 1) := by decide +kernel
theorem dL_law_987 : decode cL_law 987 = .ok (.iaload, 1) := by decide +kernel
theorem dL_law_988 : decode cL_law 988 = .ok (.invokevirtual 107, 3) := by decide +kernel
theorem dL_law_991 : decode cL_law 991 = .ok (.aload_n 2, 1) := by decide +kernel
theorem dL_law_992 : decode cL_law 992 = .ok (.aload_n 0, 1) := by decide +kernel
theorem dL_law_993 : decode cL_law 993 = .ok (.iload_n 3, 1) := by decide +kernel
theorem dL_law_994 : decode cL_law 994 = .ok (.iconst 1, 1) := by decide +kernel
theorem dL_law_995 : decode cL_law 995 = .ok (.iadd, 1) := by decide +kernel
theorem dL_law_996 : decode cL_law 996 = .ok (.iaload, 1) := by decide +kernel
theorem dL_law_997 : decode cL_law 997 = .ok (.aload_n 0, 1) := by decide +kernel
theorem dL_law_998 : decode cL_law 998 = .ok (.iload_n 3, 1) := by decide +kernel
theorem dL_law_999 : decode cL_law 999 = .ok (.iconst 2, 1) := by decide +kernel
theorem dL_law_1000 : decode cL_law 1000 = .ok (.iadd, 1) := by decide +kernel
theorem dL_law_1001 : decode cL_law 1001 = .ok (.iaload, 1) := by decide +kernel
theorem dL_law_1002 : decode cL_law 1002 = .ok (.aload_n 0, 1) := by decide +kernel
theorem dL_law_1003 : decode cL_law 1003 = .ok (.iload_n 3, 1) := by decide +kernel
theorem dL_law_1004 : decode cL_law 1004 = .ok (.iconst 3, 1) := by decide +kernel
theorem dL_law_1005 : decode cL_law 1005 = .ok (.iadd, 1) := by decide +kernel
theorem dL_law_1006 : decode cL_law 1006 = .ok (.iaload, 1) := by decide +kernel
theorem dL_law_1007 : decode cL_law 1007 = .ok (.invokevirtual 110, 3) := by decide +kernel
theorem dL_law_1010 : decode cL_law 1010 = .ok (.if_icmp .eq 302, 3) := by decide +kernel
theorem dL_law_1013 : decode cL_law 1013 = .ok (.iconst 0, 1) := by decide +kernel
theorem dL_law_1014 : decode cL_law 1014 = .ok (.ireturn, 1) := by decide +kernel
theorem dL_law_1015 : decode cL_law 1015 = .ok (.aload_n 1, 1) := by decide +kernel
theorem dL_law_1016 : decode cL_law 1016 = .ok (.aload_n 0, 1) := by decide +kernel
theorem dL_law_1017 : decode cL_law 1017 = .ok (.iload_n 3, 1) := by decide +kernel
theorem dL_law_1018 : decode cL_law 1018 = .ok (.iconst 1, 1) := by decide +kernel
theorem dL_law_1019 : decode cL_law 1019 = .ok (.iadd, 1) := by decide +kernel
theorem dL_law_1020 : decode cL_law 1020 = .ok (.iaload, 1) := by decide +kernel
theorem dL_law_1021 : decode cL_law 1021 = .ok (.aload_n 0, 1) := by decide +kernel
theorem dL_law_1022 : decode cL_law 1022 = .ok (.iload_n 3, 1) := by decide +kernel
theorem dL_law_1023 : decode cL_law 1023 = .ok (.iconst 2, 1) := by decide +kernel
theorem dL_law_1024 : decode cL_law 1024 = .ok (.iadd, 1) := by decide +kernel
theorem dL_law_1025 : decode cL_law 1025 = .ok (.iaload, 1) := by decide +kernel
theorem dL_law_1026 : decode cL_law 1026 = .ok (.invokevirtual 111, 3) := by decide +kernel
theorem dL_law_1029 : decode cL_law 1029 = .ok (.aload_n 2, 1) := by decide +kernel
theorem dL_law_1030 : decode cL_law 1030 = .ok (.aload_n 0, 1) := by decide +kernel
theorem dL_law_1031 : decode cL_law 1031 = .ok (.iload_n 3, 1) := by decide +kernel
theorem dL_law_1032 : decode cL_law 1032 = .ok (.iconst 1, 1) := by decide +kernel
theorem dL_law_1033 : decode cL_law 1033 = .ok (.iadd, 1) := by decide +kernel
theorem dL_law_1034 : decode cL_law 1034 = .ok (.iaload, 1) := by decide +kernel
theorem dL_law_1035 : decode cL_law 1035 = .ok (.aload_n 0, 1) := by decide +kernel
theorem dL_law_1036 : decode cL_law 1036 = .ok (.iload_n 3, 1) := by decide +kernel
theorem dL_law_1037 : decode cL_law 1037 = .ok (.iconst 2, 1) := by decide +kernel
theorem dL_law_1038 : decode cL_law 1038 = .ok (.iadd, 1) := by decide +kernel
theorem dL_law_1039 : decode cL_law 1039 = .ok (.iaload, 1) := by decide +kernel
theorem dL_law_1040 : decode cL_law 1040 = .ok (.invokevirtual 114, 3) := by decide +kernel
theorem dL_law_1043 : decode cL_law 1043 = .ok (.if_icmp .eq 269, 3) := by decide +kernel
theorem dL_law_1046 : decode cL_law 1046 = .ok (.iconst 0, 1) := by decide +kernel
theorem dL_law_1047 : decode cL_law 1047 = .ok (.ireturn, 1) := by decide +kernel
theorem dL_law_1048 : decode cL_law 1048 = .ok (.aload_n 1, 1) := by decide +kernel
theorem dL_law_1049 : decode cL_law 1049 = .ok (.aload_n 0, 1) := by decide +kernel
theorem dL_law_1050 : decode cL_law 1050 = .ok (.iload_n 3, 1) := by decide +kernel
theorem dL_law_1051 : decode cL_law 1051 = .ok (.iconst 1, 1) := by decide +kernel
theorem dL_law_1052 : decode cL_law 1052 = .ok (.iadd, 1) := by decide +kernel
theorem dL_law_1053 : decode cL_law 1053 = .ok (.iaload, 1) := by decide +kernel
theorem dL_law_1054 : decode cL_law 1054 = .ok (.aload_n 0, 1) := by decide +kernel
theorem dL_law_1055 : decode cL_law 1055 = .ok (.iload_n 3, 1) := by decide +kernel
theorem dL_law_1056 : decode cL_law 1056 = .ok (.iconst 2, 1) := by decide +kernel
theorem dL_law_1057 : decode cL_law 1057 = .ok (.iadd, 1) := by decide +kernel
theorem dL_law_1058 : decode cL_law 1058 = .ok (.iaload, 1) := by decide +kernel
theorem dL_law_1059 : decode cL_law 1059 = .ok (.invokevirtual 115, 3) := by decide +kernel
theorem dL_law_1062 : decode cL_law 1062 = .ok (.aload_n 2, 1) := by decide +kernel
theorem dL_law_1063 : decode cL_law 1063 = .ok (.aload_n 0, 1) := by decide +kernel
theorem dL_law_1064 : decode cL_law 1064 = .ok (.iload_n 3, 1) := by decide +kernel
theorem dL_law_1065 : decode cL_law 1065 = .ok (.iconst 1, 1) := by decide +kernel
theorem dL_law_1066 : decode cL_law 1066 = .ok (.iadd, 1) := by decide +kernel
theorem dL_law_1067 : decode cL_law 1067 = .ok (.iaload, 1) := by decide +kernel
theorem dL_law_1068 : decode cL_law 1068 = .ok (.aload_n 0, 1) := by decide +kernel
theorem dL_law_1069 : decode cL_law 1069 = .ok (.iload_n 3, 1) := by decide +kernel
theorem dL_law_1070 : decode cL_law 1070 = .ok (.iconst 2, 1) := by decide +kernel
theorem dL_law_1071 : decode cL_law 1071 = .ok (.iadd, 1) := by decide +kernel
theorem dL_law_1072 : decode cL_law 1072 = .ok (.iaload, 1) := by decide +kernel
theorem dL_law_1073 : decode cL_law 1073 = .ok (.invokevirtual 118, 3) := by decide +kernel
theorem dL_law_1076 : decode cL_law 1076 = .ok (.if_icmp .eq 236, 3) := by decide +kernel
theorem dL_law_1079 : decode cL_law 1079 = .ok (.iconst 0, 1) := by decide +kernel
theorem dL_law_1080 : decode cL_law 1080 = .ok (.ireturn, 1) := by decide +kernel
theorem dL_law_1081 : decode cL_law 1081 = .ok (.aload_n 1, 1) := by decide +kernel
theorem dL_law_1082 : decode cL_law 1082 = .ok (.aload_n 0, 1) := by decide +kernel
theorem dL_law_1083 : decode cL_law 1083 = .ok (.iload_n 3, 1) := by decide +kernel
theorem dL_law_1084 : decode cL_law 1084 = .ok (.iconst 1, 1) := by decide +kernel
theorem dL_law_1085 : decode cL_law 1085 = .ok (.iadd, 1) := by decide +kernel
theorem dL_law_1086 : decode cL_law 1086 = .ok (.iaload, 1) := by decide +kernel
theorem dL_law_1087 : decode cL_law 1087 = .ok (.aload_n 0, 1) := by decide +kernel
theorem dL_law_1088 : decode cL_law 1088 = .ok (.iload_n 3, 1) := by decide +kernel
theorem dL_law_1089 : decode cL_law 1089 = .ok (.iconst 2, 1) := by decide +kernel
theorem dL_law_1090 : decode cL_law 1090 = .ok (.iadd, 1) := by decide +kernel
theorem dL_law_1091 : decode cL_law 1091 = .ok (.iaload, 1) := by decide +kernel
theorem dL_law_1092 : decode cL_law 1092 = .ok (.invokevirtual 119, 3) := by decide +kernel
theorem dL_law_1095 : decode cL_law 1095 = .ok (.aload_n 2, 1) := by decide +kernel
theorem dL_law_1096 : decode cL_law 1096 = .ok (.aload_n 0, 1) := by decide +kernel
theorem dL_law_1097 : decode cL_law 1097 = .ok (.iload_n 3, 1) := by decide +kernel
theorem dL_law_1098 : decode cL_law 1098 = .ok (.iconst 1, 1) := by decide +kernel
theorem dL_law_1099 : decode cL_law 1099 = .ok (.iadd, 1) := by decide +kernel
theorem dL_law_1100 : decode cL_law 1100 = .ok (.iaload, 1) := by decide +kernel
theorem dL_law_1101 : decode cL_law 1101 = .ok (.aload_n 0, 1) := by decide +kernel
theorem dL_law_1102 : decode cL_law 1102 = .ok (.iload_n 3, 1) := by decide +kernel
theorem dL_law_1103 : decode cL_law 1103 = .ok (.iconst 2, 1) := by decide +kernel
theorem dL_law_1104 : decode cL_law 1104 = .ok (.iadd, 1) := by decide +kernel
theorem dL_law_1105 : decode cL_law 1105 = .ok (.iaload, 1) := by decide +kernel
theorem dL_law_1106 : decode cL_law 1106 = .ok (.invokevirtual 122, 3) := by decide +kernel
theorem dL_law_1109 : decode cL_law 1109 = .ok (.if_icmp .eq 203, 3) := by decide +kernel
theorem dL_law_1112 : decode cL_law 1112 = .ok (.iconst 0, 1) := by decide +kernel
theorem dL_law_1113 : decode cL_law 1113 = .ok (.ireturn, 1) := by decide +kernel
theorem dL_law_1114 : decode cL_law 1114 = .ok (.aload_n 1, 1) := by decide +kernel
theorem dL_law_1115 : decode cL_law 1115 = .ok (.aload_n 0, 1) := by decide +kernel
theorem dL_law_1116 : decode cL_law 1116 = .ok (.iload_n 3, 1) := by decide +kernel
theorem dL_law_1117 : decode cL_law 1117 = .ok (.iconst 1, 1) := by decide +kernel
theorem dL_law_1118 : decode cL_law 1118 = .ok (.iadd, 1) := by decide +kernel
theorem dL_law_1119 : decode cL_law 1119 = .ok (.iaload, 1) := by decide +kernel
theorem dL_law_1120 : decode cL_law 1120 = .ok (.aload_n 0, 1) := by decide +kernel
theorem dL_law_1121 : decode cL_law 1121 = .ok (.iload_n 3, 1) := by decide +kernel
theorem dL_law_1122 : decode cL_law 1122 = .ok (.iconst 2, 1) := by decide +kernel
theorem dL_law_1123 : decode cL_law 1123 = .ok (.iadd, 1) := by decide +kernel
theorem dL_law_1124 : decode cL_law 1124 = .ok (.iaload, 1) := by decide +kernel
theorem dL_law_1125 : decode cL_law 1125 = .ok (.aload_n 0, 1) := by decide +kernel
theorem dL_law_1126 : decode cL_law 1126 = .ok (.iload_n 3, 1) := by decide +kernel
theorem dL_law_1127 : decode cL_law 1127 = .ok (.iconst 3, 1) := by decide +kernel
theorem dL_law_1128 : decode cL_law 1128 = .ok (.iadd, 1) := by decide +kernel
theorem dL_law_1129 : decode cL_law 1129 = .ok (.iaload, 1) := by decide +kernel
theorem dL_law_1130 : decode cL_law 1130 = .ok (.aload_n 0, 1) := by decide +kernel
theorem dL_law_1131 : decode cL_law 1131 = .ok (.iload_n 3, 1) := by decide +kernel
theorem dL_law_1132 : decode cL_law 1132 = .ok (.iconst 4, 1) := by decide +kernel
theorem dL_law_1133 : decode cL_law 1133 = .ok (.iadd, 1) := by decide +kernel
theorem dL_law_1134 : decode cL_law 1134 = .ok (.iaload, 1) := by decide +kernel
theorem dL_law_1135 : decode cL_law 1135 = .ok (.invokevirtual 123, 3) := by decide +kernel
theorem dL_law_1138 : decode cL_law 1138 = .ok (.aload_n 2, 1) := by decide +kernel
theorem dL_law_1139 : decode cL_law 1139 = .ok (.aload_n 0, 1) := by decide +kernel
theorem dL_law_1140 : decode cL_law 1140 = .ok (.iload_n 3, 1) := by decide +kernel
theorem dL_law_1141 : decode cL_law 1141 = .ok (.iconst 1, 1) := by decide +kernel
theorem dL_law_1142 : decode cL_law 1142 = .ok (.iadd, 1) := by decide +kernel
theorem dL_law_1143 : decode cL_law 1143 = .ok (.iaload, 1) := by decide +kernel
theorem dL_law_1144 : decode cL_law 1144 = .ok (.aload_n 0, 1) := by decide +kernel
theorem dL_law_1145 : decode cL_law 1145 = .ok (.iload_n 3, 1) := by decide +kernel
theorem dL_law_1146 : decode cL_law 1146 = .ok (.iconst 2, 1) := by decide +kernel
theorem dL_law_1147 : decode cL_law 1147 = .ok (.iadd, 1) := by decide +kernel
theorem dL_law_1148 : decode cL_law 1148 = .ok (.iaload, 1) := by decide +kernel
theorem dL_law_1149 : decode cL_law 1149 = .ok (.aload_n 0, 1) := by decide +kernel
theorem dL_law_1150 : decode cL_law 1150 = .ok (.iload_n 3, 1) := by decide +kernel
theorem dL_law_1151 : decode cL_law 1151 = .ok (.iconst 3, 1) := by decide +kernel
theorem dL_law_1152 : decode cL_law 1152 = .ok (.iadd, 1) := by decide +kernel
theorem dL_law_1153 : decode cL_law 1153 = .ok (.iaload, 1) := by decide +kernel
theorem dL_law_1154 : decode cL_law 1154 = .ok (.aload_n 0, 1) := by decide +kernel
theorem dL_law_1155 : decode cL_law 1155 = .ok (.iload_n 3, 1) := by decide +kernel
theorem dL_law_1156 : decode cL_law 1156 = .ok (.iconst 4, 1) := by decide +kernel
theorem dL_law_1157 : decode cL_law 1157 = .ok (.iadd, 1) := by decide +kernel
theorem dL_law_1158 : decode cL_law 1158 = .ok (.iaload, 1) := by decide +kernel
theorem dL_law_1159 : decode cL_law 1159 = .ok (.invokevirtual 126, 3) := by decide +kernel
theorem dL_law_1162 : decode cL_law 1162 = .ok (.if_icmp .eq 150, 3) := by decide +kernel
theorem dL_law_1165 : decode cL_law 1165 = .ok (.iconst 0, 1) := by decide +kernel
theorem dL_law_1166 : decode cL_law 1166 = .ok (.ireturn, 1) := by decide +kernel
theorem dL_law_1167 : decode cL_law 1167 = .ok (.aload_n 1, 1) := by decide +kernel
theorem dL_law_1168 : decode cL_law 1168 = .ok (.aload_n 0, 1) := by decide +kernel
theorem dL_law_1169 : decode cL_law 1169 = .ok (.iload_n 3, 1) := by decide +kernel
theorem dL_law_1170 : decode cL_law 1170 = .ok (.iconst 1, 1) := by decide +kernel
theorem dL_law_1171 : decode cL_law 1171 = .ok (.iadd, 1) := by decide +kernel
theorem dL_law_1172 : decode cL_law 1172 = .ok (.iaload, 1) := by decide +kernel
theorem dL_law_1173 : decode cL_law 1173 = .ok (.aload_n 0, 1) := by decide +kernel
theorem dL_law_1174 : decode cL_law 1174 = .ok (.iload_n 3, 1) := by decide +kernel
theorem dL_law_1175 : decode cL_law 1175 = .ok (.iconst 2, 1) := by decide +kernel
theorem dL_law_1176 : decode cL_law 1176 = .ok (.iadd, 1) := by decide +kernel
theorem dL_law_1177 : decode cL_law 1177 = .ok (.iaload, 1) := by decide +kernel
theorem dL_law_1178 : decode cL_law 1178 = .ok (.invokevirtual 127, 3) := by decide +kernel
theorem dL_law_1181 : decode cL_law 1181 = .ok (.aload_n 2, 1) := by decide +kernel
theorem dL_law_1182 : decode cL_law 1182 = .ok (.aload_n 0, 1) := by decide +kernel
theorem dL_law_1183 : decode cL_law 1183 = .ok (.iload_n 3, 1) := by decide +kernel
theorem dL_law_1184 : decode cL_law 1184 = .ok (.iconst 1, 1) := by decide +kernel
theorem dL_law_1185 : decode cL_law 1185 = .ok (.iadd, 1) := by decide +kernel
theorem dL_law_1186 : decode cL_law 1186 = .ok (.iaload, 1) := by decide +kernel
theorem dL_law_1187 : decode cL_law 1187 = .ok (.aload_n 0, 1) := by decide +kernel
theorem dL_law_1188 : decode cL_law 1188 = .ok (.iload_n 3, 1) := by decide +kernel
theorem dL_law_1189 : decode cL_law 1189 = .ok (.iconst 2, 1) := by decide +kernel
theorem dL_law_1190 : decode cL_law 1190 = .ok (.iadd, 1) := by decide +kernel
theorem dL_law_1191 : decode cL_law 1191 = .ok (.iaload, 1) := by decide +kernel
theorem dL_law_1192 : decode cL_law 1192 = .ok (.invokevirtual 130, 3) := by decide +kernel
theorem dL_law_1195 : decode cL_law 1195 = .ok (.if_icmp .eq 117, 3) := by decide +kernel
theorem dL_law_1198 : decode cL_law 1198 = .ok (.iconst 0, 1) := by decide +kernel
theorem dL_law_1199 : decode cL_law 1199 = .ok (.ireturn, 1) := by decide +kernel
theorem dL_law_1200 : decode cL_law 1200 = .ok (.aload_n 1, 1) := by decide +kernel
theorem dL_law_1201 : decode cL_law 1201 = .ok (.aload_n 0, 1) := by decide +kernel
theorem dL_law_1202 : decode cL_law 1202 = .ok (.iload_n 3, 1) := by decide +kernel
theorem dL_law_1203 : decode cL_law 1203 = .ok (.iconst 1, 1) := by decide +kernel
theorem dL_law_1204 : decode cL_law 1204 = .ok (.iadd, 1) := by decide +kernel
theorem dL_law_1205 : decode cL_law 1205 = .ok (.iaload, 1) := by decide +kernel
theorem dL_law_1206 : decode cL_law 1206 = .ok (.invokevirtual 131, 3) := by decide +kernel
theorem dL_law_1209 : decode cL_law 1209 = .ok (.aload_n 2, 1) := by decide +kernel
theorem dL_law_1210 : decode cL_law 1210 = .ok (.aload_n 0, 1) := by decide +kernel
theorem dL_law_1211 : decode cL_law 1211 = .ok (.iload_n 3, 1) := by decide +kernel
theorem dL_law_1212 : decode cL_law 1212 = .ok (.iconst 1, 1) := by decide +kernel
theorem dL_law_1213 : decode cL_law 1213 = .ok (.iadd, 1) := by decide +kernel
theorem dL_law_1214 : decode cL_law 1214 = .ok (.iaload, 1) := by decide +kernel
theorem dL_law_1215 : decode cL_law 1215 = .ok (.invokevirtual 134, 3) := by decide +kernel
theorem dL_law_1218 : decode cL_law 1218 = .ok (.if_icmp .eq 94, 3) := by decide +kernel
theorem dL_law_1221 : decode cL_law 1221 = .ok (.iconst 0, 1) := by decide +kernel
theorem dL_law_1222 : decode cL_law 1222 = .ok (.ireturn, 1) := by decide +kernel
theorem dL_law_1223 : decode cL_law 1223 = .ok (.aload_n 1, 1) := by decide +kernel
theorem dL_law_1224 : decode cL_law 1224 = .ok (.aload_n 0, 1) := by decide +kernel
theorem dL_law_1225 : decode cL_law 1225 = .ok (.iload_n 3, 1) := by decide +kernel
theorem dL_law_1226 : decode cL_law 1226 = .ok (.iconst 1, 1) := by decide +kernel
theorem dL_law_1227 : decode cL_law 1227 = .ok (.iadd, 1) := by decide +kernel
theorem dL_law_1228 : decode cL_law 1228 = .ok (.iaload, 1) := by decide +kernel
theorem dL_law_1229 : decode cL_law 1229 = .ok (.invokevirtual 135, 3) := by decide +kernel
theorem dL_law_1232 : decode cL_law 1232 = .ok (.aload_n 2, 1) := by decide +kernel
theorem dL_law_1233 : decode cL_law 1233 = .ok (.aload_n 0, 1) := by decide +kernel
theorem dL_law_1234 : decode cL_law 1234 = .ok (.iload_n 3, 1) := by decide +kernel
theorem dL_law_1235 : decode cL_law 1235 = .ok (.iconst 1, 1) := by decide +kernel
theorem dL_law_1236 : decode cL_law 1236 = .ok (.iadd, 1) := by decide +kernel
theorem dL_law_1237 : decode cL_law 1237 = .ok (.iaload, 1) := by decide +kernel
theorem dL_law_1238 : decode cL_law 1238 = .ok (.invokevirtual 138, 3) := by decide +kernel
theorem dL_law_1241 : decode cL_law 1241 = .ok (.if_icmp .eq 71, 3) := by decide +kernel
theorem dL_law_1244 : decode cL_law 1244 = .ok (.iconst 0, 1) := by decide +kernel
theorem dL_law_1245 : decode cL_law 1245 = .ok (.ireturn, 1) := by decide +kernel
theorem dL_law_1246 : decode cL_law 1246 = .ok (.aload_n 1, 1) := by decide +kernel
theorem dL_law_1247 : decode cL_law 1247 = .ok (.aload_n 0, 1) := by decide +kernel
theorem dL_law_1248 : decode cL_law 1248 = .ok (.iload_n 3, 1) := by decide +kernel
theorem dL_law_1249 : decode cL_law 1249 = .ok (.iconst 1, 1) := by decide +kernel
theorem dL_law_1250 : decode cL_law 1250 = .ok (.iadd, 1) := by decide +kernel
theorem dL_law_1251 : decode cL_law 1251 = .ok (.iaload, 1) := by decide +kernel
theorem dL_law_1252 : decode cL_law 1252 = .ok (.aload_n 0, 1) := by decide +kernel
theorem dL_law_1253 : decode cL_law 1253 = .ok (.iload_n 3, 1) := by decide +kernel
theorem dL_law_1254 : decode cL_law 1254 = .ok (.iconst 2, 1) := by decide +kernel
theorem dL_law_1255 : decode cL_law 1255 = .ok (.iadd, 1) := by decide +kernel
theorem dL_law_1256 : decode cL_law 1256 = .ok (.iaload, 1) := by decide +kernel
theorem dL_law_1257 : decode cL_law 1257 = .ok (.aload_n 0, 1) := by decide +kernel
theorem dL_law_1258 : decode cL_law 1258 = .ok (.iload_n 3, 1) := by decide +kernel
theorem dL_law_1259 : decode cL_law 1259 = .ok (.iconst 3, 1) := by decide +kernel
theorem dL_law_1260 : decode cL_law 1260 = .ok (.iadd, 1) := by decide +kernel
theorem dL_law_1261 : decode cL_law 1261 = .ok (.iaload, 1) := by decide +kernel
theorem dL_law_1262 : decode cL_law 1262 = .ok (.invokevirtual 139, 3) := by decide +kernel
theorem dL_law_1265 : decode cL_law 1265 = .ok (.aload_n 2, 1) := by decide +kernel
theorem dL_law_1266 : decode cL_law 1266 = .ok (.aload_n 0, 1) := by decide +kernel
theorem dL_law_1267 : decode cL_law 1267 = .ok (.iload_n 3, 1) := by decide +kernel
theorem dL_law_1268 : decode cL_law 1268 = .ok (.iconst 1, 1) := by decide +kernel
theorem dL_law_1269 : decode cL_law 1269 = .ok (.iadd, 1) := by decide +kernel
theorem dL_law_1270 : decode cL_law 1270 = .ok (.iaload, 1) := by decide +kernel
theorem dL_law_1271 : decode cL_law 1271 = .ok (.aload_n 0, 1) := by decide +kernel
theorem dL_law_1272 : decode cL_law 1272 = .ok (.iload_n 3, 1) := by decide +kernel
theorem dL_law_1273 : decode cL_law 1273 = .ok (.iconst 2, 1) := by decide +kernel
theorem dL_law_1274 : decode cL_law 1274 = .ok (.iadd, 1) := by decide +kernel
theorem dL_law_1275 : decode cL_law 1275 = .ok (.iaload, 1) := by decide +kernel
theorem dL_law_1276 : decode cL_law 1276 = .ok (.aload_n 0, 1) := by decide +kernel
theorem dL_law_1277 : decode cL_law 1277 = .ok (.iload_n 3, 1) := by decide +kernel
theorem dL_law_1278 : decode cL_law 1278 = .ok (.iconst 3, 1) := by decide +kernel
theorem dL_law_1279 : decode cL_law 1279 = .ok (.iadd, 1) := by decide +kernel
theorem dL_law_1280 : decode cL_law 1280 = .ok (.iaload, 1) := by decide +kernel
theorem dL_law_1281 : decode cL_law 1281 = .ok (.invokevirtual 142, 3) := by decide +kernel
theorem dL_law_1284 : decode cL_law 1284 = .ok (.if_icmp .eq 28, 3) := by decide +kernel
theorem dL_law_1287 : decode cL_law 1287 = .ok (.iconst 0, 1) := by decide +kernel
theorem dL_law_1288 : decode cL_law 1288 = .ok (.ireturn, 1) := by decide +kernel
theorem dL_law_1289 : decode cL_law 1289 = .ok (.aload_n 1, 1) := by decide +kernel
theorem dL_law_1290 : decode cL_law 1290 = .ok (.aload_n 0, 1) := by decide +kernel
theorem dL_law_1291 : decode cL_law 1291 = .ok (.iload_n 3, 1) := by decide +kernel
theorem dL_law_1292 : decode cL_law 1292 = .ok (.iconst 1, 1) := by decide +kernel
theorem dL_law_1293 : decode cL_law 1293 = .ok (.iadd, 1) := by decide +kernel
theorem dL_law_1294 : decode cL_law 1294 = .ok (.iaload, 1) := by decide +kernel
theorem dL_law_1295 : decode cL_law 1295 = .ok (.invokevirtual 143, 3) := by decide +kernel
theorem dL_law_1298 : decode cL_law 1298 = .ok (.aload_n 2, 1) := by decide +kernel
theorem dL_law_1299 : decode cL_law 1299 = .ok (.aload_n 0, 1) := by decide +kernel
theorem dL_law_1300 : decode cL_law 1300 = .ok (.iload_n 3, 1) := by decide +kernel
theorem dL_law_1301 : decode cL_law 1301 = .ok (.iconst 1, 1) := by decide +kernel
theorem dL_law_1302 : decode cL_law 1302 = .ok (.iadd, 1) := by decide +kernel
theorem dL_law_1303 : decode cL_law 1303 = .ok (.iaload, 1) := by decide +kernel
theorem dL_law_1304 : decode cL_law 1304 = .ok (.invokevirtual 146, 3) := by decide +kernel
theorem dL_law_1307 : decode cL_law 1307 = .ok (.if_icmp .eq 5, 3) := by decide +kernel
theorem dL_law_1310 : decode cL_law 1310 = .ok (.iconst 0, 1) := by decide +kernel
theorem dL_law_1311 : decode cL_law 1311 = .ok (.ireturn, 1) := by decide +kernel
theorem dL_law_1312 : decode cL_law 1312 = .ok (.iinc 3 6, 3) := by decide +kernel
theorem dL_law_1315 : decode cL_law 1315 = .ok (.goto (-1297), 3) := by decide +kernel
theorem dL_law_1318 : decode cL_law 1318 = .ok (.iconst 1, 1) := by decide +kernel
theorem dL_law_1319 : decode cL_law 1319 = .ok (.ireturn, 1) := by decide +kernel
