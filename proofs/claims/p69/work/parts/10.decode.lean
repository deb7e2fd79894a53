theorem dX3_begin_0 : decode cX3_begin 0 = .ok (.aload_n 0, 1) := by decide +kernel
theorem dX3_begin_1 : decode cX3_begin 1 = .ok (.iload_n 1, 1) := by decide +kernel
theorem dX3_begin_10 : decode cX3_begin 10 = .ok (.iconst 0, 1) := by decide +kernel
theorem dX3_begin_11 : decode cX3_begin 11 = .ok (.istore_n 3, 1) := by decide +kernel
theorem dX3_begin_12 : decode cX3_begin 12 = .ok (.iload_n 3, 1) := by decide +kernel
theorem dX3_begin_13 : decode cX3_begin 13 = .ok (.bipush 60, 2) := by decide +kernel
theorem dX3_begin_15 : decode cX3_begin 15 = .ok (.if_icmp .ge 16, 3) := by decide +kernel
theorem dX3_begin_18 : decode cX3_begin 18 = .ok (.aload_n 0, 1) := by decide +kernel
theorem dX3_begin_19 : decode cX3_begin 19 = .ok (.getfield 15, 3) := by decide +kernel
theorem dX3_begin_2 : decode cX3_begin 2 = .ok (.putfield 19, 3) := by decide +kernel
theorem dX3_begin_22 : decode cX3_begin 22 = .ok (.iload_n 3, 1) := by decide +kernel
theorem dX3_begin_23 : decode cX3_begin 23 = .ok (.lconst 0, 1) := by decide +kernel
theorem dX3_begin_24 : decode cX3_begin 24 = .ok (.lastore, 1) := by decide +kernel
theorem dX3_begin_25 : decode cX3_begin 25 = .ok (.iinc 3 1, 3) := by decide +kernel
theorem dX3_begin_28 : decode cX3_begin 28 = .ok (.goto (-16), 3) := by decide +kernel
theorem dX3_begin_31 : decode cX3_begin 31 = .ok (.return_, 1) := by decide +kernel
theorem dX3_begin_5 : decode cX3_begin 5 = .ok (.aload_n 0, 1) := by decide +kernel
theorem dX3_begin_6 : decode cX3_begin 6 = .ok (.iload_n 2, 1) := by decide +kernel
theorem dX3_begin_7 : decode cX3_begin 7 = .ok (.putfield 9, 3) := by decide +kernel
theorem dX5_fillAlive_0 : decode cX5_fillAlive 0 = .ok (.aload_n 1, 1) := by decide +kernel
theorem dX5_fillAlive_1 : decode cX5_fillAlive 1 = .ok (.getfield 58, 3) := by decide +kernel
theorem dX5_fillAlive_10 : decode cX5_fillAlive 10 = .ok (.iconst 1, 1) := by decide +kernel
theorem dX5_fillAlive_102 : decode cX5_fillAlive 102 = .ok (.return_, 1) := by decide +kernel
theorem dX5_fillAlive_11 : decode cX5_fillAlive 11 = .ok (.goto 4, 3) := by decide +kernel
theorem dX5_fillAlive_14 : decode cX5_fillAlive 14 = .ok (.iconst 0, 1) := by decide +kernel
theorem dX5_fillAlive_15 : decode cX5_fillAlive 15 = .ok (.istore_n 3, 1) := by decide +kernel
theorem dX5_fillAlive_16 : decode cX5_fillAlive 16 = .ok (.iconst 0, 1) := by decide +kernel
theorem dX5_fillAlive_17 : decode cX5_fillAlive 17 = .ok (.istore 4, 2) := by decide +kernel
theorem dX5_fillAlive_19 : decode cX5_fillAlive 19 = .ok (.iload 4, 2) := by decide +kernel
theorem dX5_fillAlive_21 : decode cX5_fillAlive 21 = .ok (.aload_n 0, 1) := by decide +kernel
theorem dX5_fillAlive_22 : decode cX5_fillAlive 22 = .ok (.getfield 26, 3) := by decide +kernel
theorem dX5_fillAlive_25 : decode cX5_fillAlive 25 = .ok (.if_icmp .ge 77, 3) := by decide +kernel
theorem dX5_fillAlive_28 : decode cX5_fillAlive 28 = .ok (.iconst 0, 1) := by decide +kernel
theorem dX5_fillAlive_29 : decode cX5_fillAlive 29 = .ok (.istore 5, 2) := by decide +kernel
theorem dX5_fillAlive_31 : decode cX5_fillAlive 31 = .ok (.iload 5, 2) := by decide +kernel
theorem dX5_fillAlive_33 : decode cX5_fillAlive 33 = .ok (.aload_n 1, 1) := by decide +kernel
theorem dX5_fillAlive_34 : decode cX5_fillAlive 34 = .ok (.getfield 51, 3) := by decide +kernel
theorem dX5_fillAlive_37 : decode cX5_fillAlive 37 = .ok (.if_icmp .ge 42, 3) := by decide +kernel
theorem dX5_fillAlive_4 : decode cX5_fillAlive 4 = .ok (.iload_n 2, 1) := by decide +kernel
theorem dX5_fillAlive_40 : decode cX5_fillAlive 40 = .ok (.aload_n 1, 1) := by decide +kernel
theorem dX5_fillAlive_41 : decode cX5_fillAlive 41 = .ok (.iload 5, 2) := by decide +kernel
theorem dX5_fillAlive_43 : decode cX5_fillAlive 43 = .ok (.iload_n 2, 1) := by decide +kernel
theorem dX5_fillAlive_44 : decode cX5_fillAlive 44 = .ok (.iload 4, 2) := by decide +kernel
theorem dX5_fillAlive_46 : decode cX5_fillAlive 46 = .ok (.invokevirtual 54, 3) := by decide +kernel
theorem dX5_fillAlive_49 : decode cX5_fillAlive 49 = .ok (.istore 6, 2) := by decide +kernel
theorem dX5_fillAlive_5 : decode cX5_fillAlive 5 = .ok (.iaload, 1) := by decide +kernel
theorem dX5_fillAlive_51 : decode cX5_fillAlive 51 = .ok (.iload 6, 2) := by decide +kernel
theorem dX5_fillAlive_53 : decode cX5_fillAlive 53 = .ok (.iconst 3, 1) := by decide +kernel
theorem dX5_fillAlive_54 : decode cX5_fillAlive 54 = .ok (.if_icmp .eq 13, 3) := by decide +kernel
theorem dX5_fillAlive_57 : decode cX5_fillAlive 57 = .ok (.iload_n 3, 1) := by decide +kernel
theorem dX5_fillAlive_58 : decode cX5_fillAlive 58 = .ok (.ifCond .eq 13, 3) := by decide +kernel
theorem dX5_fillAlive_6 : decode cX5_fillAlive 6 = .ok (.iconst 1, 1) := by decide +kernel
theorem dX5_fillAlive_61 : decode cX5_fillAlive 61 = .ok (.iload 6, 2) := by decide +kernel
theorem dX5_fillAlive_63 : decode cX5_fillAlive 63 = .ok (.iconst 4, 1) := by decide +kernel
theorem dX5_fillAlive_64 : decode cX5_fillAlive 64 = .ok (.if_icmp .eq 7, 3) := by decide +kernel
theorem dX5_fillAlive_67 : decode cX5_fillAlive 67 = .ok (.iconst 1, 1) := by decide +kernel
theorem dX5_fillAlive_68 : decode cX5_fillAlive 68 = .ok (.goto 4, 3) := by decide +kernel
theorem dX5_fillAlive_7 : decode cX5_fillAlive 7 = .ok (.if_icmp .ne 7, 3) := by decide +kernel
theorem dX5_fillAlive_71 : decode cX5_fillAlive 71 = .ok (.iconst 0, 1) := by decide +kernel
theorem dX5_fillAlive_72 : decode cX5_fillAlive 72 = .ok (.istore_n 3, 1) := by decide +kernel
theorem dX5_fillAlive_73 : decode cX5_fillAlive 73 = .ok (.iinc 5 1, 3) := by decide +kernel
theorem dX5_fillAlive_76 : decode cX5_fillAlive 76 = .ok (.goto (-45), 3) := by decide +kernel
theorem dX5_fillAlive_79 : decode cX5_fillAlive 79 = .ok (.iload_n 3, 1) := by decide +kernel
theorem dX5_fillAlive_80 : decode cX5_fillAlive 80 = .ok (.ifCond .ne 16, 3) := by decide +kernel
theorem dX5_fillAlive_83 : decode cX5_fillAlive 83 = .ok (.aload_n 0, 1) := by decide +kernel
theorem dX5_fillAlive_84 : decode cX5_fillAlive 84 = .ok (.getfield 16, 3) := by decide +kernel
theorem dX5_fillAlive_87 : decode cX5_fillAlive 87 = .ok (.iload 4, 2) := by decide +kernel
theorem dX5_fillAlive_89 : decode cX5_fillAlive 89 = .ok (.dup2, 1) := by decide +kernel
theorem dX5_fillAlive_90 : decode cX5_fillAlive 90 = .ok (.iaload, 1) := by decide +kernel
theorem dX5_fillAlive_91 : decode cX5_fillAlive 91 = .ok (.iconst 1, 1) := by decide +kernel
theorem dX5_fillAlive_92 : decode cX5_fillAlive 92 = .ok (.iload_n 2, 1) := by decide +kernel
theorem dX5_fillAlive_93 : decode cX5_fillAlive 93 = .ok (.ishl, 1) := by decide +kernel
theorem dX5_fillAlive_94 : decode cX5_fillAlive 94 = .ok (.ior, 1) := by decide +kernel
theorem dX5_fillAlive_95 : decode cX5_fillAlive 95 = .ok (.iastore, 1) := by decide +kernel
theorem dX5_fillAlive_96 : decode cX5_fillAlive 96 = .ok (.iinc 4 1, 3) := by decide +kernel
theorem dX5_fillAlive_99 : decode cX5_fillAlive 99 = .ok (.goto (-80), 3) := by decide +kernel
theorem dX5_fillLates_0 : decode cX5_fillLates 0 = .ok (.iconst 0, 1) := by decide +kernel
theorem dX5_fillLates_1 : decode cX5_fillLates 1 = .ok (.iload_n 2, 1) := by decide +kernel
theorem dX5_fillLates_101 : decode cX5_fillLates 101 = .ok (.istore 12, 2) := by decide +kernel
theorem dX5_fillLates_103 : decode cX5_fillLates 103 = .ok (.iload 12, 2) := by decide +kernel
theorem dX5_fillLates_105 : decode cX5_fillLates 105 = .ok (.ifCond .ne 20, 3) := by decide +kernel
theorem dX5_fillLates_108 : decode cX5_fillLates 108 = .ok (.iconst 0, 1) := by decide +kernel
theorem dX5_fillLates_109 : decode cX5_fillLates 109 = .ok (.istore 6, 2) := by decide +kernel
theorem dX5_fillLates_111 : decode cX5_fillLates 111 = .ok (.aload_n 0, 1) := by decide +kernel
theorem dX5_fillLates_112 : decode cX5_fillLates 112 = .ok (.getfield 48, 3) := by decide +kernel
theorem dX5_fillLates_115 : decode cX5_fillLates 115 = .ok (.iload_n 1, 1) := by decide +kernel
theorem dX5_fillLates_116 : decode cX5_fillLates 116 = .ok (.iaload, 1) := by decide +kernel
theorem dX5_fillLates_117 : decode cX5_fillLates 117 = .ok (.istore 7, 2) := by decide +kernel
theorem dX5_fillLates_119 : decode cX5_fillLates 119 = .ok (.iconst 0, 1) := by decide +kernel
theorem dX5_fillLates_12 : decode cX5_fillLates 12 = .ok (.aload_n 0, 1) := by decide +kernel
theorem dX5_fillLates_120 : decode cX5_fillLates 120 = .ok (.istore 8, 2) := by decide +kernel
theorem dX5_fillLates_122 : decode cX5_fillLates 122 = .ok (.goto 24, 3) := by decide +kernel
theorem dX5_fillLates_125 : decode cX5_fillLates 125 = .ok (.iload 12, 2) := by decide +kernel
theorem dX5_fillLates_127 : decode cX5_fillLates 127 = .ok (.iconst 1, 1) := by decide +kernel
theorem dX5_fillLates_128 : decode cX5_fillLates 128 = .ok (.if_icmp .ne 9, 3) := by decide +kernel
theorem dX5_fillLates_13 : decode cX5_fillLates 13 = .ok (.getfield 45, 3) := by decide +kernel
theorem dX5_fillLates_131 : decode cX5_fillLates 131 = .ok (.iconst 0, 1) := by decide +kernel
theorem dX5_fillLates_132 : decode cX5_fillLates 132 = .ok (.istore 7, 2) := by decide +kernel
theorem dX5_fillLates_134 : decode cX5_fillLates 134 = .ok (.goto 12, 3) := by decide +kernel
theorem dX5_fillLates_137 : decode cX5_fillLates 137 = .ok (.iload 12, 2) := by decide +kernel
theorem dX5_fillLates_139 : decode cX5_fillLates 139 = .ok (.iconst 2, 1) := by decide +kernel
theorem dX5_fillLates_140 : decode cX5_fillLates 140 = .ok (.if_icmp .ne 6, 3) := by decide +kernel
theorem dX5_fillLates_143 : decode cX5_fillLates 143 = .ok (.iconst 1, 1) := by decide +kernel
theorem dX5_fillLates_144 : decode cX5_fillLates 144 = .ok (.istore 8, 2) := by decide +kernel
theorem dX5_fillLates_146 : decode cX5_fillLates 146 = .ok (.iinc 11 1, 3) := by decide +kernel
theorem dX5_fillLates_149 : decode cX5_fillLates 149 = .ok (.goto (-64), 3) := by decide +kernel
theorem dX5_fillLates_152 : decode cX5_fillLates 152 = .ok (.aload_n 3, 1) := by decide +kernel
theorem dX5_fillLates_153 : decode cX5_fillLates 153 = .ok (.iload 4, 2) := by decide +kernel
theorem dX5_fillLates_155 : decode cX5_fillLates 155 = .ok (.iload 9, 2) := by decide +kernel
theorem dX5_fillLates_157 : decode cX5_fillLates 157 = .ok (.iadd, 1) := by decide +kernel
theorem dX5_fillLates_158 : decode cX5_fillLates 158 = .ok (.aaload, 1) := by decide +kernel
theorem dX5_fillLates_159 : decode cX5_fillLates 159 = .ok (.iload_n 1, 1) := by decide +kernel
theorem dX5_fillLates_16 : decode cX5_fillLates 16 = .ok (.iload_n 1, 1) := by decide +kernel
theorem dX5_fillLates_160 : decode cX5_fillLates 160 = .ok (.iload 8, 2) := by decide +kernel
theorem dX5_fillLates_162 : decode cX5_fillLates 162 = .ok (.ifCond .eq 9, 3) := by decide +kernel
theorem dX5_fillLates_165 : decode cX5_fillLates 165 = .ok (.sipush 10000, 3) := by decide +kernel
theorem dX5_fillLates_168 : decode cX5_fillLates 168 = .ok (.goto 5, 3) := by decide +kernel
theorem dX5_fillLates_17 : decode cX5_fillLates 17 = .ok (.iaload, 1) := by decide +kernel
theorem dX5_fillLates_171 : decode cX5_fillLates 171 = .ok (.iload 6, 2) := by decide +kernel
theorem dX5_fillLates_173 : decode cX5_fillLates 173 = .ok (.iastore, 1) := by decide +kernel
theorem dX5_fillLates_174 : decode cX5_fillLates 174 = .ok (.iinc 9 1, 3) := by decide +kernel
theorem dX5_fillLates_177 : decode cX5_fillLates 177 = .ok (.goto (-138), 3) := by decide +kernel
theorem dX5_fillLates_18 : decode cX5_fillLates 18 = .ok (.goto 4, 3) := by decide +kernel
theorem dX5_fillLates_180 : decode cX5_fillLates 180 = .ok (.return_, 1) := by decide +kernel
theorem dX5_fillLates_2 : decode cX5_fillLates 2 = .ok (.invokestatic 39, 3) := by decide +kernel
theorem dX5_fillLates_22 : decode cX5_fillLates 22 = .ok (.istore 6, 2) := by decide +kernel
theorem dX5_fillLates_24 : decode cX5_fillLates 24 = .ok (.aload_n 0, 1) := by decide +kernel
theorem dX5_fillLates_25 : decode cX5_fillLates 25 = .ok (.getfield 48, 3) := by decide +kernel
theorem dX5_fillLates_28 : decode cX5_fillLates 28 = .ok (.iload_n 1, 1) := by decide +kernel
theorem dX5_fillLates_29 : decode cX5_fillLates 29 = .ok (.iaload, 1) := by decide +kernel
theorem dX5_fillLates_30 : decode cX5_fillLates 30 = .ok (.istore 7, 2) := by decide +kernel
theorem dX5_fillLates_32 : decode cX5_fillLates 32 = .ok (.iconst 0, 1) := by decide +kernel
theorem dX5_fillLates_33 : decode cX5_fillLates 33 = .ok (.istore 8, 2) := by decide +kernel
theorem dX5_fillLates_35 : decode cX5_fillLates 35 = .ok (.iload 5, 2) := by decide +kernel
theorem dX5_fillLates_37 : decode cX5_fillLates 37 = .ok (.istore 9, 2) := by decide +kernel
theorem dX5_fillLates_39 : decode cX5_fillLates 39 = .ok (.iload 9, 2) := by decide +kernel
theorem dX5_fillLates_41 : decode cX5_fillLates 41 = .ok (.aload_n 0, 1) := by decide +kernel
theorem dX5_fillLates_42 : decode cX5_fillLates 42 = .ok (.getfield 20, 3) := by decide +kernel
theorem dX5_fillLates_45 : decode cX5_fillLates 45 = .ok (.if_icmp .ge 135, 3) := by decide +kernel
theorem dX5_fillLates_48 : decode cX5_fillLates 48 = .ok (.iload 6, 2) := by decide +kernel
theorem dX5_fillLates_5 : decode cX5_fillLates 5 = .ok (.istore 5, 2) := by decide +kernel
theorem dX5_fillLates_50 : decode cX5_fillLates 50 = .ok (.iload 9, 2) := by decide +kernel
theorem dX5_fillLates_52 : decode cX5_fillLates 52 = .ok (.iload 5, 2) := by decide +kernel
theorem dX5_fillLates_54 : decode cX5_fillLates 54 = .ok (.if_icmp .le 8, 3) := by decide +kernel
theorem dX5_fillLates_57 : decode cX5_fillLates 57 = .ok (.iload 7, 2) := by decide +kernel
theorem dX5_fillLates_59 : decode cX5_fillLates 59 = .ok (.goto 4, 3) := by decide +kernel
theorem dX5_fillLates_62 : decode cX5_fillLates 62 = .ok (.iconst 0, 1) := by decide +kernel
theorem dX5_fillLates_63 : decode cX5_fillLates 63 = .ok (.iadd, 1) := by decide +kernel
theorem dX5_fillLates_64 : decode cX5_fillLates 64 = .ok (.istore 6, 2) := by decide +kernel
theorem dX5_fillLates_66 : decode cX5_fillLates 66 = .ok (.iload 9, 2) := by decide +kernel
theorem dX5_fillLates_68 : decode cX5_fillLates 68 = .ok (.iload_n 2, 1) := by decide +kernel
theorem dX5_fillLates_69 : decode cX5_fillLates 69 = .ok (.if_icmp .ne 7, 3) := by decide +kernel
theorem dX5_fillLates_7 : decode cX5_fillLates 7 = .ok (.iload_n 2, 1) := by decide +kernel
theorem dX5_fillLates_76 : decode cX5_fillLates 76 = .ok (.aload_n 0, 1) := by decide +kernel
theorem dX5_fillLates_77 : decode cX5_fillLates 77 = .ok (.getfield 51, 3) := by decide +kernel
theorem dX5_fillLates_8 : decode cX5_fillLates 8 = .ok (.iconst (-1), 1) := by decide +kernel
theorem dX5_fillLates_80 : decode cX5_fillLates 80 = .ok (.istore 10, 2) := by decide +kernel
theorem dX5_fillLates_82 : decode cX5_fillLates 82 = .ok (.iconst 0, 1) := by decide +kernel
theorem dX5_fillLates_83 : decode cX5_fillLates 83 = .ok (.istore 11, 2) := by decide +kernel
theorem dX5_fillLates_85 : decode cX5_fillLates 85 = .ok (.iload 11, 2) := by decide +kernel
theorem dX5_fillLates_87 : decode cX5_fillLates 87 = .ok (.iload 10, 2) := by decide +kernel
theorem dX5_fillLates_89 : decode cX5_fillLates 89 = .ok (.if_icmp .ge 63, 3) := by decide +kernel
theorem dX5_fillLates_9 : decode cX5_fillLates 9 = .ok (.if_icmp .ne 12, 3) := by decide +kernel
theorem dX5_fillLates_92 : decode cX5_fillLates 92 = .ok (.aload_n 0, 1) := by decide +kernel
theorem dX5_fillLates_93 : decode cX5_fillLates 93 = .ok (.iload 11, 2) := by decide +kernel
theorem dX5_fillLates_95 : decode cX5_fillLates 95 = .ok (.iload_n 1, 1) := by decide +kernel
theorem dX5_fillLates_96 : decode cX5_fillLates 96 = .ok (.iload 9, 2) := by decide +kernel
theorem dX5_fillLates_98 : decode cX5_fillLates 98 = .ok (.invokevirtual 54, 3) := by decide +kernel
theorem dX5_lastOf_0 : decode cX5_lastOf 0 = .ok (.iconst (-1), 1) := by decide +kernel
theorem dX5_lastOf_1 : decode cX5_lastOf 1 = .ok (.istore_n 2, 1) := by decide +kernel
theorem dX5_lastOf_10 : decode cX5_lastOf 10 = .ok (.iload_n 1, 1) := by decide +kernel
theorem dX5_lastOf_11 : decode cX5_lastOf 11 = .ok (.iload_n 3, 1) := by decide +kernel
theorem dX5_lastOf_12 : decode cX5_lastOf 12 = .ok (.ishr, 1) := by decide +kernel
theorem dX5_lastOf_13 : decode cX5_lastOf 13 = .ok (.iconst 1, 1) := by decide +kernel
theorem dX5_lastOf_14 : decode cX5_lastOf 14 = .ok (.iand, 1) := by decide +kernel
theorem dX5_lastOf_15 : decode cX5_lastOf 15 = .ok (.iconst 1, 1) := by decide +kernel
theorem dX5_lastOf_16 : decode cX5_lastOf 16 = .ok (.if_icmp .ne 7, 3) := by decide +kernel
theorem dX5_lastOf_19 : decode cX5_lastOf 19 = .ok (.iconst 1, 1) := by decide +kernel
theorem dX5_lastOf_2 : decode cX5_lastOf 2 = .ok (.iconst 0, 1) := by decide +kernel
theorem dX5_lastOf_20 : decode cX5_lastOf 20 = .ok (.goto 4, 3) := by decide +kernel
theorem dX5_lastOf_23 : decode cX5_lastOf 23 = .ok (.iconst 0, 1) := by decide +kernel
theorem dX5_lastOf_24 : decode cX5_lastOf 24 = .ok (.istore 4, 2) := by decide +kernel
theorem dX5_lastOf_26 : decode cX5_lastOf 26 = .ok (.iload 4, 2) := by decide +kernel
theorem dX5_lastOf_28 : decode cX5_lastOf 28 = .ok (.ifCond .eq 19, 3) := by decide +kernel
theorem dX5_lastOf_3 : decode cX5_lastOf 3 = .ok (.istore_n 3, 1) := by decide +kernel
theorem dX5_lastOf_31 : decode cX5_lastOf 31 = .ok (.iload_n 2, 1) := by decide +kernel
theorem dX5_lastOf_32 : decode cX5_lastOf 32 = .ok (.iconst (-1), 1) := by decide +kernel
theorem dX5_lastOf_33 : decode cX5_lastOf 33 = .ok (.if_icmp .eq 12, 3) := by decide +kernel
theorem dX5_lastOf_36 : decode cX5_lastOf 36 = .ok (.aload_n 0, 1) := by decide +kernel
theorem dX5_lastOf_37 : decode cX5_lastOf 37 = .ok (.iload_n 3, 1) := by decide +kernel
theorem dX5_lastOf_38 : decode cX5_lastOf 38 = .ok (.iaload, 1) := by decide +kernel
theorem dX5_lastOf_39 : decode cX5_lastOf 39 = .ok (.aload_n 0, 1) := by decide +kernel
theorem dX5_lastOf_4 : decode cX5_lastOf 4 = .ok (.iload_n 3, 1) := by decide +kernel
theorem dX5_lastOf_40 : decode cX5_lastOf 40 = .ok (.iload_n 2, 1) := by decide +kernel
theorem dX5_lastOf_41 : decode cX5_lastOf 41 = .ok (.iaload, 1) := by decide +kernel
theorem dX5_lastOf_42 : decode cX5_lastOf 42 = .ok (.if_icmp .le 5, 3) := by decide +kernel
theorem dX5_lastOf_45 : decode cX5_lastOf 45 = .ok (.iload_n 3, 1) := by decide +kernel
theorem dX5_lastOf_46 : decode cX5_lastOf 46 = .ok (.istore_n 2, 1) := by decide +kernel
theorem dX5_lastOf_47 : decode cX5_lastOf 47 = .ok (.iinc 3 1, 3) := by decide +kernel
theorem dX5_lastOf_5 : decode cX5_lastOf 5 = .ok (.bipush 6, 2) := by decide +kernel
theorem dX5_lastOf_50 : decode cX5_lastOf 50 = .ok (.goto (-46), 3) := by decide +kernel
theorem dX5_lastOf_53 : decode cX5_lastOf 53 = .ok (.iload_n 2, 1) := by decide +kernel
theorem dX5_lastOf_54 : decode cX5_lastOf 54 = .ok (.ireturn, 1) := by decide +kernel
theorem dX5_lastOf_7 : decode cX5_lastOf 7 = .ok (.if_icmp .ge 46, 3) := by decide +kernel
theorem dX5_noonOf_0 : decode cX5_noonOf 0 = .ok (.aload_n 0, 1) := by decide +kernel
theorem dX5_noonOf_1 : decode cX5_noonOf 1 = .ok (.iload_n 1, 1) := by decide +kernel
theorem dX5_noonOf_11 : decode cX5_noonOf 11 = .ok (.iconst 0, 1) := by decide +kernel
theorem dX5_noonOf_12 : decode cX5_noonOf 12 = .ok (.goto 6, 3) := by decide +kernel
theorem dX5_noonOf_15 : decode cX5_noonOf 15 = .ok (.aload_n 0, 1) := by decide +kernel
theorem dX5_noonOf_16 : decode cX5_noonOf 16 = .ok (.iload_n 2, 1) := by decide +kernel
theorem dX5_noonOf_17 : decode cX5_noonOf 17 = .ok (.iaload, 1) := by decide +kernel
theorem dX5_noonOf_18 : decode cX5_noonOf 18 = .ok (.ireturn, 1) := by decide +kernel
theorem dX5_noonOf_2 : decode cX5_noonOf 2 = .ok (.invokestatic 68, 3) := by decide +kernel
theorem dX5_noonOf_5 : decode cX5_noonOf 5 = .ok (.istore_n 2, 1) := by decide +kernel
theorem dX5_noonOf_6 : decode cX5_noonOf 6 = .ok (.iload_n 2, 1) := by decide +kernel
theorem dX5_noonOf_7 : decode cX5_noonOf 7 = .ok (.iconst (-1), 1) := by decide +kernel
theorem dX5_noonOf_8 : decode cX5_noonOf 8 = .ok (.if_icmp .ne 7, 3) := by decide +kernel
theorem dX5_settle_0 : decode cX5_settle 0 = .ok (.aload_n 0, 1) := by decide +kernel
theorem dX5_settle_1 : decode cX5_settle 1 = .ok (.aload_n 1, 1) := by decide +kernel
theorem dX5_settle_10 : decode cX5_settle 10 = .ok (.getfield 27, 3) := by decide +kernel
theorem dX5_settle_13 : decode cX5_settle 13 = .ok (.putfield 30, 3) := by decide +kernel
theorem dX5_settle_16 : decode cX5_settle 16 = .ok (.iconst 0, 1) := by decide +kernel
theorem dX5_settle_17 : decode cX5_settle 17 = .ok (.istore_n 2, 1) := by decide +kernel
theorem dX5_settle_18 : decode cX5_settle 18 = .ok (.iload_n 2, 1) := by decide +kernel
theorem dX5_settle_19 : decode cX5_settle 19 = .ok (.bipush 7, 2) := by decide +kernel
theorem dX5_settle_2 : decode cX5_settle 2 = .ok (.getfield 20, 3) := by decide +kernel
theorem dX5_settle_21 : decode cX5_settle 21 = .ok (.if_icmp .ge 16, 3) := by decide +kernel
theorem dX5_settle_24 : decode cX5_settle 24 = .ok (.aload_n 0, 1) := by decide +kernel
theorem dX5_settle_25 : decode cX5_settle 25 = .ok (.getfield 16, 3) := by decide +kernel
theorem dX5_settle_28 : decode cX5_settle 28 = .ok (.iload_n 2, 1) := by decide +kernel
theorem dX5_settle_29 : decode cX5_settle 29 = .ok (.iconst 0, 1) := by decide +kernel
theorem dX5_settle_30 : decode cX5_settle 30 = .ok (.iastore, 1) := by decide +kernel
theorem dX5_settle_31 : decode cX5_settle 31 = .ok (.iinc 2 1, 3) := by decide +kernel
theorem dX5_settle_34 : decode cX5_settle 34 = .ok (.goto (-16), 3) := by decide +kernel
theorem dX5_settle_37 : decode cX5_settle 37 = .ok (.iconst 0, 1) := by decide +kernel
theorem dX5_settle_38 : decode cX5_settle 38 = .ok (.istore_n 2, 1) := by decide +kernel
theorem dX5_settle_39 : decode cX5_settle 39 = .ok (.iload_n 2, 1) := by decide +kernel
theorem dX5_settle_40 : decode cX5_settle 40 = .ok (.aload_n 0, 1) := by decide +kernel
theorem dX5_settle_41 : decode cX5_settle 41 = .ok (.getfield 30, 3) := by decide +kernel
theorem dX5_settle_44 : decode cX5_settle 44 = .ok (.if_icmp .ge 26, 3) := by decide +kernel
theorem dX5_settle_47 : decode cX5_settle 47 = .ok (.aload_n 1, 1) := by decide +kernel
theorem dX5_settle_48 : decode cX5_settle 48 = .ok (.iload_n 2, 1) := by decide +kernel
theorem dX5_settle_49 : decode cX5_settle 49 = .ok (.iconst (-1), 1) := by decide +kernel
theorem dX5_settle_5 : decode cX5_settle 5 = .ok (.putfield 26, 3) := by decide +kernel
theorem dX5_settle_50 : decode cX5_settle 50 = .ok (.aload_n 0, 1) := by decide +kernel
theorem dX5_settle_51 : decode cX5_settle 51 = .ok (.getfield 11, 3) := by decide +kernel
theorem dX5_settle_54 : decode cX5_settle 54 = .ok (.iconst 0, 1) := by decide +kernel
theorem dX5_settle_55 : decode cX5_settle 55 = .ok (.invokestatic 31, 3) := by decide +kernel
theorem dX5_settle_58 : decode cX5_settle 58 = .ok (.aload_n 0, 1) := by decide +kernel
theorem dX5_settle_59 : decode cX5_settle 59 = .ok (.aload_n 1, 1) := by decide +kernel
theorem dX5_settle_60 : decode cX5_settle 60 = .ok (.iload_n 2, 1) := by decide +kernel
theorem dX5_settle_61 : decode cX5_settle 61 = .ok (.invokevirtual 35, 3) := by decide +kernel
theorem dX5_settle_64 : decode cX5_settle 64 = .ok (.iinc 2 1, 3) := by decide +kernel
theorem dX5_settle_67 : decode cX5_settle 67 = .ok (.goto (-28), 3) := by decide +kernel
theorem dX5_settle_70 : decode cX5_settle 70 = .ok (.return_, 1) := by decide +kernel
theorem dX5_settle_8 : decode cX5_settle 8 = .ok (.aload_n 0, 1) := by decide +kernel
theorem dX5_settle_9 : decode cX5_settle 9 = .ok (.aload_n 1, 1) := by decide +kernel
theorem dX6_take_0 : decode cX6_take 0 = .ok (.bipush 24, 2) := by decide +kernel
theorem dX6_take_11 : decode cX6_take 11 = .ok (.sipush 800, 3) := by decide +kernel
theorem dX6_take_14 : decode cX6_take 14 = .ok (.if_icmp .ge 32, 3) := by decide +kernel
theorem dX6_take_17 : decode cX6_take 17 = .ok (.aload_n 0, 1) := by decide +kernel
theorem dX6_take_18 : decode cX6_take 18 = .ok (.getfield 9, 3) := by decide +kernel
theorem dX6_take_2 : decode cX6_take 2 = .ok (.istore_n 2, 1) := by decide +kernel
theorem dX6_take_21 : decode cX6_take 21 = .ok (.aload_n 0, 1) := by decide +kernel
theorem dX6_take_22 : decode cX6_take 22 = .ok (.getfield 19, 3) := by decide +kernel
theorem dX6_take_25 : decode cX6_take 25 = .ok (.iload_n 1, 1) := by decide +kernel
theorem dX6_take_26 : decode cX6_take 26 = .ok (.iload_n 2, 1) := by decide +kernel
theorem dX6_take_27 : decode cX6_take 27 = .ok (.ishr, 1) := by decide +kernel
theorem dX6_take_28 : decode cX6_take 28 = .ok (.i2b, 1) := by decide +kernel
theorem dX6_take_29 : decode cX6_take 29 = .ok (.bastore, 1) := by decide +kernel
theorem dX6_take_3 : decode cX6_take 3 = .ok (.iload_n 2, 1) := by decide +kernel
theorem dX6_take_30 : decode cX6_take 30 = .ok (.aload_n 0, 1) := by decide +kernel
theorem dX6_take_31 : decode cX6_take 31 = .ok (.dup, 1) := by decide +kernel
theorem dX6_take_32 : decode cX6_take 32 = .ok (.getfield 19, 3) := by decide +kernel
theorem dX6_take_35 : decode cX6_take 35 = .ok (.iconst 1, 1) := by decide +kernel
theorem dX6_take_36 : decode cX6_take 36 = .ok (.iadd, 1) := by decide +kernel
theorem dX6_take_37 : decode cX6_take 37 = .ok (.putfield 19, 3) := by decide +kernel
theorem dX6_take_4 : decode cX6_take 4 = .ok (.ifCond .lt 42, 3) := by decide +kernel
theorem dX6_take_40 : decode cX6_take 40 = .ok (.iinc 2 (-8), 3) := by decide +kernel
theorem dX6_take_43 : decode cX6_take 43 = .ok (.goto (-40), 3) := by decide +kernel
theorem dX6_take_46 : decode cX6_take 46 = .ok (.return_, 1) := by decide +kernel
theorem dX6_take_7 : decode cX6_take 7 = .ok (.aload_n 0, 1) := by decide +kernel
theorem dX6_take_8 : decode cX6_take 8 = .ok (.getfield 19, 3) := by decide +kernel
theorem dX7_kindIf_0 : decode cX7_kindIf 0 = .ok (.aload_n 0, 1) := by decide +kernel
theorem dX7_kindIf_1 : decode cX7_kindIf 1 = .ok (.getfield 30, 3) := by decide +kernel
theorem dX7_kindIf_10 : decode cX7_kindIf 10 = .ok (.aload_n 0, 1) := by decide +kernel
theorem dX7_kindIf_11 : decode cX7_kindIf 11 = .ok (.getfield 33, 3) := by decide +kernel
theorem dX7_kindIf_14 : decode cX7_kindIf 14 = .ok (.iload_n 1, 1) := by decide +kernel
theorem dX7_kindIf_15 : decode cX7_kindIf 15 = .ok (.iaload, 1) := by decide +kernel
theorem dX7_kindIf_16 : decode cX7_kindIf 16 = .ok (.iload_n 3, 1) := by decide +kernel
theorem dX7_kindIf_17 : decode cX7_kindIf 17 = .ok (.if_icmp .ne 12, 3) := by decide +kernel
theorem dX7_kindIf_20 : decode cX7_kindIf 20 = .ok (.aload_n 0, 1) := by decide +kernel
theorem dX7_kindIf_21 : decode cX7_kindIf 21 = .ok (.getfield 27, 3) := by decide +kernel
theorem dX7_kindIf_24 : decode cX7_kindIf 24 = .ok (.iload_n 1, 1) := by decide +kernel
theorem dX7_kindIf_25 : decode cX7_kindIf 25 = .ok (.iaload, 1) := by decide +kernel
theorem dX7_kindIf_26 : decode cX7_kindIf 26 = .ok (.goto 4, 3) := by decide +kernel
theorem dX7_kindIf_29 : decode cX7_kindIf 29 = .ok (.iconst (-1), 1) := by decide +kernel
theorem dX7_kindIf_30 : decode cX7_kindIf 30 = .ok (.ireturn, 1) := by decide +kernel
theorem dX7_kindIf_4 : decode cX7_kindIf 4 = .ok (.iload_n 1, 1) := by decide +kernel
theorem dX7_kindIf_5 : decode cX7_kindIf 5 = .ok (.iaload, 1) := by decide +kernel
theorem dX7_kindIf_6 : decode cX7_kindIf 6 = .ok (.iload_n 2, 1) := by decide +kernel
theorem dX7_kindIf_7 : decode cX7_kindIf 7 = .ok (.if_icmp .ne 22, 3) := by decide +kernel
theorem dX9_feed_0 : decode cX9_feed 0 = .ok (.aload_n 0, 1) := by decide +kernel
theorem dX9_feed_1 : decode cX9_feed 1 = .ok (.getfield 10, 3) := by decide +kernel
theorem dX9_feed_10 : decode cX9_feed 10 = .ok (.sipush 800, 3) := by decide +kernel
theorem dX9_feed_13 : decode cX9_feed 13 = .ok (.if_icmp .le 5, 3) := by decide +kernel
theorem dX9_feed_16 : decode cX9_feed 16 = .ok (.iconst (-1), 1) := by decide +kernel
theorem dX9_feed_17 : decode cX9_feed 17 = .ok (.ireturn, 1) := by decide +kernel
theorem dX9_feed_18 : decode cX9_feed 18 = .ok (.aload_n 0, 1) := by decide +kernel
theorem dX9_feed_19 : decode cX9_feed 19 = .ok (.getfield 10, 3) := by decide +kernel
theorem dX9_feed_22 : decode cX9_feed 22 = .ok (.iload_n 1, 1) := by decide +kernel
theorem dX9_feed_23 : decode cX9_feed 23 = .ok (.invokevirtual 83, 3) := by decide +kernel
theorem dX9_feed_26 : decode cX9_feed 26 = .ok (.aload_n 0, 1) := by decide +kernel
theorem dX9_feed_27 : decode cX9_feed 27 = .ok (.getfield 10, 3) := by decide +kernel
theorem dX9_feed_30 : decode cX9_feed 30 = .ok (.iload_n 2, 1) := by decide +kernel
theorem dX9_feed_31 : decode cX9_feed 31 = .ok (.invokevirtual 83, 3) := by decide +kernel
theorem dX9_feed_34 : decode cX9_feed 34 = .ok (.aload_n 0, 1) := by decide +kernel
theorem dX9_feed_35 : decode cX9_feed 35 = .ok (.getfield 10, 3) := by decide +kernel
theorem dX9_feed_38 : decode cX9_feed 38 = .ok (.iload_n 3, 1) := by decide +kernel
theorem dX9_feed_39 : decode cX9_feed 39 = .ok (.invokevirtual 83, 3) := by decide +kernel
theorem dX9_feed_4 : decode cX9_feed 4 = .ok (.getfield 79, 3) := by decide +kernel
theorem dX9_feed_42 : decode cX9_feed 42 = .ok (.aload_n 0, 1) := by decide +kernel
theorem dX9_feed_43 : decode cX9_feed 43 = .ok (.getfield 10, 3) := by decide +kernel
theorem dX9_feed_46 : decode cX9_feed 46 = .ok (.iload 4, 2) := by decide +kernel
theorem dX9_feed_48 : decode cX9_feed 48 = .ok (.invokevirtual 83, 3) := by decide +kernel
theorem dX9_feed_51 : decode cX9_feed 51 = .ok (.aload_n 0, 1) := by decide +kernel
theorem dX9_feed_52 : decode cX9_feed 52 = .ok (.getfield 10, 3) := by decide +kernel
theorem dX9_feed_55 : decode cX9_feed 55 = .ok (.iload 5, 2) := by decide +kernel
theorem dX9_feed_57 : decode cX9_feed 57 = .ok (.invokevirtual 83, 3) := by decide +kernel
theorem dX9_feed_60 : decode cX9_feed 60 = .ok (.aload_n 0, 1) := by decide +kernel
theorem dX9_feed_61 : decode cX9_feed 61 = .ok (.getfield 10, 3) := by decide +kernel
theorem dX9_feed_64 : decode cX9_feed 64 = .ok (.getfield 79, 3) := by decide +kernel
theorem dX9_feed_67 : decode cX9_feed 67 = .ok (.ireturn, 1) := by decide +kernel
theorem dX9_feed_7 : decode cX9_feed 7 = .ok (.bipush 20, 2) := by decide +kernel
theorem dX9_feed_9 : decode cX9_feed 9 = .ok (.iadd, 1) := by decide +kernel
theorem dX9_hasTown_0 : decode cX9_hasTown 0 = .ok (.aload_n 0, 1) := by decide +kernel
theorem dX9_hasTown_1 : decode cX9_hasTown 1 = .ok (.getfield 19, 3) := by decide +kernel
theorem dX9_hasTown_10 : decode cX9_hasTown 10 = .ok (.iconst 1, 1) := by decide +kernel
theorem dX9_hasTown_11 : decode cX9_hasTown 11 = .ok (.goto 4, 3) := by decide +kernel
theorem dX9_hasTown_14 : decode cX9_hasTown 14 = .ok (.iconst 0, 1) := by decide +kernel
theorem dX9_hasTown_15 : decode cX9_hasTown 15 = .ok (.ireturn, 1) := by decide +kernel
theorem dX9_hasTown_4 : decode cX9_hasTown 4 = .ok (.getfield 98, 3) := by decide +kernel
theorem dX9_hasTown_7 : decode cX9_hasTown 7 = .ok (.ifCond .le 7, 3) := by decide +kernel
theorem dX9_isClock_0 : decode cX9_isClock 0 = .ok (.iload_n 1, 1) := by decide +kernel
theorem dX9_isClock_1 : decode cX9_isClock 1 = .ok (.ifCond .lt 18, 3) := by decide +kernel
theorem dX9_isClock_12 : decode cX9_isClock 12 = .ok (.if_icmp .ge 7, 3) := by decide +kernel
theorem dX9_isClock_15 : decode cX9_isClock 15 = .ok (.iconst 1, 1) := by decide +kernel
theorem dX9_isClock_16 : decode cX9_isClock 16 = .ok (.goto 4, 3) := by decide +kernel
theorem dX9_isClock_19 : decode cX9_isClock 19 = .ok (.iconst 0, 1) := by decide +kernel
theorem dX9_isClock_20 : decode cX9_isClock 20 = .ok (.ireturn, 1) := by decide +kernel
theorem dX9_isClock_4 : decode cX9_isClock 4 = .ok (.iload_n 1, 1) := by decide +kernel
theorem dX9_isClock_5 : decode cX9_isClock 5 = .ok (.aload_n 0, 1) := by decide +kernel
theorem dX9_isClock_6 : decode cX9_isClock 6 = .ok (.getfield 33, 3) := by decide +kernel
theorem dX9_isClock_9 : decode cX9_isClock 9 = .ok (.getfield 182, 3) := by decide +kernel
theorem dX9_isDay_0 : decode cX9_isDay 0 = .ok (.iload_n 1, 1) := by decide +kernel
theorem dX9_isDay_1 : decode cX9_isDay 1 = .ok (.ifCond .lt 18, 3) := by decide +kernel
theorem dX9_isDay_12 : decode cX9_isDay 12 = .ok (.if_icmp .ge 7, 3) := by decide +kernel
theorem dX9_isDay_15 : decode cX9_isDay 15 = .ok (.iconst 1, 1) := by decide +kernel
theorem dX9_isDay_16 : decode cX9_isDay 16 = .ok (.goto 4, 3) := by decide +kernel
theorem dX9_isDay_19 : decode cX9_isDay 19 = .ok (.iconst 0, 1) := by decide +kernel
theorem dX9_isDay_20 : decode cX9_isDay 20 = .ok (.ireturn, 1) := by decide +kernel
theorem dX9_isDay_4 : decode cX9_isDay 4 = .ok (.iload_n 1, 1) := by decide +kernel
theorem dX9_isDay_5 : decode cX9_isDay 5 = .ok (.aload_n 0, 1) := by decide +kernel
theorem dX9_isDay_6 : decode cX9_isDay 6 = .ok (.getfield 33, 3) := by decide +kernel
theorem dX9_isDay_9 : decode cX9_isDay 9 = .ok (.getfield 173, 3) := by decide +kernel
theorem dX9_isSlot_0 : decode cX9_isSlot 0 = .ok (.iload_n 0, 1) := by decide +kernel
theorem dX9_isSlot_1 : decode cX9_isSlot 1 = .ok (.iconst 0, 1) := by decide +kernel
theorem dX9_isSlot_2 : decode cX9_isSlot 2 = .ok (.iconst 3, 1) := by decide +kernel
theorem dX9_isSlot_3 : decode cX9_isSlot 3 = .ok (.invokestatic 148, 3) := by decide +kernel
theorem dX9_isSlot_6 : decode cX9_isSlot 6 = .ok (.ireturn, 1) := by decide +kernel
theorem dX9_isWithin_0 : decode cX9_isWithin 0 = .ok (.iload_n 0, 1) := by decide +kernel
theorem dX9_isWithin_1 : decode cX9_isWithin 1 = .ok (.iload_n 1, 1) := by decide +kernel
theorem dX9_isWithin_10 : decode cX9_isWithin 10 = .ok (.iconst 1, 1) := by decide +kernel
theorem dX9_isWithin_11 : decode cX9_isWithin 11 = .ok (.goto 4, 3) := by decide +kernel
theorem dX9_isWithin_14 : decode cX9_isWithin 14 = .ok (.iconst 0, 1) := by decide +kernel
theorem dX9_isWithin_15 : decode cX9_isWithin 15 = .ok (.ireturn, 1) := by decide +kernel
theorem dX9_isWithin_2 : decode cX9_isWithin 2 = .ok (.if_icmp .lt 12, 3) := by decide +kernel
theorem dX9_isWithin_5 : decode cX9_isWithin 5 = .ok (.iload_n 0, 1) := by decide +kernel
theorem dX9_isWithin_6 : decode cX9_isWithin 6 = .ok (.iload_n 2, 1) := by decide +kernel
theorem dX9_isWithin_7 : decode cX9_isWithin 7 = .ok (.if_icmp .gt 7, 3) := by decide +kernel
theorem dX9_late_0 : decode cX9_late 0 = .ok (.aload_n 0, 1) := by decide +kernel
theorem dX9_late_1 : decode cX9_late 1 = .ok (.iload_n 1, 1) := by decide +kernel
theorem dX9_late_10 : decode cX9_late 10 = .ok (.invokevirtual 127, 3) := by decide +kernel
theorem dX9_late_13 : decode cX9_late 13 = .ok (.ifCond .eq 17, 3) := by decide +kernel
theorem dX9_late_16 : decode cX9_late 16 = .ok (.aload_n 0, 1) := by decide +kernel
theorem dX9_late_17 : decode cX9_late 17 = .ok (.getfield 33, 3) := by decide +kernel
theorem dX9_late_2 : decode cX9_late 2 = .ok (.invokevirtual 107, 3) := by decide +kernel
theorem dX9_late_20 : decode cX9_late 20 = .ok (.getfield 130, 3) := by decide +kernel
theorem dX9_late_23 : decode cX9_late 23 = .ok (.iload_n 2, 1) := by decide +kernel
theorem dX9_late_24 : decode cX9_late 24 = .ok (.aaload, 1) := by decide +kernel
theorem dX9_late_25 : decode cX9_late 25 = .ok (.iload_n 1, 1) := by decide +kernel
theorem dX9_late_26 : decode cX9_late 26 = .ok (.iaload, 1) := by decide +kernel
theorem dX9_late_27 : decode cX9_late 27 = .ok (.goto 6, 3) := by decide +kernel
theorem dX9_late_30 : decode cX9_late 30 = .ok (.sipush (-1000), 3) := by decide +kernel
theorem dX9_late_33 : decode cX9_late 33 = .ok (.ireturn, 1) := by decide +kernel
theorem dX9_late_5 : decode cX9_late 5 = .ok (.ifCond .eq 25, 3) := by decide +kernel
theorem dX9_late_8 : decode cX9_late 8 = .ok (.aload_n 0, 1) := by decide +kernel
theorem dX9_late_9 : decode cX9_late 9 = .ok (.iload_n 2, 1) := by decide +kernel
theorem dX9_noonOn_0 : decode cX9_noonOn 0 = .ok (.aload_n 0, 1) := by decide +kernel
theorem dX9_noonOn_1 : decode cX9_noonOn 1 = .ok (.getfield 33, 3) := by decide +kernel
theorem dX9_noonOn_10 : decode cX9_noonOn 10 = .ok (.getfield 33, 3) := by decide +kernel
theorem dX9_noonOn_13 : decode cX9_noonOn 13 = .ok (.getfield 138, 3) := by decide +kernel
theorem dX9_noonOn_16 : decode cX9_noonOn 16 = .ok (.iload_n 1, 1) := by decide +kernel
theorem dX9_noonOn_17 : decode cX9_noonOn 17 = .ok (.iaload, 1) := by decide +kernel
theorem dX9_noonOn_18 : decode cX9_noonOn 18 = .ok (.invokestatic 159, 3) := by decide +kernel
theorem dX9_noonOn_21 : decode cX9_noonOn 21 = .ok (.ireturn, 1) := by decide +kernel
theorem dX9_noonOn_4 : decode cX9_noonOn 4 = .ok (.getfield 130, 3) := by decide +kernel
theorem dX9_noonOn_7 : decode cX9_noonOn 7 = .ok (.iload_n 1, 1) := by decide +kernel
theorem dX9_noonOn_8 : decode cX9_noonOn 8 = .ok (.aaload, 1) := by decide +kernel
theorem dX9_noonOn_9 : decode cX9_noonOn 9 = .ok (.aload_n 0, 1) := by decide +kernel
theorem dX9_noon_0 : decode cX9_noon 0 = .ok (.aload_n 0, 1) := by decide +kernel
theorem dX9_noon_1 : decode cX9_noon 1 = .ok (.iload_n 1, 1) := by decide +kernel
theorem dX9_noon_10 : decode cX9_noon 10 = .ok (.invokevirtual 134, 3) := by decide +kernel
theorem dX9_noon_13 : decode cX9_noon 13 = .ok (.goto 6, 3) := by decide +kernel
theorem dX9_noon_16 : decode cX9_noon 16 = .ok (.sipush (-1000), 3) := by decide +kernel
theorem dX9_noon_19 : decode cX9_noon 19 = .ok (.ireturn, 1) := by decide +kernel
theorem dX9_noon_2 : decode cX9_noon 2 = .ok (.invokevirtual 127, 3) := by decide +kernel
theorem dX9_noon_5 : decode cX9_noon 5 = .ok (.ifCond .eq 11, 3) := by decide +kernel
theorem dX9_noon_8 : decode cX9_noon 8 = .ok (.aload_n 0, 1) := by decide +kernel
theorem dX9_noon_9 : decode cX9_noon 9 = .ok (.iload_n 1, 1) := by decide +kernel
theorem dX9_row_0 : decode cX9_row 0 = .ok (.iload_n 1, 1) := by decide +kernel
theorem dX9_row_1 : decode cX9_row 1 = .ok (.invokestatic 253, 3) := by decide +kernel
theorem dX9_row_10 : decode cX9_row 10 = .ok (.invokestatic 148, 3) := by decide +kernel
theorem dX9_row_13 : decode cX9_row 13 = .ok (.ifCond .eq 9, 3) := by decide +kernel
theorem dX9_row_16 : decode cX9_row 16 = .ok (.iload_n 3, 1) := by decide +kernel
theorem dX9_row_17 : decode cX9_row 17 = .ok (.bipush 60, 2) := by decide +kernel
theorem dX9_row_19 : decode cX9_row 19 = .ok (.if_icmp .le 6, 3) := by decide +kernel
theorem dX9_row_22 : decode cX9_row 22 = .ok (.bipush (-2), 2) := by decide +kernel
theorem dX9_row_24 : decode cX9_row 24 = .ok (.ireturn, 1) := by decide +kernel
theorem dX9_row_25 : decode cX9_row 25 = .ok (.iload_n 3, 1) := by decide +kernel
theorem dX9_row_26 : decode cX9_row 26 = .ok (.ifCond .ge 6, 3) := by decide +kernel
theorem dX9_row_29 : decode cX9_row 29 = .ok (.bipush (-3), 2) := by decide +kernel
theorem dX9_row_31 : decode cX9_row 31 = .ok (.ireturn, 1) := by decide +kernel
theorem dX9_row_32 : decode cX9_row 32 = .ok (.aload_n 0, 1) := by decide +kernel
theorem dX9_row_33 : decode cX9_row 33 = .ok (.getfield 39, 3) := by decide +kernel
theorem dX9_row_36 : decode cX9_row 36 = .ok (.iload_n 1, 1) := by decide +kernel
theorem dX9_row_37 : decode cX9_row 37 = .ok (.aaload, 1) := by decide +kernel
theorem dX9_row_38 : decode cX9_row 38 = .ok (.iload_n 2, 1) := by decide +kernel
theorem dX9_row_39 : decode cX9_row 39 = .ok (.iload_n 3, 1) := by decide +kernel
theorem dX9_row_4 : decode cX9_row 4 = .ok (.ifCond .eq 18, 3) := by decide +kernel
theorem dX9_row_40 : decode cX9_row 40 = .ok (.invokevirtual 357, 3) := by decide +kernel
theorem dX9_row_43 : decode cX9_row 43 = .ok (.iconst 0, 1) := by decide +kernel
theorem dX9_row_44 : decode cX9_row 44 = .ok (.ireturn, 1) := by decide +kernel
theorem dX9_row_7 : decode cX9_row 7 = .ok (.iload_n 2, 1) := by decide +kernel
theorem dX9_row_8 : decode cX9_row 8 = .ok (.iconst 0, 1) := by decide +kernel
theorem dX9_row_9 : decode cX9_row 9 = .ok (.iconst 3, 1) := by decide +kernel
theorem dX9_undo_0 : decode cX9_undo 0 = .ok (.aload_n 0, 1) := by decide +kernel
theorem dX9_undo_1 : decode cX9_undo 1 = .ok (.invokevirtual 166, 3) := by decide +kernel
theorem dX9_undo_10 : decode cX9_undo 10 = .ok (.aload_n 0, 1) := by decide +kernel
theorem dX9_undo_11 : decode cX9_undo 11 = .ok (.getfield 19, 3) := by decide +kernel
theorem dX9_undo_14 : decode cX9_undo 14 = .ok (.getfield 321, 3) := by decide +kernel
theorem dX9_undo_17 : decode cX9_undo 17 = .ok (.ifCond .ne 6, 3) := by decide +kernel
theorem dX9_undo_20 : decode cX9_undo 20 = .ok (.bipush (-5), 2) := by decide +kernel
theorem dX9_undo_22 : decode cX9_undo 22 = .ok (.ireturn, 1) := by decide +kernel
theorem dX9_undo_23 : decode cX9_undo 23 = .ok (.aload_n 0, 1) := by decide +kernel
theorem dX9_undo_24 : decode cX9_undo 24 = .ok (.getfield 19, 3) := by decide +kernel
theorem dX9_undo_27 : decode cX9_undo 27 = .ok (.dup, 1) := by decide +kernel
theorem dX9_undo_28 : decode cX9_undo 28 = .ok (.getfield 321, 3) := by decide +kernel
theorem dX9_undo_31 : decode cX9_undo 31 = .ok (.iconst 1, 1) := by decide +kernel
theorem dX9_undo_32 : decode cX9_undo 32 = .ok (.isub, 1) := by decide +kernel
theorem dX9_undo_33 : decode cX9_undo 33 = .ok (.putfield 321, 3) := by decide +kernel
theorem dX9_undo_36 : decode cX9_undo 36 = .ok (.aload_n 0, 1) := by decide +kernel
theorem dX9_undo_37 : decode cX9_undo 37 = .ok (.getfield 33, 3) := by decide +kernel
theorem dX9_undo_4 : decode cX9_undo 4 = .ok (.ifCond .ne 6, 3) := by decide +kernel
theorem dX9_undo_40 : decode cX9_undo 40 = .ok (.aload_n 0, 1) := by decide +kernel
theorem dX9_undo_41 : decode cX9_undo 41 = .ok (.getfield 19, 3) := by decide +kernel
theorem dX9_undo_44 : decode cX9_undo 44 = .ok (.invokevirtual 95, 3) := by decide +kernel
theorem dX9_undo_47 : decode cX9_undo 47 = .ok (.aload_n 0, 1) := by decide +kernel
theorem dX9_undo_48 : decode cX9_undo 48 = .ok (.getfield 19, 3) := by decide +kernel
theorem dX9_undo_51 : decode cX9_undo 51 = .ok (.getfield 321, 3) := by decide +kernel
theorem dX9_undo_54 : decode cX9_undo 54 = .ok (.ireturn, 1) := by decide +kernel
theorem dX9_undo_7 : decode cX9_undo 7 = .ok (.bipush (-2), 2) := by decide +kernel
theorem dX9_undo_9 : decode cX9_undo 9 = .ok (.ireturn, 1) := by decide +kernel
