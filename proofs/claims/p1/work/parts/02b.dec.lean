theorem dX7_init_0 : decode cX7_init 0 = .ok (.aload_n 0, 1) := by decide +kernel
theorem dX7_init_1 : decode cX7_init 1 = .ok (.invokespecial 1, 3) := by decide +kernel
theorem dX7_init_4 : decode cX7_init 4 = .ok (.aload_n 0, 1) := by decide +kernel
theorem dX7_init_5 : decode cX7_init 5 = .ok (.iconst 3, 1) := by decide +kernel
theorem dX7_init_6 : decode cX7_init 6 = .ok (.newarray .int, 2) := by decide +kernel
theorem dX7_init_8 : decode cX7_init 8 = .ok (.putfield 7, 3) := by decide +kernel
theorem dX7_init_11 : decode cX7_init 11 = .ok (.aload_n 0, 1) := by decide +kernel
theorem dX7_init_12 : decode cX7_init 12 = .ok (.sipush 240, 3) := by decide +kernel
theorem dX7_init_15 : decode cX7_init 15 = .ok (.newarray .int, 2) := by decide +kernel
theorem dX7_init_17 : decode cX7_init 17 = .ok (.putfield 13, 3) := by decide +kernel
theorem dX7_init_20 : decode cX7_init 20 = .ok (.aload_n 0, 1) := by decide +kernel
theorem dX7_init_21 : decode cX7_init 21 = .ok (.bipush 52, 2) := by decide +kernel
theorem dX7_init_23 : decode cX7_init 23 = .ok (.newarray .int, 2) := by decide +kernel
theorem dX7_init_25 : decode cX7_init 25 = .ok (.putfield 16, 3) := by decide +kernel
theorem dX7_init_28 : decode cX7_init 28 = .ok (.aload_n 0, 1) := by decide +kernel
theorem dX7_init_29 : decode cX7_init 29 = .ok (.iconst 4, 1) := by decide +kernel
theorem dX7_init_30 : decode cX7_init 30 = .ok (.newarray .int, 2) := by decide +kernel
theorem dX7_init_32 : decode cX7_init 32 = .ok (.putfield 19, 3) := by decide +kernel
theorem dX7_init_35 : decode cX7_init 35 = .ok (.aload_n 0, 1) := by decide +kernel
theorem dX7_init_36 : decode cX7_init 36 = .ok (.sipush 4608, 3) := by decide +kernel
theorem dX7_init_39 : decode cX7_init 39 = .ok (.newarray .int, 2) := by decide +kernel
theorem dX7_init_41 : decode cX7_init 41 = .ok (.putfield 22, 3) := by decide +kernel
theorem dX7_init_44 : decode cX7_init 44 = .ok (.aload_n 0, 1) := by decide +kernel
theorem dX7_init_45 : decode cX7_init 45 = .ok (.bipush 40, 2) := by decide +kernel
theorem dX7_init_47 : decode cX7_init 47 = .ok (.newarray .int, 2) := by decide +kernel
theorem dX7_init_49 : decode cX7_init 49 = .ok (.putfield 25, 3) := by decide +kernel
theorem dX7_init_52 : decode cX7_init 52 = .ok (.aload_n 0, 1) := by decide +kernel
theorem dX7_init_53 : decode cX7_init 53 = .ok (.bipush 30, 2) := by decide +kernel
theorem dX7_init_55 : decode cX7_init 55 = .ok (.newarray .int, 2) := by decide +kernel
theorem dX7_init_57 : decode cX7_init 57 = .ok (.putfield 28, 3) := by decide +kernel
theorem dX7_init_60 : decode cX7_init 60 = .ok (.aload_n 0, 1) := by decide +kernel
theorem dX7_init_61 : decode cX7_init 61 = .ok (.bipush 30, 2) := by decide +kernel
theorem dX7_init_63 : decode cX7_init 63 = .ok (.newarray .int, 2) := by decide +kernel
theorem dX7_init_65 : decode cX7_init 65 = .ok (.putfield 31, 3) := by decide +kernel
theorem dX7_init_68 : decode cX7_init 68 = .ok (.aload_n 0, 1) := by decide +kernel
theorem dX7_init_69 : decode cX7_init 69 = .ok (.bipush 30, 2) := by decide +kernel
theorem dX7_init_71 : decode cX7_init 71 = .ok (.newarray .int, 2) := by decide +kernel
theorem dX7_init_73 : decode cX7_init 73 = .ok (.putfield 34, 3) := by decide +kernel
theorem dX7_init_76 : decode cX7_init 76 = .ok (.aload_n 0, 1) := by decide +kernel
theorem dX7_init_77 : decode cX7_init 77 = .ok (.iconst 3, 1) := by decide +kernel
theorem dX7_init_78 : decode cX7_init 78 = .ok (.newarray .int, 2) := by decide +kernel
theorem dX7_init_80 : decode cX7_init 80 = .ok (.putfield 37, 3) := by decide +kernel
theorem dX7_init_83 : decode cX7_init 83 = .ok (.aload_n 0, 1) := by decide +kernel
theorem dX7_init_84 : decode cX7_init 84 = .ok (.ldc 40, 2) := by decide +kernel
theorem dX7_init_86 : decode cX7_init 86 = .ok (.newarray .int, 2) := by decide +kernel
theorem dX7_init_88 : decode cX7_init 88 = .ok (.putfield 41, 3) := by decide +kernel
theorem dX7_init_91 : decode cX7_init 91 = .ok (.aload_n 0, 1) := by decide +kernel
theorem dX7_init_92 : decode cX7_init 92 = .ok (.iconst 3, 1) := by decide +kernel
theorem dX7_init_93 : decode cX7_init 93 = .ok (.newarray .int, 2) := by decide +kernel
theorem dX7_init_95 : decode cX7_init 95 = .ok (.putfield 44, 3) := by decide +kernel
theorem dX7_init_98 : decode cX7_init 98 = .ok (.aload_n 0, 1) := by decide +kernel
theorem dX7_init_99 : decode cX7_init 99 = .ok (.iconst 3, 1) := by decide +kernel
theorem dX7_init_100 : decode cX7_init 100 = .ok (.newarray .int, 2) := by decide +kernel
theorem dX7_init_102 : decode cX7_init 102 = .ok (.putfield 47, 3) := by decide +kernel
theorem dX7_init_105 : decode cX7_init 105 = .ok (.aload_n 0, 1) := by decide +kernel
theorem dX7_init_106 : decode cX7_init 106 = .ok (.sipush 156, 3) := by decide +kernel
theorem dX7_init_109 : decode cX7_init 109 = .ok (.newarray .int, 2) := by decide +kernel
theorem dX7_init_111 : decode cX7_init 111 = .ok (.putfield 50, 3) := by decide +kernel
theorem dX7_init_114 : decode cX7_init 114 = .ok (.aload_n 0, 1) := by decide +kernel
theorem dX7_init_115 : decode cX7_init 115 = .ok (.iconst 4, 1) := by decide +kernel
theorem dX7_init_116 : decode cX7_init 116 = .ok (.newarray .int, 2) := by decide +kernel
theorem dX7_init_118 : decode cX7_init 118 = .ok (.putfield 53, 3) := by decide +kernel
theorem dX7_init_121 : decode cX7_init 121 = .ok (.aload_n 0, 1) := by decide +kernel
theorem dX7_init_122 : decode cX7_init 122 = .ok (.sipush 480, 3) := by decide +kernel
theorem dX7_init_125 : decode cX7_init 125 = .ok (.newarray .int, 2) := by decide +kernel
theorem dX7_init_127 : decode cX7_init 127 = .ok (.putfield 56, 3) := by decide +kernel
theorem dX7_init_130 : decode cX7_init 130 = .ok (.aload_n 0, 1) := by decide +kernel
theorem dX7_init_131 : decode cX7_init 131 = .ok (.sipush 480, 3) := by decide +kernel
theorem dX7_init_134 : decode cX7_init 134 = .ok (.newarray .int, 2) := by decide +kernel
theorem dX7_init_136 : decode cX7_init 136 = .ok (.putfield 59, 3) := by decide +kernel
theorem dX7_init_139 : decode cX7_init 139 = .ok (.aload_n 0, 1) := by decide +kernel
theorem dX7_init_140 : decode cX7_init 140 = .ok (.sipush 480, 3) := by decide +kernel
theorem dX7_init_143 : decode cX7_init 143 = .ok (.newarray .int, 2) := by decide +kernel
theorem dX7_init_145 : decode cX7_init 145 = .ok (.putfield 62, 3) := by decide +kernel
theorem dX7_init_148 : decode cX7_init 148 = .ok (.aload_n 0, 1) := by decide +kernel
theorem dX7_init_149 : decode cX7_init 149 = .ok (.bipush 120, 2) := by decide +kernel
theorem dX7_init_151 : decode cX7_init 151 = .ok (.newarray .int, 2) := by decide +kernel
theorem dX7_init_153 : decode cX7_init 153 = .ok (.putfield 65, 3) := by decide +kernel
theorem dX7_init_156 : decode cX7_init 156 = .ok (.aload_n 0, 1) := by decide +kernel
theorem dX7_init_157 : decode cX7_init 157 = .ok (.iconst 5, 1) := by decide +kernel
theorem dX7_init_158 : decode cX7_init 158 = .ok (.newarray .int, 2) := by decide +kernel
theorem dX7_init_160 : decode cX7_init 160 = .ok (.putfield 68, 3) := by decide +kernel
theorem dX7_init_163 : decode cX7_init 163 = .ok (.aload_n 0, 1) := by decide +kernel
theorem dX7_init_164 : decode cX7_init 164 = .ok (.sipush 16000, 3) := by decide +kernel
theorem dX7_init_167 : decode cX7_init 167 = .ok (.newarray .int, 2) := by decide +kernel
theorem dX7_init_169 : decode cX7_init 169 = .ok (.putfield 71, 3) := by decide +kernel
theorem dX7_init_172 : decode cX7_init 172 = .ok (.aload_n 0, 1) := by decide +kernel
theorem dX7_init_173 : decode cX7_init 173 = .ok (.bipush 16, 2) := by decide +kernel
theorem dX7_init_175 : decode cX7_init 175 = .ok (.newarray .int, 2) := by decide +kernel
theorem dX7_init_177 : decode cX7_init 177 = .ok (.putfield 74, 3) := by decide +kernel
theorem dX7_init_180 : decode cX7_init 180 = .ok (.aload_n 0, 1) := by decide +kernel
theorem dX7_init_181 : decode cX7_init 181 = .ok (.bipush 16, 2) := by decide +kernel
theorem dX7_init_183 : decode cX7_init 183 = .ok (.newarray .int, 2) := by decide +kernel
theorem dX7_init_185 : decode cX7_init 185 = .ok (.putfield 77, 3) := by decide +kernel
theorem dX7_init_188 : decode cX7_init 188 = .ok (.aload_n 0, 1) := by decide +kernel
theorem dX7_init_189 : decode cX7_init 189 = .ok (.bipush 16, 2) := by decide +kernel
theorem dX7_init_191 : decode cX7_init 191 = .ok (.newarray .int, 2) := by decide +kernel
theorem dX7_init_193 : decode cX7_init 193 = .ok (.putfield 80, 3) := by decide +kernel
theorem dX7_init_196 : decode cX7_init 196 = .ok (.aload_n 0, 1) := by decide +kernel
theorem dX7_init_197 : decode cX7_init 197 = .ok (.bipush 16, 2) := by decide +kernel
theorem dX7_init_199 : decode cX7_init 199 = .ok (.newarray .int, 2) := by decide +kernel
theorem dX7_init_201 : decode cX7_init 201 = .ok (.putfield 83, 3) := by decide +kernel
theorem dX7_init_204 : decode cX7_init 204 = .ok (.aload_n 0, 1) := by decide +kernel
theorem dX7_init_205 : decode cX7_init 205 = .ok (.bipush 16, 2) := by decide +kernel
theorem dX7_init_207 : decode cX7_init 207 = .ok (.newarray .int, 2) := by decide +kernel
theorem dX7_init_209 : decode cX7_init 209 = .ok (.putfield 86, 3) := by decide +kernel
theorem dX7_init_212 : decode cX7_init 212 = .ok (.aload_n 0, 1) := by decide +kernel
theorem dX7_init_213 : decode cX7_init 213 = .ok (.bipush 16, 2) := by decide +kernel
theorem dX7_init_215 : decode cX7_init 215 = .ok (.newarray .int, 2) := by decide +kernel
theorem dX7_init_217 : decode cX7_init 217 = .ok (.putfield 89, 3) := by decide +kernel
theorem dX7_init_220 : decode cX7_init 220 = .ok (.aload_n 0, 1) := by decide +kernel
theorem dX7_init_221 : decode cX7_init 221 = .ok (.sipush 128, 3) := by decide +kernel
theorem dX7_init_224 : decode cX7_init 224 = .ok (.newarray .int, 2) := by decide +kernel
theorem dX7_init_226 : decode cX7_init 226 = .ok (.putfield 92, 3) := by decide +kernel
theorem dX7_init_229 : decode cX7_init 229 = .ok (.aload_n 0, 1) := by decide +kernel
theorem dX7_init_230 : decode cX7_init 230 = .ok (.sipush 128, 3) := by decide +kernel
theorem dX7_init_233 : decode cX7_init 233 = .ok (.newarray .int, 2) := by decide +kernel
theorem dX7_init_235 : decode cX7_init 235 = .ok (.putfield 95, 3) := by decide +kernel
theorem dX7_init_238 : decode cX7_init 238 = .ok (.aload_n 0, 1) := by decide +kernel
theorem dX7_init_239 : decode cX7_init 239 = .ok (.sipush 301, 3) := by decide +kernel
theorem dX7_init_242 : decode cX7_init 242 = .ok (.newarray .int, 2) := by decide +kernel
theorem dX7_init_244 : decode cX7_init 244 = .ok (.putfield 98, 3) := by decide +kernel
theorem dX7_init_247 : decode cX7_init 247 = .ok (.aload_n 0, 1) := by decide +kernel
theorem dX7_init_248 : decode cX7_init 248 = .ok (.ldc 101, 2) := by decide +kernel
theorem dX7_init_250 : decode cX7_init 250 = .ok (.newarray .int, 2) := by decide +kernel
theorem dX7_init_252 : decode cX7_init 252 = .ok (.putfield 102, 3) := by decide +kernel
theorem dX7_init_255 : decode cX7_init 255 = .ok (.return_, 1) := by decide +kernel
theorem dX7_bad_0 : decode cX7_bad 0 = .ok (.aload_n 0, 1) := by decide +kernel
theorem dX7_bad_1 : decode cX7_bad 1 = .ok (.getfield 7, 3) := by decide +kernel
theorem dX7_bad_4 : decode cX7_bad 4 = .ok (.iconst 0, 1) := by decide +kernel
theorem dX7_bad_5 : decode cX7_bad 5 = .ok (.dup2, 1) := by decide +kernel
theorem dX7_bad_6 : decode cX7_bad 6 = .ok (.iaload, 1) := by decide +kernel
theorem dX7_bad_7 : decode cX7_bad 7 = .ok (.iconst 1, 1) := by decide +kernel
theorem dX7_bad_8 : decode cX7_bad 8 = .ok (.iadd, 1) := by decide +kernel
theorem dX7_bad_9 : decode cX7_bad 9 = .ok (.iastore, 1) := by decide +kernel
theorem dX7_bad_10 : decode cX7_bad 10 = .ok (.bipush (-2), 2) := by decide +kernel
theorem dX7_bad_12 : decode cX7_bad 12 = .ok (.ireturn, 1) := by decide +kernel
theorem dX7_no_0 : decode cX7_no 0 = .ok (.aload_n 0, 1) := by decide +kernel
theorem dX7_no_1 : decode cX7_no 1 = .ok (.getfield 7, 3) := by decide +kernel
theorem dX7_no_4 : decode cX7_no 4 = .ok (.iconst 1, 1) := by decide +kernel
theorem dX7_no_5 : decode cX7_no 5 = .ok (.dup2, 1) := by decide +kernel
theorem dX7_no_6 : decode cX7_no 6 = .ok (.iaload, 1) := by decide +kernel
theorem dX7_no_7 : decode cX7_no 7 = .ok (.iconst 1, 1) := by decide +kernel
theorem dX7_no_8 : decode cX7_no 8 = .ok (.iadd, 1) := by decide +kernel
theorem dX7_no_9 : decode cX7_no 9 = .ok (.iastore, 1) := by decide +kernel
theorem dX7_no_10 : decode cX7_no 10 = .ok (.bipush (-3), 2) := by decide +kernel
theorem dX7_no_12 : decode cX7_no 12 = .ok (.ireturn, 1) := by decide +kernel
theorem dX7_in_0 : decode cX7_in 0 = .ok (.iload_n 0, 1) := by decide +kernel
theorem dX7_in_1 : decode cX7_in 1 = .ok (.iload_n 1, 1) := by decide +kernel
theorem dX7_in_2 : decode cX7_in 2 = .ok (.if_icmp .lt 12, 3) := by decide +kernel
theorem dX7_in_5 : decode cX7_in 5 = .ok (.iload_n 0, 1) := by decide +kernel
theorem dX7_in_6 : decode cX7_in 6 = .ok (.iload_n 2, 1) := by decide +kernel
theorem dX7_in_7 : decode cX7_in 7 = .ok (.if_icmp .gt 7, 3) := by decide +kernel
theorem dX7_in_10 : decode cX7_in 10 = .ok (.iconst 1, 1) := by decide +kernel
theorem dX7_in_11 : decode cX7_in 11 = .ok (.goto 4, 3) := by decide +kernel
theorem dX7_in_14 : decode cX7_in 14 = .ok (.iconst 0, 1) := by decide +kernel
theorem dX7_in_15 : decode cX7_in 15 = .ok (.ireturn, 1) := by decide +kernel
theorem dX7_isStopThere_0 : decode cX7_isStopThere 0 = .ok (.iconst 0, 1) := by decide +kernel
theorem dX7_isStopThere_1 : decode cX7_isStopThere 1 = .ok (.istore_n 3, 1) := by decide +kernel
theorem dX7_isStopThere_2 : decode cX7_isStopThere 2 = .ok (.iconst 0, 1) := by decide +kernel
theorem dX7_isStopThere_3 : decode cX7_isStopThere 3 = .ok (.istore 4, 2) := by decide +kernel
theorem dX7_isStopThere_5 : decode cX7_isStopThere 5 = .ok (.iload 4, 2) := by decide +kernel
theorem dX7_isStopThere_7 : decode cX7_isStopThere 7 = .ok (.aload_n 0, 1) := by decide +kernel
theorem dX7_isStopThere_8 : decode cX7_isStopThere 8 = .ok (.getfield 19, 3) := by decide +kernel
theorem dX7_isStopThere_11 : decode cX7_isStopThere 11 = .ok (.iload_n 1, 1) := by decide +kernel
theorem dX7_isStopThere_12 : decode cX7_isStopThere 12 = .ok (.iaload, 1) := by decide +kernel
theorem dX7_isStopThere_13 : decode cX7_isStopThere 13 = .ok (.if_icmp .ge 50, 3) := by decide +kernel
theorem dX7_isStopThere_16 : decode cX7_isStopThere 16 = .ok (.iload_n 3, 1) := by decide +kernel
theorem dX7_isStopThere_17 : decode cX7_isStopThere 17 = .ok (.ifCond .ne 34, 3) := by decide +kernel
theorem dX7_isStopThere_20 : decode cX7_isStopThere 20 = .ok (.aload_n 0, 1) := by decide +kernel
theorem dX7_isStopThere_21 : decode cX7_isStopThere 21 = .ok (.iload_n 1, 1) := by decide +kernel
theorem dX7_isStopThere_22 : decode cX7_isStopThere 22 = .ok (.iload 4, 2) := by decide +kernel
theorem dX7_isStopThere_24 : decode cX7_isStopThere 24 = .ok (.invokevirtual 113, 3) := by decide +kernel
theorem dX7_isStopThere_27 : decode cX7_isStopThere 27 = .ok (.ifCond .eq 28, 3) := by decide +kernel
theorem dX7_isStopThere_30 : decode cX7_isStopThere 30 = .ok (.aload_n 0, 1) := by decide +kernel
theorem dX7_isStopThere_31 : decode cX7_isStopThere 31 = .ok (.iload_n 1, 1) := by decide +kernel
theorem dX7_isStopThere_32 : decode cX7_isStopThere 32 = .ok (.iload 4, 2) := by decide +kernel
theorem dX7_isStopThere_34 : decode cX7_isStopThere 34 = .ok (.invokevirtual 117, 3) := by decide +kernel
theorem dX7_isStopThere_37 : decode cX7_isStopThere 37 = .ok (.iload_n 2, 1) := by decide +kernel
theorem dX7_isStopThere_38 : decode cX7_isStopThere 38 = .ok (.if_icmp .ne 17, 3) := by decide +kernel
theorem dX7_isStopThere_41 : decode cX7_isStopThere 41 = .ok (.aload_n 0, 1) := by decide +kernel
theorem dX7_isStopThere_42 : decode cX7_isStopThere 42 = .ok (.iload_n 1, 1) := by decide +kernel
theorem dX7_isStopThere_43 : decode cX7_isStopThere 43 = .ok (.iload 4, 2) := by decide +kernel
theorem dX7_isStopThere_45 : decode cX7_isStopThere 45 = .ok (.invokevirtual 120, 3) := by decide +kernel
theorem dX7_isStopThere_48 : decode cX7_isStopThere 48 = .ok (.ifCond .eq 7, 3) := by decide +kernel
theorem dX7_isStopThere_51 : decode cX7_isStopThere 51 = .ok (.iconst 1, 1) := by decide +kernel
theorem dX7_isStopThere_52 : decode cX7_isStopThere 52 = .ok (.goto 4, 3) := by decide +kernel
theorem dX7_isStopThere_55 : decode cX7_isStopThere 55 = .ok (.iconst 0, 1) := by decide +kernel
theorem dX7_isStopThere_56 : decode cX7_isStopThere 56 = .ok (.istore_n 3, 1) := by decide +kernel
theorem dX7_isStopThere_57 : decode cX7_isStopThere 57 = .ok (.iinc 4 1, 3) := by decide +kernel
theorem dX7_isStopThere_60 : decode cX7_isStopThere 60 = .ok (.goto (-55), 3) := by decide +kernel
theorem dX7_isStopThere_63 : decode cX7_isStopThere 63 = .ok (.iload_n 3, 1) := by decide +kernel
theorem dX7_isStopThere_64 : decode cX7_isStopThere 64 = .ok (.ireturn, 1) := by decide +kernel
theorem dX7_reads_0 : decode cX7_reads 0 = .ok (.aload_n 0, 1) := by decide +kernel
theorem dX7_reads_1 : decode cX7_reads 1 = .ok (.iconst 0, 1) := by decide +kernel
theorem dX7_reads_2 : decode cX7_reads 2 = .ok (.putfield 123, 3) := by decide +kernel
theorem dX7_reads_5 : decode cX7_reads 5 = .ok (.aload_n 0, 1) := by decide +kernel
theorem dX7_reads_6 : decode cX7_reads 6 = .ok (.iconst 0, 1) := by decide +kernel
theorem dX7_reads_7 : decode cX7_reads 7 = .ok (.putfield 134, 3) := by decide +kernel
theorem dX7_reads_10 : decode cX7_reads 10 = .ok (.aload_n 0, 1) := by decide +kernel
theorem dX7_reads_11 : decode cX7_reads 11 = .ok (.iconst 0, 1) := by decide +kernel
theorem dX7_reads_12 : decode cX7_reads 12 = .ok (.putfield 176, 3) := by decide +kernel
theorem dX7_reads_15 : decode cX7_reads 15 = .ok (.aload_n 0, 1) := by decide +kernel
theorem dX7_reads_16 : decode cX7_reads 16 = .ok (.iconst 0, 1) := by decide +kernel
theorem dX7_reads_17 : decode cX7_reads 17 = .ok (.putfield 167, 3) := by decide +kernel
theorem dX7_reads_20 : decode cX7_reads 20 = .ok (.aload_n 0, 1) := by decide +kernel
theorem dX7_reads_21 : decode cX7_reads 21 = .ok (.getfield 19, 3) := by decide +kernel
theorem dX7_reads_24 : decode cX7_reads 24 = .ok (.iload_n 1, 1) := by decide +kernel
theorem dX7_reads_25 : decode cX7_reads 25 = .ok (.iconst 0, 1) := by decide +kernel
theorem dX7_reads_26 : decode cX7_reads 26 = .ok (.iastore, 1) := by decide +kernel
theorem dX7_reads_27 : decode cX7_reads 27 = .ok (.aload_n 0, 1) := by decide +kernel
theorem dX7_reads_28 : decode cX7_reads 28 = .ok (.getfield 53, 3) := by decide +kernel
theorem dX7_reads_31 : decode cX7_reads 31 = .ok (.iload_n 1, 1) := by decide +kernel
theorem dX7_reads_32 : decode cX7_reads 32 = .ok (.iconst 0, 1) := by decide +kernel
theorem dX7_reads_33 : decode cX7_reads 33 = .ok (.iastore, 1) := by decide +kernel
theorem dX7_reads_34 : decode cX7_reads 34 = .ok (.aload_n 0, 1) := by decide +kernel
theorem dX7_reads_35 : decode cX7_reads 35 = .ok (.getfield 134, 3) := by decide +kernel
theorem dX7_reads_38 : decode cX7_reads 38 = .ok (.ifCond .ne 124, 3) := by decide +kernel
theorem dX7_reads_41 : decode cX7_reads 41 = .ok (.aload_n 0, 1) := by decide +kernel
theorem dX7_reads_42 : decode cX7_reads 42 = .ok (.getfield 123, 3) := by decide +kernel
theorem dX7_reads_45 : decode cX7_reads 45 = .ok (.aload_n 0, 1) := by decide +kernel
theorem dX7_reads_46 : decode cX7_reads 46 = .ok (.getfield 127, 3) := by decide +kernel
theorem dX7_reads_49 : decode cX7_reads 49 = .ok (.if_icmp .lt 10, 3) := by decide +kernel
theorem dX7_reads_52 : decode cX7_reads 52 = .ok (.aload_n 0, 1) := by decide +kernel
theorem dX7_reads_53 : decode cX7_reads 53 = .ok (.getfield 167, 3) := by decide +kernel
theorem dX7_reads_56 : decode cX7_reads 56 = .ok (.ifCond .le 106, 3) := by decide +kernel
theorem dX7_reads_59 : decode cX7_reads 59 = .ok (.aload_n 0, 1) := by decide +kernel
theorem dX7_reads_60 : decode cX7_reads 60 = .ok (.invokevirtual 130, 3) := by decide +kernel
theorem dX7_reads_63 : decode cX7_reads 63 = .ok (.istore_n 2, 1) := by decide +kernel
theorem dX7_reads_64 : decode cX7_reads 64 = .ok (.iload_n 2, 1) := by decide +kernel
theorem dX7_reads_65 : decode cX7_reads 65 = .ok (.bipush 36, 2) := by decide +kernel
theorem dX7_reads_67 : decode cX7_reads 67 = .ok (.if_icmp .ne 11, 3) := by decide +kernel
theorem dX7_reads_70 : decode cX7_reads 70 = .ok (.aload_n 0, 1) := by decide +kernel
theorem dX7_reads_71 : decode cX7_reads 71 = .ok (.iload_n 1, 1) := by decide +kernel
theorem dX7_reads_72 : decode cX7_reads 72 = .ok (.invokevirtual 182, 3) := by decide +kernel
theorem dX7_reads_75 : decode cX7_reads 75 = .ok (.goto 84, 3) := by decide +kernel
theorem dX7_reads_78 : decode cX7_reads 78 = .ok (.iload_n 2, 1) := by decide +kernel
theorem dX7_reads_79 : decode cX7_reads 79 = .ok (.bipush 125, 2) := by decide +kernel
theorem dX7_reads_81 : decode cX7_reads 81 = .ok (.if_icmp .ne 58, 3) := by decide +kernel
theorem dX7_reads_84 : decode cX7_reads 84 = .ok (.aload_n 0, 1) := by decide +kernel
theorem dX7_reads_85 : decode cX7_reads 85 = .ok (.getfield 167, 3) := by decide +kernel
theorem dX7_reads_88 : decode cX7_reads 88 = .ok (.ifCond .le 51, 3) := by decide +kernel
theorem dX7_reads_91 : decode cX7_reads 91 = .ok (.aload_n 0, 1) := by decide +kernel
theorem dX7_reads_92 : decode cX7_reads 92 = .ok (.dup, 1) := by decide +kernel
theorem dX7_reads_93 : decode cX7_reads 93 = .ok (.getfield 123, 3) := by decide +kernel
theorem dX7_reads_96 : decode cX7_reads 96 = .ok (.iconst 1, 1) := by decide +kernel
theorem dX7_reads_97 : decode cX7_reads 97 = .ok (.iadd, 1) := by decide +kernel
theorem dX7_reads_98 : decode cX7_reads 98 = .ok (.putfield 123, 3) := by decide +kernel
theorem dX7_reads_101 : decode cX7_reads 101 = .ok (.aload_n 0, 1) := by decide +kernel
theorem dX7_reads_102 : decode cX7_reads 102 = .ok (.dup, 1) := by decide +kernel
theorem dX7_reads_103 : decode cX7_reads 103 = .ok (.getfield 167, 3) := by decide +kernel
theorem dX7_reads_106 : decode cX7_reads 106 = .ok (.iconst 1, 1) := by decide +kernel
theorem dX7_reads_107 : decode cX7_reads 107 = .ok (.isub, 1) := by decide +kernel
theorem dX7_reads_108 : decode cX7_reads 108 = .ok (.putfield 167, 3) := by decide +kernel
theorem dX7_reads_111 : decode cX7_reads 111 = .ok (.aload_n 0, 1) := by decide +kernel
theorem dX7_reads_112 : decode cX7_reads 112 = .ok (.getfield 22, 3) := by decide +kernel
theorem dX7_reads_115 : decode cX7_reads 115 = .ok (.iload_n 1, 1) := by decide +kernel
theorem dX7_reads_116 : decode cX7_reads 116 = .ok (.aload_n 0, 1) := by decide +kernel
theorem dX7_reads_117 : decode cX7_reads 117 = .ok (.getfield 68, 3) := by decide +kernel
theorem dX7_reads_120 : decode cX7_reads 120 = .ok (.aload_n 0, 1) := by decide +kernel
theorem dX7_reads_121 : decode cX7_reads 121 = .ok (.getfield 167, 3) := by decide +kernel
theorem dX7_reads_124 : decode cX7_reads 124 = .ok (.iaload, 1) := by decide +kernel
theorem dX7_reads_125 : decode cX7_reads 125 = .ok (.iconst 2, 1) := by decide +kernel
theorem dX7_reads_126 : decode cX7_reads 126 = .ok (.invokestatic 105, 3) := by decide +kernel
theorem dX7_reads_129 : decode cX7_reads 129 = .ok (.aload_n 0, 1) := by decide +kernel
theorem dX7_reads_130 : decode cX7_reads 130 = .ok (.getfield 19, 3) := by decide +kernel
theorem dX7_reads_133 : decode cX7_reads 133 = .ok (.iload_n 1, 1) := by decide +kernel
theorem dX7_reads_134 : decode cX7_reads 134 = .ok (.iaload, 1) := by decide +kernel
theorem dX7_reads_135 : decode cX7_reads 135 = .ok (.iastore, 1) := by decide +kernel
theorem dX7_reads_136 : decode cX7_reads 136 = .ok (.goto 23, 3) := by decide +kernel
theorem dX7_reads_139 : decode cX7_reads 139 = .ok (.aload_n 0, 1) := by decide +kernel
theorem dX7_reads_140 : decode cX7_reads 140 = .ok (.invokevirtual 157, 3) := by decide +kernel
theorem dX7_reads_143 : decode cX7_reads 143 = .ok (.istore_n 3, 1) := by decide +kernel
theorem dX7_reads_144 : decode cX7_reads 144 = .ok (.aload_n 0, 1) := by decide +kernel
theorem dX7_reads_145 : decode cX7_reads 145 = .ok (.getfield 134, 3) := by decide +kernel
theorem dX7_reads_148 : decode cX7_reads 148 = .ok (.ifCond .ne 11, 3) := by decide +kernel
theorem dX7_reads_151 : decode cX7_reads 151 = .ok (.aload_n 0, 1) := by decide +kernel
theorem dX7_reads_152 : decode cX7_reads 152 = .ok (.iload_n 1, 1) := by decide +kernel
theorem dX7_reads_153 : decode cX7_reads 153 = .ok (.iconst 0, 1) := by decide +kernel
theorem dX7_reads_154 : decode cX7_reads 154 = .ok (.iload_n 3, 1) := by decide +kernel
theorem dX7_reads_155 : decode cX7_reads 155 = .ok (.invokevirtual 164, 3) := by decide +kernel
theorem dX7_reads_158 : decode cX7_reads 158 = .ok (.pop, 1) := by decide +kernel
theorem dX7_reads_159 : decode cX7_reads 159 = .ok (.goto (-125), 3) := by decide +kernel
theorem dX7_reads_162 : decode cX7_reads 162 = .ok (.aload_n 0, 1) := by decide +kernel
theorem dX7_reads_163 : decode cX7_reads 163 = .ok (.getfield 134, 3) := by decide +kernel
theorem dX7_reads_166 : decode cX7_reads 166 = .ok (.ifCond .ne 7, 3) := by decide +kernel
theorem dX7_reads_169 : decode cX7_reads 169 = .ok (.iconst 1, 1) := by decide +kernel
theorem dX7_reads_170 : decode cX7_reads 170 = .ok (.goto 4, 3) := by decide +kernel
theorem dX7_reads_173 : decode cX7_reads 173 = .ok (.iconst 0, 1) := by decide +kernel
theorem dX7_reads_174 : decode cX7_reads 174 = .ok (.ireturn, 1) := by decide +kernel
theorem dX7_settles_0 : decode cX7_settles 0 = .ok (.iconst 0, 1) := by decide +kernel
theorem dX7_settles_1 : decode cX7_settles 1 = .ok (.istore_n 2, 1) := by decide +kernel
theorem dX7_settles_2 : decode cX7_settles 2 = .ok (.iload_n 2, 1) := by decide +kernel
theorem dX7_settles_3 : decode cX7_settles 3 = .ok (.bipush 10, 2) := by decide +kernel
theorem dX7_settles_5 : decode cX7_settles 5 = .ok (.if_icmp .ge 21, 3) := by decide +kernel
theorem dX7_settles_8 : decode cX7_settles 8 = .ok (.aload_n 0, 1) := by decide +kernel
theorem dX7_settles_9 : decode cX7_settles 9 = .ok (.getfield 25, 3) := by decide +kernel
theorem dX7_settles_12 : decode cX7_settles 12 = .ok (.bipush 10, 2) := by decide +kernel
theorem dX7_settles_14 : decode cX7_settles 14 = .ok (.iload_n 1, 1) := by decide +kernel
theorem dX7_settles_15 : decode cX7_settles 15 = .ok (.imul, 1) := by decide +kernel
theorem dX7_settles_16 : decode cX7_settles 16 = .ok (.iload_n 2, 1) := by decide +kernel
theorem dX7_settles_17 : decode cX7_settles 17 = .ok (.iadd, 1) := by decide +kernel
theorem dX7_settles_18 : decode cX7_settles 18 = .ok (.iconst (-1), 1) := by decide +kernel
theorem dX7_settles_19 : decode cX7_settles 19 = .ok (.iastore, 1) := by decide +kernel
theorem dX7_settles_20 : decode cX7_settles 20 = .ok (.iinc 2 1, 3) := by decide +kernel
theorem dX7_settles_23 : decode cX7_settles 23 = .ok (.goto (-21), 3) := by decide +kernel
theorem dX7_settles_26 : decode cX7_settles 26 = .ok (.iconst 0, 1) := by decide +kernel
theorem dX7_settles_27 : decode cX7_settles 27 = .ok (.istore_n 2, 1) := by decide +kernel
theorem dX7_settles_28 : decode cX7_settles 28 = .ok (.iload_n 2, 1) := by decide +kernel
theorem dX7_settles_29 : decode cX7_settles 29 = .ok (.aload_n 0, 1) := by decide +kernel
theorem dX7_settles_30 : decode cX7_settles 30 = .ok (.getfield 19, 3) := by decide +kernel
theorem dX7_settles_33 : decode cX7_settles 33 = .ok (.iload_n 1, 1) := by decide +kernel
theorem dX7_settles_34 : decode cX7_settles 34 = .ok (.iaload, 1) := by decide +kernel
theorem dX7_settles_35 : decode cX7_settles 35 = .ok (.if_icmp .ge 112, 3) := by decide +kernel
theorem dX7_settles_38 : decode cX7_settles 38 = .ok (.iload_n 2, 1) := by decide +kernel
theorem dX7_settles_39 : decode cX7_settles 39 = .ok (.iconst 1, 1) := by decide +kernel
theorem dX7_settles_40 : decode cX7_settles 40 = .ok (.iadd, 1) := by decide +kernel
theorem dX7_settles_41 : decode cX7_settles 41 = .ok (.istore_n 3, 1) := by decide +kernel
theorem dX7_settles_42 : decode cX7_settles 42 = .ok (.aload_n 0, 1) := by decide +kernel
theorem dX7_settles_43 : decode cX7_settles 43 = .ok (.iload_n 1, 1) := by decide +kernel
theorem dX7_settles_44 : decode cX7_settles 44 = .ok (.iload_n 2, 1) := by decide +kernel
theorem dX7_settles_45 : decode cX7_settles 45 = .ok (.invokevirtual 113, 3) := by decide +kernel
theorem dX7_settles_48 : decode cX7_settles 48 = .ok (.ifCond .eq 94, 3) := by decide +kernel
theorem dX7_settles_51 : decode cX7_settles 51 = .ok (.aload_n 0, 1) := by decide +kernel
theorem dX7_settles_52 : decode cX7_settles 52 = .ok (.getfield 22, 3) := by decide +kernel
theorem dX7_settles_55 : decode cX7_settles 55 = .ok (.iload_n 1, 1) := by decide +kernel
theorem dX7_settles_56 : decode cX7_settles 56 = .ok (.iload_n 2, 1) := by decide +kernel
theorem dX7_settles_57 : decode cX7_settles 57 = .ok (.iconst 3, 1) := by decide +kernel
theorem dX7_settles_58 : decode cX7_settles 58 = .ok (.invokestatic 105, 3) := by decide +kernel
theorem dX7_settles_61 : decode cX7_settles 61 = .ok (.iconst 1, 1) := by decide +kernel
theorem dX7_settles_62 : decode cX7_settles 62 = .ok (.iastore, 1) := by decide +kernel
theorem dX7_settles_63 : decode cX7_settles 63 = .ok (.aload_n 0, 1) := by decide +kernel
theorem dX7_settles_64 : decode cX7_settles 64 = .ok (.iload_n 1, 1) := by decide +kernel
theorem dX7_settles_65 : decode cX7_settles 65 = .ok (.iload_n 2, 1) := by decide +kernel
theorem dX7_settles_66 : decode cX7_settles 66 = .ok (.invokevirtual 117, 3) := by decide +kernel
theorem dX7_settles_69 : decode cX7_settles 69 = .ok (.istore 4, 2) := by decide +kernel
theorem dX7_settles_71 : decode cX7_settles 71 = .ok (.aload_n 0, 1) := by decide +kernel
theorem dX7_settles_72 : decode cX7_settles 72 = .ok (.iload_n 1, 1) := by decide +kernel
theorem dX7_settles_73 : decode cX7_settles 73 = .ok (.iload_n 2, 1) := by decide +kernel
theorem dX7_settles_74 : decode cX7_settles 74 = .ok (.invokevirtual 185, 3) := by decide +kernel
theorem dX7_settles_77 : decode cX7_settles 77 = .ok (.ifCond .eq 18, 3) := by decide +kernel
theorem dX7_settles_80 : decode cX7_settles 80 = .ok (.aload_n 0, 1) := by decide +kernel
theorem dX7_settles_81 : decode cX7_settles 81 = .ok (.iload_n 1, 1) := by decide +kernel
theorem dX7_settles_82 : decode cX7_settles 82 = .ok (.iload 4, 2) := by decide +kernel
theorem dX7_settles_84 : decode cX7_settles 84 = .ok (.invokevirtual 188, 3) := by decide +kernel
theorem dX7_settles_87 : decode cX7_settles 87 = .ok (.iconst (-1), 1) := by decide +kernel
theorem dX7_settles_88 : decode cX7_settles 88 = .ok (.if_icmp .ne 7, 3) := by decide +kernel
theorem dX7_settles_91 : decode cX7_settles 91 = .ok (.iconst 1, 1) := by decide +kernel
theorem dX7_settles_92 : decode cX7_settles 92 = .ok (.goto 4, 3) := by decide +kernel
theorem dX7_settles_95 : decode cX7_settles 95 = .ok (.iconst 0, 1) := by decide +kernel
theorem dX7_settles_96 : decode cX7_settles 96 = .ok (.istore 5, 2) := by decide +kernel
theorem dX7_settles_98 : decode cX7_settles 98 = .ok (.iload 5, 2) := by decide +kernel
theorem dX7_settles_100 : decode cX7_settles 100 = .ok (.ifCond .eq 16, 3) := by decide +kernel
theorem dX7_settles_103 : decode cX7_settles 103 = .ok (.aload_n 0, 1) := by decide +kernel
theorem dX7_settles_104 : decode cX7_settles 104 = .ok (.getfield 25, 3) := by decide +kernel
theorem dX7_settles_107 : decode cX7_settles 107 = .ok (.bipush 10, 2) := by decide +kernel
theorem dX7_settles_109 : decode cX7_settles 109 = .ok (.iload_n 1, 1) := by decide +kernel
theorem dX7_settles_110 : decode cX7_settles 110 = .ok (.imul, 1) := by decide +kernel
theorem dX7_settles_111 : decode cX7_settles 111 = .ok (.iload 4, 2) := by decide +kernel
theorem dX7_settles_113 : decode cX7_settles 113 = .ok (.iadd, 1) := by decide +kernel
theorem dX7_settles_114 : decode cX7_settles 114 = .ok (.iload_n 2, 1) := by decide +kernel
theorem dX7_settles_115 : decode cX7_settles 115 = .ok (.iastore, 1) := by decide +kernel
theorem dX7_settles_116 : decode cX7_settles 116 = .ok (.aload_n 0, 1) := by decide +kernel
theorem dX7_settles_117 : decode cX7_settles 117 = .ok (.iload_n 1, 1) := by decide +kernel
theorem dX7_settles_118 : decode cX7_settles 118 = .ok (.iload_n 2, 1) := by decide +kernel
theorem dX7_settles_119 : decode cX7_settles 119 = .ok (.invokevirtual 109, 3) := by decide +kernel
theorem dX7_settles_122 : decode cX7_settles 122 = .ok (.iconst 3, 1) := by decide +kernel
theorem dX7_settles_123 : decode cX7_settles 123 = .ok (.if_icmp .ne 17, 3) := by decide +kernel
theorem dX7_settles_126 : decode cX7_settles 126 = .ok (.iload 5, 2) := by decide +kernel
theorem dX7_settles_128 : decode cX7_settles 128 = .ok (.ifCond .ne 12, 3) := by decide +kernel
theorem dX7_settles_131 : decode cX7_settles 131 = .ok (.aload_n 0, 1) := by decide +kernel
theorem dX7_settles_132 : decode cX7_settles 132 = .ok (.iload_n 1, 1) := by decide +kernel
theorem dX7_settles_133 : decode cX7_settles 133 = .ok (.iload_n 2, 1) := by decide +kernel
theorem dX7_settles_134 : decode cX7_settles 134 = .ok (.invokevirtual 191, 3) := by decide +kernel
theorem dX7_settles_137 : decode cX7_settles 137 = .ok (.goto 4, 3) := by decide +kernel
theorem dX7_settles_140 : decode cX7_settles 140 = .ok (.iload_n 3, 1) := by decide +kernel
theorem dX7_settles_141 : decode cX7_settles 141 = .ok (.istore_n 3, 1) := by decide +kernel
theorem dX7_settles_142 : decode cX7_settles 142 = .ok (.iload_n 3, 1) := by decide +kernel
theorem dX7_settles_143 : decode cX7_settles 143 = .ok (.istore_n 2, 1) := by decide +kernel
theorem dX7_settles_144 : decode cX7_settles 144 = .ok (.goto (-116), 3) := by decide +kernel
theorem dX7_settles_147 : decode cX7_settles 147 = .ok (.iconst 0, 1) := by decide +kernel
theorem dX7_settles_148 : decode cX7_settles 148 = .ok (.istore_n 3, 1) := by decide +kernel
theorem dX7_settles_149 : decode cX7_settles 149 = .ok (.iload_n 3, 1) := by decide +kernel
theorem dX7_settles_150 : decode cX7_settles 150 = .ok (.aload_n 0, 1) := by decide +kernel
theorem dX7_settles_151 : decode cX7_settles 151 = .ok (.getfield 19, 3) := by decide +kernel
theorem dX7_settles_154 : decode cX7_settles 154 = .ok (.iload_n 1, 1) := by decide +kernel
theorem dX7_settles_155 : decode cX7_settles 155 = .ok (.iaload, 1) := by decide +kernel
theorem dX7_settles_156 : decode cX7_settles 156 = .ok (.if_icmp .ge 69, 3) := by decide +kernel
theorem dX7_settles_159 : decode cX7_settles 159 = .ok (.aload_n 0, 1) := by decide +kernel
theorem dX7_settles_160 : decode cX7_settles 160 = .ok (.iload_n 1, 1) := by decide +kernel
theorem dX7_settles_161 : decode cX7_settles 161 = .ok (.iload_n 3, 1) := by decide +kernel
theorem dX7_settles_162 : decode cX7_settles 162 = .ok (.invokevirtual 113, 3) := by decide +kernel
theorem dX7_settles_165 : decode cX7_settles 165 = .ok (.ifCond .eq 54, 3) := by decide +kernel
theorem dX7_settles_168 : decode cX7_settles 168 = .ok (.aload_n 0, 1) := by decide +kernel
theorem dX7_settles_169 : decode cX7_settles 169 = .ok (.iload_n 1, 1) := by decide +kernel
theorem dX7_settles_170 : decode cX7_settles 170 = .ok (.iload_n 3, 1) := by decide +kernel
theorem dX7_settles_171 : decode cX7_settles 171 = .ok (.invokevirtual 120, 3) := by decide +kernel
theorem dX7_settles_174 : decode cX7_settles 174 = .ok (.ifCond .eq 45, 3) := by decide +kernel
theorem dX7_settles_177 : decode cX7_settles 177 = .ok (.aload_n 0, 1) := by decide +kernel
theorem dX7_settles_178 : decode cX7_settles 178 = .ok (.iload_n 1, 1) := by decide +kernel
theorem dX7_settles_179 : decode cX7_settles 179 = .ok (.iload_n 3, 1) := by decide +kernel
theorem dX7_settles_180 : decode cX7_settles 180 = .ok (.invokevirtual 109, 3) := by decide +kernel
theorem dX7_settles_183 : decode cX7_settles 183 = .ok (.iconst 2, 1) := by decide +kernel
theorem dX7_settles_184 : decode cX7_settles 184 = .ok (.if_icmp .ne 35, 3) := by decide +kernel
theorem dX7_settles_187 : decode cX7_settles 187 = .ok (.aload_n 0, 1) := by decide +kernel
theorem dX7_settles_188 : decode cX7_settles 188 = .ok (.iload_n 1, 1) := by decide +kernel
theorem dX7_settles_189 : decode cX7_settles 189 = .ok (.aload_n 0, 1) := by decide +kernel
theorem dX7_settles_190 : decode cX7_settles 190 = .ok (.iload_n 1, 1) := by decide +kernel
theorem dX7_settles_191 : decode cX7_settles 191 = .ok (.iload_n 3, 1) := by decide +kernel
theorem dX7_settles_192 : decode cX7_settles 192 = .ok (.invokevirtual 117, 3) := by decide +kernel
theorem dX7_settles_195 : decode cX7_settles 195 = .ok (.invokevirtual 188, 3) := by decide +kernel
theorem dX7_settles_198 : decode cX7_settles 198 = .ok (.iconst (-1), 1) := by decide +kernel
theorem dX7_settles_199 : decode cX7_settles 199 = .ok (.if_icmp .ne 20, 3) := by decide +kernel
theorem dX7_settles_202 : decode cX7_settles 202 = .ok (.aload_n 0, 1) := by decide +kernel
theorem dX7_settles_203 : decode cX7_settles 203 = .ok (.getfield 25, 3) := by decide +kernel
theorem dX7_settles_206 : decode cX7_settles 206 = .ok (.bipush 10, 2) := by decide +kernel
theorem dX7_settles_208 : decode cX7_settles 208 = .ok (.iload_n 1, 1) := by decide +kernel
theorem dX7_settles_209 : decode cX7_settles 209 = .ok (.imul, 1) := by decide +kernel
theorem dX7_settles_210 : decode cX7_settles 210 = .ok (.aload_n 0, 1) := by decide +kernel
theorem dX7_settles_211 : decode cX7_settles 211 = .ok (.iload_n 1, 1) := by decide +kernel
theorem dX7_settles_212 : decode cX7_settles 212 = .ok (.iload_n 3, 1) := by decide +kernel
theorem dX7_settles_213 : decode cX7_settles 213 = .ok (.invokevirtual 117, 3) := by decide +kernel
theorem dX7_settles_216 : decode cX7_settles 216 = .ok (.iadd, 1) := by decide +kernel
theorem dX7_settles_217 : decode cX7_settles 217 = .ok (.iload_n 3, 1) := by decide +kernel
theorem dX7_settles_218 : decode cX7_settles 218 = .ok (.iastore, 1) := by decide +kernel
theorem dX7_settles_219 : decode cX7_settles 219 = .ok (.iinc 3 1, 3) := by decide +kernel
theorem dX7_settles_222 : decode cX7_settles 222 = .ok (.goto (-73), 3) := by decide +kernel
theorem dX7_settles_225 : decode cX7_settles 225 = .ok (.return_, 1) := by decide +kernel
theorem dX7_opens_0 : decode cX7_opens 0 = .ok (.aload_n 0, 1) := by decide +kernel
theorem dX7_opens_1 : decode cX7_opens 1 = .ok (.getfield 74, 3) := by decide +kernel
theorem dX7_opens_4 : decode cX7_opens 4 = .ok (.aload_n 0, 1) := by decide +kernel
theorem dX7_opens_5 : decode cX7_opens 5 = .ok (.getfield 210, 3) := by decide +kernel
theorem dX7_opens_8 : decode cX7_opens 8 = .ok (.iload_n 1, 1) := by decide +kernel
theorem dX7_opens_9 : decode cX7_opens 9 = .ok (.iastore, 1) := by decide +kernel
theorem dX7_opens_10 : decode cX7_opens 10 = .ok (.aload_n 0, 1) := by decide +kernel
theorem dX7_opens_11 : decode cX7_opens 11 = .ok (.getfield 77, 3) := by decide +kernel
theorem dX7_opens_14 : decode cX7_opens 14 = .ok (.aload_n 0, 1) := by decide +kernel
theorem dX7_opens_15 : decode cX7_opens 15 = .ok (.getfield 210, 3) := by decide +kernel
theorem dX7_opens_18 : decode cX7_opens 18 = .ok (.iload_n 2, 1) := by decide +kernel
theorem dX7_opens_19 : decode cX7_opens 19 = .ok (.iastore, 1) := by decide +kernel
theorem dX7_opens_20 : decode cX7_opens 20 = .ok (.aload_n 0, 1) := by decide +kernel
theorem dX7_opens_21 : decode cX7_opens 21 = .ok (.getfield 80, 3) := by decide +kernel
theorem dX7_opens_24 : decode cX7_opens 24 = .ok (.aload_n 0, 1) := by decide +kernel
theorem dX7_opens_25 : decode cX7_opens 25 = .ok (.getfield 210, 3) := by decide +kernel
theorem dX7_opens_28 : decode cX7_opens 28 = .ok (.iload_n 3, 1) := by decide +kernel
theorem dX7_opens_29 : decode cX7_opens 29 = .ok (.iastore, 1) := by decide +kernel
theorem dX7_opens_30 : decode cX7_opens 30 = .ok (.aload_n 0, 1) := by decide +kernel
theorem dX7_opens_31 : decode cX7_opens 31 = .ok (.getfield 83, 3) := by decide +kernel
theorem dX7_opens_34 : decode cX7_opens 34 = .ok (.aload_n 0, 1) := by decide +kernel
theorem dX7_opens_35 : decode cX7_opens 35 = .ok (.getfield 210, 3) := by decide +kernel
theorem dX7_opens_38 : decode cX7_opens 38 = .ok (.aload_n 0, 1) := by decide +kernel
theorem dX7_opens_39 : decode cX7_opens 39 = .ok (.getfield 194, 3) := by decide +kernel
theorem dX7_opens_42 : decode cX7_opens 42 = .ok (.iastore, 1) := by decide +kernel
theorem dX7_opens_43 : decode cX7_opens 43 = .ok (.aload_n 0, 1) := by decide +kernel
theorem dX7_opens_44 : decode cX7_opens 44 = .ok (.getfield 86, 3) := by decide +kernel
theorem dX7_opens_47 : decode cX7_opens 47 = .ok (.aload_n 0, 1) := by decide +kernel
theorem dX7_opens_48 : decode cX7_opens 48 = .ok (.getfield 210, 3) := by decide +kernel
theorem dX7_opens_51 : decode cX7_opens 51 = .ok (.iload 4, 2) := by decide +kernel
theorem dX7_opens_53 : decode cX7_opens 53 = .ok (.iastore, 1) := by decide +kernel
theorem dX7_opens_54 : decode cX7_opens 54 = .ok (.aload_n 0, 1) := by decide +kernel
theorem dX7_opens_55 : decode cX7_opens 55 = .ok (.getfield 89, 3) := by decide +kernel
theorem dX7_opens_58 : decode cX7_opens 58 = .ok (.aload_n 0, 1) := by decide +kernel
theorem dX7_opens_59 : decode cX7_opens 59 = .ok (.getfield 210, 3) := by decide +kernel
theorem dX7_opens_62 : decode cX7_opens 62 = .ok (.iload 5, 2) := by decide +kernel
theorem dX7_opens_64 : decode cX7_opens 64 = .ok (.iastore, 1) := by decide +kernel
theorem dX7_opens_65 : decode cX7_opens 65 = .ok (.aload_n 0, 1) := by decide +kernel
theorem dX7_opens_66 : decode cX7_opens 66 = .ok (.dup, 1) := by decide +kernel
theorem dX7_opens_67 : decode cX7_opens 67 = .ok (.getfield 210, 3) := by decide +kernel
theorem dX7_opens_70 : decode cX7_opens 70 = .ok (.iconst 1, 1) := by decide +kernel
theorem dX7_opens_71 : decode cX7_opens 71 = .ok (.iadd, 1) := by decide +kernel
theorem dX7_opens_72 : decode cX7_opens 72 = .ok (.putfield 210, 3) := by decide +kernel
theorem dX7_opens_75 : decode cX7_opens 75 = .ok (.return_, 1) := by decide +kernel
theorem dX7_closes_0 : decode cX7_closes 0 = .ok (.iload_n 2, 1) := by decide +kernel
theorem dX7_closes_1 : decode cX7_closes 1 = .ok (.iconst (-1), 1) := by decide +kernel
theorem dX7_closes_2 : decode cX7_closes 2 = .ok (.if_icmp .eq 20, 3) := by decide +kernel
theorem dX7_closes_5 : decode cX7_closes 5 = .ok (.aload_n 0, 1) := by decide +kernel
theorem dX7_closes_6 : decode cX7_closes 6 = .ok (.iload_n 1, 1) := by decide +kernel
theorem dX7_closes_7 : decode cX7_closes 7 = .ok (.iload_n 2, 1) := by decide +kernel
theorem dX7_closes_8 : decode cX7_closes 8 = .ok (.invokevirtual 109, 3) := by decide +kernel
theorem dX7_closes_11 : decode cX7_closes 11 = .ok (.iconst 5, 1) := by decide +kernel
theorem dX7_closes_12 : decode cX7_closes 12 = .ok (.if_icmp .ne 10, 3) := by decide +kernel
theorem dX7_closes_15 : decode cX7_closes 15 = .ok (.aload_n 0, 1) := by decide +kernel
theorem dX7_closes_16 : decode cX7_closes 16 = .ok (.iload_n 1, 1) := by decide +kernel
theorem dX7_closes_17 : decode cX7_closes 17 = .ok (.iload_n 2, 1) := by decide +kernel
theorem dX7_closes_18 : decode cX7_closes 18 = .ok (.iload_n 3, 1) := by decide +kernel
theorem dX7_closes_19 : decode cX7_closes 19 = .ok (.invokevirtual 216, 3) := by decide +kernel
theorem dX7_closes_22 : decode cX7_closes 22 = .ok (.iload_n 2, 1) := by decide +kernel
theorem dX7_closes_23 : decode cX7_closes 23 = .ok (.iconst (-1), 1) := by decide +kernel
theorem dX7_closes_24 : decode cX7_closes 24 = .ok (.if_icmp .eq 28, 3) := by decide +kernel
theorem dX7_closes_27 : decode cX7_closes 27 = .ok (.iload 4, 2) := by decide +kernel
theorem dX7_closes_29 : decode cX7_closes 29 = .ok (.iconst 1, 1) := by decide +kernel
theorem dX7_closes_30 : decode cX7_closes 30 = .ok (.if_icmp .ne 22, 3) := by decide +kernel
theorem dX7_closes_33 : decode cX7_closes 33 = .ok (.aload_n 0, 1) := by decide +kernel
theorem dX7_closes_34 : decode cX7_closes 34 = .ok (.getfield 92, 3) := by decide +kernel
theorem dX7_closes_37 : decode cX7_closes 37 = .ok (.iload_n 2, 1) := by decide +kernel
theorem dX7_closes_38 : decode cX7_closes 38 = .ok (.iload_n 3, 1) := by decide +kernel
theorem dX7_closes_39 : decode cX7_closes 39 = .ok (.iastore, 1) := by decide +kernel
theorem dX7_closes_40 : decode cX7_closes 40 = .ok (.aload_n 0, 1) := by decide +kernel
theorem dX7_closes_41 : decode cX7_closes 41 = .ok (.getfield 95, 3) := by decide +kernel
theorem dX7_closes_44 : decode cX7_closes 44 = .ok (.iload_n 2, 1) := by decide +kernel
theorem dX7_closes_45 : decode cX7_closes 45 = .ok (.aload_n 0, 1) := by decide +kernel
theorem dX7_closes_46 : decode cX7_closes 46 = .ok (.getfield 194, 3) := by decide +kernel
theorem dX7_closes_49 : decode cX7_closes 49 = .ok (.iload_n 3, 1) := by decide +kernel
theorem dX7_closes_50 : decode cX7_closes 50 = .ok (.isub, 1) := by decide +kernel
theorem dX7_closes_51 : decode cX7_closes 51 = .ok (.iastore, 1) := by decide +kernel
theorem dX7_closes_52 : decode cX7_closes 52 = .ok (.return_, 1) := by decide +kernel
theorem dX7_step_0 : decode cX7_step 0 = .ok (.aload_n 0, 1) := by decide +kernel
theorem dX7_step_1 : decode cX7_step 1 = .ok (.getfield 210, 3) := by decide +kernel
theorem dX7_step_4 : decode cX7_step 4 = .ok (.iconst 1, 1) := by decide +kernel
theorem dX7_step_5 : decode cX7_step 5 = .ok (.isub, 1) := by decide +kernel
theorem dX7_step_6 : decode cX7_step 6 = .ok (.istore_n 2, 1) := by decide +kernel
theorem dX7_step_7 : decode cX7_step 7 = .ok (.aload_n 0, 1) := by decide +kernel
theorem dX7_step_8 : decode cX7_step 8 = .ok (.getfield 74, 3) := by decide +kernel
theorem dX7_step_11 : decode cX7_step 11 = .ok (.iload_n 2, 1) := by decide +kernel
theorem dX7_step_12 : decode cX7_step 12 = .ok (.iaload, 1) := by decide +kernel
theorem dX7_step_13 : decode cX7_step 13 = .ok (.istore_n 3, 1) := by decide +kernel
theorem dX7_step_14 : decode cX7_step 14 = .ok (.iload_n 3, 1) := by decide +kernel
theorem dX7_step_15 : decode cX7_step 15 = .ok (.aload_n 0, 1) := by decide +kernel
theorem dX7_step_16 : decode cX7_step 16 = .ok (.getfield 77, 3) := by decide +kernel
theorem dX7_step_19 : decode cX7_step 19 = .ok (.iload_n 2, 1) := by decide +kernel
theorem dX7_step_20 : decode cX7_step 20 = .ok (.iaload, 1) := by decide +kernel
theorem dX7_step_21 : decode cX7_step 21 = .ok (.if_icmp .lt 45, 3) := by decide +kernel
theorem dX7_step_24 : decode cX7_step 24 = .ok (.aload_n 0, 1) := by decide +kernel
theorem dX7_step_25 : decode cX7_step 25 = .ok (.dup, 1) := by decide +kernel
theorem dX7_step_26 : decode cX7_step 26 = .ok (.getfield 210, 3) := by decide +kernel
theorem dX7_step_29 : decode cX7_step 29 = .ok (.iconst 1, 1) := by decide +kernel
theorem dX7_step_30 : decode cX7_step 30 = .ok (.isub, 1) := by decide +kernel
theorem dX7_step_31 : decode cX7_step 31 = .ok (.putfield 210, 3) := by decide +kernel
theorem dX7_step_34 : decode cX7_step 34 = .ok (.aload_n 0, 1) := by decide +kernel
theorem dX7_step_35 : decode cX7_step 35 = .ok (.iload_n 1, 1) := by decide +kernel
theorem dX7_step_36 : decode cX7_step 36 = .ok (.aload_n 0, 1) := by decide +kernel
theorem dX7_step_37 : decode cX7_step 37 = .ok (.getfield 86, 3) := by decide +kernel
theorem dX7_step_40 : decode cX7_step 40 = .ok (.iload_n 2, 1) := by decide +kernel
theorem dX7_step_41 : decode cX7_step 41 = .ok (.iaload, 1) := by decide +kernel
theorem dX7_step_42 : decode cX7_step 42 = .ok (.aload_n 0, 1) := by decide +kernel
theorem dX7_step_43 : decode cX7_step 43 = .ok (.getfield 83, 3) := by decide +kernel
theorem dX7_step_46 : decode cX7_step 46 = .ok (.iload_n 2, 1) := by decide +kernel
theorem dX7_step_47 : decode cX7_step 47 = .ok (.iaload, 1) := by decide +kernel
theorem dX7_step_48 : decode cX7_step 48 = .ok (.aload_n 0, 1) := by decide +kernel
theorem dX7_step_49 : decode cX7_step 49 = .ok (.getfield 89, 3) := by decide +kernel
theorem dX7_step_52 : decode cX7_step 52 = .ok (.iload_n 2, 1) := by decide +kernel
theorem dX7_step_53 : decode cX7_step 53 = .ok (.iaload, 1) := by decide +kernel
theorem dX7_step_54 : decode cX7_step 54 = .ok (.ifCond .le 7, 3) := by decide +kernel
theorem dX7_step_57 : decode cX7_step 57 = .ok (.iconst 1, 1) := by decide +kernel
theorem dX7_step_58 : decode cX7_step 58 = .ok (.goto 4, 3) := by decide +kernel
theorem dX7_step_61 : decode cX7_step 61 = .ok (.iconst 0, 1) := by decide +kernel
theorem dX7_step_62 : decode cX7_step 62 = .ok (.invokevirtual 232, 3) := by decide +kernel
theorem dX7_step_65 : decode cX7_step 65 = .ok (.return_, 1) := by decide +kernel
theorem dX7_step_66 : decode cX7_step 66 = .ok (.aload_n 0, 1) := by decide +kernel
theorem dX7_step_67 : decode cX7_step 67 = .ok (.getfield 74, 3) := by decide +kernel
theorem dX7_step_70 : decode cX7_step 70 = .ok (.iload_n 2, 1) := by decide +kernel
theorem dX7_step_71 : decode cX7_step 71 = .ok (.aload_n 0, 1) := by decide +kernel
theorem dX7_step_72 : decode cX7_step 72 = .ok (.iload_n 1, 1) := by decide +kernel
theorem dX7_step_73 : decode cX7_step 73 = .ok (.iload_n 3, 1) := by decide +kernel
theorem dX7_step_74 : decode cX7_step 74 = .ok (.invokevirtual 191, 3) := by decide +kernel
theorem dX7_step_77 : decode cX7_step 77 = .ok (.iastore, 1) := by decide +kernel
theorem dX7_step_78 : decode cX7_step 78 = .ok (.aload_n 0, 1) := by decide +kernel
theorem dX7_step_79 : decode cX7_step 79 = .ok (.iload_n 1, 1) := by decide +kernel
theorem dX7_step_80 : decode cX7_step 80 = .ok (.iload_n 3, 1) := by decide +kernel
theorem dX7_step_81 : decode cX7_step 81 = .ok (.invokevirtual 109, 3) := by decide +kernel
theorem dX7_step_84 : decode cX7_step 84 = .ok (.ifCond .ne 16, 3) := by decide +kernel
theorem dX7_step_87 : decode cX7_step 87 = .ok (.aload_n 0, 1) := by decide +kernel
theorem dX7_step_88 : decode cX7_step 88 = .ok (.aload_n 0, 1) := by decide +kernel
theorem dX7_step_89 : decode cX7_step 89 = .ok (.iload_n 1, 1) := by decide +kernel
theorem dX7_step_90 : decode cX7_step 90 = .ok (.iload_n 3, 1) := by decide +kernel
theorem dX7_step_91 : decode cX7_step 91 = .ok (.invokevirtual 117, 3) := by decide +kernel
theorem dX7_step_94 : decode cX7_step 94 = .ok (.invokevirtual 213, 3) := by decide +kernel
theorem dX7_step_97 : decode cX7_step 97 = .ok (.goto 63, 3) := by decide +kernel
theorem dX7_step_100 : decode cX7_step 100 = .ok (.aload_n 0, 1) := by decide +kernel
theorem dX7_step_101 : decode cX7_step 101 = .ok (.iload_n 1, 1) := by decide +kernel
theorem dX7_step_102 : decode cX7_step 102 = .ok (.iload_n 3, 1) := by decide +kernel
theorem dX7_step_103 : decode cX7_step 103 = .ok (.invokevirtual 109, 3) := by decide +kernel
theorem dX7_step_106 : decode cX7_step 106 = .ok (.iconst 1, 1) := by decide +kernel
theorem dX7_step_107 : decode cX7_step 107 = .ok (.if_icmp .ne 17, 3) := by decide +kernel
theorem dX7_step_110 : decode cX7_step 110 = .ok (.aload_n 0, 1) := by decide +kernel
theorem dX7_step_111 : decode cX7_step 111 = .ok (.iload_n 1, 1) := by decide +kernel
theorem dX7_step_112 : decode cX7_step 112 = .ok (.aload_n 0, 1) := by decide +kernel
theorem dX7_step_113 : decode cX7_step 113 = .ok (.iload_n 1, 1) := by decide +kernel
theorem dX7_step_114 : decode cX7_step 114 = .ok (.iload_n 3, 1) := by decide +kernel
theorem dX7_step_115 : decode cX7_step 115 = .ok (.invokevirtual 117, 3) := by decide +kernel
theorem dX7_step_118 : decode cX7_step 118 = .ok (.invokevirtual 236, 3) := by decide +kernel
theorem dX7_step_121 : decode cX7_step 121 = .ok (.goto 39, 3) := by decide +kernel
theorem dX7_step_124 : decode cX7_step 124 = .ok (.aload_n 0, 1) := by decide +kernel
theorem dX7_step_125 : decode cX7_step 125 = .ok (.iload_n 1, 1) := by decide +kernel
theorem dX7_step_126 : decode cX7_step 126 = .ok (.iload_n 3, 1) := by decide +kernel
theorem dX7_step_127 : decode cX7_step 127 = .ok (.invokevirtual 120, 3) := by decide +kernel
theorem dX7_step_130 : decode cX7_step 130 = .ok (.ifCond .eq 30, 3) := by decide +kernel
theorem dX7_step_133 : decode cX7_step 133 = .ok (.aload_n 0, 1) := by decide +kernel
theorem dX7_step_134 : decode cX7_step 134 = .ok (.iload_n 1, 1) := by decide +kernel
theorem dX7_step_135 : decode cX7_step 135 = .ok (.iload_n 3, 1) := by decide +kernel
theorem dX7_step_136 : decode cX7_step 136 = .ok (.aload_n 0, 1) := by decide +kernel
theorem dX7_step_137 : decode cX7_step 137 = .ok (.getfield 80, 3) := by decide +kernel
theorem dX7_step_140 : decode cX7_step 140 = .ok (.iload_n 2, 1) := by decide +kernel
theorem dX7_step_141 : decode cX7_step 141 = .ok (.iaload, 1) := by decide +kernel
theorem dX7_step_142 : decode cX7_step 142 = .ok (.aload_n 0, 1) := by decide +kernel
theorem dX7_step_143 : decode cX7_step 143 = .ok (.getfield 89, 3) := by decide +kernel
theorem dX7_step_146 : decode cX7_step 146 = .ok (.iload_n 2, 1) := by decide +kernel
theorem dX7_step_147 : decode cX7_step 147 = .ok (.iaload, 1) := by decide +kernel
theorem dX7_step_148 : decode cX7_step 148 = .ok (.iconst 1, 1) := by decide +kernel
theorem dX7_step_149 : decode cX7_step 149 = .ok (.if_icmp .ne 7, 3) := by decide +kernel
theorem dX7_step_152 : decode cX7_step 152 = .ok (.iconst 1, 1) := by decide +kernel
theorem dX7_step_153 : decode cX7_step 153 = .ok (.goto 4, 3) := by decide +kernel
theorem dX7_step_156 : decode cX7_step 156 = .ok (.iconst 0, 1) := by decide +kernel
theorem dX7_step_157 : decode cX7_step 157 = .ok (.invokevirtual 239, 3) := by decide +kernel
theorem dX7_step_160 : decode cX7_step 160 = .ok (.return_, 1) := by decide +kernel
theorem dX7_showsAll_0 : decode cX7_showsAll 0 = .ok (.aload_n 0, 1) := by decide +kernel
theorem dX7_showsAll_1 : decode cX7_showsAll 1 = .ok (.iconst 0, 1) := by decide +kernel
theorem dX7_showsAll_2 : decode cX7_showsAll 2 = .ok (.putfield 194, 3) := by decide +kernel
theorem dX7_showsAll_5 : decode cX7_showsAll 5 = .ok (.aload_n 0, 1) := by decide +kernel
theorem dX7_showsAll_6 : decode cX7_showsAll 6 = .ok (.iconst 0, 1) := by decide +kernel
theorem dX7_showsAll_7 : decode cX7_showsAll 7 = .ok (.putfield 197, 3) := by decide +kernel
theorem dX7_showsAll_10 : decode cX7_showsAll 10 = .ok (.aload_n 0, 1) := by decide +kernel
theorem dX7_showsAll_11 : decode cX7_showsAll 11 = .ok (.iconst 0, 1) := by decide +kernel
theorem dX7_showsAll_12 : decode cX7_showsAll 12 = .ok (.putfield 210, 3) := by decide +kernel
theorem dX7_showsAll_15 : decode cX7_showsAll 15 = .ok (.aload_n 0, 1) := by decide +kernel
theorem dX7_showsAll_16 : decode cX7_showsAll 16 = .ok (.iconst 0, 1) := by decide +kernel
theorem dX7_showsAll_17 : decode cX7_showsAll 17 = .ok (.aload_n 0, 1) := by decide +kernel
theorem dX7_showsAll_18 : decode cX7_showsAll 18 = .ok (.getfield 19, 3) := by decide +kernel
theorem dX7_showsAll_21 : decode cX7_showsAll 21 = .ok (.iload_n 1, 1) := by decide +kernel
theorem dX7_showsAll_22 : decode cX7_showsAll 22 = .ok (.iaload, 1) := by decide +kernel
theorem dX7_showsAll_23 : decode cX7_showsAll 23 = .ok (.iconst 0, 1) := by decide +kernel
theorem dX7_showsAll_24 : decode cX7_showsAll 24 = .ok (.iconst (-1), 1) := by decide +kernel
theorem dX7_showsAll_25 : decode cX7_showsAll 25 = .ok (.iconst 1, 1) := by decide +kernel
theorem dX7_showsAll_26 : decode cX7_showsAll 26 = .ok (.invokevirtual 228, 3) := by decide +kernel
theorem dX7_showsAll_29 : decode cX7_showsAll 29 = .ok (.aload_n 0, 1) := by decide +kernel
theorem dX7_showsAll_30 : decode cX7_showsAll 30 = .ok (.getfield 210, 3) := by decide +kernel
theorem dX7_showsAll_33 : decode cX7_showsAll 33 = .ok (.ifCond .le 18, 3) := by decide +kernel
theorem dX7_showsAll_36 : decode cX7_showsAll 36 = .ok (.aload_n 0, 1) := by decide +kernel
theorem dX7_showsAll_37 : decode cX7_showsAll 37 = .ok (.getfield 197, 3) := by decide +kernel
theorem dX7_showsAll_40 : decode cX7_showsAll 40 = .ok (.ifCond .ne 11, 3) := by decide +kernel
theorem dX7_showsAll_43 : decode cX7_showsAll 43 = .ok (.aload_n 0, 1) := by decide +kernel
theorem dX7_showsAll_44 : decode cX7_showsAll 44 = .ok (.iload_n 1, 1) := by decide +kernel
theorem dX7_showsAll_45 : decode cX7_showsAll 45 = .ok (.invokevirtual 242, 3) := by decide +kernel
theorem dX7_showsAll_48 : decode cX7_showsAll 48 = .ok (.goto (-19), 3) := by decide +kernel
theorem dX7_showsAll_51 : decode cX7_showsAll 51 = .ok (.return_, 1) := by decide +kernel
theorem dX7_passesDown_0 : decode cX7_passesDown 0 = .ok (.aload_n 0, 1) := by decide +kernel
theorem dX7_passesDown_1 : decode cX7_passesDown 1 = .ok (.getfield 257, 3) := by decide +kernel
theorem dX7_passesDown_4 : decode cX7_passesDown 4 = .ok (.iconst 1, 1) := by decide +kernel
theorem dX7_passesDown_5 : decode cX7_passesDown 5 = .ok (.isub, 1) := by decide +kernel
theorem dX7_passesDown_6 : decode cX7_passesDown 6 = .ok (.istore_n 1, 1) := by decide +kernel
theorem dX7_passesDown_7 : decode cX7_passesDown 7 = .ok (.iload_n 1, 1) := by decide +kernel
theorem dX7_passesDown_8 : decode cX7_passesDown 8 = .ok (.ifCond .le 33, 3) := by decide +kernel
theorem dX7_passesDown_11 : decode cX7_passesDown 11 = .ok (.aload_n 0, 1) := by decide +kernel
theorem dX7_passesDown_12 : decode cX7_passesDown 12 = .ok (.iload_n 1, 1) := by decide +kernel
theorem dX7_passesDown_13 : decode cX7_passesDown 13 = .ok (.invokevirtual 260, 3) := by decide +kernel
theorem dX7_passesDown_16 : decode cX7_passesDown 16 = .ok (.aload_n 0, 1) := by decide +kernel
theorem dX7_passesDown_17 : decode cX7_passesDown 17 = .ok (.iload_n 1, 1) := by decide +kernel
theorem dX7_passesDown_18 : decode cX7_passesDown 18 = .ok (.iconst 1, 1) := by decide +kernel
theorem dX7_passesDown_19 : decode cX7_passesDown 19 = .ok (.isub, 1) := by decide +kernel
theorem dX7_passesDown_20 : decode cX7_passesDown 20 = .ok (.aload_n 0, 1) := by decide +kernel
theorem dX7_passesDown_21 : decode cX7_passesDown 21 = .ok (.getfield 44, 3) := by decide +kernel
theorem dX7_passesDown_24 : decode cX7_passesDown 24 = .ok (.iload_n 1, 1) := by decide +kernel
theorem dX7_passesDown_25 : decode cX7_passesDown 25 = .ok (.iconst 1, 1) := by decide +kernel
theorem dX7_passesDown_26 : decode cX7_passesDown 26 = .ok (.isub, 1) := by decide +kernel
theorem dX7_passesDown_27 : decode cX7_passesDown 27 = .ok (.iaload, 1) := by decide +kernel
theorem dX7_passesDown_28 : decode cX7_passesDown 28 = .ok (.aload_n 0, 1) := by decide +kernel
theorem dX7_passesDown_29 : decode cX7_passesDown 29 = .ok (.invokevirtual 263, 3) := by decide +kernel
theorem dX7_passesDown_32 : decode cX7_passesDown 32 = .ok (.invokevirtual 266, 3) := by decide +kernel
theorem dX7_passesDown_35 : decode cX7_passesDown 35 = .ok (.iinc 1 (-1), 3) := by decide +kernel
theorem dX7_passesDown_38 : decode cX7_passesDown 38 = .ok (.goto (-31), 3) := by decide +kernel
theorem dX7_passesDown_41 : decode cX7_passesDown 41 = .ok (.return_, 1) := by decide +kernel
theorem dX7_put_0 : decode cX7_put 0 = .ok (.aload_n 0, 1) := by decide +kernel
theorem dX7_put_1 : decode cX7_put 1 = .ok (.getfield 102, 3) := by decide +kernel
theorem dX7_put_4 : decode cX7_put 4 = .ok (.aload_n 0, 1) := by decide +kernel
theorem dX7_put_5 : decode cX7_put 5 = .ok (.getfield 269, 3) := by decide +kernel
theorem dX7_put_8 : decode cX7_put 8 = .ok (.iload_n 1, 1) := by decide +kernel
theorem dX7_put_9 : decode cX7_put 9 = .ok (.iastore, 1) := by decide +kernel
theorem dX7_put_10 : decode cX7_put 10 = .ok (.aload_n 0, 1) := by decide +kernel
theorem dX7_put_11 : decode cX7_put 11 = .ok (.dup, 1) := by decide +kernel
theorem dX7_put_12 : decode cX7_put 12 = .ok (.getfield 269, 3) := by decide +kernel
theorem dX7_put_15 : decode cX7_put 15 = .ok (.iconst 1, 1) := by decide +kernel
theorem dX7_put_16 : decode cX7_put 16 = .ok (.iadd, 1) := by decide +kernel
theorem dX7_put_17 : decode cX7_put 17 = .ok (.putfield 269, 3) := by decide +kernel
theorem dX7_put_20 : decode cX7_put 20 = .ok (.return_, 1) := by decide +kernel
theorem dX7_writes_0 : decode cX7_writes 0 = .ok (.aload_n 0, 1) := by decide +kernel
theorem dX7_writes_1 : decode cX7_writes 1 = .ok (.ldc_w 278, 3) := by decide +kernel
theorem dX7_writes_4 : decode cX7_writes 4 = .ok (.iload_n 1, 1) := by decide +kernel
theorem dX7_writes_5 : decode cX7_writes 5 = .ok (.imul, 1) := by decide +kernel
theorem dX7_writes_6 : decode cX7_writes 6 = .ok (.putfield 269, 3) := by decide +kernel
theorem dX7_writes_9 : decode cX7_writes 9 = .ok (.aload_n 0, 1) := by decide +kernel
theorem dX7_writes_10 : decode cX7_writes 10 = .ok (.iconst 0, 1) := by decide +kernel
theorem dX7_writes_11 : decode cX7_writes 11 = .ok (.invokevirtual 272, 3) := by decide +kernel
theorem dX7_writes_14 : decode cX7_writes 14 = .ok (.aload_n 0, 1) := by decide +kernel
theorem dX7_writes_15 : decode cX7_writes 15 = .ok (.aload_n 0, 1) := by decide +kernel
theorem dX7_writes_16 : decode cX7_writes 16 = .ok (.getfield 279, 3) := by decide +kernel
theorem dX7_writes_19 : decode cX7_writes 19 = .ok (.invokevirtual 272, 3) := by decide +kernel
theorem dX7_writes_22 : decode cX7_writes 22 = .ok (.aload_n 0, 1) := by decide +kernel
theorem dX7_writes_23 : decode cX7_writes 23 = .ok (.aload_n 0, 1) := by decide +kernel
theorem dX7_writes_24 : decode cX7_writes 24 = .ok (.getfield 282, 3) := by decide +kernel
theorem dX7_writes_27 : decode cX7_writes 27 = .ok (.invokevirtual 272, 3) := by decide +kernel
theorem dX7_writes_30 : decode cX7_writes 30 = .ok (.aload_n 0, 1) := by decide +kernel
theorem dX7_writes_31 : decode cX7_writes 31 = .ok (.aload_n 0, 1) := by decide +kernel
theorem dX7_writes_32 : decode cX7_writes 32 = .ok (.getfield 285, 3) := by decide +kernel
theorem dX7_writes_35 : decode cX7_writes 35 = .ok (.invokevirtual 272, 3) := by decide +kernel
theorem dX7_writes_38 : decode cX7_writes 38 = .ok (.aload_n 0, 1) := by decide +kernel
theorem dX7_writes_39 : decode cX7_writes 39 = .ok (.aload_n 0, 1) := by decide +kernel
theorem dX7_writes_40 : decode cX7_writes 40 = .ok (.getfield 257, 3) := by decide +kernel
theorem dX7_writes_43 : decode cX7_writes 43 = .ok (.invokevirtual 272, 3) := by decide +kernel
theorem dX7_writes_46 : decode cX7_writes 46 = .ok (.iconst 0, 1) := by decide +kernel
theorem dX7_writes_47 : decode cX7_writes 47 = .ok (.istore_n 2, 1) := by decide +kernel
theorem dX7_writes_48 : decode cX7_writes 48 = .ok (.iload_n 2, 1) := by decide +kernel
theorem dX7_writes_49 : decode cX7_writes 49 = .ok (.sipush 240, 3) := by decide +kernel
theorem dX7_writes_52 : decode cX7_writes 52 = .ok (.if_icmp .ge 19, 3) := by decide +kernel
theorem dX7_writes_55 : decode cX7_writes 55 = .ok (.aload_n 0, 1) := by decide +kernel
theorem dX7_writes_56 : decode cX7_writes 56 = .ok (.aload_n 0, 1) := by decide +kernel
theorem dX7_writes_57 : decode cX7_writes 57 = .ok (.getfield 13, 3) := by decide +kernel
theorem dX7_writes_60 : decode cX7_writes 60 = .ok (.iload_n 2, 1) := by decide +kernel
theorem dX7_writes_61 : decode cX7_writes 61 = .ok (.iaload, 1) := by decide +kernel
theorem dX7_writes_62 : decode cX7_writes 62 = .ok (.invokevirtual 272, 3) := by decide +kernel
theorem dX7_writes_65 : decode cX7_writes 65 = .ok (.iinc 2 1, 3) := by decide +kernel
theorem dX7_writes_68 : decode cX7_writes 68 = .ok (.goto (-20), 3) := by decide +kernel
theorem dX7_writes_71 : decode cX7_writes 71 = .ok (.iconst 0, 1) := by decide +kernel
theorem dX7_writes_72 : decode cX7_writes 72 = .ok (.istore_n 2, 1) := by decide +kernel
theorem dX7_writes_73 : decode cX7_writes 73 = .ok (.iload_n 2, 1) := by decide +kernel
theorem dX7_writes_74 : decode cX7_writes 74 = .ok (.bipush 52, 2) := by decide +kernel
theorem dX7_writes_76 : decode cX7_writes 76 = .ok (.if_icmp .ge 19, 3) := by decide +kernel
theorem dX7_writes_79 : decode cX7_writes 79 = .ok (.aload_n 0, 1) := by decide +kernel
theorem dX7_writes_80 : decode cX7_writes 80 = .ok (.aload_n 0, 1) := by decide +kernel
theorem dX7_writes_81 : decode cX7_writes 81 = .ok (.getfield 16, 3) := by decide +kernel
theorem dX7_writes_84 : decode cX7_writes 84 = .ok (.iload_n 2, 1) := by decide +kernel
theorem dX7_writes_85 : decode cX7_writes 85 = .ok (.iaload, 1) := by decide +kernel
theorem dX7_writes_86 : decode cX7_writes 86 = .ok (.invokevirtual 272, 3) := by decide +kernel
theorem dX7_writes_89 : decode cX7_writes 89 = .ok (.iinc 2 1, 3) := by decide +kernel
theorem dX7_writes_92 : decode cX7_writes 92 = .ok (.goto (-19), 3) := by decide +kernel
theorem dX7_writes_95 : decode cX7_writes 95 = .ok (.iconst 0, 1) := by decide +kernel
theorem dX7_writes_96 : decode cX7_writes 96 = .ok (.istore_n 2, 1) := by decide +kernel
theorem dX7_writes_97 : decode cX7_writes 97 = .ok (.iload_n 2, 1) := by decide +kernel
theorem dX7_writes_98 : decode cX7_writes 98 = .ok (.aload_n 0, 1) := by decide +kernel
theorem dX7_writes_99 : decode cX7_writes 99 = .ok (.getfield 257, 3) := by decide +kernel
theorem dX7_writes_102 : decode cX7_writes 102 = .ok (.if_icmp .ge 14, 3) := by decide +kernel
theorem dX7_writes_105 : decode cX7_writes 105 = .ok (.aload_n 0, 1) := by decide +kernel
theorem dX7_writes_106 : decode cX7_writes 106 = .ok (.iload_n 2, 1) := by decide +kernel
theorem dX7_writes_107 : decode cX7_writes 107 = .ok (.invokevirtual 288, 3) := by decide +kernel
theorem dX7_writes_110 : decode cX7_writes 110 = .ok (.iinc 2 1, 3) := by decide +kernel
theorem dX7_writes_113 : decode cX7_writes 113 = .ok (.goto (-16), 3) := by decide +kernel
theorem dX7_writes_116 : decode cX7_writes 116 = .ok (.aload_n 0, 1) := by decide +kernel
theorem dX7_writes_117 : decode cX7_writes 117 = .ok (.getfield 102, 3) := by decide +kernel
theorem dX7_writes_120 : decode cX7_writes 120 = .ok (.ldc_w 278, 3) := by decide +kernel
theorem dX7_writes_123 : decode cX7_writes 123 = .ok (.iload_n 1, 1) := by decide +kernel
theorem dX7_writes_124 : decode cX7_writes 124 = .ok (.imul, 1) := by decide +kernel
theorem dX7_writes_125 : decode cX7_writes 125 = .ok (.aload_n 0, 1) := by decide +kernel
theorem dX7_writes_126 : decode cX7_writes 126 = .ok (.getfield 269, 3) := by decide +kernel
theorem dX7_writes_129 : decode cX7_writes 129 = .ok (.ldc_w 278, 3) := by decide +kernel
theorem dX7_writes_132 : decode cX7_writes 132 = .ok (.iload_n 1, 1) := by decide +kernel
theorem dX7_writes_133 : decode cX7_writes 133 = .ok (.imul, 1) := by decide +kernel
theorem dX7_writes_134 : decode cX7_writes 134 = .ok (.isub, 1) := by decide +kernel
theorem dX7_writes_135 : decode cX7_writes 135 = .ok (.iastore, 1) := by decide +kernel
theorem dX7_writes_136 : decode cX7_writes 136 = .ok (.return_, 1) := by decide +kernel
theorem dX7_copiesState_0 : decode cX7_copiesState 0 = .ok (.aload_n 0, 1) := by decide +kernel
theorem dX7_copiesState_1 : decode cX7_copiesState 1 = .ok (.getfield 102, 3) := by decide +kernel
theorem dX7_copiesState_4 : decode cX7_copiesState 4 = .ok (.ldc_w 278, 3) := by decide +kernel
theorem dX7_copiesState_7 : decode cX7_copiesState 7 = .ok (.iload_n 1, 1) := by decide +kernel
theorem dX7_copiesState_8 : decode cX7_copiesState 8 = .ok (.imul, 1) := by decide +kernel
theorem dX7_copiesState_9 : decode cX7_copiesState 9 = .ok (.iaload, 1) := by decide +kernel
theorem dX7_copiesState_10 : decode cX7_copiesState 10 = .ok (.istore_n 3, 1) := by decide +kernel
theorem dX7_copiesState_11 : decode cX7_copiesState 11 = .ok (.iconst 0, 1) := by decide +kernel
theorem dX7_copiesState_12 : decode cX7_copiesState 12 = .ok (.istore 4, 2) := by decide +kernel
theorem dX7_copiesState_14 : decode cX7_copiesState 14 = .ok (.iload 4, 2) := by decide +kernel
theorem dX7_copiesState_16 : decode cX7_copiesState 16 = .ok (.iload_n 3, 1) := by decide +kernel
theorem dX7_copiesState_17 : decode cX7_copiesState 17 = .ok (.if_icmp .ge 35, 3) := by decide +kernel
theorem dX7_copiesState_20 : decode cX7_copiesState 20 = .ok (.aload_n 0, 1) := by decide +kernel
theorem dX7_copiesState_21 : decode cX7_copiesState 21 = .ok (.getfield 102, 3) := by decide +kernel
theorem dX7_copiesState_24 : decode cX7_copiesState 24 = .ok (.ldc_w 278, 3) := by decide +kernel
theorem dX7_copiesState_27 : decode cX7_copiesState 27 = .ok (.iload_n 2, 1) := by decide +kernel
theorem dX7_copiesState_28 : decode cX7_copiesState 28 = .ok (.imul, 1) := by decide +kernel
theorem dX7_copiesState_29 : decode cX7_copiesState 29 = .ok (.iload 4, 2) := by decide +kernel
theorem dX7_copiesState_31 : decode cX7_copiesState 31 = .ok (.iadd, 1) := by decide +kernel
theorem dX7_copiesState_32 : decode cX7_copiesState 32 = .ok (.aload_n 0, 1) := by decide +kernel
theorem dX7_copiesState_33 : decode cX7_copiesState 33 = .ok (.getfield 102, 3) := by decide +kernel
theorem dX7_copiesState_36 : decode cX7_copiesState 36 = .ok (.ldc_w 278, 3) := by decide +kernel
theorem dX7_copiesState_39 : decode cX7_copiesState 39 = .ok (.iload_n 1, 1) := by decide +kernel
theorem dX7_copiesState_40 : decode cX7_copiesState 40 = .ok (.imul, 1) := by decide +kernel
theorem dX7_copiesState_41 : decode cX7_copiesState 41 = .ok (.iload 4, 2) := by decide +kernel
theorem dX7_copiesState_43 : decode cX7_copiesState 43 = .ok (.iadd, 1) := by decide +kernel
theorem dX7_copiesState_44 : decode cX7_copiesState 44 = .ok (.iaload, 1) := by decide +kernel
theorem dX7_copiesState_45 : decode cX7_copiesState 45 = .ok (.iastore, 1) := by decide +kernel
theorem dX7_copiesState_46 : decode cX7_copiesState 46 = .ok (.iinc 4 1, 3) := by decide +kernel
theorem dX7_copiesState_49 : decode cX7_copiesState 49 = .ok (.goto (-35), 3) := by decide +kernel
theorem dX7_copiesState_52 : decode cX7_copiesState 52 = .ok (.return_, 1) := by decide +kernel
theorem dX7_leavesState_0 : decode cX7_leavesState 0 = .ok (.aload_n 0, 1) := by decide +kernel
theorem dX7_leavesState_1 : decode cX7_leavesState 1 = .ok (.getfield 294, 3) := by decide +kernel
theorem dX7_leavesState_4 : decode cX7_leavesState 4 = .ok (.bipush 8, 2) := by decide +kernel
theorem dX7_leavesState_6 : decode cX7_leavesState 6 = .ok (.if_icmp .ne 35, 3) := by decide +kernel
theorem dX7_leavesState_9 : decode cX7_leavesState 9 = .ok (.iconst 1, 1) := by decide +kernel
theorem dX7_leavesState_10 : decode cX7_leavesState 10 = .ok (.istore_n 1, 1) := by decide +kernel
theorem dX7_leavesState_11 : decode cX7_leavesState 11 = .ok (.iload_n 1, 1) := by decide +kernel
theorem dX7_leavesState_12 : decode cX7_leavesState 12 = .ok (.bipush 8, 2) := by decide +kernel
theorem dX7_leavesState_14 : decode cX7_leavesState 14 = .ok (.if_icmp .ge 17, 3) := by decide +kernel
theorem dX7_leavesState_17 : decode cX7_leavesState 17 = .ok (.aload_n 0, 1) := by decide +kernel
theorem dX7_leavesState_18 : decode cX7_leavesState 18 = .ok (.iload_n 1, 1) := by decide +kernel
theorem dX7_leavesState_19 : decode cX7_leavesState 19 = .ok (.iload_n 1, 1) := by decide +kernel
theorem dX7_leavesState_20 : decode cX7_leavesState 20 = .ok (.iconst 1, 1) := by decide +kernel
theorem dX7_leavesState_21 : decode cX7_leavesState 21 = .ok (.isub, 1) := by decide +kernel
theorem dX7_leavesState_22 : decode cX7_leavesState 22 = .ok (.invokevirtual 297, 3) := by decide +kernel
theorem dX7_leavesState_25 : decode cX7_leavesState 25 = .ok (.iinc 1 1, 3) := by decide +kernel
theorem dX7_leavesState_28 : decode cX7_leavesState 28 = .ok (.goto (-17), 3) := by decide +kernel
theorem dX7_leavesState_31 : decode cX7_leavesState 31 = .ok (.aload_n 0, 1) := by decide +kernel
theorem dX7_leavesState_32 : decode cX7_leavesState 32 = .ok (.dup, 1) := by decide +kernel
theorem dX7_leavesState_33 : decode cX7_leavesState 33 = .ok (.getfield 294, 3) := by decide +kernel
theorem dX7_leavesState_36 : decode cX7_leavesState 36 = .ok (.iconst 1, 1) := by decide +kernel
theorem dX7_leavesState_37 : decode cX7_leavesState 37 = .ok (.isub, 1) := by decide +kernel
theorem dX7_leavesState_38 : decode cX7_leavesState 38 = .ok (.putfield 294, 3) := by decide +kernel
theorem dX7_leavesState_41 : decode cX7_leavesState 41 = .ok (.aload_n 0, 1) := by decide +kernel
theorem dX7_leavesState_42 : decode cX7_leavesState 42 = .ok (.bipush 8, 2) := by decide +kernel
theorem dX7_leavesState_44 : decode cX7_leavesState 44 = .ok (.aload_n 0, 1) := by decide +kernel
theorem dX7_leavesState_45 : decode cX7_leavesState 45 = .ok (.getfield 294, 3) := by decide +kernel
theorem dX7_leavesState_48 : decode cX7_leavesState 48 = .ok (.invokevirtual 297, 3) := by decide +kernel
theorem dX7_leavesState_51 : decode cX7_leavesState 51 = .ok (.aload_n 0, 1) := by decide +kernel
theorem dX7_leavesState_52 : decode cX7_leavesState 52 = .ok (.dup, 1) := by decide +kernel
theorem dX7_leavesState_53 : decode cX7_leavesState 53 = .ok (.getfield 294, 3) := by decide +kernel
theorem dX7_leavesState_56 : decode cX7_leavesState 56 = .ok (.iconst 1, 1) := by decide +kernel
theorem dX7_leavesState_57 : decode cX7_leavesState 57 = .ok (.iadd, 1) := by decide +kernel
theorem dX7_leavesState_58 : decode cX7_leavesState 58 = .ok (.putfield 294, 3) := by decide +kernel
theorem dX7_leavesState_61 : decode cX7_leavesState 61 = .ok (.return_, 1) := by decide +kernel
theorem dX7_back_0 : decode cX7_back 0 = .ok (.aload_n 0, 1) := by decide +kernel
theorem dX7_back_1 : decode cX7_back 1 = .ok (.getfield 294, 3) := by decide +kernel
theorem dX7_back_4 : decode cX7_back 4 = .ok (.ifCond .ne 8, 3) := by decide +kernel
theorem dX7_back_7 : decode cX7_back 7 = .ok (.aload_n 0, 1) := by decide +kernel
theorem dX7_back_8 : decode cX7_back 8 = .ok (.invokevirtual 300, 3) := by decide +kernel
theorem dX7_back_11 : decode cX7_back 11 = .ok (.ireturn, 1) := by decide +kernel
theorem dX7_back_12 : decode cX7_back 12 = .ok (.aload_n 0, 1) := by decide +kernel
theorem dX7_back_13 : decode cX7_back 13 = .ok (.dup, 1) := by decide +kernel
theorem dX7_back_14 : decode cX7_back 14 = .ok (.getfield 294, 3) := by decide +kernel
theorem dX7_back_17 : decode cX7_back 17 = .ok (.iconst 1, 1) := by decide +kernel
theorem dX7_back_18 : decode cX7_back 18 = .ok (.isub, 1) := by decide +kernel
theorem dX7_back_19 : decode cX7_back 19 = .ok (.putfield 294, 3) := by decide +kernel
theorem dX7_back_22 : decode cX7_back 22 = .ok (.aload_n 0, 1) := by decide +kernel
theorem dX7_back_23 : decode cX7_back 23 = .ok (.aload_n 0, 1) := by decide +kernel
theorem dX7_back_24 : decode cX7_back 24 = .ok (.getfield 294, 3) := by decide +kernel
theorem dX7_back_27 : decode cX7_back 27 = .ok (.invokevirtual 303, 3) := by decide +kernel
theorem dX7_back_30 : decode cX7_back 30 = .ok (.aload_n 0, 1) := by decide +kernel
theorem dX7_back_31 : decode cX7_back 31 = .ok (.getfield 294, 3) := by decide +kernel
theorem dX7_back_34 : decode cX7_back 34 = .ok (.ireturn, 1) := by decide +kernel
theorem dX7_documentBytes_0 : decode cX7_documentBytes 0 = .ok (.aload_n 0, 1) := by decide +kernel
theorem dX7_documentBytes_1 : decode cX7_documentBytes 1 = .ok (.iconst 0, 1) := by decide +kernel
theorem dX7_documentBytes_2 : decode cX7_documentBytes 2 = .ok (.putfield 194, 3) := by decide +kernel
theorem dX7_documentBytes_5 : decode cX7_documentBytes 5 = .ok (.aload_n 0, 1) := by decide +kernel
theorem dX7_documentBytes_6 : decode cX7_documentBytes 6 = .ok (.iconst 0, 1) := by decide +kernel
theorem dX7_documentBytes_7 : decode cX7_documentBytes 7 = .ok (.putfield 197, 3) := by decide +kernel
theorem dX7_documentBytes_10 : decode cX7_documentBytes 10 = .ok (.aload_n 0, 1) := by decide +kernel
theorem dX7_documentBytes_11 : decode cX7_documentBytes 11 = .ok (.getfield 257, 3) := by decide +kernel
theorem dX7_documentBytes_14 : decode cX7_documentBytes 14 = .ok (.ifCond .le 8, 3) := by decide +kernel
theorem dX7_documentBytes_17 : decode cX7_documentBytes 17 = .ok (.aload_n 0, 1) := by decide +kernel
theorem dX7_documentBytes_18 : decode cX7_documentBytes 18 = .ok (.iconst 0, 1) := by decide +kernel
theorem dX7_documentBytes_19 : decode cX7_documentBytes 19 = .ok (.invokevirtual 260, 3) := by decide +kernel
theorem dX7_documentBytes_22 : decode cX7_documentBytes 22 = .ok (.aload_n 0, 1) := by decide +kernel
theorem dX7_documentBytes_23 : decode cX7_documentBytes 23 = .ok (.getfield 279, 3) := by decide +kernel
theorem dX7_documentBytes_26 : decode cX7_documentBytes 26 = .ok (.aload_n 0, 1) := by decide +kernel
theorem dX7_documentBytes_27 : decode cX7_documentBytes 27 = .ok (.getfield 194, 3) := by decide +kernel
theorem dX7_documentBytes_30 : decode cX7_documentBytes 30 = .ok (.iadd, 1) := by decide +kernel
theorem dX7_documentBytes_31 : decode cX7_documentBytes 31 = .ok (.ireturn, 1) := by decide +kernel
theorem dX7_isTooLong_0 : decode cX7_isTooLong 0 = .ok (.aload_n 0, 1) := by decide +kernel
theorem dX7_isTooLong_1 : decode cX7_isTooLong 1 = .ok (.invokevirtual 306, 3) := by decide +kernel
theorem dX7_isTooLong_4 : decode cX7_isTooLong 4 = .ok (.istore_n 1, 1) := by decide +kernel
theorem dX7_isTooLong_5 : decode cX7_isTooLong 5 = .ok (.aload_n 0, 1) := by decide +kernel
theorem dX7_isTooLong_6 : decode cX7_isTooLong 6 = .ok (.getfield 197, 3) := by decide +kernel
theorem dX7_isTooLong_9 : decode cX7_isTooLong 9 = .ok (.ifCond .ne 10, 3) := by decide +kernel
theorem dX7_isTooLong_12 : decode cX7_isTooLong 12 = .ok (.iload_n 1, 1) := by decide +kernel
theorem dX7_isTooLong_13 : decode cX7_isTooLong 13 = .ok (.sipush 240, 3) := by decide +kernel
theorem dX7_isTooLong_16 : decode cX7_isTooLong 16 = .ok (.if_icmp .le 7, 3) := by decide +kernel
theorem dX7_isTooLong_19 : decode cX7_isTooLong 19 = .ok (.iconst 1, 1) := by decide +kernel
theorem dX7_isTooLong_20 : decode cX7_isTooLong 20 = .ok (.goto 4, 3) := by decide +kernel
theorem dX7_isTooLong_23 : decode cX7_isTooLong 23 = .ok (.iconst 0, 1) := by decide +kernel
theorem dX7_isTooLong_24 : decode cX7_isTooLong 24 = .ok (.ireturn, 1) := by decide +kernel
theorem dX7_comesIn_0 : decode cX7_comesIn 0 = .ok (.aload_n 0, 1) := by decide +kernel
theorem dX7_comesIn_1 : decode cX7_comesIn 1 = .ok (.getfield 279, 3) := by decide +kernel
theorem dX7_comesIn_4 : decode cX7_comesIn 4 = .ok (.istore_n 3, 1) := by decide +kernel
theorem dX7_comesIn_5 : decode cX7_comesIn 5 = .ok (.iload_n 3, 1) := by decide +kernel
theorem dX7_comesIn_6 : decode cX7_comesIn 6 = .ok (.iload_n 1, 1) := by decide +kernel
theorem dX7_comesIn_7 : decode cX7_comesIn 7 = .ok (.if_icmp .le 23, 3) := by decide +kernel
theorem dX7_comesIn_10 : decode cX7_comesIn 10 = .ok (.aload_n 0, 1) := by decide +kernel
theorem dX7_comesIn_11 : decode cX7_comesIn 11 = .ok (.getfield 13, 3) := by decide +kernel
theorem dX7_comesIn_14 : decode cX7_comesIn 14 = .ok (.iload_n 3, 1) := by decide +kernel
theorem dX7_comesIn_15 : decode cX7_comesIn 15 = .ok (.aload_n 0, 1) := by decide +kernel
theorem dX7_comesIn_16 : decode cX7_comesIn 16 = .ok (.getfield 13, 3) := by decide +kernel
theorem dX7_comesIn_19 : decode cX7_comesIn 19 = .ok (.iload_n 3, 1) := by decide +kernel
theorem dX7_comesIn_20 : decode cX7_comesIn 20 = .ok (.iconst 1, 1) := by decide +kernel
theorem dX7_comesIn_21 : decode cX7_comesIn 21 = .ok (.isub, 1) := by decide +kernel
theorem dX7_comesIn_22 : decode cX7_comesIn 22 = .ok (.iaload, 1) := by decide +kernel
theorem dX7_comesIn_23 : decode cX7_comesIn 23 = .ok (.iastore, 1) := by decide +kernel
theorem dX7_comesIn_24 : decode cX7_comesIn 24 = .ok (.iinc 3 (-1), 3) := by decide +kernel
theorem dX7_comesIn_27 : decode cX7_comesIn 27 = .ok (.goto (-22), 3) := by decide +kernel
theorem dX7_comesIn_30 : decode cX7_comesIn 30 = .ok (.aload_n 0, 1) := by decide +kernel
theorem dX7_comesIn_31 : decode cX7_comesIn 31 = .ok (.getfield 13, 3) := by decide +kernel
theorem dX7_comesIn_34 : decode cX7_comesIn 34 = .ok (.iload_n 1, 1) := by decide +kernel
theorem dX7_comesIn_35 : decode cX7_comesIn 35 = .ok (.iload_n 2, 1) := by decide +kernel
theorem dX7_comesIn_36 : decode cX7_comesIn 36 = .ok (.iastore, 1) := by decide +kernel
theorem dX7_comesIn_37 : decode cX7_comesIn 37 = .ok (.aload_n 0, 1) := by decide +kernel
theorem dX7_comesIn_38 : decode cX7_comesIn 38 = .ok (.dup, 1) := by decide +kernel
theorem dX7_comesIn_39 : decode cX7_comesIn 39 = .ok (.getfield 279, 3) := by decide +kernel
theorem dX7_comesIn_42 : decode cX7_comesIn 42 = .ok (.iconst 1, 1) := by decide +kernel
theorem dX7_comesIn_43 : decode cX7_comesIn 43 = .ok (.iadd, 1) := by decide +kernel
theorem dX7_comesIn_44 : decode cX7_comesIn 44 = .ok (.putfield 279, 3) := by decide +kernel
theorem dX7_comesIn_47 : decode cX7_comesIn 47 = .ok (.return_, 1) := by decide +kernel
theorem dX7_first_0 : decode cX7_first 0 = .ok (.iconst (-1), 1) := by decide +kernel
theorem dX7_first_1 : decode cX7_first 1 = .ok (.istore_n 3, 1) := by decide +kernel
theorem dX7_first_2 : decode cX7_first 2 = .ok (.aload_n 0, 1) := by decide +kernel
theorem dX7_first_3 : decode cX7_first 3 = .ok (.getfield 19, 3) := by decide +kernel
theorem dX7_first_6 : decode cX7_first 6 = .ok (.iload_n 1, 1) := by decide +kernel
theorem dX7_first_7 : decode cX7_first 7 = .ok (.iaload, 1) := by decide +kernel
theorem dX7_first_8 : decode cX7_first 8 = .ok (.iconst 1, 1) := by decide +kernel
theorem dX7_first_9 : decode cX7_first 9 = .ok (.isub, 1) := by decide +kernel
theorem dX7_first_10 : decode cX7_first 10 = .ok (.istore 4, 2) := by decide +kernel
theorem dX7_first_12 : decode cX7_first 12 = .ok (.iload 4, 2) := by decide +kernel
theorem dX7_first_14 : decode cX7_first 14 = .ok (.ifCond .lt 47, 3) := by decide +kernel
theorem dX7_first_17 : decode cX7_first 17 = .ok (.aload_n 0, 1) := by decide +kernel
theorem dX7_first_18 : decode cX7_first 18 = .ok (.iload_n 1, 1) := by decide +kernel
theorem dX7_first_19 : decode cX7_first 19 = .ok (.iload 4, 2) := by decide +kernel
theorem dX7_first_21 : decode cX7_first 21 = .ok (.invokevirtual 113, 3) := by decide +kernel
theorem dX7_first_24 : decode cX7_first 24 = .ok (.ifCond .eq 29, 3) := by decide +kernel
theorem dX7_first_27 : decode cX7_first 27 = .ok (.aload_n 0, 1) := by decide +kernel
theorem dX7_first_28 : decode cX7_first 28 = .ok (.iload_n 1, 1) := by decide +kernel
theorem dX7_first_29 : decode cX7_first 29 = .ok (.iload 4, 2) := by decide +kernel
theorem dX7_first_31 : decode cX7_first 31 = .ok (.invokevirtual 117, 3) := by decide +kernel
theorem dX7_first_34 : decode cX7_first 34 = .ok (.iload_n 2, 1) := by decide +kernel
theorem dX7_first_35 : decode cX7_first 35 = .ok (.if_icmp .ne 18, 3) := by decide +kernel
theorem dX7_first_38 : decode cX7_first 38 = .ok (.aload_n 0, 1) := by decide +kernel
theorem dX7_first_39 : decode cX7_first 39 = .ok (.iload_n 1, 1) := by decide +kernel
theorem dX7_first_40 : decode cX7_first 40 = .ok (.iload 4, 2) := by decide +kernel
theorem dX7_first_42 : decode cX7_first 42 = .ok (.invokevirtual 120, 3) := by decide +kernel
theorem dX7_first_45 : decode cX7_first 45 = .ok (.ifCond .eq 8, 3) := by decide +kernel
theorem dX7_first_48 : decode cX7_first 48 = .ok (.iload 4, 2) := by decide +kernel
theorem dX7_first_50 : decode cX7_first 50 = .ok (.goto 4, 3) := by decide +kernel
theorem dX7_first_53 : decode cX7_first 53 = .ok (.iload_n 3, 1) := by decide +kernel
theorem dX7_first_54 : decode cX7_first 54 = .ok (.istore_n 3, 1) := by decide +kernel
theorem dX7_first_55 : decode cX7_first 55 = .ok (.iinc 4 (-1), 3) := by decide +kernel
theorem dX7_first_58 : decode cX7_first 58 = .ok (.goto (-46), 3) := by decide +kernel
theorem dX7_first_61 : decode cX7_first 61 = .ok (.iload_n 3, 1) := by decide +kernel
theorem dX7_first_62 : decode cX7_first 62 = .ok (.ireturn, 1) := by decide +kernel
theorem dX7_finishes_0 : decode cX7_finishes 0 = .ok (.aload_n 0, 1) := by decide +kernel
theorem dX7_finishes_1 : decode cX7_finishes 1 = .ok (.getfield 257, 3) := by decide +kernel
theorem dX7_finishes_4 : decode cX7_finishes 4 = .ok (.iconst 1, 1) := by decide +kernel
theorem dX7_finishes_5 : decode cX7_finishes 5 = .ok (.isub, 1) := by decide +kernel
theorem dX7_finishes_6 : decode cX7_finishes 6 = .ok (.istore_n 1, 1) := by decide +kernel
theorem dX7_finishes_7 : decode cX7_finishes 7 = .ok (.aload_n 0, 1) := by decide +kernel
theorem dX7_finishes_8 : decode cX7_finishes 8 = .ok (.dup, 1) := by decide +kernel
theorem dX7_finishes_9 : decode cX7_finishes 9 = .ok (.getfield 257, 3) := by decide +kernel
theorem dX7_finishes_12 : decode cX7_finishes 12 = .ok (.iconst 1, 1) := by decide +kernel
theorem dX7_finishes_13 : decode cX7_finishes 13 = .ok (.isub, 1) := by decide +kernel
theorem dX7_finishes_14 : decode cX7_finishes 14 = .ok (.putfield 257, 3) := by decide +kernel
theorem dX7_finishes_17 : decode cX7_finishes 17 = .ok (.iload_n 1, 1) := by decide +kernel
theorem dX7_finishes_18 : decode cX7_finishes 18 = .ok (.ifCond .le 13, 3) := by decide +kernel
theorem dX7_finishes_21 : decode cX7_finishes 21 = .ok (.aload_n 0, 1) := by decide +kernel
theorem dX7_finishes_22 : decode cX7_finishes 22 = .ok (.getfield 47, 3) := by decide +kernel
theorem dX7_finishes_25 : decode cX7_finishes 25 = .ok (.iload_n 1, 1) := by decide +kernel
theorem dX7_finishes_26 : decode cX7_finishes 26 = .ok (.iconst 1, 1) := by decide +kernel
theorem dX7_finishes_27 : decode cX7_finishes 27 = .ok (.isub, 1) := by decide +kernel
theorem dX7_finishes_28 : decode cX7_finishes 28 = .ok (.iconst 0, 1) := by decide +kernel
theorem dX7_finishes_29 : decode cX7_finishes 29 = .ok (.iastore, 1) := by decide +kernel
theorem dX7_finishes_30 : decode cX7_finishes 30 = .ok (.return_, 1) := by decide +kernel
theorem dX7_finishes_31 : decode cX7_finishes 31 = .ok (.aload_n 0, 1) := by decide +kernel
theorem dX7_finishes_32 : decode cX7_finishes 32 = .ok (.iconst 0, 1) := by decide +kernel
theorem dX7_finishes_33 : decode cX7_finishes 33 = .ok (.invokevirtual 260, 3) := by decide +kernel
theorem dX7_finishes_36 : decode cX7_finishes 36 = .ok (.aload_n 0, 1) := by decide +kernel
theorem dX7_finishes_37 : decode cX7_finishes 37 = .ok (.iconst 0, 1) := by decide +kernel
theorem dX7_finishes_38 : decode cX7_finishes 38 = .ok (.iconst 0, 1) := by decide +kernel
theorem dX7_finishes_39 : decode cX7_finishes 39 = .ok (.invokevirtual 322, 3) := by decide +kernel
theorem dX7_finishes_42 : decode cX7_finishes 42 = .ok (.istore_n 2, 1) := by decide +kernel
theorem dX7_finishes_43 : decode cX7_finishes 43 = .ok (.aload_n 0, 1) := by decide +kernel
theorem dX7_finishes_44 : decode cX7_finishes 44 = .ok (.aload_n 0, 1) := by decide +kernel
theorem dX7_finishes_45 : decode cX7_finishes 45 = .ok (.getfield 285, 3) := by decide +kernel
theorem dX7_finishes_48 : decode cX7_finishes 48 = .ok (.iload_n 2, 1) := by decide +kernel
theorem dX7_finishes_49 : decode cX7_finishes 49 = .ok (.iconst (-1), 1) := by decide +kernel
theorem dX7_finishes_50 : decode cX7_finishes 50 = .ok (.if_icmp .ne 10, 3) := by decide +kernel
theorem dX7_finishes_53 : decode cX7_finishes 53 = .ok (.aload_n 0, 1) := by decide +kernel
theorem dX7_finishes_54 : decode cX7_finishes 54 = .ok (.getfield 194, 3) := by decide +kernel
theorem dX7_finishes_57 : decode cX7_finishes 57 = .ok (.goto 9, 3) := by decide +kernel
theorem dX7_finishes_60 : decode cX7_finishes 60 = .ok (.aload_n 0, 1) := by decide +kernel
theorem dX7_finishes_61 : decode cX7_finishes 61 = .ok (.getfield 92, 3) := by decide +kernel
theorem dX7_finishes_64 : decode cX7_finishes 64 = .ok (.iload_n 2, 1) := by decide +kernel
theorem dX7_finishes_65 : decode cX7_finishes 65 = .ok (.iaload, 1) := by decide +kernel
theorem dX7_finishes_66 : decode cX7_finishes 66 = .ok (.iadd, 1) := by decide +kernel
theorem dX7_finishes_67 : decode cX7_finishes 67 = .ok (.putfield 282, 3) := by decide +kernel
theorem dX7_finishes_70 : decode cX7_finishes 70 = .ok (.iconst 0, 1) := by decide +kernel
theorem dX7_finishes_71 : decode cX7_finishes 71 = .ok (.istore_n 3, 1) := by decide +kernel
theorem dX7_finishes_72 : decode cX7_finishes 72 = .ok (.iload_n 3, 1) := by decide +kernel
theorem dX7_finishes_73 : decode cX7_finishes 73 = .ok (.aload_n 0, 1) := by decide +kernel
theorem dX7_finishes_74 : decode cX7_finishes 74 = .ok (.getfield 194, 3) := by decide +kernel
theorem dX7_finishes_77 : decode cX7_finishes 77 = .ok (.if_icmp .ge 25, 3) := by decide +kernel
theorem dX7_finishes_80 : decode cX7_finishes 80 = .ok (.aload_n 0, 1) := by decide +kernel
theorem dX7_finishes_81 : decode cX7_finishes 81 = .ok (.aload_n 0, 1) := by decide +kernel
theorem dX7_finishes_82 : decode cX7_finishes 82 = .ok (.getfield 285, 3) := by decide +kernel
theorem dX7_finishes_85 : decode cX7_finishes 85 = .ok (.iload_n 3, 1) := by decide +kernel
theorem dX7_finishes_86 : decode cX7_finishes 86 = .ok (.iadd, 1) := by decide +kernel
theorem dX7_finishes_87 : decode cX7_finishes 87 = .ok (.aload_n 0, 1) := by decide +kernel
theorem dX7_finishes_88 : decode cX7_finishes 88 = .ok (.getfield 71, 3) := by decide +kernel
theorem dX7_finishes_91 : decode cX7_finishes 91 = .ok (.iload_n 3, 1) := by decide +kernel
theorem dX7_finishes_92 : decode cX7_finishes 92 = .ok (.iaload, 1) := by decide +kernel
theorem dX7_finishes_93 : decode cX7_finishes 93 = .ok (.invokevirtual 325, 3) := by decide +kernel
theorem dX7_finishes_96 : decode cX7_finishes 96 = .ok (.iinc 3 1, 3) := by decide +kernel
theorem dX7_finishes_99 : decode cX7_finishes 99 = .ok (.goto (-27), 3) := by decide +kernel
theorem dX7_finishes_102 : decode cX7_finishes 102 = .ok (.return_, 1) := by decide +kernel
theorem dX7_nextStop_0 : decode cX7_nextStop 0 = .ok (.iload_n 2, 1) := by decide +kernel
theorem dX7_nextStop_1 : decode cX7_nextStop 1 = .ok (.iload_n 3, 1) := by decide +kernel
theorem dX7_nextStop_2 : decode cX7_nextStop 2 = .ok (.iadd, 1) := by decide +kernel
theorem dX7_nextStop_3 : decode cX7_nextStop 3 = .ok (.istore 4, 2) := by decide +kernel
theorem dX7_nextStop_5 : decode cX7_nextStop 5 = .ok (.iload 4, 2) := by decide +kernel
theorem dX7_nextStop_7 : decode cX7_nextStop 7 = .ok (.iconst 1, 1) := by decide +kernel
theorem dX7_nextStop_8 : decode cX7_nextStop 8 = .ok (.bipush 9, 2) := by decide +kernel
theorem dX7_nextStop_10 : decode cX7_nextStop 10 = .ok (.invokestatic 138, 3) := by decide +kernel
theorem dX7_nextStop_13 : decode cX7_nextStop 13 = .ok (.ifCond .eq 22, 3) := by decide +kernel
theorem dX7_nextStop_16 : decode cX7_nextStop 16 = .ok (.aload_n 0, 1) := by decide +kernel
theorem dX7_nextStop_17 : decode cX7_nextStop 17 = .ok (.iload_n 1, 1) := by decide +kernel
theorem dX7_nextStop_18 : decode cX7_nextStop 18 = .ok (.iload 4, 2) := by decide +kernel
theorem dX7_nextStop_20 : decode cX7_nextStop 20 = .ok (.invokevirtual 328, 3) := by decide +kernel
theorem dX7_nextStop_23 : decode cX7_nextStop 23 = .ok (.ifCond .ne 12, 3) := by decide +kernel
theorem dX7_nextStop_26 : decode cX7_nextStop 26 = .ok (.iload 4, 2) := by decide +kernel
theorem dX7_nextStop_28 : decode cX7_nextStop 28 = .ok (.iload_n 3, 1) := by decide +kernel
theorem dX7_nextStop_29 : decode cX7_nextStop 29 = .ok (.iadd, 1) := by decide +kernel
theorem dX7_nextStop_30 : decode cX7_nextStop 30 = .ok (.istore 4, 2) := by decide +kernel
theorem dX7_nextStop_32 : decode cX7_nextStop 32 = .ok (.goto (-27), 3) := by decide +kernel
theorem dX7_nextStop_35 : decode cX7_nextStop 35 = .ok (.iload 4, 2) := by decide +kernel
theorem dX7_nextStop_37 : decode cX7_nextStop 37 = .ok (.iconst 1, 1) := by decide +kernel
theorem dX7_nextStop_38 : decode cX7_nextStop 38 = .ok (.bipush 9, 2) := by decide +kernel
theorem dX7_nextStop_40 : decode cX7_nextStop 40 = .ok (.invokestatic 138, 3) := by decide +kernel
theorem dX7_nextStop_43 : decode cX7_nextStop 43 = .ok (.ifCond .eq 8, 3) := by decide +kernel
theorem dX7_nextStop_46 : decode cX7_nextStop 46 = .ok (.iload 4, 2) := by decide +kernel
theorem dX7_nextStop_48 : decode cX7_nextStop 48 = .ok (.goto 4, 3) := by decide +kernel
theorem dX7_nextStop_51 : decode cX7_nextStop 51 = .ok (.iconst (-1), 1) := by decide +kernel
theorem dX7_nextStop_52 : decode cX7_nextStop 52 = .ok (.ireturn, 1) := by decide +kernel
theorem dX7_type_0 : decode cX7_type 0 = .ok (.iload_n 1, 1) := by decide +kernel
theorem dX7_type_1 : decode cX7_type 1 = .ok (.iconst 0, 1) := by decide +kernel
theorem dX7_type_2 : decode cX7_type 2 = .ok (.bipush 127, 2) := by decide +kernel
theorem dX7_type_4 : decode cX7_type 4 = .ok (.invokestatic 138, 3) := by decide +kernel
theorem dX7_type_7 : decode cX7_type 7 = .ok (.ifCond .ne 8, 3) := by decide +kernel
theorem dX7_type_10 : decode cX7_type 10 = .ok (.aload_n 0, 1) := by decide +kernel
theorem dX7_type_11 : decode cX7_type 11 = .ok (.invokevirtual 331, 3) := by decide +kernel
theorem dX7_type_14 : decode cX7_type 14 = .ok (.ireturn, 1) := by decide +kernel
theorem dX7_type_15 : decode cX7_type 15 = .ok (.aload_n 0, 1) := by decide +kernel
theorem dX7_type_16 : decode cX7_type 16 = .ok (.getfield 127, 3) := by decide +kernel
theorem dX7_type_19 : decode cX7_type 19 = .ok (.bipush 120, 2) := by decide +kernel
theorem dX7_type_21 : decode cX7_type 21 = .ok (.if_icmp .ne 8, 3) := by decide +kernel
theorem dX7_type_24 : decode cX7_type 24 = .ok (.aload_n 0, 1) := by decide +kernel
theorem dX7_type_25 : decode cX7_type 25 = .ok (.invokevirtual 313, 3) := by decide +kernel
theorem dX7_type_28 : decode cX7_type 28 = .ok (.ireturn, 1) := by decide +kernel
theorem dX7_type_29 : decode cX7_type 29 = .ok (.aload_n 0, 1) := by decide +kernel
theorem dX7_type_30 : decode cX7_type 30 = .ok (.getfield 65, 3) := by decide +kernel
theorem dX7_type_33 : decode cX7_type 33 = .ok (.aload_n 0, 1) := by decide +kernel
theorem dX7_type_34 : decode cX7_type 34 = .ok (.getfield 127, 3) := by decide +kernel
theorem dX7_type_37 : decode cX7_type 37 = .ok (.iload_n 1, 1) := by decide +kernel
theorem dX7_type_38 : decode cX7_type 38 = .ok (.iastore, 1) := by decide +kernel
theorem dX7_type_39 : decode cX7_type 39 = .ok (.aload_n 0, 1) := by decide +kernel
theorem dX7_type_40 : decode cX7_type 40 = .ok (.dup, 1) := by decide +kernel
theorem dX7_type_41 : decode cX7_type 41 = .ok (.getfield 127, 3) := by decide +kernel
theorem dX7_type_44 : decode cX7_type 44 = .ok (.iconst 1, 1) := by decide +kernel
theorem dX7_type_45 : decode cX7_type 45 = .ok (.iadd, 1) := by decide +kernel
theorem dX7_type_46 : decode cX7_type 46 = .ok (.putfield 127, 3) := by decide +kernel
theorem dX7_type_49 : decode cX7_type 49 = .ok (.aload_n 0, 1) := by decide +kernel
theorem dX7_type_50 : decode cX7_type 50 = .ok (.getfield 127, 3) := by decide +kernel
theorem dX7_type_53 : decode cX7_type 53 = .ok (.ireturn, 1) := by decide +kernel
theorem dX7_clear_0 : decode cX7_clear 0 = .ok (.aload_n 0, 1) := by decide +kernel
theorem dX7_clear_1 : decode cX7_clear 1 = .ok (.getfield 127, 3) := by decide +kernel
theorem dX7_clear_4 : decode cX7_clear 4 = .ok (.istore_n 1, 1) := by decide +kernel
theorem dX7_clear_5 : decode cX7_clear 5 = .ok (.aload_n 0, 1) := by decide +kernel
theorem dX7_clear_6 : decode cX7_clear 6 = .ok (.iconst 0, 1) := by decide +kernel
theorem dX7_clear_7 : decode cX7_clear 7 = .ok (.putfield 127, 3) := by decide +kernel
theorem dX7_clear_10 : decode cX7_clear 10 = .ok (.iload_n 1, 1) := by decide +kernel
theorem dX7_clear_11 : decode cX7_clear 11 = .ok (.ireturn, 1) := by decide +kernel
theorem dX7_variable_0 : decode cX7_variable 0 = .ok (.iload_n 1, 1) := by decide +kernel
theorem dX7_variable_1 : decode cX7_variable 1 = .ok (.iconst 0, 1) := by decide +kernel
theorem dX7_variable_2 : decode cX7_variable 2 = .ok (.iconst 3, 1) := by decide +kernel
theorem dX7_variable_3 : decode cX7_variable 3 = .ok (.invokestatic 138, 3) := by decide +kernel
theorem dX7_variable_6 : decode cX7_variable 6 = .ok (.ifCond .eq 16, 3) := by decide +kernel
theorem dX7_variable_9 : decode cX7_variable 9 = .ok (.aload_n 0, 1) := by decide +kernel
theorem dX7_variable_10 : decode cX7_variable 10 = .ok (.getfield 127, 3) := by decide +kernel
theorem dX7_variable_13 : decode cX7_variable 13 = .ok (.bipush 12, 2) := by decide +kernel
theorem dX7_variable_15 : decode cX7_variable 15 = .ok (.if_icmp .gt 7, 3) := by decide +kernel
theorem dX7_variable_18 : decode cX7_variable 18 = .ok (.iconst 1, 1) := by decide +kernel
theorem dX7_variable_19 : decode cX7_variable 19 = .ok (.goto 4, 3) := by decide +kernel
theorem dX7_variable_22 : decode cX7_variable 22 = .ok (.iconst 0, 1) := by decide +kernel
theorem dX7_variable_23 : decode cX7_variable 23 = .ok (.istore_n 2, 1) := by decide +kernel
theorem dX7_variable_24 : decode cX7_variable 24 = .ok (.iconst 0, 1) := by decide +kernel
theorem dX7_variable_25 : decode cX7_variable 25 = .ok (.istore_n 3, 1) := by decide +kernel
theorem dX7_variable_26 : decode cX7_variable 26 = .ok (.iload_n 3, 1) := by decide +kernel
theorem dX7_variable_27 : decode cX7_variable 27 = .ok (.aload_n 0, 1) := by decide +kernel
theorem dX7_variable_28 : decode cX7_variable 28 = .ok (.getfield 127, 3) := by decide +kernel
theorem dX7_variable_31 : decode cX7_variable 31 = .ok (.if_icmp .ge 35, 3) := by decide +kernel
theorem dX7_variable_34 : decode cX7_variable 34 = .ok (.iload_n 2, 1) := by decide +kernel
theorem dX7_variable_35 : decode cX7_variable 35 = .ok (.ifCond .eq 23, 3) := by decide +kernel
theorem dX7_variable_38 : decode cX7_variable 38 = .ok (.aload_n 0, 1) := by decide +kernel
theorem dX7_variable_39 : decode cX7_variable 39 = .ok (.getfield 65, 3) := by decide +kernel
theorem dX7_variable_42 : decode cX7_variable 42 = .ok (.iload_n 3, 1) := by decide +kernel
theorem dX7_variable_43 : decode cX7_variable 43 = .ok (.iaload, 1) := by decide +kernel
theorem dX7_variable_44 : decode cX7_variable 44 = .ok (.bipush 32, 2) := by decide +kernel
theorem dX7_variable_46 : decode cX7_variable 46 = .ok (.bipush 126, 2) := by decide +kernel
theorem dX7_variable_48 : decode cX7_variable 48 = .ok (.invokestatic 138, 3) := by decide +kernel
theorem dX7_variable_51 : decode cX7_variable 51 = .ok (.ifCond .eq 7, 3) := by decide +kernel
theorem dX7_variable_54 : decode cX7_variable 54 = .ok (.iconst 1, 1) := by decide +kernel
theorem dX7_variable_55 : decode cX7_variable 55 = .ok (.goto 4, 3) := by decide +kernel
theorem dX7_variable_58 : decode cX7_variable 58 = .ok (.iconst 0, 1) := by decide +kernel
theorem dX7_variable_59 : decode cX7_variable 59 = .ok (.istore_n 2, 1) := by decide +kernel
theorem dX7_variable_60 : decode cX7_variable 60 = .ok (.iinc 3 1, 3) := by decide +kernel
theorem dX7_variable_63 : decode cX7_variable 63 = .ok (.goto (-37), 3) := by decide +kernel
theorem dX7_variable_66 : decode cX7_variable 66 = .ok (.iload_n 2, 1) := by decide +kernel
theorem dX7_variable_67 : decode cX7_variable 67 = .ok (.ifCond .ne 8, 3) := by decide +kernel
theorem dX7_variable_70 : decode cX7_variable 70 = .ok (.aload_n 0, 1) := by decide +kernel
theorem dX7_variable_71 : decode cX7_variable 71 = .ok (.invokevirtual 331, 3) := by decide +kernel
theorem dX7_variable_74 : decode cX7_variable 74 = .ok (.ireturn, 1) := by decide +kernel
theorem dX7_variable_75 : decode cX7_variable 75 = .ok (.aload_n 0, 1) := by decide +kernel
theorem dX7_variable_76 : decode cX7_variable 76 = .ok (.bipush 8, 2) := by decide +kernel
theorem dX7_variable_78 : decode cX7_variable 78 = .ok (.invokevirtual 334, 3) := by decide +kernel
theorem dX7_variable_81 : decode cX7_variable 81 = .ok (.aload_n 0, 1) := by decide +kernel
theorem dX7_variable_82 : decode cX7_variable 82 = .ok (.getfield 16, 3) := by decide +kernel
theorem dX7_variable_85 : decode cX7_variable 85 = .ok (.bipush 13, 2) := by decide +kernel
theorem dX7_variable_87 : decode cX7_variable 87 = .ok (.iload_n 1, 1) := by decide +kernel
theorem dX7_variable_88 : decode cX7_variable 88 = .ok (.imul, 1) := by decide +kernel
theorem dX7_variable_89 : decode cX7_variable 89 = .ok (.aload_n 0, 1) := by decide +kernel
theorem dX7_variable_90 : decode cX7_variable 90 = .ok (.getfield 127, 3) := by decide +kernel
theorem dX7_variable_93 : decode cX7_variable 93 = .ok (.iastore, 1) := by decide +kernel
theorem dX7_variable_94 : decode cX7_variable 94 = .ok (.iconst 0, 1) := by decide +kernel
theorem dX7_variable_95 : decode cX7_variable 95 = .ok (.istore_n 3, 1) := by decide +kernel
theorem dX7_variable_96 : decode cX7_variable 96 = .ok (.iload_n 3, 1) := by decide +kernel
theorem dX7_variable_97 : decode cX7_variable 97 = .ok (.aload_n 0, 1) := by decide +kernel
theorem dX7_variable_98 : decode cX7_variable 98 = .ok (.getfield 127, 3) := by decide +kernel
theorem dX7_variable_101 : decode cX7_variable 101 = .ok (.if_icmp .ge 28, 3) := by decide +kernel
theorem dX7_variable_104 : decode cX7_variable 104 = .ok (.aload_n 0, 1) := by decide +kernel
theorem dX7_variable_105 : decode cX7_variable 105 = .ok (.getfield 16, 3) := by decide +kernel
theorem dX7_variable_108 : decode cX7_variable 108 = .ok (.bipush 13, 2) := by decide +kernel
theorem dX7_variable_110 : decode cX7_variable 110 = .ok (.iload_n 1, 1) := by decide +kernel
theorem dX7_variable_111 : decode cX7_variable 111 = .ok (.imul, 1) := by decide +kernel
theorem dX7_variable_112 : decode cX7_variable 112 = .ok (.iconst 1, 1) := by decide +kernel
theorem dX7_variable_113 : decode cX7_variable 113 = .ok (.iadd, 1) := by decide +kernel
theorem dX7_variable_114 : decode cX7_variable 114 = .ok (.iload_n 3, 1) := by decide +kernel
theorem dX7_variable_115 : decode cX7_variable 115 = .ok (.iadd, 1) := by decide +kernel
theorem dX7_variable_116 : decode cX7_variable 116 = .ok (.aload_n 0, 1) := by decide +kernel
theorem dX7_variable_117 : decode cX7_variable 117 = .ok (.getfield 65, 3) := by decide +kernel
theorem dX7_variable_120 : decode cX7_variable 120 = .ok (.iload_n 3, 1) := by decide +kernel
theorem dX7_variable_121 : decode cX7_variable 121 = .ok (.iaload, 1) := by decide +kernel
theorem dX7_variable_122 : decode cX7_variable 122 = .ok (.iastore, 1) := by decide +kernel
theorem dX7_variable_123 : decode cX7_variable 123 = .ok (.iinc 3 1, 3) := by decide +kernel
theorem dX7_variable_126 : decode cX7_variable 126 = .ok (.goto (-30), 3) := by decide +kernel
theorem dX7_variable_129 : decode cX7_variable 129 = .ok (.aload_n 0, 1) := by decide +kernel
theorem dX7_variable_130 : decode cX7_variable 130 = .ok (.invokevirtual 316, 3) := by decide +kernel
theorem dX7_variable_133 : decode cX7_variable 133 = .ok (.aload_n 0, 1) := by decide +kernel
theorem dX7_variable_134 : decode cX7_variable 134 = .ok (.getfield 127, 3) := by decide +kernel
theorem dX7_variable_137 : decode cX7_variable 137 = .ok (.ireturn, 1) := by decide +kernel
theorem dX7_begun_0 : decode cX7_begun 0 = .ok (.aload_n 0, 1) := by decide +kernel
theorem dX7_begun_1 : decode cX7_begun 1 = .ok (.iload_n 1, 1) := by decide +kernel
theorem dX7_begun_2 : decode cX7_begun 2 = .ok (.invokevirtual 337, 3) := by decide +kernel
theorem dX7_begun_5 : decode cX7_begun 5 = .ok (.iconst 0, 1) := by decide +kernel
theorem dX7_begun_6 : decode cX7_begun 6 = .ok (.istore_n 2, 1) := by decide +kernel
theorem dX7_begun_7 : decode cX7_begun 7 = .ok (.iload_n 2, 1) := by decide +kernel
theorem dX7_begun_8 : decode cX7_begun 8 = .ok (.bipush 10, 2) := by decide +kernel
theorem dX7_begun_10 : decode cX7_begun 10 = .ok (.if_icmp .ge 45, 3) := by decide +kernel
theorem dX7_begun_13 : decode cX7_begun 13 = .ok (.aload_n 0, 1) := by decide +kernel
theorem dX7_begun_14 : decode cX7_begun 14 = .ok (.getfield 28, 3) := by decide +kernel
theorem dX7_begun_17 : decode cX7_begun 17 = .ok (.bipush 10, 2) := by decide +kernel
theorem dX7_begun_19 : decode cX7_begun 19 = .ok (.iload_n 1, 1) := by decide +kernel
theorem dX7_begun_20 : decode cX7_begun 20 = .ok (.imul, 1) := by decide +kernel
theorem dX7_begun_21 : decode cX7_begun 21 = .ok (.iload_n 2, 1) := by decide +kernel
theorem dX7_begun_22 : decode cX7_begun 22 = .ok (.iadd, 1) := by decide +kernel
theorem dX7_begun_23 : decode cX7_begun 23 = .ok (.iconst 0, 1) := by decide +kernel
theorem dX7_begun_24 : decode cX7_begun 24 = .ok (.iastore, 1) := by decide +kernel
theorem dX7_begun_25 : decode cX7_begun 25 = .ok (.aload_n 0, 1) := by decide +kernel
theorem dX7_begun_26 : decode cX7_begun 26 = .ok (.getfield 31, 3) := by decide +kernel
theorem dX7_begun_29 : decode cX7_begun 29 = .ok (.bipush 10, 2) := by decide +kernel
theorem dX7_begun_31 : decode cX7_begun 31 = .ok (.iload_n 1, 1) := by decide +kernel
theorem dX7_begun_32 : decode cX7_begun 32 = .ok (.imul, 1) := by decide +kernel
theorem dX7_begun_33 : decode cX7_begun 33 = .ok (.iload_n 2, 1) := by decide +kernel
theorem dX7_begun_34 : decode cX7_begun 34 = .ok (.iadd, 1) := by decide +kernel
theorem dX7_begun_35 : decode cX7_begun 35 = .ok (.iconst 0, 1) := by decide +kernel
theorem dX7_begun_36 : decode cX7_begun 36 = .ok (.iastore, 1) := by decide +kernel
theorem dX7_begun_37 : decode cX7_begun 37 = .ok (.aload_n 0, 1) := by decide +kernel
theorem dX7_begun_38 : decode cX7_begun 38 = .ok (.getfield 34, 3) := by decide +kernel
theorem dX7_begun_41 : decode cX7_begun 41 = .ok (.bipush 10, 2) := by decide +kernel
theorem dX7_begun_43 : decode cX7_begun 43 = .ok (.iload_n 1, 1) := by decide +kernel
theorem dX7_begun_44 : decode cX7_begun 44 = .ok (.imul, 1) := by decide +kernel
theorem dX7_begun_45 : decode cX7_begun 45 = .ok (.iload_n 2, 1) := by decide +kernel
theorem dX7_begun_46 : decode cX7_begun 46 = .ok (.iadd, 1) := by decide +kernel
theorem dX7_begun_47 : decode cX7_begun 47 = .ok (.iconst 0, 1) := by decide +kernel
theorem dX7_begun_48 : decode cX7_begun 48 = .ok (.iastore, 1) := by decide +kernel
theorem dX7_begun_49 : decode cX7_begun 49 = .ok (.iinc 2 1, 3) := by decide +kernel
theorem dX7_begun_52 : decode cX7_begun 52 = .ok (.goto (-45), 3) := by decide +kernel
theorem dX7_begun_55 : decode cX7_begun 55 = .ok (.aload_n 0, 1) := by decide +kernel
theorem dX7_begun_56 : decode cX7_begun 56 = .ok (.getfield 37, 3) := by decide +kernel
theorem dX7_begun_59 : decode cX7_begun 59 = .ok (.iload_n 1, 1) := by decide +kernel
theorem dX7_begun_60 : decode cX7_begun 60 = .ok (.iconst 0, 1) := by decide +kernel
theorem dX7_begun_61 : decode cX7_begun 61 = .ok (.iastore, 1) := by decide +kernel
theorem dX7_begun_62 : decode cX7_begun 62 = .ok (.iconst 0, 1) := by decide +kernel
theorem dX7_begun_63 : decode cX7_begun 63 = .ok (.istore_n 2, 1) := by decide +kernel
theorem dX7_begun_64 : decode cX7_begun 64 = .ok (.iload_n 2, 1) := by decide +kernel
theorem dX7_begun_65 : decode cX7_begun 65 = .ok (.bipush 52, 2) := by decide +kernel
theorem dX7_begun_67 : decode cX7_begun 67 = .ok (.if_icmp .ge 26, 3) := by decide +kernel
theorem dX7_begun_70 : decode cX7_begun 70 = .ok (.aload_n 0, 1) := by decide +kernel
theorem dX7_begun_71 : decode cX7_begun 71 = .ok (.getfield 50, 3) := by decide +kernel
theorem dX7_begun_74 : decode cX7_begun 74 = .ok (.bipush 52, 2) := by decide +kernel
theorem dX7_begun_76 : decode cX7_begun 76 = .ok (.iload_n 1, 1) := by decide +kernel
theorem dX7_begun_77 : decode cX7_begun 77 = .ok (.imul, 1) := by decide +kernel
theorem dX7_begun_78 : decode cX7_begun 78 = .ok (.iload_n 2, 1) := by decide +kernel
theorem dX7_begun_79 : decode cX7_begun 79 = .ok (.iadd, 1) := by decide +kernel
theorem dX7_begun_80 : decode cX7_begun 80 = .ok (.aload_n 0, 1) := by decide +kernel
theorem dX7_begun_81 : decode cX7_begun 81 = .ok (.getfield 16, 3) := by decide +kernel
theorem dX7_begun_84 : decode cX7_begun 84 = .ok (.iload_n 2, 1) := by decide +kernel
theorem dX7_begun_85 : decode cX7_begun 85 = .ok (.iaload, 1) := by decide +kernel
theorem dX7_begun_86 : decode cX7_begun 86 = .ok (.iastore, 1) := by decide +kernel
theorem dX7_begun_87 : decode cX7_begun 87 = .ok (.iinc 2 1, 3) := by decide +kernel
theorem dX7_begun_90 : decode cX7_begun 90 = .ok (.goto (-26), 3) := by decide +kernel
theorem dX7_begun_93 : decode cX7_begun 93 = .ok (.aload_n 0, 1) := by decide +kernel
theorem dX7_begun_94 : decode cX7_begun 94 = .ok (.getfield 44, 3) := by decide +kernel
theorem dX7_begun_97 : decode cX7_begun 97 = .ok (.iload_n 1, 1) := by decide +kernel
theorem dX7_begun_98 : decode cX7_begun 98 = .ok (.aload_n 0, 1) := by decide +kernel
theorem dX7_begun_99 : decode cX7_begun 99 = .ok (.iload_n 1, 1) := by decide +kernel
theorem dX7_begun_100 : decode cX7_begun 100 = .ok (.iconst 0, 1) := by decide +kernel
theorem dX7_begun_101 : decode cX7_begun 101 = .ok (.iconst 1, 1) := by decide +kernel
theorem dX7_begun_102 : decode cX7_begun 102 = .ok (.invokevirtual 340, 3) := by decide +kernel
theorem dX7_begun_105 : decode cX7_begun 105 = .ok (.iastore, 1) := by decide +kernel
theorem dX7_begun_106 : decode cX7_begun 106 = .ok (.aload_n 0, 1) := by decide +kernel
theorem dX7_begun_107 : decode cX7_begun 107 = .ok (.getfield 47, 3) := by decide +kernel
theorem dX7_begun_110 : decode cX7_begun 110 = .ok (.iload_n 1, 1) := by decide +kernel
theorem dX7_begun_111 : decode cX7_begun 111 = .ok (.iconst 1, 1) := by decide +kernel
theorem dX7_begun_112 : decode cX7_begun 112 = .ok (.iastore, 1) := by decide +kernel
theorem dX7_begun_113 : decode cX7_begun 113 = .ok (.aload_n 0, 1) := by decide +kernel
theorem dX7_begun_114 : decode cX7_begun 114 = .ok (.iload_n 1, 1) := by decide +kernel
theorem dX7_begun_115 : decode cX7_begun 115 = .ok (.ifCond .ne 10, 3) := by decide +kernel
theorem dX7_begun_118 : decode cX7_begun 118 = .ok (.aload_n 0, 1) := by decide +kernel
theorem dX7_begun_119 : decode cX7_begun 119 = .ok (.getfield 282, 3) := by decide +kernel
theorem dX7_begun_122 : decode cX7_begun 122 = .ok (.goto 7, 3) := by decide +kernel
theorem dX7_begun_125 : decode cX7_begun 125 = .ok (.aload_n 0, 1) := by decide +kernel
theorem dX7_begun_126 : decode cX7_begun 126 = .ok (.getfield 285, 3) := by decide +kernel
theorem dX7_begun_129 : decode cX7_begun 129 = .ok (.putfield 285, 3) := by decide +kernel
theorem dX7_begun_132 : decode cX7_begun 132 = .ok (.aload_n 0, 1) := by decide +kernel
theorem dX7_begun_133 : decode cX7_begun 133 = .ok (.dup, 1) := by decide +kernel
theorem dX7_begun_134 : decode cX7_begun 134 = .ok (.getfield 257, 3) := by decide +kernel
theorem dX7_begun_137 : decode cX7_begun 137 = .ok (.iconst 1, 1) := by decide +kernel
theorem dX7_begun_138 : decode cX7_begun 138 = .ok (.iadd, 1) := by decide +kernel
theorem dX7_begun_139 : decode cX7_begun 139 = .ok (.putfield 257, 3) := by decide +kernel
theorem dX7_begun_142 : decode cX7_begun 142 = .ok (.aload_n 0, 1) := by decide +kernel
theorem dX7_begun_143 : decode cX7_begun 143 = .ok (.invokevirtual 343, 3) := by decide +kernel
theorem dX7_begun_146 : decode cX7_begun 146 = .ok (.return_, 1) := by decide +kernel
theorem dX7_begins_0 : decode cX7_begins 0 = .ok (.aload_n 0, 1) := by decide +kernel
theorem dX7_begins_1 : decode cX7_begins 1 = .ok (.bipush 8, 2) := by decide +kernel
theorem dX7_begins_3 : decode cX7_begins 3 = .ok (.invokevirtual 334, 3) := by decide +kernel
theorem dX7_begins_6 : decode cX7_begins 6 = .ok (.aload_n 0, 1) := by decide +kernel
theorem dX7_begins_7 : decode cX7_begins 7 = .ok (.aload_n 0, 1) := by decide +kernel
theorem dX7_begins_8 : decode cX7_begins 8 = .ok (.getfield 257, 3) := by decide +kernel
theorem dX7_begins_11 : decode cX7_begins 11 = .ok (.invokevirtual 346, 3) := by decide +kernel
theorem dX7_begins_14 : decode cX7_begins 14 = .ok (.ifCond .ne 11, 3) := by decide +kernel
theorem dX7_begins_17 : decode cX7_begins 17 = .ok (.bipush (-10), 2) := by decide +kernel
theorem dX7_begins_19 : decode cX7_begins 19 = .ok (.aload_n 0, 1) := by decide +kernel
theorem dX7_begins_20 : decode cX7_begins 20 = .ok (.getfield 123, 3) := by decide +kernel
theorem dX7_begins_23 : decode cX7_begins 23 = .ok (.isub, 1) := by decide +kernel
theorem dX7_begins_24 : decode cX7_begins 24 = .ok (.ireturn, 1) := by decide +kernel
theorem dX7_begins_25 : decode cX7_begins 25 = .ok (.aload_n 0, 1) := by decide +kernel
theorem dX7_begins_26 : decode cX7_begins 26 = .ok (.getfield 257, 3) := by decide +kernel
theorem dX7_begins_29 : decode cX7_begins 29 = .ok (.iconst 3, 1) := by decide +kernel
theorem dX7_begins_30 : decode cX7_begins 30 = .ok (.if_icmp .ne 8, 3) := by decide +kernel
theorem dX7_begins_33 : decode cX7_begins 33 = .ok (.aload_n 0, 1) := by decide +kernel
theorem dX7_begins_34 : decode cX7_begins 34 = .ok (.invokevirtual 300, 3) := by decide +kernel
theorem dX7_begins_37 : decode cX7_begins 37 = .ok (.ireturn, 1) := by decide +kernel
theorem dX7_begins_38 : decode cX7_begins 38 = .ok (.aload_n 0, 1) := by decide +kernel
theorem dX7_begins_39 : decode cX7_begins 39 = .ok (.getfield 257, 3) := by decide +kernel
theorem dX7_begins_42 : decode cX7_begins 42 = .ok (.istore_n 1, 1) := by decide +kernel
theorem dX7_begins_43 : decode cX7_begins 43 = .ok (.aload_n 0, 1) := by decide +kernel
theorem dX7_begins_44 : decode cX7_begins 44 = .ok (.iload_n 1, 1) := by decide +kernel
theorem dX7_begins_45 : decode cX7_begins 45 = .ok (.invokevirtual 349, 3) := by decide +kernel
theorem dX7_begins_48 : decode cX7_begins 48 = .ok (.aload_n 0, 1) := by decide +kernel
theorem dX7_begins_49 : decode cX7_begins 49 = .ok (.invokevirtual 309, 3) := by decide +kernel
theorem dX7_begins_52 : decode cX7_begins 52 = .ok (.ifCond .eq 14, 3) := by decide +kernel
theorem dX7_begins_55 : decode cX7_begins 55 = .ok (.aload_n 0, 1) := by decide +kernel
theorem dX7_begins_56 : decode cX7_begins 56 = .ok (.bipush 8, 2) := by decide +kernel
theorem dX7_begins_58 : decode cX7_begins 58 = .ok (.invokevirtual 303, 3) := by decide +kernel
theorem dX7_begins_61 : decode cX7_begins 61 = .ok (.aload_n 0, 1) := by decide +kernel
theorem dX7_begins_62 : decode cX7_begins 62 = .ok (.invokevirtual 313, 3) := by decide +kernel
theorem dX7_begins_65 : decode cX7_begins 65 = .ok (.ireturn, 1) := by decide +kernel
theorem dX7_begins_66 : decode cX7_begins 66 = .ok (.aload_n 0, 1) := by decide +kernel
theorem dX7_begins_67 : decode cX7_begins 67 = .ok (.getfield 44, 3) := by decide +kernel
theorem dX7_begins_70 : decode cX7_begins 70 = .ok (.iload_n 1, 1) := by decide +kernel
theorem dX7_begins_71 : decode cX7_begins 71 = .ok (.iaload, 1) := by decide +kernel
theorem dX7_begins_72 : decode cX7_begins 72 = .ok (.istore_n 2, 1) := by decide +kernel
theorem dX7_begins_73 : decode cX7_begins 73 = .ok (.iload_n 2, 1) := by decide +kernel
theorem dX7_begins_74 : decode cX7_begins 74 = .ok (.iconst (-1), 1) := by decide +kernel
theorem dX7_begins_75 : decode cX7_begins 75 = .ok (.if_icmp .ne 10, 3) := by decide +kernel
theorem dX7_begins_78 : decode cX7_begins 78 = .ok (.aload_n 0, 1) := by decide +kernel
theorem dX7_begins_79 : decode cX7_begins 79 = .ok (.invokevirtual 352, 3) := by decide +kernel
theorem dX7_begins_82 : decode cX7_begins 82 = .ok (.bipush (-5), 2) := by decide +kernel
theorem dX7_begins_84 : decode cX7_begins 84 = .ok (.istore_n 2, 1) := by decide +kernel
theorem dX7_begins_85 : decode cX7_begins 85 = .ok (.aload_n 0, 1) := by decide +kernel
theorem dX7_begins_86 : decode cX7_begins 86 = .ok (.invokevirtual 316, 3) := by decide +kernel
theorem dX7_begins_89 : decode cX7_begins 89 = .ok (.iload_n 2, 1) := by decide +kernel
theorem dX7_begins_90 : decode cX7_begins 90 = .ok (.ireturn, 1) := by decide +kernel
theorem dX7_key_0 : decode cX7_key 0 = .ok (.iload_n 1, 1) := by decide +kernel
theorem dX7_key_1 : decode cX7_key 1 = .ok (.bipush 32, 2) := by decide +kernel
theorem dX7_key_3 : decode cX7_key 3 = .ok (.bipush 126, 2) := by decide +kernel
theorem dX7_key_5 : decode cX7_key 5 = .ok (.invokestatic 138, 3) := by decide +kernel
theorem dX7_key_8 : decode cX7_key 8 = .ok (.ifCond .ne 8, 3) := by decide +kernel
theorem dX7_key_11 : decode cX7_key 11 = .ok (.aload_n 0, 1) := by decide +kernel
theorem dX7_key_12 : decode cX7_key 12 = .ok (.invokevirtual 331, 3) := by decide +kernel
theorem dX7_key_15 : decode cX7_key 15 = .ok (.ireturn, 1) := by decide +kernel
theorem dX7_key_16 : decode cX7_key 16 = .ok (.aload_n 0, 1) := by decide +kernel
theorem dX7_key_17 : decode cX7_key 17 = .ok (.getfield 257, 3) := by decide +kernel
theorem dX7_key_20 : decode cX7_key 20 = .ok (.ifCond .ne 18, 3) := by decide +kernel
theorem dX7_key_23 : decode cX7_key 23 = .ok (.aload_n 0, 1) := by decide +kernel
theorem dX7_key_24 : decode cX7_key 24 = .ok (.getfield 279, 3) := by decide +kernel
theorem dX7_key_27 : decode cX7_key 27 = .ok (.sipush 240, 3) := by decide +kernel
theorem dX7_key_30 : decode cX7_key 30 = .ok (.if_icmp .ne 8, 3) := by decide +kernel
theorem dX7_key_33 : decode cX7_key 33 = .ok (.aload_n 0, 1) := by decide +kernel
theorem dX7_key_34 : decode cX7_key 34 = .ok (.invokevirtual 313, 3) := by decide +kernel
theorem dX7_key_37 : decode cX7_key 37 = .ok (.ireturn, 1) := by decide +kernel
theorem dX7_key_38 : decode cX7_key 38 = .ok (.aload_n 0, 1) := by decide +kernel
theorem dX7_key_39 : decode cX7_key 39 = .ok (.bipush 8, 2) := by decide +kernel
theorem dX7_key_41 : decode cX7_key 41 = .ok (.invokevirtual 334, 3) := by decide +kernel
theorem dX7_key_44 : decode cX7_key 44 = .ok (.aload_n 0, 1) := by decide +kernel
theorem dX7_key_45 : decode cX7_key 45 = .ok (.getfield 257, 3) := by decide +kernel
theorem dX7_key_48 : decode cX7_key 48 = .ok (.ifCond .le 9, 3) := by decide +kernel
theorem dX7_key_51 : decode cX7_key 51 = .ok (.aload_n 0, 1) := by decide +kernel
theorem dX7_key_52 : decode cX7_key 52 = .ok (.iload_n 1, 1) := by decide +kernel
theorem dX7_key_53 : decode cX7_key 53 = .ok (.invokevirtual 358, 3) := by decide +kernel
theorem dX7_key_56 : decode cX7_key 56 = .ok (.ireturn, 1) := by decide +kernel
theorem dX7_key_57 : decode cX7_key 57 = .ok (.aload_n 0, 1) := by decide +kernel
theorem dX7_key_58 : decode cX7_key 58 = .ok (.aload_n 0, 1) := by decide +kernel
theorem dX7_key_59 : decode cX7_key 59 = .ok (.getfield 282, 3) := by decide +kernel
theorem dX7_key_62 : decode cX7_key 62 = .ok (.iload_n 1, 1) := by decide +kernel
theorem dX7_key_63 : decode cX7_key 63 = .ok (.invokevirtual 325, 3) := by decide +kernel
theorem dX7_key_66 : decode cX7_key 66 = .ok (.aload_n 0, 1) := by decide +kernel
theorem dX7_key_67 : decode cX7_key 67 = .ok (.dup, 1) := by decide +kernel
theorem dX7_key_68 : decode cX7_key 68 = .ok (.getfield 282, 3) := by decide +kernel
theorem dX7_key_71 : decode cX7_key 71 = .ok (.iconst 1, 1) := by decide +kernel
theorem dX7_key_72 : decode cX7_key 72 = .ok (.iadd, 1) := by decide +kernel
theorem dX7_key_73 : decode cX7_key 73 = .ok (.putfield 282, 3) := by decide +kernel
theorem dX7_key_76 : decode cX7_key 76 = .ok (.aload_n 0, 1) := by decide +kernel
theorem dX7_key_77 : decode cX7_key 77 = .ok (.invokevirtual 316, 3) := by decide +kernel
theorem dX7_key_80 : decode cX7_key 80 = .ok (.aload_n 0, 1) := by decide +kernel
theorem dX7_key_81 : decode cX7_key 81 = .ok (.getfield 279, 3) := by decide +kernel
theorem dX7_key_84 : decode cX7_key 84 = .ok (.ireturn, 1) := by decide +kernel
theorem dX7_rubs_0 : decode cX7_rubs 0 = .ok (.aload_n 0, 1) := by decide +kernel
theorem dX7_rubs_1 : decode cX7_rubs 1 = .ok (.getfield 257, 3) := by decide +kernel
theorem dX7_rubs_4 : decode cX7_rubs 4 = .ok (.ifCond .le 8, 3) := by decide +kernel
theorem dX7_rubs_7 : decode cX7_rubs 7 = .ok (.aload_n 0, 1) := by decide +kernel
theorem dX7_rubs_8 : decode cX7_rubs 8 = .ok (.invokevirtual 361, 3) := by decide +kernel
theorem dX7_rubs_11 : decode cX7_rubs 11 = .ok (.ireturn, 1) := by decide +kernel
theorem dX7_rubs_12 : decode cX7_rubs 12 = .ok (.aload_n 0, 1) := by decide +kernel
theorem dX7_rubs_13 : decode cX7_rubs 13 = .ok (.getfield 282, 3) := by decide +kernel
theorem dX7_rubs_16 : decode cX7_rubs 16 = .ok (.ifCond .ne 8, 3) := by decide +kernel
theorem dX7_rubs_19 : decode cX7_rubs 19 = .ok (.aload_n 0, 1) := by decide +kernel
theorem dX7_rubs_20 : decode cX7_rubs 20 = .ok (.invokevirtual 300, 3) := by decide +kernel
theorem dX7_rubs_23 : decode cX7_rubs 23 = .ok (.ireturn, 1) := by decide +kernel
theorem dX7_rubs_24 : decode cX7_rubs 24 = .ok (.aload_n 0, 1) := by decide +kernel
theorem dX7_rubs_25 : decode cX7_rubs 25 = .ok (.bipush 8, 2) := by decide +kernel
theorem dX7_rubs_27 : decode cX7_rubs 27 = .ok (.invokevirtual 334, 3) := by decide +kernel
theorem dX7_rubs_30 : decode cX7_rubs 30 = .ok (.aload_n 0, 1) := by decide +kernel
theorem dX7_rubs_31 : decode cX7_rubs 31 = .ok (.aload_n 0, 1) := by decide +kernel
theorem dX7_rubs_32 : decode cX7_rubs 32 = .ok (.getfield 282, 3) := by decide +kernel
theorem dX7_rubs_35 : decode cX7_rubs 35 = .ok (.iconst 1, 1) := by decide +kernel
theorem dX7_rubs_36 : decode cX7_rubs 36 = .ok (.isub, 1) := by decide +kernel
theorem dX7_rubs_37 : decode cX7_rubs 37 = .ok (.iconst 1, 1) := by decide +kernel
theorem dX7_rubs_38 : decode cX7_rubs 38 = .ok (.invokevirtual 364, 3) := by decide +kernel
theorem dX7_rubs_41 : decode cX7_rubs 41 = .ok (.aload_n 0, 1) := by decide +kernel
theorem dX7_rubs_42 : decode cX7_rubs 42 = .ok (.dup, 1) := by decide +kernel
theorem dX7_rubs_43 : decode cX7_rubs 43 = .ok (.getfield 282, 3) := by decide +kernel
theorem dX7_rubs_46 : decode cX7_rubs 46 = .ok (.iconst 1, 1) := by decide +kernel
theorem dX7_rubs_47 : decode cX7_rubs 47 = .ok (.isub, 1) := by decide +kernel
theorem dX7_rubs_48 : decode cX7_rubs 48 = .ok (.putfield 282, 3) := by decide +kernel
theorem dX7_rubs_51 : decode cX7_rubs 51 = .ok (.aload_n 0, 1) := by decide +kernel
theorem dX7_rubs_52 : decode cX7_rubs 52 = .ok (.invokevirtual 316, 3) := by decide +kernel
theorem dX7_rubs_55 : decode cX7_rubs 55 = .ok (.aload_n 0, 1) := by decide +kernel
theorem dX7_rubs_56 : decode cX7_rubs 56 = .ok (.getfield 279, 3) := by decide +kernel
theorem dX7_rubs_59 : decode cX7_rubs 59 = .ok (.ireturn, 1) := by decide +kernel
theorem dX7_nexts_0 : decode cX7_nexts 0 = .ok (.aload_n 0, 1) := by decide +kernel
theorem dX7_nexts_1 : decode cX7_nexts 1 = .ok (.getfield 257, 3) := by decide +kernel
theorem dX7_nexts_4 : decode cX7_nexts 4 = .ok (.ifCond .ne 8, 3) := by decide +kernel
theorem dX7_nexts_7 : decode cX7_nexts 7 = .ok (.aload_n 0, 1) := by decide +kernel
theorem dX7_nexts_8 : decode cX7_nexts 8 = .ok (.invokevirtual 300, 3) := by decide +kernel
theorem dX7_nexts_11 : decode cX7_nexts 11 = .ok (.ireturn, 1) := by decide +kernel
theorem dX7_nexts_12 : decode cX7_nexts 12 = .ok (.aload_n 0, 1) := by decide +kernel
theorem dX7_nexts_13 : decode cX7_nexts 13 = .ok (.bipush 8, 2) := by decide +kernel
theorem dX7_nexts_15 : decode cX7_nexts 15 = .ok (.invokevirtual 334, 3) := by decide +kernel
theorem dX7_nexts_18 : decode cX7_nexts 18 = .ok (.aload_n 0, 1) := by decide +kernel
theorem dX7_nexts_19 : decode cX7_nexts 19 = .ok (.aload_n 0, 1) := by decide +kernel
theorem dX7_nexts_20 : decode cX7_nexts 20 = .ok (.getfield 257, 3) := by decide +kernel
theorem dX7_nexts_23 : decode cX7_nexts 23 = .ok (.iconst 1, 1) := by decide +kernel
theorem dX7_nexts_24 : decode cX7_nexts 24 = .ok (.isub, 1) := by decide +kernel
theorem dX7_nexts_25 : decode cX7_nexts 25 = .ok (.aload_n 0, 1) := by decide +kernel
theorem dX7_nexts_26 : decode cX7_nexts 26 = .ok (.getfield 44, 3) := by decide +kernel
theorem dX7_nexts_29 : decode cX7_nexts 29 = .ok (.aload_n 0, 1) := by decide +kernel
theorem dX7_nexts_30 : decode cX7_nexts 30 = .ok (.getfield 257, 3) := by decide +kernel
theorem dX7_nexts_33 : decode cX7_nexts 33 = .ok (.iconst 1, 1) := by decide +kernel
theorem dX7_nexts_34 : decode cX7_nexts 34 = .ok (.isub, 1) := by decide +kernel
theorem dX7_nexts_35 : decode cX7_nexts 35 = .ok (.iaload, 1) := by decide +kernel
theorem dX7_nexts_36 : decode cX7_nexts 36 = .ok (.iconst 1, 1) := by decide +kernel
theorem dX7_nexts_37 : decode cX7_nexts 37 = .ok (.invokevirtual 340, 3) := by decide +kernel
theorem dX7_nexts_40 : decode cX7_nexts 40 = .ok (.istore_n 1, 1) := by decide +kernel
theorem dX7_nexts_41 : decode cX7_nexts 41 = .ok (.iload_n 1, 1) := by decide +kernel
theorem dX7_nexts_42 : decode cX7_nexts 42 = .ok (.iconst (-1), 1) := by decide +kernel
theorem dX7_nexts_43 : decode cX7_nexts 43 = .ok (.if_icmp .ne 10, 3) := by decide +kernel
theorem dX7_nexts_46 : decode cX7_nexts 46 = .ok (.aload_n 0, 1) := by decide +kernel
theorem dX7_nexts_47 : decode cX7_nexts 47 = .ok (.invokevirtual 352, 3) := by decide +kernel
theorem dX7_nexts_50 : decode cX7_nexts 50 = .ok (.goto 8, 3) := by decide +kernel
theorem dX7_nexts_53 : decode cX7_nexts 53 = .ok (.aload_n 0, 1) := by decide +kernel
theorem dX7_nexts_54 : decode cX7_nexts 54 = .ok (.iload_n 1, 1) := by decide +kernel
theorem dX7_nexts_55 : decode cX7_nexts 55 = .ok (.invokevirtual 367, 3) := by decide +kernel
theorem dX7_nexts_58 : decode cX7_nexts 58 = .ok (.aload_n 0, 1) := by decide +kernel
theorem dX7_nexts_59 : decode cX7_nexts 59 = .ok (.invokevirtual 316, 3) := by decide +kernel
theorem dX7_nexts_62 : decode cX7_nexts 62 = .ok (.iload_n 1, 1) := by decide +kernel
theorem dX7_nexts_63 : decode cX7_nexts 63 = .ok (.iconst (-1), 1) := by decide +kernel
theorem dX7_nexts_64 : decode cX7_nexts 64 = .ok (.if_icmp .ne 8, 3) := by decide +kernel
theorem dX7_nexts_67 : decode cX7_nexts 67 = .ok (.bipush (-5), 2) := by decide +kernel
theorem dX7_nexts_69 : decode cX7_nexts 69 = .ok (.goto 4, 3) := by decide +kernel
theorem dX7_nexts_72 : decode cX7_nexts 72 = .ok (.iload_n 1, 1) := by decide +kernel
theorem dX7_nexts_73 : decode cX7_nexts 73 = .ok (.ireturn, 1) := by decide +kernel
theorem dX7_prevs_0 : decode cX7_prevs 0 = .ok (.aload_n 0, 1) := by decide +kernel
theorem dX7_prevs_1 : decode cX7_prevs 1 = .ok (.getfield 257, 3) := by decide +kernel
theorem dX7_prevs_4 : decode cX7_prevs 4 = .ok (.ifCond .ne 7, 3) := by decide +kernel
theorem dX7_prevs_7 : decode cX7_prevs 7 = .ok (.iconst (-1), 1) := by decide +kernel
theorem dX7_prevs_8 : decode cX7_prevs 8 = .ok (.goto 25, 3) := by decide +kernel
theorem dX7_prevs_11 : decode cX7_prevs 11 = .ok (.aload_n 0, 1) := by decide +kernel
theorem dX7_prevs_12 : decode cX7_prevs 12 = .ok (.aload_n 0, 1) := by decide +kernel
theorem dX7_prevs_13 : decode cX7_prevs 13 = .ok (.getfield 257, 3) := by decide +kernel
theorem dX7_prevs_16 : decode cX7_prevs 16 = .ok (.iconst 1, 1) := by decide +kernel
theorem dX7_prevs_17 : decode cX7_prevs 17 = .ok (.isub, 1) := by decide +kernel
theorem dX7_prevs_18 : decode cX7_prevs 18 = .ok (.aload_n 0, 1) := by decide +kernel
theorem dX7_prevs_19 : decode cX7_prevs 19 = .ok (.getfield 44, 3) := by decide +kernel
theorem dX7_prevs_22 : decode cX7_prevs 22 = .ok (.aload_n 0, 1) := by decide +kernel
theorem dX7_prevs_23 : decode cX7_prevs 23 = .ok (.getfield 257, 3) := by decide +kernel
theorem dX7_prevs_26 : decode cX7_prevs 26 = .ok (.iconst 1, 1) := by decide +kernel
theorem dX7_prevs_27 : decode cX7_prevs 27 = .ok (.isub, 1) := by decide +kernel
theorem dX7_prevs_28 : decode cX7_prevs 28 = .ok (.iaload, 1) := by decide +kernel
theorem dX7_prevs_29 : decode cX7_prevs 29 = .ok (.iconst (-1), 1) := by decide +kernel
theorem dX7_prevs_30 : decode cX7_prevs 30 = .ok (.invokevirtual 340, 3) := by decide +kernel
theorem dX7_prevs_33 : decode cX7_prevs 33 = .ok (.istore_n 1, 1) := by decide +kernel
theorem dX7_prevs_34 : decode cX7_prevs 34 = .ok (.iload_n 1, 1) := by decide +kernel
theorem dX7_prevs_35 : decode cX7_prevs 35 = .ok (.iconst (-1), 1) := by decide +kernel
theorem dX7_prevs_36 : decode cX7_prevs 36 = .ok (.if_icmp .ne 8, 3) := by decide +kernel
theorem dX7_prevs_39 : decode cX7_prevs 39 = .ok (.aload_n 0, 1) := by decide +kernel
theorem dX7_prevs_40 : decode cX7_prevs 40 = .ok (.invokevirtual 300, 3) := by decide +kernel
theorem dX7_prevs_43 : decode cX7_prevs 43 = .ok (.ireturn, 1) := by decide +kernel
theorem dX7_prevs_44 : decode cX7_prevs 44 = .ok (.aload_n 0, 1) := by decide +kernel
theorem dX7_prevs_45 : decode cX7_prevs 45 = .ok (.bipush 8, 2) := by decide +kernel
theorem dX7_prevs_47 : decode cX7_prevs 47 = .ok (.invokevirtual 334, 3) := by decide +kernel
theorem dX7_prevs_50 : decode cX7_prevs 50 = .ok (.aload_n 0, 1) := by decide +kernel
theorem dX7_prevs_51 : decode cX7_prevs 51 = .ok (.iload_n 1, 1) := by decide +kernel
theorem dX7_prevs_52 : decode cX7_prevs 52 = .ok (.invokevirtual 367, 3) := by decide +kernel
theorem dX7_prevs_55 : decode cX7_prevs 55 = .ok (.aload_n 0, 1) := by decide +kernel
theorem dX7_prevs_56 : decode cX7_prevs 56 = .ok (.invokevirtual 316, 3) := by decide +kernel
theorem dX7_prevs_59 : decode cX7_prevs 59 = .ok (.iload_n 1, 1) := by decide +kernel
theorem dX7_prevs_60 : decode cX7_prevs 60 = .ok (.ireturn, 1) := by decide +kernel
theorem dX7_picks_0 : decode cX7_picks 0 = .ok (.iload_n 1, 1) := by decide +kernel
theorem dX7_picks_1 : decode cX7_picks 1 = .ok (.ifCond .ge 8, 3) := by decide +kernel
theorem dX7_picks_4 : decode cX7_picks 4 = .ok (.aload_n 0, 1) := by decide +kernel
theorem dX7_picks_5 : decode cX7_picks 5 = .ok (.invokevirtual 331, 3) := by decide +kernel
theorem dX7_picks_8 : decode cX7_picks 8 = .ok (.ireturn, 1) := by decide +kernel
theorem dX7_picks_9 : decode cX7_picks 9 = .ok (.aload_n 0, 1) := by decide +kernel
theorem dX7_picks_10 : decode cX7_picks 10 = .ok (.getfield 257, 3) := by decide +kernel
theorem dX7_picks_13 : decode cX7_picks 13 = .ok (.iconst 1, 1) := by decide +kernel
theorem dX7_picks_14 : decode cX7_picks 14 = .ok (.isub, 1) := by decide +kernel
theorem dX7_picks_15 : decode cX7_picks 15 = .ok (.istore_n 2, 1) := by decide +kernel
theorem dX7_picks_16 : decode cX7_picks 16 = .ok (.aload_n 0, 1) := by decide +kernel
theorem dX7_picks_17 : decode cX7_picks 17 = .ok (.getfield 257, 3) := by decide +kernel
theorem dX7_picks_20 : decode cX7_picks 20 = .ok (.ifCond .eq 18, 3) := by decide +kernel
theorem dX7_picks_23 : decode cX7_picks 23 = .ok (.iload_n 1, 1) := by decide +kernel
theorem dX7_picks_24 : decode cX7_picks 24 = .ok (.aload_n 0, 1) := by decide +kernel
theorem dX7_picks_25 : decode cX7_picks 25 = .ok (.iload_n 2, 1) := by decide +kernel
theorem dX7_picks_26 : decode cX7_picks 26 = .ok (.aload_n 0, 1) := by decide +kernel
theorem dX7_picks_27 : decode cX7_picks 27 = .ok (.getfield 44, 3) := by decide +kernel
theorem dX7_picks_30 : decode cX7_picks 30 = .ok (.iload_n 2, 1) := by decide +kernel
theorem dX7_picks_31 : decode cX7_picks 31 = .ok (.iaload, 1) := by decide +kernel
theorem dX7_picks_32 : decode cX7_picks 32 = .ok (.invokevirtual 370, 3) := by decide +kernel
theorem dX7_picks_35 : decode cX7_picks 35 = .ok (.if_icmp .lt 8, 3) := by decide +kernel
theorem dX7_picks_38 : decode cX7_picks 38 = .ok (.aload_n 0, 1) := by decide +kernel
theorem dX7_picks_39 : decode cX7_picks 39 = .ok (.invokevirtual 300, 3) := by decide +kernel
theorem dX7_picks_42 : decode cX7_picks 42 = .ok (.ireturn, 1) := by decide +kernel
theorem dX7_picks_43 : decode cX7_picks 43 = .ok (.aload_n 0, 1) := by decide +kernel
theorem dX7_picks_44 : decode cX7_picks 44 = .ok (.bipush 8, 2) := by decide +kernel
theorem dX7_picks_46 : decode cX7_picks 46 = .ok (.invokevirtual 334, 3) := by decide +kernel
theorem dX7_picks_49 : decode cX7_picks 49 = .ok (.aload_n 0, 1) := by decide +kernel
theorem dX7_picks_50 : decode cX7_picks 50 = .ok (.iload_n 2, 1) := by decide +kernel
theorem dX7_picks_51 : decode cX7_picks 51 = .ok (.aload_n 0, 1) := by decide +kernel
theorem dX7_picks_52 : decode cX7_picks 52 = .ok (.getfield 44, 3) := by decide +kernel
theorem dX7_picks_55 : decode cX7_picks 55 = .ok (.iload_n 2, 1) := by decide +kernel
theorem dX7_picks_56 : decode cX7_picks 56 = .ok (.iaload, 1) := by decide +kernel
theorem dX7_picks_57 : decode cX7_picks 57 = .ok (.iload_n 1, 1) := by decide +kernel
theorem dX7_picks_58 : decode cX7_picks 58 = .ok (.invokevirtual 373, 3) := by decide +kernel
theorem dX7_picks_61 : decode cX7_picks 61 = .ok (.istore_n 3, 1) := by decide +kernel
theorem dX7_picks_62 : decode cX7_picks 62 = .ok (.iconst 0, 1) := by decide +kernel
theorem dX7_picks_63 : decode cX7_picks 63 = .ok (.istore 4, 2) := by decide +kernel
theorem dX7_picks_65 : decode cX7_picks 65 = .ok (.iload 4, 2) := by decide +kernel
theorem dX7_picks_67 : decode cX7_picks 67 = .ok (.aload_n 0, 1) := by decide +kernel
theorem dX7_picks_68 : decode cX7_picks 68 = .ok (.getfield 59, 3) := by decide +kernel
theorem dX7_picks_71 : decode cX7_picks 71 = .ok (.iload_n 3, 1) := by decide +kernel
theorem dX7_picks_72 : decode cX7_picks 72 = .ok (.iaload, 1) := by decide +kernel
theorem dX7_picks_73 : decode cX7_picks 73 = .ok (.if_icmp .ge 35, 3) := by decide +kernel
theorem dX7_picks_76 : decode cX7_picks 76 = .ok (.aload_n 0, 1) := by decide +kernel
theorem dX7_picks_77 : decode cX7_picks 77 = .ok (.getfield 98, 3) := by decide +kernel
theorem dX7_picks_80 : decode cX7_picks 80 = .ok (.iload 4, 2) := by decide +kernel
theorem dX7_picks_82 : decode cX7_picks 82 = .ok (.aload_n 0, 1) := by decide +kernel
theorem dX7_picks_83 : decode cX7_picks 83 = .ok (.getfield 62, 3) := by decide +kernel
theorem dX7_picks_86 : decode cX7_picks 86 = .ok (.bipush 120, 2) := by decide +kernel
theorem dX7_picks_88 : decode cX7_picks 88 = .ok (.iload_n 2, 1) := by decide +kernel
theorem dX7_picks_89 : decode cX7_picks 89 = .ok (.imul, 1) := by decide +kernel
theorem dX7_picks_90 : decode cX7_picks 90 = .ok (.aload_n 0, 1) := by decide +kernel
theorem dX7_picks_91 : decode cX7_picks 91 = .ok (.getfield 56, 3) := by decide +kernel
theorem dX7_picks_94 : decode cX7_picks 94 = .ok (.iload_n 3, 1) := by decide +kernel
theorem dX7_picks_95 : decode cX7_picks 95 = .ok (.iaload, 1) := by decide +kernel
theorem dX7_picks_96 : decode cX7_picks 96 = .ok (.iadd, 1) := by decide +kernel
theorem dX7_picks_97 : decode cX7_picks 97 = .ok (.iload 4, 2) := by decide +kernel
theorem dX7_picks_99 : decode cX7_picks 99 = .ok (.iadd, 1) := by decide +kernel
theorem dX7_picks_100 : decode cX7_picks 100 = .ok (.iaload, 1) := by decide +kernel
theorem dX7_picks_101 : decode cX7_picks 101 = .ok (.iastore, 1) := by decide +kernel
theorem dX7_picks_102 : decode cX7_picks 102 = .ok (.iinc 4 1, 3) := by decide +kernel
theorem dX7_picks_105 : decode cX7_picks 105 = .ok (.goto (-40), 3) := by decide +kernel
theorem dX7_picks_108 : decode cX7_picks 108 = .ok (.aload_n 0, 1) := by decide +kernel
theorem dX7_picks_109 : decode cX7_picks 109 = .ok (.iload_n 2, 1) := by decide +kernel
theorem dX7_picks_110 : decode cX7_picks 110 = .ok (.aload_n 0, 1) := by decide +kernel
theorem dX7_picks_111 : decode cX7_picks 111 = .ok (.getfield 44, 3) := by decide +kernel
theorem dX7_picks_114 : decode cX7_picks 114 = .ok (.iload_n 2, 1) := by decide +kernel
theorem dX7_picks_115 : decode cX7_picks 115 = .ok (.iaload, 1) := by decide +kernel
theorem dX7_picks_116 : decode cX7_picks 116 = .ok (.aload_n 0, 1) := by decide +kernel
theorem dX7_picks_117 : decode cX7_picks 117 = .ok (.getfield 59, 3) := by decide +kernel
theorem dX7_picks_120 : decode cX7_picks 120 = .ok (.iload_n 3, 1) := by decide +kernel
theorem dX7_picks_121 : decode cX7_picks 121 = .ok (.iaload, 1) := by decide +kernel
theorem dX7_picks_122 : decode cX7_picks 122 = .ok (.invokevirtual 266, 3) := by decide +kernel
theorem dX7_picks_125 : decode cX7_picks 125 = .ok (.aload_n 0, 1) := by decide +kernel
theorem dX7_picks_126 : decode cX7_picks 126 = .ok (.getfield 47, 3) := by decide +kernel
theorem dX7_picks_129 : decode cX7_picks 129 = .ok (.iload_n 2, 1) := by decide +kernel
theorem dX7_picks_130 : decode cX7_picks 130 = .ok (.iconst 1, 1) := by decide +kernel
theorem dX7_picks_131 : decode cX7_picks 131 = .ok (.iastore, 1) := by decide +kernel
theorem dX7_picks_132 : decode cX7_picks 132 = .ok (.aload_n 0, 1) := by decide +kernel
theorem dX7_picks_133 : decode cX7_picks 133 = .ok (.invokevirtual 343, 3) := by decide +kernel
theorem dX7_picks_136 : decode cX7_picks 136 = .ok (.aload_n 0, 1) := by decide +kernel
theorem dX7_picks_137 : decode cX7_picks 137 = .ok (.invokevirtual 355, 3) := by decide +kernel
theorem dX7_picks_140 : decode cX7_picks 140 = .ok (.ireturn, 1) := by decide +kernel
theorem dX7_ends_0 : decode cX7_ends 0 = .ok (.aload_n 0, 1) := by decide +kernel
theorem dX7_ends_1 : decode cX7_ends 1 = .ok (.getfield 257, 3) := by decide +kernel
theorem dX7_ends_4 : decode cX7_ends 4 = .ok (.ifCond .ne 8, 3) := by decide +kernel
theorem dX7_ends_7 : decode cX7_ends 7 = .ok (.aload_n 0, 1) := by decide +kernel
theorem dX7_ends_8 : decode cX7_ends 8 = .ok (.invokevirtual 300, 3) := by decide +kernel
theorem dX7_ends_11 : decode cX7_ends 11 = .ok (.ireturn, 1) := by decide +kernel
theorem dX7_ends_12 : decode cX7_ends 12 = .ok (.aload_n 0, 1) := by decide +kernel
theorem dX7_ends_13 : decode cX7_ends 13 = .ok (.bipush 8, 2) := by decide +kernel
theorem dX7_ends_15 : decode cX7_ends 15 = .ok (.invokevirtual 334, 3) := by decide +kernel
theorem dX7_ends_18 : decode cX7_ends 18 = .ok (.aload_n 0, 1) := by decide +kernel
theorem dX7_ends_19 : decode cX7_ends 19 = .ok (.invokevirtual 352, 3) := by decide +kernel
theorem dX7_ends_22 : decode cX7_ends 22 = .ok (.aload_n 0, 1) := by decide +kernel
theorem dX7_ends_23 : decode cX7_ends 23 = .ok (.invokevirtual 316, 3) := by decide +kernel
theorem dX7_ends_26 : decode cX7_ends 26 = .ok (.aload_n 0, 1) := by decide +kernel
theorem dX7_ends_27 : decode cX7_ends 27 = .ok (.getfield 257, 3) := by decide +kernel
theorem dX7_ends_30 : decode cX7_ends 30 = .ok (.ireturn, 1) := by decide +kernel
theorem dX7_caret_0 : decode cX7_caret 0 = .ok (.iload_n 1, 1) := by decide +kernel
theorem dX7_caret_1 : decode cX7_caret 1 = .ok (.iconst 0, 1) := by decide +kernel
theorem dX7_caret_2 : decode cX7_caret 2 = .ok (.aload_n 0, 1) := by decide +kernel
theorem dX7_caret_3 : decode cX7_caret 3 = .ok (.invokevirtual 306, 3) := by decide +kernel
theorem dX7_caret_6 : decode cX7_caret 6 = .ok (.invokestatic 138, 3) := by decide +kernel
theorem dX7_caret_9 : decode cX7_caret 9 = .ok (.ifCond .ne 8, 3) := by decide +kernel
theorem dX7_caret_12 : decode cX7_caret 12 = .ok (.aload_n 0, 1) := by decide +kernel
theorem dX7_caret_13 : decode cX7_caret 13 = .ok (.invokevirtual 331, 3) := by decide +kernel
theorem dX7_caret_16 : decode cX7_caret 16 = .ok (.ireturn, 1) := by decide +kernel
theorem dX7_caret_17 : decode cX7_caret 17 = .ok (.aload_n 0, 1) := by decide +kernel
theorem dX7_caret_18 : decode cX7_caret 18 = .ok (.getfield 257, 3) := by decide +kernel
theorem dX7_caret_21 : decode cX7_caret 21 = .ok (.ifCond .le 8, 3) := by decide +kernel
theorem dX7_caret_24 : decode cX7_caret 24 = .ok (.aload_n 0, 1) := by decide +kernel
theorem dX7_caret_25 : decode cX7_caret 25 = .ok (.invokevirtual 300, 3) := by decide +kernel
theorem dX7_caret_28 : decode cX7_caret 28 = .ok (.ireturn, 1) := by decide +kernel
theorem dX7_caret_29 : decode cX7_caret 29 = .ok (.aload_n 0, 1) := by decide +kernel
theorem dX7_caret_30 : decode cX7_caret 30 = .ok (.bipush 8, 2) := by decide +kernel
theorem dX7_caret_32 : decode cX7_caret 32 = .ok (.invokevirtual 334, 3) := by decide +kernel
theorem dX7_caret_35 : decode cX7_caret 35 = .ok (.aload_n 0, 1) := by decide +kernel
theorem dX7_caret_36 : decode cX7_caret 36 = .ok (.getfield 282, 3) := by decide +kernel
theorem dX7_caret_39 : decode cX7_caret 39 = .ok (.istore_n 2, 1) := by decide +kernel
theorem dX7_caret_40 : decode cX7_caret 40 = .ok (.aload_n 0, 1) := by decide +kernel
theorem dX7_caret_41 : decode cX7_caret 41 = .ok (.iload_n 1, 1) := by decide +kernel
theorem dX7_caret_42 : decode cX7_caret 42 = .ok (.putfield 282, 3) := by decide +kernel
theorem dX7_caret_45 : decode cX7_caret 45 = .ok (.aload_n 0, 1) := by decide +kernel
theorem dX7_caret_46 : decode cX7_caret 46 = .ok (.invokevirtual 316, 3) := by decide +kernel
theorem dX7_caret_49 : decode cX7_caret 49 = .ok (.iload_n 2, 1) := by decide +kernel
theorem dX7_caret_50 : decode cX7_caret 50 = .ok (.ireturn, 1) := by decide +kernel
theorem dX7_cuts_0 : decode cX7_cuts 0 = .ok (.aload_n 0, 1) := by decide +kernel
theorem dX7_cuts_1 : decode cX7_cuts 1 = .ok (.invokevirtual 306, 3) := by decide +kernel
theorem dX7_cuts_4 : decode cX7_cuts 4 = .ok (.istore_n 3, 1) := by decide +kernel
theorem dX7_cuts_5 : decode cX7_cuts 5 = .ok (.iload_n 1, 1) := by decide +kernel
theorem dX7_cuts_6 : decode cX7_cuts 6 = .ok (.iconst 0, 1) := by decide +kernel
theorem dX7_cuts_7 : decode cX7_cuts 7 = .ok (.iload_n 3, 1) := by decide +kernel
theorem dX7_cuts_8 : decode cX7_cuts 8 = .ok (.invokestatic 138, 3) := by decide +kernel
theorem dX7_cuts_11 : decode cX7_cuts 11 = .ok (.ifCond .eq 15, 3) := by decide +kernel
theorem dX7_cuts_14 : decode cX7_cuts 14 = .ok (.iload_n 2, 1) := by decide +kernel
theorem dX7_cuts_15 : decode cX7_cuts 15 = .ok (.iconst 1, 1) := by decide +kernel
theorem dX7_cuts_16 : decode cX7_cuts 16 = .ok (.if_icmp .lt 10, 3) := by decide +kernel
theorem dX7_cuts_19 : decode cX7_cuts 19 = .ok (.iload_n 2, 1) := by decide +kernel
theorem dX7_cuts_20 : decode cX7_cuts 20 = .ok (.iload_n 3, 1) := by decide +kernel
theorem dX7_cuts_21 : decode cX7_cuts 21 = .ok (.iload_n 1, 1) := by decide +kernel
theorem dX7_cuts_22 : decode cX7_cuts 22 = .ok (.isub, 1) := by decide +kernel
theorem dX7_cuts_23 : decode cX7_cuts 23 = .ok (.if_icmp .le 8, 3) := by decide +kernel
theorem dX7_cuts_26 : decode cX7_cuts 26 = .ok (.aload_n 0, 1) := by decide +kernel
theorem dX7_cuts_27 : decode cX7_cuts 27 = .ok (.invokevirtual 331, 3) := by decide +kernel
theorem dX7_cuts_30 : decode cX7_cuts 30 = .ok (.ireturn, 1) := by decide +kernel
theorem dX7_cuts_31 : decode cX7_cuts 31 = .ok (.aload_n 0, 1) := by decide +kernel
theorem dX7_cuts_32 : decode cX7_cuts 32 = .ok (.getfield 257, 3) := by decide +kernel
theorem dX7_cuts_35 : decode cX7_cuts 35 = .ok (.ifCond .le 8, 3) := by decide +kernel
theorem dX7_cuts_38 : decode cX7_cuts 38 = .ok (.aload_n 0, 1) := by decide +kernel
theorem dX7_cuts_39 : decode cX7_cuts 39 = .ok (.invokevirtual 300, 3) := by decide +kernel
theorem dX7_cuts_42 : decode cX7_cuts 42 = .ok (.ireturn, 1) := by decide +kernel
theorem dX7_cuts_43 : decode cX7_cuts 43 = .ok (.aload_n 0, 1) := by decide +kernel
theorem dX7_cuts_44 : decode cX7_cuts 44 = .ok (.bipush 8, 2) := by decide +kernel
theorem dX7_cuts_46 : decode cX7_cuts 46 = .ok (.invokevirtual 334, 3) := by decide +kernel
theorem dX7_cuts_49 : decode cX7_cuts 49 = .ok (.aload_n 0, 1) := by decide +kernel
theorem dX7_cuts_50 : decode cX7_cuts 50 = .ok (.iload_n 1, 1) := by decide +kernel
theorem dX7_cuts_51 : decode cX7_cuts 51 = .ok (.iload_n 2, 1) := by decide +kernel
theorem dX7_cuts_52 : decode cX7_cuts 52 = .ok (.invokevirtual 364, 3) := by decide +kernel
theorem dX7_cuts_55 : decode cX7_cuts 55 = .ok (.aload_n 0, 1) := by decide +kernel
theorem dX7_cuts_56 : decode cX7_cuts 56 = .ok (.getfield 282, 3) := by decide +kernel
theorem dX7_cuts_59 : decode cX7_cuts 59 = .ok (.iload_n 1, 1) := by decide +kernel
theorem dX7_cuts_60 : decode cX7_cuts 60 = .ok (.isub, 1) := by decide +kernel
theorem dX7_cuts_61 : decode cX7_cuts 61 = .ok (.istore 4, 2) := by decide +kernel
theorem dX7_cuts_63 : decode cX7_cuts 63 = .ok (.aload_n 0, 1) := by decide +kernel
theorem dX7_cuts_64 : decode cX7_cuts 64 = .ok (.dup, 1) := by decide +kernel
theorem dX7_cuts_65 : decode cX7_cuts 65 = .ok (.getfield 282, 3) := by decide +kernel
theorem dX7_cuts_68 : decode cX7_cuts 68 = .ok (.iload 4, 2) := by decide +kernel
theorem dX7_cuts_70 : decode cX7_cuts 70 = .ok (.ifCond .ge 7, 3) := by decide +kernel
theorem dX7_cuts_73 : decode cX7_cuts 73 = .ok (.iconst 0, 1) := by decide +kernel
theorem dX7_cuts_74 : decode cX7_cuts 74 = .ok (.goto 15, 3) := by decide +kernel
theorem dX7_cuts_77 : decode cX7_cuts 77 = .ok (.iload 4, 2) := by decide +kernel
theorem dX7_cuts_79 : decode cX7_cuts 79 = .ok (.iload_n 2, 1) := by decide +kernel
theorem dX7_cuts_80 : decode cX7_cuts 80 = .ok (.if_icmp .ge 8, 3) := by decide +kernel
theorem dX7_cuts_83 : decode cX7_cuts 83 = .ok (.iload 4, 2) := by decide +kernel
theorem dX7_cuts_85 : decode cX7_cuts 85 = .ok (.goto 4, 3) := by decide +kernel
theorem dX7_cuts_88 : decode cX7_cuts 88 = .ok (.iload_n 2, 1) := by decide +kernel
theorem dX7_cuts_89 : decode cX7_cuts 89 = .ok (.isub, 1) := by decide +kernel
theorem dX7_cuts_90 : decode cX7_cuts 90 = .ok (.putfield 282, 3) := by decide +kernel
theorem dX7_cuts_93 : decode cX7_cuts 93 = .ok (.aload_n 0, 1) := by decide +kernel
theorem dX7_cuts_94 : decode cX7_cuts 94 = .ok (.invokevirtual 316, 3) := by decide +kernel
theorem dX7_cuts_97 : decode cX7_cuts 97 = .ok (.aload_n 0, 1) := by decide +kernel
theorem dX7_cuts_98 : decode cX7_cuts 98 = .ok (.getfield 279, 3) := by decide +kernel
theorem dX7_cuts_101 : decode cX7_cuts 101 = .ok (.ireturn, 1) := by decide +kernel
theorem dX7_at_0 : decode cX7_at 0 = .ok (.iload_n 1, 1) := by decide +kernel
theorem dX7_at_1 : decode cX7_at 1 = .ok (.ifCond .ge 8, 3) := by decide +kernel
theorem dX7_at_4 : decode cX7_at 4 = .ok (.aload_n 0, 1) := by decide +kernel
theorem dX7_at_5 : decode cX7_at 5 = .ok (.invokevirtual 331, 3) := by decide +kernel
theorem dX7_at_8 : decode cX7_at 8 = .ok (.ireturn, 1) := by decide +kernel
theorem dX7_at_9 : decode cX7_at 9 = .ok (.iload_n 1, 1) := by decide +kernel
theorem dX7_at_10 : decode cX7_at 10 = .ok (.aload_n 0, 1) := by decide +kernel
theorem dX7_at_11 : decode cX7_at 11 = .ok (.invokevirtual 306, 3) := by decide +kernel
theorem dX7_at_14 : decode cX7_at 14 = .ok (.if_icmp .ge 11, 3) := by decide +kernel
theorem dX7_at_17 : decode cX7_at 17 = .ok (.aload_n 0, 1) := by decide +kernel
theorem dX7_at_18 : decode cX7_at 18 = .ok (.iload_n 1, 1) := by decide +kernel
theorem dX7_at_19 : decode cX7_at 19 = .ok (.invokevirtual 376, 3) := by decide +kernel
theorem dX7_at_22 : decode cX7_at 22 = .ok (.goto 4, 3) := by decide +kernel
theorem dX7_at_25 : decode cX7_at 25 = .ok (.iconst (-1), 1) := by decide +kernel
theorem dX7_at_26 : decode cX7_at 26 = .ok (.ireturn, 1) := by decide +kernel
theorem dX7_countOf_0 : decode cX7_countOf 0 = .ok (.aload_n 0, 1) := by decide +kernel
theorem dX7_countOf_1 : decode cX7_countOf 1 = .ok (.getfield 257, 3) := by decide +kernel
theorem dX7_countOf_4 : decode cX7_countOf 4 = .ok (.iconst 1, 1) := by decide +kernel
theorem dX7_countOf_5 : decode cX7_countOf 5 = .ok (.isub, 1) := by decide +kernel
theorem dX7_countOf_6 : decode cX7_countOf 6 = .ok (.istore_n 2, 1) := by decide +kernel
theorem dX7_countOf_7 : decode cX7_countOf 7 = .ok (.iload_n 1, 1) := by decide +kernel
theorem dX7_countOf_8 : decode cX7_countOf 8 = .ok (.tableswitch 98 0 4 #[36, 41, 57, 62, 80], 36) := by decide +kernel
theorem dX7_countOf_44 : decode cX7_countOf 44 = .ok (.aload_n 0, 1) := by decide +kernel
theorem dX7_countOf_45 : decode cX7_countOf 45 = .ok (.invokevirtual 306, 3) := by decide +kernel
theorem dX7_countOf_48 : decode cX7_countOf 48 = .ok (.ireturn, 1) := by decide +kernel
theorem dX7_countOf_49 : decode cX7_countOf 49 = .ok (.aload_n 0, 1) := by decide +kernel
theorem dX7_countOf_50 : decode cX7_countOf 50 = .ok (.getfield 257, 3) := by decide +kernel
theorem dX7_countOf_53 : decode cX7_countOf 53 = .ok (.ifCond .le 7, 3) := by decide +kernel
theorem dX7_countOf_56 : decode cX7_countOf 56 = .ok (.iconst (-1), 1) := by decide +kernel
theorem dX7_countOf_57 : decode cX7_countOf 57 = .ok (.goto 7, 3) := by decide +kernel
theorem dX7_countOf_60 : decode cX7_countOf 60 = .ok (.aload_n 0, 1) := by decide +kernel
theorem dX7_countOf_61 : decode cX7_countOf 61 = .ok (.getfield 282, 3) := by decide +kernel
theorem dX7_countOf_64 : decode cX7_countOf 64 = .ok (.ireturn, 1) := by decide +kernel
theorem dX7_countOf_65 : decode cX7_countOf 65 = .ok (.aload_n 0, 1) := by decide +kernel
theorem dX7_countOf_66 : decode cX7_countOf 66 = .ok (.getfield 257, 3) := by decide +kernel
theorem dX7_countOf_69 : decode cX7_countOf 69 = .ok (.ireturn, 1) := by decide +kernel
theorem dX7_countOf_70 : decode cX7_countOf 70 = .ok (.aload_n 0, 1) := by decide +kernel
theorem dX7_countOf_71 : decode cX7_countOf 71 = .ok (.getfield 257, 3) := by decide +kernel
theorem dX7_countOf_74 : decode cX7_countOf 74 = .ok (.ifCond .le 12, 3) := by decide +kernel
theorem dX7_countOf_77 : decode cX7_countOf 77 = .ok (.aload_n 0, 1) := by decide +kernel
theorem dX7_countOf_78 : decode cX7_countOf 78 = .ok (.getfield 44, 3) := by decide +kernel
theorem dX7_countOf_81 : decode cX7_countOf 81 = .ok (.iload_n 2, 1) := by decide +kernel
theorem dX7_countOf_82 : decode cX7_countOf 82 = .ok (.iaload, 1) := by decide +kernel
theorem dX7_countOf_83 : decode cX7_countOf 83 = .ok (.goto 4, 3) := by decide +kernel
theorem dX7_countOf_86 : decode cX7_countOf 86 = .ok (.iconst (-1), 1) := by decide +kernel
theorem dX7_countOf_87 : decode cX7_countOf 87 = .ok (.ireturn, 1) := by decide +kernel
theorem dX7_countOf_88 : decode cX7_countOf 88 = .ok (.aload_n 0, 1) := by decide +kernel
theorem dX7_countOf_89 : decode cX7_countOf 89 = .ok (.getfield 257, 3) := by decide +kernel
theorem dX7_countOf_92 : decode cX7_countOf 92 = .ok (.ifCond .le 12, 3) := by decide +kernel
theorem dX7_countOf_95 : decode cX7_countOf 95 = .ok (.aload_n 0, 1) := by decide +kernel
theorem dX7_countOf_96 : decode cX7_countOf 96 = .ok (.getfield 47, 3) := by decide +kernel
theorem dX7_countOf_99 : decode cX7_countOf 99 = .ok (.iload_n 2, 1) := by decide +kernel
theorem dX7_countOf_100 : decode cX7_countOf 100 = .ok (.iaload, 1) := by decide +kernel
theorem dX7_countOf_101 : decode cX7_countOf 101 = .ok (.goto 4, 3) := by decide +kernel
theorem dX7_countOf_104 : decode cX7_countOf 104 = .ok (.iconst 0, 1) := by decide +kernel
theorem dX7_countOf_105 : decode cX7_countOf 105 = .ok (.ireturn, 1) := by decide +kernel
theorem dX7_countOf_106 : decode cX7_countOf 106 = .ok (.aload_n 0, 1) := by decide +kernel
theorem dX7_countOf_107 : decode cX7_countOf 107 = .ok (.getfield 257, 3) := by decide +kernel
theorem dX7_countOf_110 : decode cX7_countOf 110 = .ok (.ifCond .le 11, 3) := by decide +kernel
theorem dX7_countOf_113 : decode cX7_countOf 113 = .ok (.aload_n 0, 1) := by decide +kernel
theorem dX7_countOf_114 : decode cX7_countOf 114 = .ok (.iload_n 2, 1) := by decide +kernel
theorem dX7_countOf_115 : decode cX7_countOf 115 = .ok (.invokevirtual 379, 3) := by decide +kernel
theorem dX7_countOf_118 : decode cX7_countOf 118 = .ok (.goto 4, 3) := by decide +kernel
theorem dX7_countOf_121 : decode cX7_countOf 121 = .ok (.iconst 0, 1) := by decide +kernel
theorem dX7_countOf_122 : decode cX7_countOf 122 = .ok (.ireturn, 1) := by decide +kernel
theorem dX7_count_0 : decode cX7_count 0 = .ok (.iload_n 1, 1) := by decide +kernel
theorem dX7_count_1 : decode cX7_count 1 = .ok (.iconst 0, 1) := by decide +kernel
theorem dX7_count_2 : decode cX7_count 2 = .ok (.iconst 5, 1) := by decide +kernel
theorem dX7_count_3 : decode cX7_count 3 = .ok (.invokestatic 138, 3) := by decide +kernel
theorem dX7_count_6 : decode cX7_count 6 = .ok (.ifCond .eq 11, 3) := by decide +kernel
theorem dX7_count_9 : decode cX7_count 9 = .ok (.aload_n 0, 1) := by decide +kernel
theorem dX7_count_10 : decode cX7_count 10 = .ok (.iload_n 1, 1) := by decide +kernel
theorem dX7_count_11 : decode cX7_count 11 = .ok (.invokevirtual 382, 3) := by decide +kernel
theorem dX7_count_14 : decode cX7_count 14 = .ok (.goto 7, 3) := by decide +kernel
theorem dX7_count_17 : decode cX7_count 17 = .ok (.aload_n 0, 1) := by decide +kernel
theorem dX7_count_18 : decode cX7_count 18 = .ok (.invokevirtual 331, 3) := by decide +kernel
theorem dX7_count_21 : decode cX7_count 21 = .ok (.ireturn, 1) := by decide +kernel
theorem dX7_stop_0 : decode cX7_stop 0 = .ok (.iload_n 1, 1) := by decide +kernel
theorem dX7_stop_1 : decode cX7_stop 1 = .ok (.iconst 0, 1) := by decide +kernel
theorem dX7_stop_2 : decode cX7_stop 2 = .ok (.bipush 9, 2) := by decide +kernel
theorem dX7_stop_4 : decode cX7_stop 4 = .ok (.invokestatic 138, 3) := by decide +kernel
theorem dX7_stop_7 : decode cX7_stop 7 = .ok (.ifCond .eq 12, 3) := by decide +kernel
theorem dX7_stop_10 : decode cX7_stop 10 = .ok (.iload_n 2, 1) := by decide +kernel
theorem dX7_stop_11 : decode cX7_stop 11 = .ok (.iconst 0, 1) := by decide +kernel
theorem dX7_stop_12 : decode cX7_stop 12 = .ok (.iconst 4, 1) := by decide +kernel
theorem dX7_stop_13 : decode cX7_stop 13 = .ok (.invokestatic 138, 3) := by decide +kernel
theorem dX7_stop_16 : decode cX7_stop 16 = .ok (.ifCond .ne 8, 3) := by decide +kernel
theorem dX7_stop_19 : decode cX7_stop 19 = .ok (.aload_n 0, 1) := by decide +kernel
theorem dX7_stop_20 : decode cX7_stop 20 = .ok (.invokevirtual 331, 3) := by decide +kernel
theorem dX7_stop_23 : decode cX7_stop 23 = .ok (.ireturn, 1) := by decide +kernel
theorem dX7_stop_24 : decode cX7_stop 24 = .ok (.aload_n 0, 1) := by decide +kernel
theorem dX7_stop_25 : decode cX7_stop 25 = .ok (.getfield 257, 3) := by decide +kernel
theorem dX7_stop_28 : decode cX7_stop 28 = .ok (.ifCond .ne 10, 3) := by decide +kernel
theorem dX7_stop_31 : decode cX7_stop 31 = .ok (.aload_n 0, 1) := by decide +kernel
theorem dX7_stop_32 : decode cX7_stop 32 = .ok (.invokevirtual 300, 3) := by decide +kernel
theorem dX7_stop_35 : decode cX7_stop 35 = .ok (.goto 15, 3) := by decide +kernel
theorem dX7_stop_38 : decode cX7_stop 38 = .ok (.aload_n 0, 1) := by decide +kernel
theorem dX7_stop_39 : decode cX7_stop 39 = .ok (.aload_n 0, 1) := by decide +kernel
theorem dX7_stop_40 : decode cX7_stop 40 = .ok (.getfield 257, 3) := by decide +kernel
theorem dX7_stop_43 : decode cX7_stop 43 = .ok (.iconst 1, 1) := by decide +kernel
theorem dX7_stop_44 : decode cX7_stop 44 = .ok (.isub, 1) := by decide +kernel
theorem dX7_stop_45 : decode cX7_stop 45 = .ok (.iload_n 1, 1) := by decide +kernel
theorem dX7_stop_46 : decode cX7_stop 46 = .ok (.iload_n 2, 1) := by decide +kernel
theorem dX7_stop_47 : decode cX7_stop 47 = .ok (.invokevirtual 391, 3) := by decide +kernel
theorem dX7_stop_50 : decode cX7_stop 50 = .ok (.ireturn, 1) := by decide +kernel
theorem dX7_held_0 : decode cX7_held 0 = .ok (.iload_n 1, 1) := by decide +kernel
theorem dX7_held_1 : decode cX7_held 1 = .ok (.iconst 0, 1) := by decide +kernel
theorem dX7_held_2 : decode cX7_held 2 = .ok (.bipush 9, 2) := by decide +kernel
theorem dX7_held_4 : decode cX7_held 4 = .ok (.invokestatic 138, 3) := by decide +kernel
theorem dX7_held_7 : decode cX7_held 7 = .ok (.ifCond .eq 7, 3) := by decide +kernel
theorem dX7_held_10 : decode cX7_held 10 = .ok (.iload_n 2, 1) := by decide +kernel
theorem dX7_held_11 : decode cX7_held 11 = .ok (.ifCond .ge 8, 3) := by decide +kernel
theorem dX7_held_14 : decode cX7_held 14 = .ok (.aload_n 0, 1) := by decide +kernel
theorem dX7_held_15 : decode cX7_held 15 = .ok (.invokevirtual 331, 3) := by decide +kernel
theorem dX7_held_18 : decode cX7_held 18 = .ok (.ireturn, 1) := by decide +kernel
theorem dX7_held_19 : decode cX7_held 19 = .ok (.aload_n 0, 1) := by decide +kernel
theorem dX7_held_20 : decode cX7_held 20 = .ok (.getfield 257, 3) := by decide +kernel
theorem dX7_held_23 : decode cX7_held 23 = .ok (.ifCond .ne 8, 3) := by decide +kernel
theorem dX7_held_26 : decode cX7_held 26 = .ok (.aload_n 0, 1) := by decide +kernel
theorem dX7_held_27 : decode cX7_held 27 = .ok (.invokevirtual 300, 3) := by decide +kernel
theorem dX7_held_30 : decode cX7_held 30 = .ok (.ireturn, 1) := by decide +kernel
theorem dX7_held_31 : decode cX7_held 31 = .ok (.iload_n 2, 1) := by decide +kernel
theorem dX7_held_32 : decode cX7_held 32 = .ok (.aload_n 0, 1) := by decide +kernel
theorem dX7_held_33 : decode cX7_held 33 = .ok (.aload_n 0, 1) := by decide +kernel
theorem dX7_held_34 : decode cX7_held 34 = .ok (.getfield 257, 3) := by decide +kernel
theorem dX7_held_37 : decode cX7_held 37 = .ok (.iconst 1, 1) := by decide +kernel
theorem dX7_held_38 : decode cX7_held 38 = .ok (.isub, 1) := by decide +kernel
theorem dX7_held_39 : decode cX7_held 39 = .ok (.iload_n 1, 1) := by decide +kernel
theorem dX7_held_40 : decode cX7_held 40 = .ok (.invokevirtual 385, 3) := by decide +kernel
theorem dX7_held_43 : decode cX7_held 43 = .ok (.if_icmp .ge 12, 3) := by decide +kernel
theorem dX7_held_46 : decode cX7_held 46 = .ok (.aload_n 0, 1) := by decide +kernel
theorem dX7_held_47 : decode cX7_held 47 = .ok (.getfield 71, 3) := by decide +kernel
theorem dX7_held_50 : decode cX7_held 50 = .ok (.iload_n 2, 1) := by decide +kernel
theorem dX7_held_51 : decode cX7_held 51 = .ok (.iaload, 1) := by decide +kernel
theorem dX7_held_52 : decode cX7_held 52 = .ok (.goto 4, 3) := by decide +kernel
theorem dX7_held_55 : decode cX7_held 55 = .ok (.iconst (-1), 1) := by decide +kernel
theorem dX7_held_56 : decode cX7_held 56 = .ok (.ireturn, 1) := by decide +kernel
theorem dX7_choice_0 : decode cX7_choice 0 = .ok (.iload_n 1, 1) := by decide +kernel
theorem dX7_choice_1 : decode cX7_choice 1 = .ok (.iconst 0, 1) := by decide +kernel
theorem dX7_choice_2 : decode cX7_choice 2 = .ok (.bipush 9, 2) := by decide +kernel
theorem dX7_choice_4 : decode cX7_choice 4 = .ok (.invokestatic 138, 3) := by decide +kernel
theorem dX7_choice_7 : decode cX7_choice 7 = .ok (.ifCond .eq 11, 3) := by decide +kernel
theorem dX7_choice_10 : decode cX7_choice 10 = .ok (.iload_n 2, 1) := by decide +kernel
theorem dX7_choice_11 : decode cX7_choice 11 = .ok (.ifCond .lt 7, 3) := by decide +kernel
theorem dX7_choice_14 : decode cX7_choice 14 = .ok (.iload_n 3, 1) := by decide +kernel
theorem dX7_choice_15 : decode cX7_choice 15 = .ok (.ifCond .ge 8, 3) := by decide +kernel
theorem dX7_choice_18 : decode cX7_choice 18 = .ok (.aload_n 0, 1) := by decide +kernel
theorem dX7_choice_19 : decode cX7_choice 19 = .ok (.invokevirtual 331, 3) := by decide +kernel
theorem dX7_choice_22 : decode cX7_choice 22 = .ok (.ireturn, 1) := by decide +kernel
theorem dX7_choice_23 : decode cX7_choice 23 = .ok (.aload_n 0, 1) := by decide +kernel
theorem dX7_choice_24 : decode cX7_choice 24 = .ok (.getfield 257, 3) := by decide +kernel
theorem dX7_choice_27 : decode cX7_choice 27 = .ok (.ifCond .ne 8, 3) := by decide +kernel
theorem dX7_choice_30 : decode cX7_choice 30 = .ok (.aload_n 0, 1) := by decide +kernel
theorem dX7_choice_31 : decode cX7_choice 31 = .ok (.invokevirtual 300, 3) := by decide +kernel
theorem dX7_choice_34 : decode cX7_choice 34 = .ok (.ireturn, 1) := by decide +kernel
theorem dX7_choice_35 : decode cX7_choice 35 = .ok (.aload_n 0, 1) := by decide +kernel
theorem dX7_choice_36 : decode cX7_choice 36 = .ok (.getfield 257, 3) := by decide +kernel
theorem dX7_choice_39 : decode cX7_choice 39 = .ok (.iconst 1, 1) := by decide +kernel
theorem dX7_choice_40 : decode cX7_choice 40 = .ok (.isub, 1) := by decide +kernel
theorem dX7_choice_41 : decode cX7_choice 41 = .ok (.istore 4, 2) := by decide +kernel
theorem dX7_choice_43 : decode cX7_choice 43 = .ok (.iload_n 2, 1) := by decide +kernel
theorem dX7_choice_44 : decode cX7_choice 44 = .ok (.aload_n 0, 1) := by decide +kernel
theorem dX7_choice_45 : decode cX7_choice 45 = .ok (.iload 4, 2) := by decide +kernel
theorem dX7_choice_47 : decode cX7_choice 47 = .ok (.iload_n 1, 1) := by decide +kernel
theorem dX7_choice_48 : decode cX7_choice 48 = .ok (.invokevirtual 370, 3) := by decide +kernel
theorem dX7_choice_51 : decode cX7_choice 51 = .ok (.if_icmp .lt 5, 3) := by decide +kernel
theorem dX7_choice_54 : decode cX7_choice 54 = .ok (.iconst (-1), 1) := by decide +kernel
theorem dX7_choice_55 : decode cX7_choice 55 = .ok (.ireturn, 1) := by decide +kernel
theorem dX7_choice_56 : decode cX7_choice 56 = .ok (.aload_n 0, 1) := by decide +kernel
theorem dX7_choice_57 : decode cX7_choice 57 = .ok (.iload 4, 2) := by decide +kernel
theorem dX7_choice_59 : decode cX7_choice 59 = .ok (.iload_n 1, 1) := by decide +kernel
theorem dX7_choice_60 : decode cX7_choice 60 = .ok (.iload_n 2, 1) := by decide +kernel
theorem dX7_choice_61 : decode cX7_choice 61 = .ok (.invokevirtual 373, 3) := by decide +kernel
theorem dX7_choice_64 : decode cX7_choice 64 = .ok (.istore 5, 2) := by decide +kernel
theorem dX7_choice_66 : decode cX7_choice 66 = .ok (.iload_n 3, 1) := by decide +kernel
theorem dX7_choice_67 : decode cX7_choice 67 = .ok (.aload_n 0, 1) := by decide +kernel
theorem dX7_choice_68 : decode cX7_choice 68 = .ok (.getfield 59, 3) := by decide +kernel
theorem dX7_choice_71 : decode cX7_choice 71 = .ok (.iload 5, 2) := by decide +kernel
theorem dX7_choice_73 : decode cX7_choice 73 = .ok (.iaload, 1) := by decide +kernel
theorem dX7_choice_74 : decode cX7_choice 74 = .ok (.if_icmp .ge 26, 3) := by decide +kernel
theorem dX7_choice_77 : decode cX7_choice 77 = .ok (.aload_n 0, 1) := by decide +kernel
theorem dX7_choice_78 : decode cX7_choice 78 = .ok (.getfield 62, 3) := by decide +kernel
theorem dX7_choice_81 : decode cX7_choice 81 = .ok (.bipush 120, 2) := by decide +kernel
theorem dX7_choice_83 : decode cX7_choice 83 = .ok (.iload 4, 2) := by decide +kernel
theorem dX7_choice_85 : decode cX7_choice 85 = .ok (.imul, 1) := by decide +kernel
theorem dX7_choice_86 : decode cX7_choice 86 = .ok (.aload_n 0, 1) := by decide +kernel
theorem dX7_choice_87 : decode cX7_choice 87 = .ok (.getfield 56, 3) := by decide +kernel
theorem dX7_choice_90 : decode cX7_choice 90 = .ok (.iload 5, 2) := by decide +kernel
theorem dX7_choice_92 : decode cX7_choice 92 = .ok (.iaload, 1) := by decide +kernel
theorem dX7_choice_93 : decode cX7_choice 93 = .ok (.iadd, 1) := by decide +kernel
theorem dX7_choice_94 : decode cX7_choice 94 = .ok (.iload_n 3, 1) := by decide +kernel
theorem dX7_choice_95 : decode cX7_choice 95 = .ok (.iadd, 1) := by decide +kernel
theorem dX7_choice_96 : decode cX7_choice 96 = .ok (.iaload, 1) := by decide +kernel
theorem dX7_choice_97 : decode cX7_choice 97 = .ok (.goto 4, 3) := by decide +kernel
theorem dX7_choice_100 : decode cX7_choice 100 = .ok (.iconst (-1), 1) := by decide +kernel
theorem dX7_choice_101 : decode cX7_choice 101 = .ok (.ireturn, 1) := by decide +kernel
theorem dX7_occurrence_0 : decode cX7_occurrence 0 = .ok (.iload_n 1, 1) := by decide +kernel
theorem dX7_occurrence_1 : decode cX7_occurrence 1 = .ok (.iconst 0, 1) := by decide +kernel
theorem dX7_occurrence_2 : decode cX7_occurrence 2 = .ok (.bipush 9, 2) := by decide +kernel
theorem dX7_occurrence_4 : decode cX7_occurrence 4 = .ok (.invokestatic 138, 3) := by decide +kernel
theorem dX7_occurrence_7 : decode cX7_occurrence 7 = .ok (.ifCond .eq 16, 3) := by decide +kernel
theorem dX7_occurrence_10 : decode cX7_occurrence 10 = .ok (.iload_n 2, 1) := by decide +kernel
theorem dX7_occurrence_11 : decode cX7_occurrence 11 = .ok (.ifCond .lt 12, 3) := by decide +kernel
theorem dX7_occurrence_14 : decode cX7_occurrence 14 = .ok (.iload_n 3, 1) := by decide +kernel
theorem dX7_occurrence_15 : decode cX7_occurrence 15 = .ok (.iconst 0, 1) := by decide +kernel
theorem dX7_occurrence_16 : decode cX7_occurrence 16 = .ok (.iconst 3, 1) := by decide +kernel
theorem dX7_occurrence_17 : decode cX7_occurrence 17 = .ok (.invokestatic 138, 3) := by decide +kernel
theorem dX7_occurrence_20 : decode cX7_occurrence 20 = .ok (.ifCond .ne 8, 3) := by decide +kernel
theorem dX7_occurrence_23 : decode cX7_occurrence 23 = .ok (.aload_n 0, 1) := by decide +kernel
theorem dX7_occurrence_24 : decode cX7_occurrence 24 = .ok (.invokevirtual 331, 3) := by decide +kernel
theorem dX7_occurrence_27 : decode cX7_occurrence 27 = .ok (.ireturn, 1) := by decide +kernel
theorem dX7_occurrence_28 : decode cX7_occurrence 28 = .ok (.aload_n 0, 1) := by decide +kernel
theorem dX7_occurrence_29 : decode cX7_occurrence 29 = .ok (.getfield 257, 3) := by decide +kernel
theorem dX7_occurrence_32 : decode cX7_occurrence 32 = .ok (.ifCond .ne 8, 3) := by decide +kernel
theorem dX7_occurrence_35 : decode cX7_occurrence 35 = .ok (.aload_n 0, 1) := by decide +kernel
theorem dX7_occurrence_36 : decode cX7_occurrence 36 = .ok (.invokevirtual 300, 3) := by decide +kernel
theorem dX7_occurrence_39 : decode cX7_occurrence 39 = .ok (.ireturn, 1) := by decide +kernel
theorem dX7_occurrence_40 : decode cX7_occurrence 40 = .ok (.aload_n 0, 1) := by decide +kernel
theorem dX7_occurrence_41 : decode cX7_occurrence 41 = .ok (.getfield 257, 3) := by decide +kernel
theorem dX7_occurrence_44 : decode cX7_occurrence 44 = .ok (.iconst 1, 1) := by decide +kernel
theorem dX7_occurrence_45 : decode cX7_occurrence 45 = .ok (.isub, 1) := by decide +kernel
theorem dX7_occurrence_46 : decode cX7_occurrence 46 = .ok (.istore 4, 2) := by decide +kernel
theorem dX7_occurrence_48 : decode cX7_occurrence 48 = .ok (.iload_n 2, 1) := by decide +kernel
theorem dX7_occurrence_49 : decode cX7_occurrence 49 = .ok (.istore 5, 2) := by decide +kernel
theorem dX7_occurrence_51 : decode cX7_occurrence 51 = .ok (.iconst 0, 1) := by decide +kernel
theorem dX7_occurrence_52 : decode cX7_occurrence 52 = .ok (.istore 6, 2) := by decide +kernel
theorem dX7_occurrence_54 : decode cX7_occurrence 54 = .ok (.iload 6, 2) := by decide +kernel
theorem dX7_occurrence_56 : decode cX7_occurrence 56 = .ok (.aload_n 0, 1) := by decide +kernel
theorem dX7_occurrence_57 : decode cX7_occurrence 57 = .ok (.getfield 19, 3) := by decide +kernel
theorem dX7_occurrence_60 : decode cX7_occurrence 60 = .ok (.iload 4, 2) := by decide +kernel
theorem dX7_occurrence_62 : decode cX7_occurrence 62 = .ok (.iaload, 1) := by decide +kernel
theorem dX7_occurrence_63 : decode cX7_occurrence 63 = .ok (.if_icmp .ge 61, 3) := by decide +kernel
theorem dX7_occurrence_66 : decode cX7_occurrence 66 = .ok (.aload_n 0, 1) := by decide +kernel
theorem dX7_occurrence_67 : decode cX7_occurrence 67 = .ok (.iload 4, 2) := by decide +kernel
theorem dX7_occurrence_69 : decode cX7_occurrence 69 = .ok (.iload 6, 2) := by decide +kernel
theorem dX7_occurrence_71 : decode cX7_occurrence 71 = .ok (.invokevirtual 113, 3) := by decide +kernel
theorem dX7_occurrence_74 : decode cX7_occurrence 74 = .ok (.ifCond .eq 44, 3) := by decide +kernel
theorem dX7_occurrence_77 : decode cX7_occurrence 77 = .ok (.aload_n 0, 1) := by decide +kernel
theorem dX7_occurrence_78 : decode cX7_occurrence 78 = .ok (.iload 4, 2) := by decide +kernel
theorem dX7_occurrence_80 : decode cX7_occurrence 80 = .ok (.iload 6, 2) := by decide +kernel
theorem dX7_occurrence_82 : decode cX7_occurrence 82 = .ok (.invokevirtual 117, 3) := by decide +kernel
theorem dX7_occurrence_85 : decode cX7_occurrence 85 = .ok (.iload_n 1, 1) := by decide +kernel
theorem dX7_occurrence_86 : decode cX7_occurrence 86 = .ok (.if_icmp .ne 32, 3) := by decide +kernel
theorem dX7_occurrence_89 : decode cX7_occurrence 89 = .ok (.aload_n 0, 1) := by decide +kernel
theorem dX7_occurrence_90 : decode cX7_occurrence 90 = .ok (.iload 4, 2) := by decide +kernel
theorem dX7_occurrence_92 : decode cX7_occurrence 92 = .ok (.iload 6, 2) := by decide +kernel
theorem dX7_occurrence_94 : decode cX7_occurrence 94 = .ok (.invokevirtual 120, 3) := by decide +kernel
theorem dX7_occurrence_97 : decode cX7_occurrence 97 = .ok (.ifCond .eq 21, 3) := by decide +kernel
theorem dX7_occurrence_100 : decode cX7_occurrence 100 = .ok (.iload 5, 2) := by decide +kernel
theorem dX7_occurrence_102 : decode cX7_occurrence 102 = .ok (.ifCond .ne 13, 3) := by decide +kernel
theorem dX7_occurrence_105 : decode cX7_occurrence 105 = .ok (.aload_n 0, 1) := by decide +kernel
theorem dX7_occurrence_106 : decode cX7_occurrence 106 = .ok (.iload 4, 2) := by decide +kernel
theorem dX7_occurrence_108 : decode cX7_occurrence 108 = .ok (.iload 6, 2) := by decide +kernel
theorem dX7_occurrence_110 : decode cX7_occurrence 110 = .ok (.iload_n 3, 1) := by decide +kernel
theorem dX7_occurrence_111 : decode cX7_occurrence 111 = .ok (.invokevirtual 397, 3) := by decide +kernel
theorem dX7_occurrence_114 : decode cX7_occurrence 114 = .ok (.ireturn, 1) := by decide +kernel
theorem dX7_occurrence_115 : decode cX7_occurrence 115 = .ok (.iinc 5 (-1), 3) := by decide +kernel
theorem dX7_occurrence_118 : decode cX7_occurrence 118 = .ok (.iinc 6 1, 3) := by decide +kernel
theorem dX7_occurrence_121 : decode cX7_occurrence 121 = .ok (.goto (-67), 3) := by decide +kernel
theorem dX7_occurrence_124 : decode cX7_occurrence 124 = .ok (.iconst (-1), 1) := by decide +kernel
theorem dX7_occurrence_125 : decode cX7_occurrence 125 = .ok (.ireturn, 1) := by decide +kernel
theorem dX7_unlike_0 : decode cX7_unlike 0 = .ok (.aload_n 0, 1) := by decide +kernel
theorem dX7_unlike_1 : decode cX7_unlike 1 = .ok (.getfield 257, 3) := by decide +kernel
theorem dX7_unlike_4 : decode cX7_unlike 4 = .ok (.ifCond .ne 5, 3) := by decide +kernel
theorem dX7_unlike_7 : decode cX7_unlike 7 = .ok (.iconst 0, 1) := by decide +kernel
theorem dX7_unlike_8 : decode cX7_unlike 8 = .ok (.ireturn, 1) := by decide +kernel
theorem dX7_unlike_9 : decode cX7_unlike 9 = .ok (.aload_n 0, 1) := by decide +kernel
theorem dX7_unlike_10 : decode cX7_unlike 10 = .ok (.getfield 257, 3) := by decide +kernel
theorem dX7_unlike_13 : decode cX7_unlike 13 = .ok (.iconst 1, 1) := by decide +kernel
theorem dX7_unlike_14 : decode cX7_unlike 14 = .ok (.isub, 1) := by decide +kernel
theorem dX7_unlike_15 : decode cX7_unlike 15 = .ok (.istore_n 1, 1) := by decide +kernel
theorem dX7_unlike_16 : decode cX7_unlike 16 = .ok (.aload_n 0, 1) := by decide +kernel
theorem dX7_unlike_17 : decode cX7_unlike 17 = .ok (.iload_n 1, 1) := by decide +kernel
theorem dX7_unlike_18 : decode cX7_unlike 18 = .ok (.invokevirtual 260, 3) := by decide +kernel
theorem dX7_unlike_21 : decode cX7_unlike 21 = .ok (.iconst 0, 1) := by decide +kernel
theorem dX7_unlike_22 : decode cX7_unlike 22 = .ok (.istore_n 2, 1) := by decide +kernel
theorem dX7_unlike_23 : decode cX7_unlike 23 = .ok (.iconst 0, 1) := by decide +kernel
theorem dX7_unlike_24 : decode cX7_unlike 24 = .ok (.istore_n 3, 1) := by decide +kernel
theorem dX7_unlike_25 : decode cX7_unlike 25 = .ok (.iload_n 3, 1) := by decide +kernel
theorem dX7_unlike_26 : decode cX7_unlike 26 = .ok (.aload_n 0, 1) := by decide +kernel
theorem dX7_unlike_27 : decode cX7_unlike 27 = .ok (.getfield 19, 3) := by decide +kernel
theorem dX7_unlike_30 : decode cX7_unlike 30 = .ok (.iload_n 1, 1) := by decide +kernel
theorem dX7_unlike_31 : decode cX7_unlike 31 = .ok (.iaload, 1) := by decide +kernel
theorem dX7_unlike_32 : decode cX7_unlike 32 = .ok (.if_icmp .ge 105, 3) := by decide +kernel
theorem dX7_unlike_35 : decode cX7_unlike 35 = .ok (.aload_n 0, 1) := by decide +kernel
theorem dX7_unlike_36 : decode cX7_unlike 36 = .ok (.iload_n 1, 1) := by decide +kernel
theorem dX7_unlike_37 : decode cX7_unlike 37 = .ok (.iload_n 3, 1) := by decide +kernel
theorem dX7_unlike_38 : decode cX7_unlike 38 = .ok (.invokevirtual 113, 3) := by decide +kernel
theorem dX7_unlike_41 : decode cX7_unlike 41 = .ok (.ifCond .eq 16, 3) := by decide +kernel
theorem dX7_unlike_44 : decode cX7_unlike 44 = .ok (.aload_n 0, 1) := by decide +kernel
theorem dX7_unlike_45 : decode cX7_unlike 45 = .ok (.iload_n 1, 1) := by decide +kernel
theorem dX7_unlike_46 : decode cX7_unlike 46 = .ok (.iload_n 3, 1) := by decide +kernel
theorem dX7_unlike_47 : decode cX7_unlike 47 = .ok (.invokevirtual 120, 3) := by decide +kernel
theorem dX7_unlike_50 : decode cX7_unlike 50 = .ok (.ifCond .eq 7, 3) := by decide +kernel
theorem dX7_unlike_53 : decode cX7_unlike 53 = .ok (.iconst 1, 1) := by decide +kernel
theorem dX7_unlike_54 : decode cX7_unlike 54 = .ok (.goto 4, 3) := by decide +kernel
theorem dX7_unlike_57 : decode cX7_unlike 57 = .ok (.iconst 0, 1) := by decide +kernel
theorem dX7_unlike_58 : decode cX7_unlike 58 = .ok (.istore 4, 2) := by decide +kernel
theorem dX7_unlike_60 : decode cX7_unlike 60 = .ok (.iconst 0, 1) := by decide +kernel
theorem dX7_unlike_61 : decode cX7_unlike 61 = .ok (.istore 5, 2) := by decide +kernel
theorem dX7_unlike_63 : decode cX7_unlike 63 = .ok (.iload 5, 2) := by decide +kernel
theorem dX7_unlike_65 : decode cX7_unlike 65 = .ok (.iload_n 3, 1) := by decide +kernel
theorem dX7_unlike_66 : decode cX7_unlike 66 = .ok (.if_icmp .ge 52, 3) := by decide +kernel
theorem dX7_unlike_69 : decode cX7_unlike 69 = .ok (.iload 4, 2) := by decide +kernel
theorem dX7_unlike_71 : decode cX7_unlike 71 = .ok (.ifCond .eq 47, 3) := by decide +kernel
theorem dX7_unlike_74 : decode cX7_unlike 74 = .ok (.aload_n 0, 1) := by decide +kernel
theorem dX7_unlike_75 : decode cX7_unlike 75 = .ok (.iload_n 1, 1) := by decide +kernel
theorem dX7_unlike_76 : decode cX7_unlike 76 = .ok (.iload 5, 2) := by decide +kernel
theorem dX7_unlike_78 : decode cX7_unlike 78 = .ok (.invokevirtual 113, 3) := by decide +kernel
theorem dX7_unlike_81 : decode cX7_unlike 81 = .ok (.ifCond .eq 24, 3) := by decide +kernel
theorem dX7_unlike_84 : decode cX7_unlike 84 = .ok (.aload_n 0, 1) := by decide +kernel
theorem dX7_unlike_85 : decode cX7_unlike 85 = .ok (.iload_n 1, 1) := by decide +kernel
theorem dX7_unlike_86 : decode cX7_unlike 86 = .ok (.iload 5, 2) := by decide +kernel
theorem dX7_unlike_88 : decode cX7_unlike 88 = .ok (.invokevirtual 120, 3) := by decide +kernel
theorem dX7_unlike_91 : decode cX7_unlike 91 = .ok (.ifCond .eq 14, 3) := by decide +kernel
theorem dX7_unlike_94 : decode cX7_unlike 94 = .ok (.aload_n 0, 1) := by decide +kernel
theorem dX7_unlike_95 : decode cX7_unlike 95 = .ok (.iload_n 1, 1) := by decide +kernel
theorem dX7_unlike_96 : decode cX7_unlike 96 = .ok (.iload_n 3, 1) := by decide +kernel
theorem dX7_unlike_97 : decode cX7_unlike 97 = .ok (.iload 5, 2) := by decide +kernel
theorem dX7_unlike_99 : decode cX7_unlike 99 = .ok (.invokevirtual 400, 3) := by decide +kernel
theorem dX7_unlike_102 : decode cX7_unlike 102 = .ok (.ifCond .ne 7, 3) := by decide +kernel
theorem dX7_unlike_105 : decode cX7_unlike 105 = .ok (.iconst 1, 1) := by decide +kernel
theorem dX7_unlike_106 : decode cX7_unlike 106 = .ok (.goto 4, 3) := by decide +kernel
theorem dX7_unlike_109 : decode cX7_unlike 109 = .ok (.iconst 0, 1) := by decide +kernel
theorem dX7_unlike_110 : decode cX7_unlike 110 = .ok (.istore 4, 2) := by decide +kernel
theorem dX7_unlike_112 : decode cX7_unlike 112 = .ok (.iinc 5 1, 3) := by decide +kernel
theorem dX7_unlike_115 : decode cX7_unlike 115 = .ok (.goto (-52), 3) := by decide +kernel
theorem dX7_unlike_118 : decode cX7_unlike 118 = .ok (.iload_n 2, 1) := by decide +kernel
theorem dX7_unlike_119 : decode cX7_unlike 119 = .ok (.iload 4, 2) := by decide +kernel
theorem dX7_unlike_121 : decode cX7_unlike 121 = .ok (.ifCond .eq 7, 3) := by decide +kernel
theorem dX7_unlike_124 : decode cX7_unlike 124 = .ok (.iconst 1, 1) := by decide +kernel
theorem dX7_unlike_125 : decode cX7_unlike 125 = .ok (.goto 4, 3) := by decide +kernel
theorem dX7_unlike_128 : decode cX7_unlike 128 = .ok (.iconst 0, 1) := by decide +kernel
theorem dX7_unlike_129 : decode cX7_unlike 129 = .ok (.iadd, 1) := by decide +kernel
theorem dX7_unlike_130 : decode cX7_unlike 130 = .ok (.istore_n 2, 1) := by decide +kernel
theorem dX7_unlike_131 : decode cX7_unlike 131 = .ok (.iinc 3 1, 3) := by decide +kernel
theorem dX7_unlike_134 : decode cX7_unlike 134 = .ok (.goto (-109), 3) := by decide +kernel
theorem dX7_unlike_137 : decode cX7_unlike 137 = .ok (.iload_n 2, 1) := by decide +kernel
theorem dX7_unlike_138 : decode cX7_unlike 138 = .ok (.ireturn, 1) := by decide +kernel
theorem dX7_variableAt_0 : decode cX7_variableAt 0 = .ok (.iload_n 1, 1) := by decide +kernel
theorem dX7_variableAt_1 : decode cX7_variableAt 1 = .ok (.iconst 0, 1) := by decide +kernel
theorem dX7_variableAt_2 : decode cX7_variableAt 2 = .ok (.iconst 3, 1) := by decide +kernel
theorem dX7_variableAt_3 : decode cX7_variableAt 3 = .ok (.invokestatic 138, 3) := by decide +kernel
theorem dX7_variableAt_6 : decode cX7_variableAt 6 = .ok (.ifCond .eq 7, 3) := by decide +kernel
theorem dX7_variableAt_9 : decode cX7_variableAt 9 = .ok (.iload_n 2, 1) := by decide +kernel
theorem dX7_variableAt_10 : decode cX7_variableAt 10 = .ok (.ifCond .ge 8, 3) := by decide +kernel
theorem dX7_variableAt_13 : decode cX7_variableAt 13 = .ok (.aload_n 0, 1) := by decide +kernel
theorem dX7_variableAt_14 : decode cX7_variableAt 14 = .ok (.invokevirtual 331, 3) := by decide +kernel
theorem dX7_variableAt_17 : decode cX7_variableAt 17 = .ok (.ireturn, 1) := by decide +kernel
theorem dX7_variableAt_18 : decode cX7_variableAt 18 = .ok (.iload_n 2, 1) := by decide +kernel
theorem dX7_variableAt_19 : decode cX7_variableAt 19 = .ok (.aload_n 0, 1) := by decide +kernel
theorem dX7_variableAt_20 : decode cX7_variableAt 20 = .ok (.getfield 16, 3) := by decide +kernel
theorem dX7_variableAt_23 : decode cX7_variableAt 23 = .ok (.bipush 13, 2) := by decide +kernel
theorem dX7_variableAt_25 : decode cX7_variableAt 25 = .ok (.iload_n 1, 1) := by decide +kernel
theorem dX7_variableAt_26 : decode cX7_variableAt 26 = .ok (.imul, 1) := by decide +kernel
theorem dX7_variableAt_27 : decode cX7_variableAt 27 = .ok (.iaload, 1) := by decide +kernel
theorem dX7_variableAt_28 : decode cX7_variableAt 28 = .ok (.if_icmp .ge 19, 3) := by decide +kernel
theorem dX7_variableAt_31 : decode cX7_variableAt 31 = .ok (.aload_n 0, 1) := by decide +kernel
theorem dX7_variableAt_32 : decode cX7_variableAt 32 = .ok (.getfield 16, 3) := by decide +kernel
theorem dX7_variableAt_35 : decode cX7_variableAt 35 = .ok (.bipush 13, 2) := by decide +kernel
theorem dX7_variableAt_37 : decode cX7_variableAt 37 = .ok (.iload_n 1, 1) := by decide +kernel
theorem dX7_variableAt_38 : decode cX7_variableAt 38 = .ok (.imul, 1) := by decide +kernel
theorem dX7_variableAt_39 : decode cX7_variableAt 39 = .ok (.iconst 1, 1) := by decide +kernel
theorem dX7_variableAt_40 : decode cX7_variableAt 40 = .ok (.iadd, 1) := by decide +kernel
theorem dX7_variableAt_41 : decode cX7_variableAt 41 = .ok (.iload_n 2, 1) := by decide +kernel
theorem dX7_variableAt_42 : decode cX7_variableAt 42 = .ok (.iadd, 1) := by decide +kernel
theorem dX7_variableAt_43 : decode cX7_variableAt 43 = .ok (.iaload, 1) := by decide +kernel
theorem dX7_variableAt_44 : decode cX7_variableAt 44 = .ok (.goto 4, 3) := by decide +kernel
theorem dX7_variableAt_47 : decode cX7_variableAt 47 = .ok (.iconst (-1), 1) := by decide +kernel
theorem dX7_variableAt_48 : decode cX7_variableAt 48 = .ok (.ireturn, 1) := by decide +kernel
theorem dX7_toldOf_0 : decode cX7_toldOf 0 = .ok (.iload_n 1, 1) := by decide +kernel
theorem dX7_toldOf_1 : decode cX7_toldOf 1 = .ok (.iconst 3, 1) := by decide +kernel
theorem dX7_toldOf_2 : decode cX7_toldOf 2 = .ok (.if_icmp .ge 12, 3) := by decide +kernel
theorem dX7_toldOf_5 : decode cX7_toldOf 5 = .ok (.aload_n 0, 1) := by decide +kernel
theorem dX7_toldOf_6 : decode cX7_toldOf 6 = .ok (.getfield 7, 3) := by decide +kernel
theorem dX7_toldOf_9 : decode cX7_toldOf 9 = .ok (.iload_n 1, 1) := by decide +kernel
theorem dX7_toldOf_10 : decode cX7_toldOf 10 = .ok (.iaload, 1) := by decide +kernel
theorem dX7_toldOf_11 : decode cX7_toldOf 11 = .ok (.goto 19, 3) := by decide +kernel
theorem dX7_toldOf_14 : decode cX7_toldOf 14 = .ok (.iload_n 1, 1) := by decide +kernel
theorem dX7_toldOf_15 : decode cX7_toldOf 15 = .ok (.iconst 3, 1) := by decide +kernel
theorem dX7_toldOf_16 : decode cX7_toldOf 16 = .ok (.if_icmp .ne 10, 3) := by decide +kernel
theorem dX7_toldOf_19 : decode cX7_toldOf 19 = .ok (.aload_n 0, 1) := by decide +kernel
theorem dX7_toldOf_20 : decode cX7_toldOf 20 = .ok (.getfield 127, 3) := by decide +kernel
theorem dX7_toldOf_23 : decode cX7_toldOf 23 = .ok (.goto 7, 3) := by decide +kernel
theorem dX7_toldOf_26 : decode cX7_toldOf 26 = .ok (.aload_n 0, 1) := by decide +kernel
theorem dX7_toldOf_27 : decode cX7_toldOf 27 = .ok (.getfield 294, 3) := by decide +kernel
theorem dX7_toldOf_30 : decode cX7_toldOf 30 = .ok (.ireturn, 1) := by decide +kernel
theorem dX7_told_0 : decode cX7_told 0 = .ok (.iload_n 1, 1) := by decide +kernel
theorem dX7_told_1 : decode cX7_told 1 = .ok (.iconst 0, 1) := by decide +kernel
theorem dX7_told_2 : decode cX7_told 2 = .ok (.iconst 4, 1) := by decide +kernel
theorem dX7_told_3 : decode cX7_told 3 = .ok (.invokestatic 138, 3) := by decide +kernel
theorem dX7_told_6 : decode cX7_told 6 = .ok (.ifCond .eq 11, 3) := by decide +kernel
theorem dX7_told_9 : decode cX7_told 9 = .ok (.aload_n 0, 1) := by decide +kernel
theorem dX7_told_10 : decode cX7_told 10 = .ok (.iload_n 1, 1) := by decide +kernel
theorem dX7_told_11 : decode cX7_told 11 = .ok (.invokevirtual 403, 3) := by decide +kernel
theorem dX7_told_14 : decode cX7_told 14 = .ok (.goto 7, 3) := by decide +kernel
theorem dX7_told_17 : decode cX7_told 17 = .ok (.aload_n 0, 1) := by decide +kernel
theorem dX7_told_18 : decode cX7_told 18 = .ok (.invokevirtual 331, 3) := by decide +kernel
theorem dX7_told_21 : decode cX7_told 21 = .ok (.ireturn, 1) := by decide +kernel
theorem dX7_digest_0 : decode cX7_digest 0 = .ok (.ldc2_w 406, 3) := by decide +kernel
theorem dX7_digest_3 : decode cX7_digest 3 = .ok (.lstore_n 1, 1) := by decide +kernel
theorem dX7_digest_4 : decode cX7_digest 4 = .ok (.iconst 0, 1) := by decide +kernel
theorem dX7_digest_5 : decode cX7_digest 5 = .ok (.istore_n 3, 1) := by decide +kernel
theorem dX7_digest_6 : decode cX7_digest 6 = .ok (.iload_n 3, 1) := by decide +kernel
theorem dX7_digest_7 : decode cX7_digest 7 = .ok (.iconst 5, 1) := by decide +kernel
theorem dX7_digest_8 : decode cX7_digest 8 = .ok (.if_icmp .ge 22, 3) := by decide +kernel
theorem dX7_digest_11 : decode cX7_digest 11 = .ok (.ldc2_w 408, 3) := by decide +kernel
theorem dX7_digest_14 : decode cX7_digest 14 = .ok (.lload_n 1, 1) := by decide +kernel
theorem dX7_digest_15 : decode cX7_digest 15 = .ok (.lmul, 1) := by decide +kernel
theorem dX7_digest_16 : decode cX7_digest 16 = .ok (.aload_n 0, 1) := by decide +kernel
theorem dX7_digest_17 : decode cX7_digest 17 = .ok (.iload_n 3, 1) := by decide +kernel
theorem dX7_digest_18 : decode cX7_digest 18 = .ok (.invokevirtual 403, 3) := by decide +kernel
theorem dX7_digest_21 : decode cX7_digest 21 = .ok (.i2l, 1) := by decide +kernel
theorem dX7_digest_22 : decode cX7_digest 22 = .ok (.ladd, 1) := by decide +kernel
theorem dX7_digest_23 : decode cX7_digest 23 = .ok (.lstore_n 1, 1) := by decide +kernel
theorem dX7_digest_24 : decode cX7_digest 24 = .ok (.iinc 3 1, 3) := by decide +kernel
theorem dX7_digest_27 : decode cX7_digest 27 = .ok (.goto (-21), 3) := by decide +kernel
theorem dX7_digest_30 : decode cX7_digest 30 = .ok (.iconst 0, 1) := by decide +kernel
theorem dX7_digest_31 : decode cX7_digest 31 = .ok (.istore_n 3, 1) := by decide +kernel
theorem dX7_digest_32 : decode cX7_digest 32 = .ok (.iload_n 3, 1) := by decide +kernel
theorem dX7_digest_33 : decode cX7_digest 33 = .ok (.bipush 6, 2) := by decide +kernel
theorem dX7_digest_35 : decode cX7_digest 35 = .ok (.if_icmp .ge 22, 3) := by decide +kernel
theorem dX7_digest_38 : decode cX7_digest 38 = .ok (.ldc2_w 408, 3) := by decide +kernel
theorem dX7_digest_41 : decode cX7_digest 41 = .ok (.lload_n 1, 1) := by decide +kernel
theorem dX7_digest_42 : decode cX7_digest 42 = .ok (.lmul, 1) := by decide +kernel
theorem dX7_digest_43 : decode cX7_digest 43 = .ok (.aload_n 0, 1) := by decide +kernel
theorem dX7_digest_44 : decode cX7_digest 44 = .ok (.iload_n 3, 1) := by decide +kernel
theorem dX7_digest_45 : decode cX7_digest 45 = .ok (.invokevirtual 382, 3) := by decide +kernel
theorem dX7_digest_48 : decode cX7_digest 48 = .ok (.i2l, 1) := by decide +kernel
theorem dX7_digest_49 : decode cX7_digest 49 = .ok (.ladd, 1) := by decide +kernel
theorem dX7_digest_50 : decode cX7_digest 50 = .ok (.lstore_n 1, 1) := by decide +kernel
theorem dX7_digest_51 : decode cX7_digest 51 = .ok (.iinc 3 1, 3) := by decide +kernel
theorem dX7_digest_54 : decode cX7_digest 54 = .ok (.goto (-22), 3) := by decide +kernel
theorem dX7_digest_57 : decode cX7_digest 57 = .ok (.aload_n 0, 1) := by decide +kernel
theorem dX7_digest_58 : decode cX7_digest 58 = .ok (.invokevirtual 306, 3) := by decide +kernel
theorem dX7_digest_61 : decode cX7_digest 61 = .ok (.istore_n 3, 1) := by decide +kernel
theorem dX7_digest_62 : decode cX7_digest 62 = .ok (.iconst 0, 1) := by decide +kernel
theorem dX7_digest_63 : decode cX7_digest 63 = .ok (.istore 4, 2) := by decide +kernel
theorem dX7_digest_65 : decode cX7_digest 65 = .ok (.iload 4, 2) := by decide +kernel
theorem dX7_digest_67 : decode cX7_digest 67 = .ok (.iload_n 3, 1) := by decide +kernel
theorem dX7_digest_68 : decode cX7_digest 68 = .ok (.if_icmp .ge 23, 3) := by decide +kernel
theorem dX7_digest_71 : decode cX7_digest 71 = .ok (.ldc2_w 408, 3) := by decide +kernel
theorem dX7_digest_74 : decode cX7_digest 74 = .ok (.lload_n 1, 1) := by decide +kernel
theorem dX7_digest_75 : decode cX7_digest 75 = .ok (.lmul, 1) := by decide +kernel
theorem dX7_digest_76 : decode cX7_digest 76 = .ok (.aload_n 0, 1) := by decide +kernel
theorem dX7_digest_77 : decode cX7_digest 77 = .ok (.iload 4, 2) := by decide +kernel
theorem dX7_digest_79 : decode cX7_digest 79 = .ok (.invokevirtual 376, 3) := by decide +kernel
theorem dX7_digest_82 : decode cX7_digest 82 = .ok (.i2l, 1) := by decide +kernel
theorem dX7_digest_83 : decode cX7_digest 83 = .ok (.ladd, 1) := by decide +kernel
theorem dX7_digest_84 : decode cX7_digest 84 = .ok (.lstore_n 1, 1) := by decide +kernel
theorem dX7_digest_85 : decode cX7_digest 85 = .ok (.iinc 4 1, 3) := by decide +kernel
theorem dX7_digest_88 : decode cX7_digest 88 = .ok (.goto (-23), 3) := by decide +kernel
theorem dX7_digest_91 : decode cX7_digest 91 = .ok (.iconst 0, 1) := by decide +kernel
theorem dX7_digest_92 : decode cX7_digest 92 = .ok (.istore 4, 2) := by decide +kernel
theorem dX7_digest_94 : decode cX7_digest 94 = .ok (.iload 4, 2) := by decide +kernel
theorem dX7_digest_96 : decode cX7_digest 96 = .ok (.bipush 50, 2) := by decide +kernel
theorem dX7_digest_98 : decode cX7_digest 98 = .ok (.if_icmp .ge 42, 3) := by decide +kernel
theorem dX7_digest_101 : decode cX7_digest 101 = .ok (.aload_n 0, 1) := by decide +kernel
theorem dX7_digest_102 : decode cX7_digest 102 = .ok (.getfield 257, 3) := by decide +kernel
theorem dX7_digest_105 : decode cX7_digest 105 = .ok (.ifCond .le 35, 3) := by decide +kernel
theorem dX7_digest_108 : decode cX7_digest 108 = .ok (.ldc2_w 408, 3) := by decide +kernel
theorem dX7_digest_111 : decode cX7_digest 111 = .ok (.lload_n 1, 1) := by decide +kernel
theorem dX7_digest_112 : decode cX7_digest 112 = .ok (.lmul, 1) := by decide +kernel
theorem dX7_digest_113 : decode cX7_digest 113 = .ok (.aload_n 0, 1) := by decide +kernel
theorem dX7_digest_114 : decode cX7_digest 114 = .ok (.aload_n 0, 1) := by decide +kernel
theorem dX7_digest_115 : decode cX7_digest 115 = .ok (.getfield 257, 3) := by decide +kernel
theorem dX7_digest_118 : decode cX7_digest 118 = .ok (.iconst 1, 1) := by decide +kernel
theorem dX7_digest_119 : decode cX7_digest 119 = .ok (.isub, 1) := by decide +kernel
theorem dX7_digest_120 : decode cX7_digest 120 = .ok (.iload 4, 2) := by decide +kernel
theorem dX7_digest_122 : decode cX7_digest 122 = .ok (.iconst 5, 1) := by decide +kernel
theorem dX7_digest_123 : decode cX7_digest 123 = .ok (.idiv, 1) := by decide +kernel
theorem dX7_digest_124 : decode cX7_digest 124 = .ok (.iload 4, 2) := by decide +kernel
theorem dX7_digest_126 : decode cX7_digest 126 = .ok (.iconst 5, 1) := by decide +kernel
theorem dX7_digest_127 : decode cX7_digest 127 = .ok (.irem, 1) := by decide +kernel
theorem dX7_digest_128 : decode cX7_digest 128 = .ok (.invokevirtual 391, 3) := by decide +kernel
theorem dX7_digest_131 : decode cX7_digest 131 = .ok (.i2l, 1) := by decide +kernel
theorem dX7_digest_132 : decode cX7_digest 132 = .ok (.ladd, 1) := by decide +kernel
theorem dX7_digest_133 : decode cX7_digest 133 = .ok (.lstore_n 1, 1) := by decide +kernel
theorem dX7_digest_134 : decode cX7_digest 134 = .ok (.iinc 4 1, 3) := by decide +kernel
theorem dX7_digest_137 : decode cX7_digest 137 = .ok (.goto (-43), 3) := by decide +kernel
theorem dX7_digest_140 : decode cX7_digest 140 = .ok (.lload_n 1, 1) := by decide +kernel
theorem dX7_digest_141 : decode cX7_digest 141 = .ok (.lreturn, 1) := by decide +kernel
theorem dL_law_0 : decode cL_law 0 = .ok (.new 7, 3) := by decide +kernel
theorem dL_law_3 : decode cL_law 3 = .ok (.dup, 1) := by decide +kernel
theorem dL_law_4 : decode cL_law 4 = .ok (.invokespecial 9, 3) := by decide +kernel
theorem dL_law_7 : decode cL_law 7 = .ok (.astore_n 1, 1) := by decide +kernel
theorem dL_law_8 : decode cL_law 8 = .ok (.new 10, 3) := by decide +kernel
theorem dL_law_11 : decode cL_law 11 = .ok (.dup, 1) := by decide +kernel
theorem dL_law_12 : decode cL_law 12 = .ok (.invokespecial 12, 3) := by decide +kernel
theorem dL_law_15 : decode cL_law 15 = .ok (.astore_n 2, 1) := by decide +kernel
theorem dL_law_16 : decode cL_law 16 = .ok (.iconst 0, 1) := by decide +kernel
theorem dL_law_17 : decode cL_law 17 = .ok (.istore_n 3, 1) := by decide +kernel
theorem dL_law_18 : decode cL_law 18 = .ok (.iload_n 3, 1) := by decide +kernel
theorem dL_law_19 : decode cL_law 19 = .ok (.aload_n 0, 1) := by decide +kernel
theorem dL_law_20 : decode cL_law 20 = .ok (.arraylength, 1) := by decide +kernel
theorem dL_law_21 : decode cL_law 21 = .ok (.iconst 4, 1) := by decide +kernel
theorem dL_law_22 : decode cL_law 22 = .ok (.isub, 1) := by decide +kernel
theorem dL_law_23 : decode cL_law 23 = .ok (.if_icmp .gt 643, 3) := by decide +kernel
theorem dL_law_26 : decode cL_law 26 = .ok (.aload_n 0, 1) := by decide +kernel
theorem dL_law_27 : decode cL_law 27 = .ok (.iload_n 3, 1) := by decide +kernel
theorem dL_law_28 : decode cL_law 28 = .ok (.iaload, 1) := by decide +kernel
theorem dL_law_29 : decode cL_law 29 = .ok (.bipush 31, 2) := by decide +kernel
theorem dL_law_31 : decode cL_law 31 = .ok (.iand, 1) := by decide +kernel
theorem dL_law_32 : decode cL_law 32 = .ok (.tableswitch 628 0 22 #[108, 131, 144, 167, 180, 203, 216, 229, 242, 265, 278, 301, 334, 357, 380, 413, 446, 489, 532, 545, 578, 591, 614], 108) := by decide +kernel
theorem dL_law_140 : decode cL_law 140 = .ok (.aload_n 1, 1) := by decide +kernel
theorem dL_law_141 : decode cL_law 141 = .ok (.aload_n 0, 1) := by decide +kernel
theorem dL_law_142 : decode cL_law 142 = .ok (.iload_n 3, 1) := by decide +kernel
theorem dL_law_143 : decode cL_law 143 = .ok (.iconst 1, 1) := by decide +kernel
theorem dL_law_144 : decode cL_law 144 = .ok (.iadd, 1) := by decide +kernel
theorem dL_law_145 : decode cL_law 145 = .ok (.iaload, 1) := by decide +kernel
theorem dL_law_146 : decode cL_law 146 = .ok (.invokevirtual 13, 3) := by decide +kernel
theorem dL_law_149 : decode cL_law 149 = .ok (.aload_n 2, 1) := by decide +kernel
theorem dL_law_150 : decode cL_law 150 = .ok (.aload_n 0, 1) := by decide +kernel
theorem dL_law_151 : decode cL_law 151 = .ok (.iload_n 3, 1) := by decide +kernel
theorem dL_law_152 : decode cL_law 152 = .ok (.iconst 1, 1) := by decide +kernel
theorem dL_law_153 : decode cL_law 153 = .ok (.iadd, 1) := by decide +kernel
theorem dL_law_154 : decode cL_law 154 = .ok (.iaload, 1) := by decide +kernel
theorem dL_law_155 : decode cL_law 155 = .ok (.invokevirtual 17, 3) := by decide +kernel
theorem dL_law_158 : decode cL_law 158 = .ok (.if_icmp .eq 502, 3) := by decide +kernel
theorem dL_law_161 : decode cL_law 161 = .ok (.iconst 0, 1) := by decide +kernel
theorem dL_law_162 : decode cL_law 162 = .ok (.ireturn, 1) := by decide +kernel
theorem dL_law_163 : decode cL_law 163 = .ok (.aload_n 1, 1) := by decide +kernel
theorem dL_law_164 : decode cL_law 164 = .ok (.invokevirtual 18, 3) := by decide +kernel
theorem dL_law_167 : decode cL_law 167 = .ok (.aload_n 2, 1) := by decide +kernel
theorem dL_law_168 : decode cL_law 168 = .ok (.invokevirtual 22, 3) := by decide +kernel
theorem dL_law_171 : decode cL_law 171 = .ok (.if_icmp .eq 489, 3) := by decide +kernel
theorem dL_law_174 : decode cL_law 174 = .ok (.iconst 0, 1) := by decide +kernel
theorem dL_law_175 : decode cL_law 175 = .ok (.ireturn, 1) := by decide +kernel
theorem dL_law_176 : decode cL_law 176 = .ok (.aload_n 1, 1) := by decide +kernel
theorem dL_law_177 : decode cL_law 177 = .ok (.aload_n 0, 1) := by decide +kernel
theorem dL_law_178 : decode cL_law 178 = .ok (.iload_n 3, 1) := by decide +kernel
theorem dL_law_179 : decode cL_law 179 = .ok (.iconst 1, 1) := by decide +kernel
theorem dL_law_180 : decode cL_law 180 = .ok (.iadd, 1) := by decide +kernel
theorem dL_law_181 : decode cL_law 181 = .ok (.iaload, 1) := by decide +kernel
theorem dL_law_182 : decode cL_law 182 = .ok (.invokevirtual 23, 3) := by decide +kernel
theorem dL_law_185 : decode cL_law 185 = .ok (.aload_n 2, 1) := by decide +kernel
theorem dL_law_186 : decode cL_law 186 = .ok (.aload_n 0, 1) := by decide +kernel
theorem dL_law_187 : decode cL_law 187 = .ok (.iload_n 3, 1) := by decide +kernel
theorem dL_law_188 : decode cL_law 188 = .ok (.iconst 1, 1) := by decide +kernel
theorem dL_law_189 : decode cL_law 189 = .ok (.iadd, 1) := by decide +kernel
theorem dL_law_190 : decode cL_law 190 = .ok (.iaload, 1) := by decide +kernel
theorem dL_law_191 : decode cL_law 191 = .ok (.invokevirtual 26, 3) := by decide +kernel
theorem dL_law_194 : decode cL_law 194 = .ok (.if_icmp .eq 466, 3) := by decide +kernel
theorem dL_law_197 : decode cL_law 197 = .ok (.iconst 0, 1) := by decide +kernel
theorem dL_law_198 : decode cL_law 198 = .ok (.ireturn, 1) := by decide +kernel
theorem dL_law_199 : decode cL_law 199 = .ok (.aload_n 1, 1) := by decide +kernel
theorem dL_law_200 : decode cL_law 200 = .ok (.invokevirtual 27, 3) := by decide +kernel
theorem dL_law_203 : decode cL_law 203 = .ok (.aload_n 2, 1) := by decide +kernel
theorem dL_law_204 : decode cL_law 204 = .ok (.invokevirtual 30, 3) := by decide +kernel
theorem dL_law_207 : decode cL_law 207 = .ok (.if_icmp .eq 453, 3) := by decide +kernel
theorem dL_law_210 : decode cL_law 210 = .ok (.iconst 0, 1) := by decide +kernel
theorem dL_law_211 : decode cL_law 211 = .ok (.ireturn, 1) := by decide +kernel
theorem dL_law_212 : decode cL_law 212 = .ok (.aload_n 1, 1) := by decide +kernel
theorem dL_law_213 : decode cL_law 213 = .ok (.aload_n 0, 1) := by decide +kernel
theorem dL_law_214 : decode cL_law 214 = .ok (.iload_n 3, 1) := by decide +kernel
theorem dL_law_215 : decode cL_law 215 = .ok (.iconst 1, 1) := by decide +kernel
theorem dL_law_216 : decode cL_law 216 = .ok (.iadd, 1) := by decide +kernel
theorem dL_law_217 : decode cL_law 217 = .ok (.iaload, 1) := by decide +kernel
theorem dL_law_218 : decode cL_law 218 = .ok (.invokevirtual 31, 3) := by decide +kernel
theorem dL_law_221 : decode cL_law 221 = .ok (.aload_n 2, 1) := by decide +kernel
theorem dL_law_222 : decode cL_law 222 = .ok (.aload_n 0, 1) := by decide +kernel
theorem dL_law_223 : decode cL_law 223 = .ok (.iload_n 3, 1) := by decide +kernel
theorem dL_law_224 : decode cL_law 224 = .ok (.iconst 1, 1) := by decide +kernel
theorem dL_law_225 : decode cL_law 225 = .ok (.iadd, 1) := by decide +kernel
theorem dL_law_226 : decode cL_law 226 = .ok (.iaload, 1) := by decide +kernel
theorem dL_law_227 : decode cL_law 227 = .ok (.invokevirtual 34, 3) := by decide +kernel
theorem dL_law_230 : decode cL_law 230 = .ok (.if_icmp .eq 430, 3) := by decide +kernel
theorem dL_law_233 : decode cL_law 233 = .ok (.iconst 0, 1) := by decide +kernel
theorem dL_law_234 : decode cL_law 234 = .ok (.ireturn, 1) := by decide +kernel
theorem dL_law_235 : decode cL_law 235 = .ok (.aload_n 1, 1) := by decide +kernel
theorem dL_law_236 : decode cL_law 236 = .ok (.invokevirtual 35, 3) := by decide +kernel
theorem dL_law_239 : decode cL_law 239 = .ok (.aload_n 2, 1) := by decide +kernel
theorem dL_law_240 : decode cL_law 240 = .ok (.invokevirtual 38, 3) := by decide +kernel
theorem dL_law_243 : decode cL_law 243 = .ok (.if_icmp .eq 417, 3) := by decide +kernel
theorem dL_law_246 : decode cL_law 246 = .ok (.iconst 0, 1) := by decide +kernel
theorem dL_law_247 : decode cL_law 247 = .ok (.ireturn, 1) := by decide +kernel
theorem dL_law_248 : decode cL_law 248 = .ok (.aload_n 1, 1) := by decide +kernel
theorem dL_law_249 : decode cL_law 249 = .ok (.invokevirtual 39, 3) := by decide +kernel
theorem dL_law_252 : decode cL_law 252 = .ok (.aload_n 2, 1) := by decide +kernel
theorem dL_law_253 : decode cL_law 253 = .ok (.invokevirtual 42, 3) := by decide +kernel
theorem dL_law_256 : decode cL_law 256 = .ok (.if_icmp .eq 404, 3) := by decide +kernel
theorem dL_law_259 : decode cL_law 259 = .ok (.iconst 0, 1) := by decide +kernel
theorem dL_law_260 : decode cL_law 260 = .ok (.ireturn, 1) := by decide +kernel
theorem dL_law_261 : decode cL_law 261 = .ok (.aload_n 1, 1) := by decide +kernel
theorem dL_law_262 : decode cL_law 262 = .ok (.invokevirtual 43, 3) := by decide +kernel
theorem dL_law_265 : decode cL_law 265 = .ok (.aload_n 2, 1) := by decide +kernel
theorem dL_law_266 : decode cL_law 266 = .ok (.invokevirtual 46, 3) := by decide +kernel
theorem dL_law_269 : decode cL_law 269 = .ok (.if_icmp .eq 391, 3) := by decide +kernel
theorem dL_law_272 : decode cL_law 272 = .ok (.iconst 0, 1) := by decide +kernel
theorem dL_law_273 : decode cL_law 273 = .ok (.ireturn, 1) := by decide +kernel
theorem dL_law_274 : decode cL_law 274 = .ok (.aload_n 1, 1) := by decide +kernel
theorem dL_law_275 : decode cL_law 275 = .ok (.aload_n 0, 1) := by decide +kernel
theorem dL_law_276 : decode cL_law 276 = .ok (.iload_n 3, 1) := by decide +kernel
theorem dL_law_277 : decode cL_law 277 = .ok (.iconst 1, 1) := by decide +kernel
theorem dL_law_278 : decode cL_law 278 = .ok (.iadd, 1) := by decide +kernel
theorem dL_law_279 : decode cL_law 279 = .ok (.iaload, 1) := by decide +kernel
theorem dL_law_280 : decode cL_law 280 = .ok (.invokevirtual 47, 3) := by decide +kernel
theorem dL_law_283 : decode cL_law 283 = .ok (.aload_n 2, 1) := by decide +kernel
theorem dL_law_284 : decode cL_law 284 = .ok (.aload_n 0, 1) := by decide +kernel
theorem dL_law_285 : decode cL_law 285 = .ok (.iload_n 3, 1) := by decide +kernel
theorem dL_law_286 : decode cL_law 286 = .ok (.iconst 1, 1) := by decide +kernel
theorem dL_law_287 : decode cL_law 287 = .ok (.iadd, 1) := by decide +kernel
theorem dL_law_288 : decode cL_law 288 = .ok (.iaload, 1) := by decide +kernel
theorem dL_law_289 : decode cL_law 289 = .ok (.invokevirtual 50, 3) := by decide +kernel
theorem dL_law_292 : decode cL_law 292 = .ok (.if_icmp .eq 368, 3) := by decide +kernel
theorem dL_law_295 : decode cL_law 295 = .ok (.iconst 0, 1) := by decide +kernel
theorem dL_law_296 : decode cL_law 296 = .ok (.ireturn, 1) := by decide +kernel
theorem dL_law_297 : decode cL_law 297 = .ok (.aload_n 1, 1) := by decide +kernel
theorem dL_law_298 : decode cL_law 298 = .ok (.invokevirtual 51, 3) := by decide +kernel
theorem dL_law_301 : decode cL_law 301 = .ok (.aload_n 2, 1) := by decide +kernel
theorem dL_law_302 : decode cL_law 302 = .ok (.invokevirtual 54, 3) := by decide +kernel
theorem dL_law_305 : decode cL_law 305 = .ok (.if_icmp .eq 355, 3) := by decide +kernel
theorem dL_law_308 : decode cL_law 308 = .ok (.iconst 0, 1) := by decide +kernel
theorem dL_law_309 : decode cL_law 309 = .ok (.ireturn, 1) := by decide +kernel
theorem dL_law_310 : decode cL_law 310 = .ok (.aload_n 1, 1) := by decide +kernel
theorem dL_law_311 : decode cL_law 311 = .ok (.aload_n 0, 1) := by decide +kernel
theorem dL_law_312 : decode cL_law 312 = .ok (.iload_n 3, 1) := by decide +kernel
theorem dL_law_313 : decode cL_law 313 = .ok (.iconst 1, 1) := by decide +kernel
theorem dL_law_314 : decode cL_law 314 = .ok (.iadd, 1) := by decide +kernel
theorem dL_law_315 : decode cL_law 315 = .ok (.iaload, 1) := by decide +kernel
theorem dL_law_316 : decode cL_law 316 = .ok (.invokevirtual 55, 3) := by decide +kernel
theorem dL_law_319 : decode cL_law 319 = .ok (.aload_n 2, 1) := by decide +kernel
theorem dL_law_320 : decode cL_law 320 = .ok (.aload_n 0, 1) := by decide +kernel
theorem dL_law_321 : decode cL_law 321 = .ok (.iload_n 3, 1) := by decide +kernel
theorem dL_law_322 : decode cL_law 322 = .ok (.iconst 1, 1) := by decide +kernel
theorem dL_law_323 : decode cL_law 323 = .ok (.iadd, 1) := by decide +kernel
theorem dL_law_324 : decode cL_law 324 = .ok (.iaload, 1) := by decide +kernel
theorem dL_law_325 : decode cL_law 325 = .ok (.invokevirtual 58, 3) := by decide +kernel
theorem dL_law_328 : decode cL_law 328 = .ok (.if_icmp .eq 332, 3) := by decide +kernel
theorem dL_law_331 : decode cL_law 331 = .ok (.iconst 0, 1) := by decide +kernel
theorem dL_law_332 : decode cL_law 332 = .ok (.ireturn, 1) := by decide +kernel
theorem dL_law_333 : decode cL_law 333 = .ok (.aload_n 1, 1) := by decide +kernel
theorem dL_law_334 : decode cL_law 334 = .ok (.aload_n 0, 1) := by decide +kernel
theorem dL_law_335 : decode cL_law 335 = .ok (.iload_n 3, 1) := by decide +kernel
theorem dL_law_336 : decode cL_law 336 = .ok (.iconst 1, 1) := by decide +kernel
theorem dL_law_337 : decode cL_law 337 = .ok (.iadd, 1) := by decide +kernel
theorem dL_law_338 : decode cL_law 338 = .ok (.iaload, 1) := by decide +kernel
theorem dL_law_339 : decode cL_law 339 = .ok (.aload_n 0, 1) := by decide +kernel
theorem dL_law_340 : decode cL_law 340 = .ok (.iload_n 3, 1) := by decide +kernel
theorem dL_law_341 : decode cL_law 341 = .ok (.iconst 2, 1) := by decide +kernel
theorem dL_law_342 : decode cL_law 342 = .ok (.iadd, 1) := by decide +kernel
theorem dL_law_343 : decode cL_law 343 = .ok (.iaload, 1) := by decide +kernel
theorem dL_law_344 : decode cL_law 344 = .ok (.invokevirtual 59, 3) := by decide +kernel
theorem dL_law_347 : decode cL_law 347 = .ok (.aload_n 2, 1) := by decide +kernel
theorem dL_law_348 : decode cL_law 348 = .ok (.aload_n 0, 1) := by decide +kernel
theorem dL_law_349 : decode cL_law 349 = .ok (.iload_n 3, 1) := by decide +kernel
theorem dL_law_350 : decode cL_law 350 = .ok (.iconst 1, 1) := by decide +kernel
theorem dL_law_351 : decode cL_law 351 = .ok (.iadd, 1) := by decide +kernel
theorem dL_law_352 : decode cL_law 352 = .ok (.iaload, 1) := by decide +kernel
theorem dL_law_353 : decode cL_law 353 = .ok (.aload_n 0, 1) := by decide +kernel
theorem dL_law_354 : decode cL_law 354 = .ok (.iload_n 3, 1) := by decide +kernel
theorem dL_law_355 : decode cL_law 355 = .ok (.iconst 2, 1) := by decide +kernel
theorem dL_law_356 : decode cL_law 356 = .ok (.iadd, 1) := by decide +kernel
theorem dL_law_357 : decode cL_law 357 = .ok (.iaload, 1) := by decide +kernel
theorem dL_law_358 : decode cL_law 358 = .ok (.invokevirtual 63, 3) := by decide +kernel
theorem dL_law_361 : decode cL_law 361 = .ok (.if_icmp .eq 299, 3) := by decide +kernel
theorem dL_law_364 : decode cL_law 364 = .ok (.iconst 0, 1) := by decide +kernel
theorem dL_law_365 : decode cL_law 365 = .ok (.ireturn, 1) := by decide +kernel
theorem dL_law_366 : decode cL_law 366 = .ok (.aload_n 1, 1) := by decide +kernel
theorem dL_law_367 : decode cL_law 367 = .ok (.aload_n 0, 1) := by decide +kernel
theorem dL_law_368 : decode cL_law 368 = .ok (.iload_n 3, 1) := by decide +kernel
theorem dL_law_369 : decode cL_law 369 = .ok (.iconst 1, 1) := by decide +kernel
theorem dL_law_370 : decode cL_law 370 = .ok (.iadd, 1) := by decide +kernel
theorem dL_law_371 : decode cL_law 371 = .ok (.iaload, 1) := by decide +kernel
theorem dL_law_372 : decode cL_law 372 = .ok (.invokevirtual 64, 3) := by decide +kernel
theorem dL_law_375 : decode cL_law 375 = .ok (.aload_n 2, 1) := by decide +kernel
theorem dL_law_376 : decode cL_law 376 = .ok (.aload_n 0, 1) := by decide +kernel
theorem dL_law_377 : decode cL_law 377 = .ok (.iload_n 3, 1) := by decide +kernel
theorem dL_law_378 : decode cL_law 378 = .ok (.iconst 1, 1) := by decide +kernel
theorem dL_law_379 : decode cL_law 379 = .ok (.iadd, 1) := by decide +kernel
theorem dL_law_380 : decode cL_law 380 = .ok (.iaload, 1) := by decide +kernel
theorem dL_law_381 : decode cL_law 381 = .ok (.invokevirtual 67, 3) := by decide +kernel
theorem dL_law_384 : decode cL_law 384 = .ok (.if_icmp .eq 276, 3) := by decide +kernel
theorem dL_law_387 : decode cL_law 387 = .ok (.iconst 0, 1) := by decide +kernel
theorem dL_law_388 : decode cL_law 388 = .ok (.ireturn, 1) := by decide +kernel
theorem dL_law_389 : decode cL_law 389 = .ok (.aload_n 1, 1) := by decide +kernel
theorem dL_law_390 : decode cL_law 390 = .ok (.aload_n 0, 1) := by decide +kernel
theorem dL_law_391 : decode cL_law 391 = .ok (.iload_n 3, 1) := by decide +kernel
theorem dL_law_392 : decode cL_law 392 = .ok (.iconst 1, 1) := by decide +kernel
theorem dL_law_393 : decode cL_law 393 = .ok (.iadd, 1) := by decide +kernel
theorem dL_law_394 : decode cL_law 394 = .ok (.iaload, 1) := by decide +kernel
theorem dL_law_395 : decode cL_law 395 = .ok (.invokevirtual 68, 3) := by decide +kernel
theorem dL_law_398 : decode cL_law 398 = .ok (.aload_n 2, 1) := by decide +kernel
theorem dL_law_399 : decode cL_law 399 = .ok (.aload_n 0, 1) := by decide +kernel
theorem dL_law_400 : decode cL_law 400 = .ok (.iload_n 3, 1) := by decide +kernel
theorem dL_law_401 : decode cL_law 401 = .ok (.iconst 1, 1) := by decide +kernel
theorem dL_law_402 : decode cL_law 402 = .ok (.iadd, 1) := by decide +kernel
theorem dL_law_403 : decode cL_law 403 = .ok (.iaload, 1) := by decide +kernel
theorem dL_law_404 : decode cL_law 404 = .ok (.invokevirtual 71, 3) := by decide +kernel
theorem dL_law_407 : decode cL_law 407 = .ok (.if_icmp .eq 253, 3) := by decide +kernel
theorem dL_law_410 : decode cL_law 410 = .ok (.iconst 0, 1) := by decide +kernel
theorem dL_law_411 : decode cL_law 411 = .ok (.ireturn, 1) := by decide +kernel
theorem dL_law_412 : decode cL_law 412 = .ok (.aload_n 1, 1) := by decide +kernel
theorem dL_law_413 : decode cL_law 413 = .ok (.aload_n 0, 1) := by decide +kernel
theorem dL_law_414 : decode cL_law 414 = .ok (.iload_n 3, 1) := by decide +kernel
theorem dL_law_415 : decode cL_law 415 = .ok (.iconst 1, 1) := by decide +kernel
theorem dL_law_416 : decode cL_law 416 = .ok (.iadd, 1) := by decide +kernel
theorem dL_law_417 : decode cL_law 417 = .ok (.iaload, 1) := by decide +kernel
theorem dL_law_418 : decode cL_law 418 = .ok (.aload_n 0, 1) := by decide +kernel
theorem dL_law_419 : decode cL_law 419 = .ok (.iload_n 3, 1) := by decide +kernel
theorem dL_law_420 : decode cL_law 420 = .ok (.iconst 2, 1) := by decide +kernel
theorem dL_law_421 : decode cL_law 421 = .ok (.iadd, 1) := by decide +kernel
theorem dL_law_422 : decode cL_law 422 = .ok (.iaload, 1) := by decide +kernel
theorem dL_law_423 : decode cL_law 423 = .ok (.invokevirtual 72, 3) := by decide +kernel
theorem dL_law_426 : decode cL_law 426 = .ok (.aload_n 2, 1) := by decide +kernel
theorem dL_law_427 : decode cL_law 427 = .ok (.aload_n 0, 1) := by decide +kernel
theorem dL_law_428 : decode cL_law 428 = .ok (.iload_n 3, 1) := by decide +kernel
theorem dL_law_429 : decode cL_law 429 = .ok (.iconst 1, 1) := by decide +kernel
theorem dL_law_430 : decode cL_law 430 = .ok (.iadd, 1) := by decide +kernel
theorem dL_law_431 : decode cL_law 431 = .ok (.iaload, 1) := by decide +kernel
theorem dL_law_432 : decode cL_law 432 = .ok (.aload_n 0, 1) := by decide +kernel
theorem dL_law_433 : decode cL_law 433 = .ok (.iload_n 3, 1) := by decide +kernel
theorem dL_law_434 : decode cL_law 434 = .ok (.iconst 2, 1) := by decide +kernel
theorem dL_law_435 : decode cL_law 435 = .ok (.iadd, 1) := by decide +kernel
theorem dL_law_436 : decode cL_law 436 = .ok (.iaload, 1) := by decide +kernel
theorem dL_law_437 : decode cL_law 437 = .ok (.invokevirtual 75, 3) := by decide +kernel
theorem dL_law_440 : decode cL_law 440 = .ok (.if_icmp .eq 220, 3) := by decide +kernel
theorem dL_law_443 : decode cL_law 443 = .ok (.iconst 0, 1) := by decide +kernel
theorem dL_law_444 : decode cL_law 444 = .ok (.ireturn, 1) := by decide +kernel
theorem dL_law_445 : decode cL_law 445 = .ok (.aload_n 1, 1) := by decide +kernel
theorem dL_law_446 : decode cL_law 446 = .ok (.aload_n 0, 1) := by decide +kernel
theorem dL_law_447 : decode cL_law 447 = .ok (.iload_n 3, 1) := by decide +kernel
theorem dL_law_448 : decode cL_law 448 = .ok (.iconst 1, 1) := by decide +kernel
theorem dL_law_449 : decode cL_law 449 = .ok (.iadd, 1) := by decide +kernel
theorem dL_law_450 : decode cL_law 450 = .ok (.iaload, 1) := by decide +kernel
theorem dL_law_451 : decode cL_law 451 = .ok (.aload_n 0, 1) := by decide +kernel
theorem dL_law_452 : decode cL_law 452 = .ok (.iload_n 3, 1) := by decide +kernel
theorem dL_law_453 : decode cL_law 453 = .ok (.iconst 2, 1) := by decide +kernel
theorem dL_law_454 : decode cL_law 454 = .ok (.iadd, 1) := by decide +kernel
theorem dL_law_455 : decode cL_law 455 = .ok (.iaload, 1) := by decide +kernel
theorem dL_law_456 : decode cL_law 456 = .ok (.invokevirtual 76, 3) := by decide +kernel
theorem dL_law_459 : decode cL_law 459 = .ok (.aload_n 2, 1) := by decide +kernel
theorem dL_law_460 : decode cL_law 460 = .ok (.aload_n 0, 1) := by decide +kernel
theorem dL_law_461 : decode cL_law 461 = .ok (.iload_n 3, 1) := by decide +kernel
theorem dL_law_462 : decode cL_law 462 = .ok (.iconst 1, 1) := by decide +kernel
theorem dL_law_463 : decode cL_law 463 = .ok (.iadd, 1) := by decide +kernel
theorem dL_law_464 : decode cL_law 464 = .ok (.iaload, 1) := by decide +kernel
theorem dL_law_465 : decode cL_law 465 = .ok (.aload_n 0, 1) := by decide +kernel
theorem dL_law_466 : decode cL_law 466 = .ok (.iload_n 3, 1) := by decide +kernel
theorem dL_law_467 : decode cL_law 467 = .ok (.iconst 2, 1) := by decide +kernel
theorem dL_law_468 : decode cL_law 468 = .ok (.iadd, 1) := by decide +kernel
theorem dL_law_469 : decode cL_law 469 = .ok (.iaload, 1) := by decide +kernel
theorem dL_law_470 : decode cL_law 470 = .ok (.invokevirtual 79, 3) := by decide +kernel
theorem dL_law_473 : decode cL_law 473 = .ok (.if_icmp .eq 187, 3) := by decide +kernel
theorem dL_law_476 : decode cL_law 476 = .ok (.iconst 0, 1) := by decide +kernel
theorem dL_law_477 : decode cL_law 477 = .ok (.ireturn, 1) := by decide +kernel
theorem dL_law_478 : decode cL_law 478 = .ok (.aload_n 1, 1) := by decide +kernel
theorem dL_law_479 : decode cL_law 479 = .ok (.aload_n 0, 1) := by decide +kernel
theorem dL_law_480 : decode cL_law 480 = .ok (.iload_n 3, 1) := by decide +kernel
theorem dL_law_481 : decode cL_law 481 = .ok (.iconst 1, 1) := by decide +kernel
theorem dL_law_482 : decode cL_law 482 = .ok (.iadd, 1) := by decide +kernel
theorem dL_law_483 : decode cL_law 483 = .ok (.iaload, 1) := by decide +kernel
theorem dL_law_484 : decode cL_law 484 = .ok (.aload_n 0, 1) := by decide +kernel
theorem dL_law_485 : decode cL_law 485 = .ok (.iload_n 3, 1) := by decide +kernel
theorem dL_law_486 : decode cL_law 486 = .ok (.iconst 2, 1) := by decide +kernel
theorem dL_law_487 : decode cL_law 487 = .ok (.iadd, 1) := by decide +kernel
theorem dL_law_488 : decode cL_law 488 = .ok (.iaload, 1) := by decide +kernel
theorem dL_law_489 : decode cL_law 489 = .ok (.aload_n 0, 1) := by decide +kernel
theorem dL_law_490 : decode cL_law 490 = .ok (.iload_n 3, 1) := by decide +kernel
theorem dL_law_491 : decode cL_law 491 = .ok (.iconst 3, 1) := by decide +kernel
theorem dL_law_492 : decode cL_law 492 = .ok (.iadd, 1) := by decide +kernel
theorem dL_law_493 : decode cL_law 493 = .ok (.iaload, 1) := by decide +kernel
theorem dL_law_494 : decode cL_law 494 = .ok (.invokevirtual 80, 3) := by decide +kernel
theorem dL_law_497 : decode cL_law 497 = .ok (.aload_n 2, 1) := by decide +kernel
theorem dL_law_498 : decode cL_law 498 = .ok (.aload_n 0, 1) := by decide +kernel
theorem dL_law_499 : decode cL_law 499 = .ok (.iload_n 3, 1) := by decide +kernel
theorem dL_law_500 : decode cL_law 500 = .ok (.iconst 1, 1) := by decide +kernel
theorem dL_law_501 : decode cL_law 501 = .ok (.iadd, 1) := by decide +kernel
theorem dL_law_502 : decode cL_law 502 = .ok (.iaload, 1) := by decide +kernel
theorem dL_law_503 : decode cL_law 503 = .ok (.aload_n 0, 1) := by decide +kernel
theorem dL_law_504 : decode cL_law 504 = .ok (.iload_n 3, 1) := by decide +kernel
theorem dL_law_505 : decode cL_law 505 = .ok (.iconst 2, 1) := by decide +kernel
theorem dL_law_506 : decode cL_law 506 = .ok (.iadd, 1) := by decide +kernel
theorem dL_law_507 : decode cL_law 507 = .ok (.iaload, 1) := by decide +kernel
theorem dL_law_508 : decode cL_law 508 = .ok (.aload_n 0, 1) := by decide +kernel
theorem dL_law_509 : decode cL_law 509 = .ok (.iload_n 3, 1) := by decide +kernel
theorem dL_law_510 : decode cL_law 510 = .ok (.iconst 3, 1) := by decide +kernel
theorem dL_law_511 : decode cL_law 511 = .ok (.iadd, 1) := by decide +kernel
theorem dL_law_512 : decode cL_law 512 = .ok (.iaload, 1) := by decide +kernel
theorem dL_law_513 : decode cL_law 513 = .ok (.invokevirtual 84, 3) := by decide +kernel
theorem dL_law_516 : decode cL_law 516 = .ok (.if_icmp .eq 144, 3) := by decide +kernel
theorem dL_law_519 : decode cL_law 519 = .ok (.iconst 0, 1) := by decide +kernel
theorem dL_law_520 : decode cL_law 520 = .ok (.ireturn, 1) := by decide +kernel
theorem dL_law_521 : decode cL_law 521 = .ok (.aload_n 1, 1) := by decide +kernel
theorem dL_law_522 : decode cL_law 522 = .ok (.aload_n 0, 1) := by decide +kernel
theorem dL_law_523 : decode cL_law 523 = .ok (.iload_n 3, 1) := by decide +kernel
theorem dL_law_524 : decode cL_law 524 = .ok (.iconst 1, 1) := by decide +kernel
theorem dL_law_525 : decode cL_law 525 = .ok (.iadd, 1) := by decide +kernel
theorem dL_law_526 : decode cL_law 526 = .ok (.iaload, 1) := by decide +kernel
theorem dL_law_527 : decode cL_law 527 = .ok (.aload_n 0, 1) := by decide +kernel
theorem dL_law_528 : decode cL_law 528 = .ok (.iload_n 3, 1) := by decide +kernel
theorem dL_law_529 : decode cL_law 529 = .ok (.iconst 2, 1) := by decide +kernel
theorem dL_law_530 : decode cL_law 530 = .ok (.iadd, 1) := by decide +kernel
theorem dL_law_531 : decode cL_law 531 = .ok (.iaload, 1) := by decide +kernel
theorem dL_law_532 : decode cL_law 532 = .ok (.aload_n 0, 1) := by decide +kernel
theorem dL_law_533 : decode cL_law 533 = .ok (.iload_n 3, 1) := by decide +kernel
theorem dL_law_534 : decode cL_law 534 = .ok (.iconst 3, 1) := by decide +kernel
theorem dL_law_535 : decode cL_law 535 = .ok (.iadd, 1) := by decide +kernel
theorem dL_law_536 : decode cL_law 536 = .ok (.iaload, 1) := by decide +kernel
theorem dL_law_537 : decode cL_law 537 = .ok (.invokevirtual 85, 3) := by decide +kernel
theorem dL_law_540 : decode cL_law 540 = .ok (.aload_n 2, 1) := by decide +kernel
theorem dL_law_541 : decode cL_law 541 = .ok (.aload_n 0, 1) := by decide +kernel
theorem dL_law_542 : decode cL_law 542 = .ok (.iload_n 3, 1) := by decide +kernel
theorem dL_law_543 : decode cL_law 543 = .ok (.iconst 1, 1) := by decide +kernel
theorem dL_law_544 : decode cL_law 544 = .ok (.iadd, 1) := by decide +kernel
theorem dL_law_545 : decode cL_law 545 = .ok (.iaload, 1) := by decide +kernel
theorem dL_law_546 : decode cL_law 546 = .ok (.aload_n 0, 1) := by decide +kernel
theorem dL_law_547 : decode cL_law 547 = .ok (.iload_n 3, 1) := by decide +kernel
theorem dL_law_548 : decode cL_law 548 = .ok (.iconst 2, 1) := by decide +kernel
theorem dL_law_549 : decode cL_law 549 = .ok (.iadd, 1) := by decide +kernel
theorem dL_law_550 : decode cL_law 550 = .ok (.iaload, 1) := by decide +kernel
theorem dL_law_551 : decode cL_law 551 = .ok (.aload_n 0, 1) := by decide +kernel
theorem dL_law_552 : decode cL_law 552 = .ok (.iload_n 3, 1) := by decide +kernel
theorem dL_law_553 : decode cL_law 553 = .ok (.iconst 3, 1) := by decide +kernel
theorem dL_law_554 : decode cL_law 554 = .ok (.iadd, 1) := by decide +kernel
theorem dL_law_555 : decode cL_law 555 = .ok (.iaload, 1) := by decide +kernel
theorem dL_law_556 : decode cL_law 556 = .ok (.invokevirtual 88, 3) := by decide +kernel
theorem dL_law_559 : decode cL_law 559 = .ok (.if_icmp .eq 101, 3) := by decide +kernel
theorem dL_law_562 : decode cL_law 562 = .ok (.iconst 0, 1) := by decide +kernel
theorem dL_law_563 : decode cL_law 563 = .ok (.ireturn, 1) := by decide +kernel
theorem dL_law_564 : decode cL_law 564 = .ok (.aload_n 1, 1) := by decide +kernel
theorem dL_law_565 : decode cL_law 565 = .ok (.invokevirtual 89, 3) := by decide +kernel
theorem dL_law_568 : decode cL_law 568 = .ok (.aload_n 2, 1) := by decide +kernel
theorem dL_law_569 : decode cL_law 569 = .ok (.invokevirtual 92, 3) := by decide +kernel
theorem dL_law_572 : decode cL_law 572 = .ok (.if_icmp .eq 88, 3) := by decide +kernel
theorem dL_law_575 : decode cL_law 575 = .ok (.iconst 0, 1) := by decide +kernel
theorem dL_law_576 : decode cL_law 576 = .ok (.ireturn, 1) := by decide +kernel
theorem dL_law_577 : decode cL_law 577 = .ok (.aload_n 1, 1) := by decide +kernel
theorem dL_law_578 : decode cL_law 578 = .ok (.aload_n 0, 1) := by decide +kernel
theorem dL_law_579 : decode cL_law 579 = .ok (.iload_n 3, 1) := by decide +kernel
theorem dL_law_580 : decode cL_law 580 = .ok (.iconst 1, 1) := by decide +kernel
theorem dL_law_581 : decode cL_law 581 = .ok (.iadd, 1) := by decide +kernel
theorem dL_law_582 : decode cL_law 582 = .ok (.iaload, 1) := by decide +kernel
theorem dL_law_583 : decode cL_law 583 = .ok (.aload_n 0, 1) := by decide +kernel
theorem dL_law_584 : decode cL_law 584 = .ok (.iload_n 3, 1) := by decide +kernel
theorem dL_law_585 : decode cL_law 585 = .ok (.iconst 2, 1) := by decide +kernel
theorem dL_law_586 : decode cL_law 586 = .ok (.iadd, 1) := by decide +kernel
theorem dL_law_587 : decode cL_law 587 = .ok (.iaload, 1) := by decide +kernel
theorem dL_law_588 : decode cL_law 588 = .ok (.invokevirtual 93, 3) := by decide +kernel
theorem dL_law_591 : decode cL_law 591 = .ok (.aload_n 2, 1) := by decide +kernel
theorem dL_law_592 : decode cL_law 592 = .ok (.aload_n 0, 1) := by decide +kernel
theorem dL_law_593 : decode cL_law 593 = .ok (.iload_n 3, 1) := by decide +kernel
theorem dL_law_594 : decode cL_law 594 = .ok (.iconst 1, 1) := by decide +kernel
theorem dL_law_595 : decode cL_law 595 = .ok (.iadd, 1) := by decide +kernel
theorem dL_law_596 : decode cL_law 596 = .ok (.iaload, 1) := by decide +kernel
theorem dL_law_597 : decode cL_law 597 = .ok (.aload_n 0, 1) := by decide +kernel
theorem dL_law_598 : decode cL_law 598 = .ok (.iload_n 3, 1) := by decide +kernel
theorem dL_law_599 : decode cL_law 599 = .ok (.iconst 2, 1) := by decide +kernel
theorem dL_law_600 : decode cL_law 600 = .ok (.iadd, 1) := by decide +kernel
theorem dL_law_601 : decode cL_law 601 = .ok (.iaload, 1) := by decide +kernel
theorem dL_law_602 : decode cL_law 602 = .ok (.invokevirtual 96, 3) := by decide +kernel
theorem dL_law_605 : decode cL_law 605 = .ok (.if_icmp .eq 55, 3) := by decide +kernel
theorem dL_law_608 : decode cL_law 608 = .ok (.iconst 0, 1) := by decide +kernel
theorem dL_law_609 : decode cL_law 609 = .ok (.ireturn, 1) := by decide +kernel
theorem dL_law_610 : decode cL_law 610 = .ok (.aload_n 1, 1) := by decide +kernel
theorem dL_law_611 : decode cL_law 611 = .ok (.invokevirtual 97, 3) := by decide +kernel
theorem dL_law_614 : decode cL_law 614 = .ok (.aload_n 2, 1) := by decide +kernel
theorem dL_law_615 : decode cL_law 615 = .ok (.invokevirtual 100, 3) := by decide +kernel
theorem dL_law_618 : decode cL_law 618 = .ok (.if_icmp .eq 42, 3) := by decide +kernel
theorem dL_law_621 : decode cL_law 621 = .ok (.iconst 0, 1) := by decide +kernel
theorem dL_law_622 : decode cL_law 622 = .ok (.ireturn, 1) := by decide +kernel
theorem dL_law_623 : decode cL_law 623 = .ok (.aload_n 1, 1) := by decide +kernel
theorem dL_law_624 : decode cL_law 624 = .ok (.aload_n 0, 1) := by decide +kernel
theorem dL_law_625 : decode cL_law 625 = .ok (.iload_n 3, 1) := by decide +kernel
theorem dL_law_626 : decode cL_law 626 = .ok (.iconst 1, 1) := by decide +kernel
theorem dL_law_627 : decode cL_law 627 = .ok (.iadd, 1) := by decide +kernel
theorem dL_law_628 : decode cL_law 628 = .ok (.iaload, 1) := by decide +kernel
theorem dL_law_629 : decode cL_law 629 = .ok (.invokevirtual 101, 3) := by decide +kernel
theorem dL_law_632 : decode cL_law 632 = .ok (.aload_n 2, 1) := by decide +kernel
theorem dL_law_633 : decode cL_law 633 = .ok (.aload_n 0, 1) := by decide +kernel
theorem dL_law_634 : decode cL_law 634 = .ok (.iload_n 3, 1) := by decide +kernel
theorem dL_law_635 : decode cL_law 635 = .ok (.iconst 1, 1) := by decide +kernel
theorem dL_law_636 : decode cL_law 636 = .ok (.iadd, 1) := by decide +kernel
theorem dL_law_637 : decode cL_law 637 = .ok (.iaload, 1) := by decide +kernel
theorem dL_law_638 : decode cL_law 638 = .ok (.invokevirtual 104, 3) := by decide +kernel
theorem dL_law_641 : decode cL_law 641 = .ok (.if_icmp .eq 19, 3) := by decide +kernel
theorem dL_law_644 : decode cL_law 644 = .ok (.iconst 0, 1) := by decide +kernel
theorem dL_law_645 : decode cL_law 645 = .ok (.ireturn, 1) := by decide +kernel
theorem dL_law_646 : decode cL_law 646 = .ok (.aload_n 1, 1) := by decide +kernel
theorem dL_law_647 : decode cL_law 647 = .ok (.invokevirtual 105, 3) := by decide +kernel
theorem dL_law_650 : decode cL_law 650 = .ok (.aload_n 2, 1) := by decide +kernel
theorem dL_law_651 : decode cL_law 651 = .ok (.invokevirtual 109, 3) := by decide +kernel
theorem dL_law_654 : decode cL_law 654 = .ok (.lcmp, 1) := by decide +kernel
theorem dL_law_655 : decode cL_law 655 = .ok (.ifCond .eq 5, 3) := by decide +kernel
theorem dL_law_658 : decode cL_law 658 = .ok (.iconst 0, 1) := by decide +kernel
theorem dL_law_659 : decode cL_law 659 = .ok (.ireturn, 1) := by decide +kernel
theorem dL_law_660 : decode cL_law 660 = .ok (.iinc 3 4, 3) := by decide +kernel
theorem dL_law_663 : decode cL_law 663 = .ok (.goto (-645), 3) := by decide +kernel
theorem dL_law_666 : decode cL_law 666 = .ok (.iconst 1, 1) := by decide +kernel
theorem dL_law_667 : decode cL_law 667 = .ok (.ireturn, 1) := by decide +kernel
