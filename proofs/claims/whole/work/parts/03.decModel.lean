theorem dX11_init_0 : decode cX11_init 0 = .ok (.aload_n 0, 1) := by decide +kernel
theorem dX11_init_1 : decode cX11_init 1 = .ok (.invokespecial 1, 3) := by decide +kernel
theorem dX11_init_4 : decode cX11_init 4 = .ok (.aload_n 0, 1) := by decide +kernel
theorem dX11_init_5 : decode cX11_init 5 = .ok (.bipush 81, 2) := by decide +kernel
theorem dX11_init_7 : decode cX11_init 7 = .ok (.newarray .int, 2) := by decide +kernel
theorem dX11_init_9 : decode cX11_init 9 = .ok (.putfield 7, 3) := by decide +kernel
theorem dX11_init_12 : decode cX11_init 12 = .ok (.aload_n 0, 1) := by decide +kernel
theorem dX11_init_13 : decode cX11_init 13 = .ok (.bipush 20, 2) := by decide +kernel
theorem dX11_init_15 : decode cX11_init 15 = .ok (.newarray .int, 2) := by decide +kernel
theorem dX11_init_17 : decode cX11_init 17 = .ok (.putfield 13, 3) := by decide +kernel
theorem dX11_init_20 : decode cX11_init 20 = .ok (.aload_n 0, 1) := by decide +kernel
theorem dX11_init_21 : decode cX11_init 21 = .ok (.bipush 20, 2) := by decide +kernel
theorem dX11_init_23 : decode cX11_init 23 = .ok (.newarray .int, 2) := by decide +kernel
theorem dX11_init_25 : decode cX11_init 25 = .ok (.putfield 16, 3) := by decide +kernel
theorem dX11_init_28 : decode cX11_init 28 = .ok (.aload_n 0, 1) := by decide +kernel
theorem dX11_init_29 : decode cX11_init 29 = .ok (.bipush 20, 2) := by decide +kernel
theorem dX11_init_31 : decode cX11_init 31 = .ok (.newarray .int, 2) := by decide +kernel
theorem dX11_init_33 : decode cX11_init 33 = .ok (.putfield 19, 3) := by decide +kernel
theorem dX11_init_36 : decode cX11_init 36 = .ok (.aload_n 0, 1) := by decide +kernel
theorem dX11_init_37 : decode cX11_init 37 = .ok (.bipush 6, 2) := by decide +kernel
theorem dX11_init_39 : decode cX11_init 39 = .ok (.newarray .int, 2) := by decide +kernel
theorem dX11_init_41 : decode cX11_init 41 = .ok (.putfield 22, 3) := by decide +kernel
theorem dX11_init_44 : decode cX11_init 44 = .ok (.aload_n 0, 1) := by decide +kernel
theorem dX11_init_45 : decode cX11_init 45 = .ok (.bipush 6, 2) := by decide +kernel
theorem dX11_init_47 : decode cX11_init 47 = .ok (.newarray .int, 2) := by decide +kernel
theorem dX11_init_49 : decode cX11_init 49 = .ok (.putfield 25, 3) := by decide +kernel
theorem dX11_init_52 : decode cX11_init 52 = .ok (.aload_n 0, 1) := by decide +kernel
theorem dX11_init_53 : decode cX11_init 53 = .ok (.sipush 456, 3) := by decide +kernel
theorem dX11_init_56 : decode cX11_init 56 = .ok (.newarray .int, 2) := by decide +kernel
theorem dX11_init_58 : decode cX11_init 58 = .ok (.putfield 28, 3) := by decide +kernel
theorem dX11_init_61 : decode cX11_init 61 = .ok (.aload_n 0, 1) := by decide +kernel
theorem dX11_init_62 : decode cX11_init 62 = .ok (.sipush 486, 3) := by decide +kernel
theorem dX11_init_65 : decode cX11_init 65 = .ok (.newarray .int, 2) := by decide +kernel
theorem dX11_init_67 : decode cX11_init 67 = .ok (.putfield 31, 3) := by decide +kernel
theorem dX11_init_70 : decode cX11_init 70 = .ok (.aload_n 0, 1) := by decide +kernel
theorem dX11_init_71 : decode cX11_init 71 = .ok (.bipush 6, 2) := by decide +kernel
theorem dX11_init_73 : decode cX11_init 73 = .ok (.newarray .int, 2) := by decide +kernel
theorem dX11_init_75 : decode cX11_init 75 = .ok (.putfield 34, 3) := by decide +kernel
theorem dX11_init_78 : decode cX11_init 78 = .ok (.aload_n 0, 1) := by decide +kernel
theorem dX11_init_79 : decode cX11_init 79 = .ok (.bipush 6, 2) := by decide +kernel
theorem dX11_init_81 : decode cX11_init 81 = .ok (.newarray .int, 2) := by decide +kernel
theorem dX11_init_83 : decode cX11_init 83 = .ok (.putfield 37, 3) := by decide +kernel
theorem dX11_init_86 : decode cX11_init 86 = .ok (.aload_n 0, 1) := by decide +kernel
theorem dX11_init_87 : decode cX11_init 87 = .ok (.bipush 24, 2) := by decide +kernel
theorem dX11_init_89 : decode cX11_init 89 = .ok (.newarray .int, 2) := by decide +kernel
theorem dX11_init_91 : decode cX11_init 91 = .ok (.putfield 40, 3) := by decide +kernel
theorem dX11_init_94 : decode cX11_init 94 = .ok (.aload_n 0, 1) := by decide +kernel
theorem dX11_init_95 : decode cX11_init 95 = .ok (.bipush 6, 2) := by decide +kernel
theorem dX11_init_97 : decode cX11_init 97 = .ok (.newarray .int, 2) := by decide +kernel
theorem dX11_init_99 : decode cX11_init 99 = .ok (.putfield 43, 3) := by decide +kernel
theorem dX11_init_102 : decode cX11_init 102 = .ok (.aload_n 0, 1) := by decide +kernel
theorem dX11_init_103 : decode cX11_init 103 = .ok (.iconst 4, 1) := by decide +kernel
theorem dX11_init_104 : decode cX11_init 104 = .ok (.newarray .int, 2) := by decide +kernel
theorem dX11_init_106 : decode cX11_init 106 = .ok (.putfield 46, 3) := by decide +kernel
theorem dX11_init_109 : decode cX11_init 109 = .ok (.aload_n 0, 1) := by decide +kernel
theorem dX11_init_110 : decode cX11_init 110 = .ok (.iconst 4, 1) := by decide +kernel
theorem dX11_init_111 : decode cX11_init 111 = .ok (.newarray .int, 2) := by decide +kernel
theorem dX11_init_113 : decode cX11_init 113 = .ok (.putfield 49, 3) := by decide +kernel
theorem dX11_init_116 : decode cX11_init 116 = .ok (.aload_n 0, 1) := by decide +kernel
theorem dX11_init_117 : decode cX11_init 117 = .ok (.iconst 4, 1) := by decide +kernel
theorem dX11_init_118 : decode cX11_init 118 = .ok (.newarray .int, 2) := by decide +kernel
theorem dX11_init_120 : decode cX11_init 120 = .ok (.putfield 52, 3) := by decide +kernel
theorem dX11_init_123 : decode cX11_init 123 = .ok (.aload_n 0, 1) := by decide +kernel
theorem dX11_init_124 : decode cX11_init 124 = .ok (.sipush 2400, 3) := by decide +kernel
theorem dX11_init_127 : decode cX11_init 127 = .ok (.newarray .int, 2) := by decide +kernel
theorem dX11_init_129 : decode cX11_init 129 = .ok (.putfield 55, 3) := by decide +kernel
theorem dX11_init_132 : decode cX11_init 132 = .ok (.aload_n 0, 1) := by decide +kernel
theorem dX11_init_133 : decode cX11_init 133 = .ok (.bipush 6, 2) := by decide +kernel
theorem dX11_init_135 : decode cX11_init 135 = .ok (.newarray .int, 2) := by decide +kernel
theorem dX11_init_137 : decode cX11_init 137 = .ok (.putfield 58, 3) := by decide +kernel
theorem dX11_init_140 : decode cX11_init 140 = .ok (.aload_n 0, 1) := by decide +kernel
theorem dX11_init_141 : decode cX11_init 141 = .ok (.sipush 300, 3) := by decide +kernel
theorem dX11_init_144 : decode cX11_init 144 = .ok (.newarray .int, 2) := by decide +kernel
theorem dX11_init_146 : decode cX11_init 146 = .ok (.putfield 61, 3) := by decide +kernel
theorem dX11_init_149 : decode cX11_init 149 = .ok (.aload_n 0, 1) := by decide +kernel
theorem dX11_init_150 : decode cX11_init 150 = .ok (.sipush 300, 3) := by decide +kernel
theorem dX11_init_153 : decode cX11_init 153 = .ok (.newarray .int, 2) := by decide +kernel
theorem dX11_init_155 : decode cX11_init 155 = .ok (.putfield 64, 3) := by decide +kernel
theorem dX11_init_158 : decode cX11_init 158 = .ok (.aload_n 0, 1) := by decide +kernel
theorem dX11_init_159 : decode cX11_init 159 = .ok (.sipush 600, 3) := by decide +kernel
theorem dX11_init_162 : decode cX11_init 162 = .ok (.newarray .int, 2) := by decide +kernel
theorem dX11_init_164 : decode cX11_init 164 = .ok (.putfield 67, 3) := by decide +kernel
theorem dX11_init_167 : decode cX11_init 167 = .ok (.aload_n 0, 1) := by decide +kernel
theorem dX11_init_168 : decode cX11_init 168 = .ok (.sipush 9400, 3) := by decide +kernel
theorem dX11_init_171 : decode cX11_init 171 = .ok (.newarray .int, 2) := by decide +kernel
theorem dX11_init_173 : decode cX11_init 173 = .ok (.putfield 70, 3) := by decide +kernel
theorem dX11_init_176 : decode cX11_init 176 = .ok (.aload_n 0, 1) := by decide +kernel
theorem dX11_init_177 : decode cX11_init 177 = .ok (.sipush 9400, 3) := by decide +kernel
theorem dX11_init_180 : decode cX11_init 180 = .ok (.newarray .boolean, 2) := by decide +kernel
theorem dX11_init_182 : decode cX11_init 182 = .ok (.putfield 73, 3) := by decide +kernel
theorem dX11_init_185 : decode cX11_init 185 = .ok (.aload_n 0, 1) := by decide +kernel
theorem dX11_init_186 : decode cX11_init 186 = .ok (.iload_n 1, 1) := by decide +kernel
theorem dX11_init_187 : decode cX11_init 187 = .ok (.iconst 1, 1) := by decide +kernel
theorem dX11_init_188 : decode cX11_init 188 = .ok (.if_icmp .lt 13, 3) := by decide +kernel
theorem dX11_init_191 : decode cX11_init 191 = .ok (.iload_n 1, 1) := by decide +kernel
theorem dX11_init_192 : decode cX11_init 192 = .ok (.bipush 80, 2) := by decide +kernel
theorem dX11_init_194 : decode cX11_init 194 = .ok (.if_icmp .gt 7, 3) := by decide +kernel
theorem dX11_init_197 : decode cX11_init 197 = .ok (.iload_n 1, 1) := by decide +kernel
theorem dX11_init_198 : decode cX11_init 198 = .ok (.goto 5, 3) := by decide +kernel
theorem dX11_init_201 : decode cX11_init 201 = .ok (.bipush 40, 2) := by decide +kernel
theorem dX11_init_203 : decode cX11_init 203 = .ok (.putfield 77, 3) := by decide +kernel
theorem dX11_init_206 : decode cX11_init 206 = .ok (.iconst 0, 1) := by decide +kernel
theorem dX11_init_207 : decode cX11_init 207 = .ok (.istore_n 2, 1) := by decide +kernel
theorem dX11_init_208 : decode cX11_init 208 = .ok (.iload_n 2, 1) := by decide +kernel
theorem dX11_init_209 : decode cX11_init 209 = .ok (.bipush 81, 2) := by decide +kernel
theorem dX11_init_211 : decode cX11_init 211 = .ok (.if_icmp .ge 17, 3) := by decide +kernel
theorem dX11_init_214 : decode cX11_init 214 = .ok (.aload_n 0, 1) := by decide +kernel
theorem dX11_init_215 : decode cX11_init 215 = .ok (.getfield 7, 3) := by decide +kernel
theorem dX11_init_218 : decode cX11_init 218 = .ok (.iload_n 2, 1) := by decide +kernel
theorem dX11_init_219 : decode cX11_init 219 = .ok (.bipush 50, 2) := by decide +kernel
theorem dX11_init_221 : decode cX11_init 221 = .ok (.iastore, 1) := by decide +kernel
theorem dX11_init_222 : decode cX11_init 222 = .ok (.iinc 2 1, 3) := by decide +kernel
theorem dX11_init_225 : decode cX11_init 225 = .ok (.goto (-17), 3) := by decide +kernel
theorem dX11_init_228 : decode cX11_init 228 = .ok (.aload_n 0, 1) := by decide +kernel
theorem dX11_init_229 : decode cX11_init 229 = .ok (.iconst (-1), 1) := by decide +kernel
theorem dX11_init_230 : decode cX11_init 230 = .ok (.putfield 81, 3) := by decide +kernel
theorem dX11_init_233 : decode cX11_init 233 = .ok (.return_, 1) := by decide +kernel
theorem dX11_thrown_0 : decode cX11_thrown 0 = .ok (.aload_n 0, 1) := by decide +kernel
theorem dX11_thrown_1 : decode cX11_thrown 1 = .ok (.getfield 84, 3) := by decide +kernel
theorem dX11_thrown_4 : decode cX11_thrown 4 = .ok (.ireturn, 1) := by decide +kernel
theorem dX11_in_0 : decode cX11_in 0 = .ok (.iload_n 0, 1) := by decide +kernel
theorem dX11_in_1 : decode cX11_in 1 = .ok (.iload_n 1, 1) := by decide +kernel
theorem dX11_in_2 : decode cX11_in 2 = .ok (.if_icmp .lt 12, 3) := by decide +kernel
theorem dX11_in_5 : decode cX11_in 5 = .ok (.iload_n 0, 1) := by decide +kernel
theorem dX11_in_6 : decode cX11_in 6 = .ok (.iload_n 2, 1) := by decide +kernel
theorem dX11_in_7 : decode cX11_in 7 = .ok (.if_icmp .gt 7, 3) := by decide +kernel
theorem dX11_in_10 : decode cX11_in 10 = .ok (.iconst 1, 1) := by decide +kernel
theorem dX11_in_11 : decode cX11_in 11 = .ok (.goto 4, 3) := by decide +kernel
theorem dX11_in_14 : decode cX11_in 14 = .ok (.iconst 0, 1) := by decide +kernel
theorem dX11_in_15 : decode cX11_in 15 = .ok (.ireturn, 1) := by decide +kernel
theorem dX11_diameter_0 : decode cX11_diameter 0 = .ok (.aload_n 0, 1) := by decide +kernel
theorem dX11_diameter_1 : decode cX11_diameter 1 = .ok (.iconst 0, 1) := by decide +kernel
theorem dX11_diameter_2 : decode cX11_diameter 2 = .ok (.putfield 84, 3) := by decide +kernel
theorem dX11_diameter_5 : decode cX11_diameter 5 = .ok (.iload_n 1, 1) := by decide +kernel
theorem dX11_diameter_6 : decode cX11_diameter 6 = .ok (.iconst 0, 1) := by decide +kernel
theorem dX11_diameter_7 : decode cX11_diameter 7 = .ok (.aload_n 0, 1) := by decide +kernel
theorem dX11_diameter_8 : decode cX11_diameter 8 = .ok (.getfield 77, 3) := by decide +kernel
theorem dX11_diameter_11 : decode cX11_diameter 11 = .ok (.invokestatic 87, 3) := by decide +kernel
theorem dX11_diameter_14 : decode cX11_diameter 14 = .ok (.ifCond .eq 15, 3) := by decide +kernel
theorem dX11_diameter_17 : decode cX11_diameter 17 = .ok (.iload_n 2, 1) := by decide +kernel
theorem dX11_diameter_18 : decode cX11_diameter 18 = .ok (.bipush 50, 2) := by decide +kernel
theorem dX11_diameter_20 : decode cX11_diameter 20 = .ok (.sipush 900, 3) := by decide +kernel
theorem dX11_diameter_23 : decode cX11_diameter 23 = .ok (.invokestatic 87, 3) := by decide +kernel
theorem dX11_diameter_26 : decode cX11_diameter 26 = .ok (.ifCond .ne 5, 3) := by decide +kernel
theorem dX11_diameter_29 : decode cX11_diameter 29 = .ok (.iconst 0, 1) := by decide +kernel
theorem dX11_diameter_30 : decode cX11_diameter 30 = .ok (.ireturn, 1) := by decide +kernel
theorem dX11_diameter_31 : decode cX11_diameter 31 = .ok (.aload_n 0, 1) := by decide +kernel
theorem dX11_diameter_32 : decode cX11_diameter 32 = .ok (.getfield 7, 3) := by decide +kernel
theorem dX11_diameter_35 : decode cX11_diameter 35 = .ok (.iload_n 1, 1) := by decide +kernel
theorem dX11_diameter_36 : decode cX11_diameter 36 = .ok (.iload_n 2, 1) := by decide +kernel
theorem dX11_diameter_37 : decode cX11_diameter 37 = .ok (.iastore, 1) := by decide +kernel
theorem dX11_diameter_38 : decode cX11_diameter 38 = .ok (.iconst 1, 1) := by decide +kernel
theorem dX11_diameter_39 : decode cX11_diameter 39 = .ok (.ireturn, 1) := by decide +kernel
theorem dX11_defect_0 : decode cX11_defect 0 = .ok (.aload_n 0, 1) := by decide +kernel
theorem dX11_defect_1 : decode cX11_defect 1 = .ok (.iconst 0, 1) := by decide +kernel
theorem dX11_defect_2 : decode cX11_defect 2 = .ok (.putfield 84, 3) := by decide +kernel
theorem dX11_defect_5 : decode cX11_defect 5 = .ok (.aload_n 0, 1) := by decide +kernel
theorem dX11_defect_6 : decode cX11_defect 6 = .ok (.getfield 91, 3) := by decide +kernel
theorem dX11_defect_9 : decode cX11_defect 9 = .ok (.bipush 20, 2) := by decide +kernel
theorem dX11_defect_11 : decode cX11_defect 11 = .ok (.if_icmp .eq 36, 3) := by decide +kernel
theorem dX11_defect_14 : decode cX11_defect 14 = .ok (.iload_n 1, 1) := by decide +kernel
theorem dX11_defect_15 : decode cX11_defect 15 = .ok (.iconst 0, 1) := by decide +kernel
theorem dX11_defect_16 : decode cX11_defect 16 = .ok (.aload_n 0, 1) := by decide +kernel
theorem dX11_defect_17 : decode cX11_defect 17 = .ok (.getfield 77, 3) := by decide +kernel
theorem dX11_defect_20 : decode cX11_defect 20 = .ok (.invokestatic 87, 3) := by decide +kernel
theorem dX11_defect_23 : decode cX11_defect 23 = .ok (.ifCond .eq 24, 3) := by decide +kernel
theorem dX11_defect_26 : decode cX11_defect 26 = .ok (.iload_n 2, 1) := by decide +kernel
theorem dX11_defect_27 : decode cX11_defect 27 = .ok (.iload_n 1, 1) := by decide +kernel
theorem dX11_defect_28 : decode cX11_defect 28 = .ok (.aload_n 0, 1) := by decide +kernel
theorem dX11_defect_29 : decode cX11_defect 29 = .ok (.getfield 77, 3) := by decide +kernel
theorem dX11_defect_32 : decode cX11_defect 32 = .ok (.invokestatic 87, 3) := by decide +kernel
theorem dX11_defect_35 : decode cX11_defect 35 = .ok (.ifCond .eq 12, 3) := by decide +kernel
theorem dX11_defect_38 : decode cX11_defect 38 = .ok (.iload_n 3, 1) := by decide +kernel
theorem dX11_defect_39 : decode cX11_defect 39 = .ok (.iconst 2, 1) := by decide +kernel
theorem dX11_defect_40 : decode cX11_defect 40 = .ok (.iconst 3, 1) := by decide +kernel
theorem dX11_defect_41 : decode cX11_defect 41 = .ok (.invokestatic 87, 3) := by decide +kernel
theorem dX11_defect_44 : decode cX11_defect 44 = .ok (.ifCond .ne 5, 3) := by decide +kernel
theorem dX11_defect_47 : decode cX11_defect 47 = .ok (.iconst 0, 1) := by decide +kernel
theorem dX11_defect_48 : decode cX11_defect 48 = .ok (.ireturn, 1) := by decide +kernel
theorem dX11_defect_49 : decode cX11_defect 49 = .ok (.aload_n 0, 1) := by decide +kernel
theorem dX11_defect_50 : decode cX11_defect 50 = .ok (.getfield 13, 3) := by decide +kernel
theorem dX11_defect_53 : decode cX11_defect 53 = .ok (.aload_n 0, 1) := by decide +kernel
theorem dX11_defect_54 : decode cX11_defect 54 = .ok (.getfield 91, 3) := by decide +kernel
theorem dX11_defect_57 : decode cX11_defect 57 = .ok (.iload_n 1, 1) := by decide +kernel
theorem dX11_defect_58 : decode cX11_defect 58 = .ok (.iastore, 1) := by decide +kernel
theorem dX11_defect_59 : decode cX11_defect 59 = .ok (.aload_n 0, 1) := by decide +kernel
theorem dX11_defect_60 : decode cX11_defect 60 = .ok (.getfield 16, 3) := by decide +kernel
theorem dX11_defect_63 : decode cX11_defect 63 = .ok (.aload_n 0, 1) := by decide +kernel
theorem dX11_defect_64 : decode cX11_defect 64 = .ok (.getfield 91, 3) := by decide +kernel
theorem dX11_defect_67 : decode cX11_defect 67 = .ok (.iload_n 2, 1) := by decide +kernel
theorem dX11_defect_68 : decode cX11_defect 68 = .ok (.iastore, 1) := by decide +kernel
theorem dX11_defect_69 : decode cX11_defect 69 = .ok (.aload_n 0, 1) := by decide +kernel
theorem dX11_defect_70 : decode cX11_defect 70 = .ok (.getfield 19, 3) := by decide +kernel
theorem dX11_defect_73 : decode cX11_defect 73 = .ok (.aload_n 0, 1) := by decide +kernel
theorem dX11_defect_74 : decode cX11_defect 74 = .ok (.getfield 91, 3) := by decide +kernel
theorem dX11_defect_77 : decode cX11_defect 77 = .ok (.iload_n 3, 1) := by decide +kernel
theorem dX11_defect_78 : decode cX11_defect 78 = .ok (.iastore, 1) := by decide +kernel
theorem dX11_defect_79 : decode cX11_defect 79 = .ok (.aload_n 0, 1) := by decide +kernel
theorem dX11_defect_80 : decode cX11_defect 80 = .ok (.dup, 1) := by decide +kernel
theorem dX11_defect_81 : decode cX11_defect 81 = .ok (.getfield 91, 3) := by decide +kernel
theorem dX11_defect_84 : decode cX11_defect 84 = .ok (.iconst 1, 1) := by decide +kernel
theorem dX11_defect_85 : decode cX11_defect 85 = .ok (.iadd, 1) := by decide +kernel
theorem dX11_defect_86 : decode cX11_defect 86 = .ok (.putfield 91, 3) := by decide +kernel
theorem dX11_defect_89 : decode cX11_defect 89 = .ok (.iconst 1, 1) := by decide +kernel
theorem dX11_defect_90 : decode cX11_defect 90 = .ok (.ireturn, 1) := by decide +kernel
theorem dX11_logKind_0 : decode cX11_logKind 0 = .ok (.aload_n 0, 1) := by decide +kernel
theorem dX11_logKind_1 : decode cX11_logKind 1 = .ok (.iconst 0, 1) := by decide +kernel
theorem dX11_logKind_2 : decode cX11_logKind 2 = .ok (.putfield 84, 3) := by decide +kernel
theorem dX11_logKind_5 : decode cX11_logKind 5 = .ok (.iload_n 1, 1) := by decide +kernel
theorem dX11_logKind_6 : decode cX11_logKind 6 = .ok (.iconst 0, 1) := by decide +kernel
theorem dX11_logKind_7 : decode cX11_logKind 7 = .ok (.iconst 5, 1) := by decide +kernel
theorem dX11_logKind_8 : decode cX11_logKind 8 = .ok (.invokestatic 87, 3) := by decide +kernel
theorem dX11_logKind_11 : decode cX11_logKind 11 = .ok (.ifCond .eq 24, 3) := by decide +kernel
theorem dX11_logKind_14 : decode cX11_logKind 14 = .ok (.iload_n 2, 1) := by decide +kernel
theorem dX11_logKind_15 : decode cX11_logKind 15 = .ok (.iconst 1, 1) := by decide +kernel
theorem dX11_logKind_16 : decode cX11_logKind 16 = .ok (.bipush 60, 2) := by decide +kernel
theorem dX11_logKind_18 : decode cX11_logKind 18 = .ok (.invokestatic 87, 3) := by decide +kernel
theorem dX11_logKind_21 : decode cX11_logKind 21 = .ok (.ifCond .eq 14, 3) := by decide +kernel
theorem dX11_logKind_24 : decode cX11_logKind 24 = .ok (.iload_n 3, 1) := by decide +kernel
theorem dX11_logKind_25 : decode cX11_logKind 25 = .ok (.iconst 0, 1) := by decide +kernel
theorem dX11_logKind_26 : decode cX11_logKind 26 = .ok (.sipush 900, 3) := by decide +kernel
theorem dX11_logKind_29 : decode cX11_logKind 29 = .ok (.invokestatic 87, 3) := by decide +kernel
theorem dX11_logKind_32 : decode cX11_logKind 32 = .ok (.ifCond .ne 5, 3) := by decide +kernel
theorem dX11_logKind_35 : decode cX11_logKind 35 = .ok (.iconst 0, 1) := by decide +kernel
theorem dX11_logKind_36 : decode cX11_logKind 36 = .ok (.ireturn, 1) := by decide +kernel
theorem dX11_logKind_37 : decode cX11_logKind 37 = .ok (.aload_n 0, 1) := by decide +kernel
theorem dX11_logKind_38 : decode cX11_logKind 38 = .ok (.getfield 22, 3) := by decide +kernel
theorem dX11_logKind_41 : decode cX11_logKind 41 = .ok (.iload_n 1, 1) := by decide +kernel
theorem dX11_logKind_42 : decode cX11_logKind 42 = .ok (.iload_n 2, 1) := by decide +kernel
theorem dX11_logKind_43 : decode cX11_logKind 43 = .ok (.iastore, 1) := by decide +kernel
theorem dX11_logKind_44 : decode cX11_logKind 44 = .ok (.aload_n 0, 1) := by decide +kernel
theorem dX11_logKind_45 : decode cX11_logKind 45 = .ok (.getfield 25, 3) := by decide +kernel
theorem dX11_logKind_48 : decode cX11_logKind 48 = .ok (.iload_n 1, 1) := by decide +kernel
theorem dX11_logKind_49 : decode cX11_logKind 49 = .ok (.iload_n 3, 1) := by decide +kernel
theorem dX11_logKind_50 : decode cX11_logKind 50 = .ok (.iastore, 1) := by decide +kernel
theorem dX11_logKind_51 : decode cX11_logKind 51 = .ok (.iconst 0, 1) := by decide +kernel
theorem dX11_logKind_52 : decode cX11_logKind 52 = .ok (.istore 4, 2) := by decide +kernel
theorem dX11_logKind_54 : decode cX11_logKind 54 = .ok (.iload 4, 2) := by decide +kernel
theorem dX11_logKind_56 : decode cX11_logKind 56 = .ok (.bipush 76, 2) := by decide +kernel
theorem dX11_logKind_58 : decode cX11_logKind 58 = .ok (.if_icmp .ge 22, 3) := by decide +kernel
theorem dX11_logKind_61 : decode cX11_logKind 61 = .ok (.aload_n 0, 1) := by decide +kernel
theorem dX11_logKind_62 : decode cX11_logKind 62 = .ok (.getfield 28, 3) := by decide +kernel
theorem dX11_logKind_65 : decode cX11_logKind 65 = .ok (.bipush 76, 2) := by decide +kernel
theorem dX11_logKind_67 : decode cX11_logKind 67 = .ok (.iload_n 1, 1) := by decide +kernel
theorem dX11_logKind_68 : decode cX11_logKind 68 = .ok (.imul, 1) := by decide +kernel
theorem dX11_logKind_69 : decode cX11_logKind 69 = .ok (.iload 4, 2) := by decide +kernel
theorem dX11_logKind_71 : decode cX11_logKind 71 = .ok (.iadd, 1) := by decide +kernel
theorem dX11_logKind_72 : decode cX11_logKind 72 = .ok (.iconst 0, 1) := by decide +kernel
theorem dX11_logKind_73 : decode cX11_logKind 73 = .ok (.iastore, 1) := by decide +kernel
theorem dX11_logKind_74 : decode cX11_logKind 74 = .ok (.iinc 4 1, 3) := by decide +kernel
theorem dX11_logKind_77 : decode cX11_logKind 77 = .ok (.goto (-23), 3) := by decide +kernel
theorem dX11_logKind_80 : decode cX11_logKind 80 = .ok (.iconst 1, 1) := by decide +kernel
theorem dX11_logKind_81 : decode cX11_logKind 81 = .ok (.ireturn, 1) := by decide +kernel
theorem dX11_priceOf_0 : decode cX11_priceOf 0 = .ok (.aload_n 0, 1) := by decide +kernel
theorem dX11_priceOf_1 : decode cX11_priceOf 1 = .ok (.iconst 0, 1) := by decide +kernel
theorem dX11_priceOf_2 : decode cX11_priceOf 2 = .ok (.putfield 84, 3) := by decide +kernel
theorem dX11_priceOf_5 : decode cX11_priceOf 5 = .ok (.iload_n 1, 1) := by decide +kernel
theorem dX11_priceOf_6 : decode cX11_priceOf 6 = .ok (.iconst 0, 1) := by decide +kernel
theorem dX11_priceOf_7 : decode cX11_priceOf 7 = .ok (.iconst 5, 1) := by decide +kernel
theorem dX11_priceOf_8 : decode cX11_priceOf 8 = .ok (.invokestatic 87, 3) := by decide +kernel
theorem dX11_priceOf_11 : decode cX11_priceOf 11 = .ok (.ifCond .eq 42, 3) := by decide +kernel
theorem dX11_priceOf_14 : decode cX11_priceOf 14 = .ok (.aload_n 0, 1) := by decide +kernel
theorem dX11_priceOf_15 : decode cX11_priceOf 15 = .ok (.getfield 22, 3) := by decide +kernel
theorem dX11_priceOf_18 : decode cX11_priceOf 18 = .ok (.iload_n 1, 1) := by decide +kernel
theorem dX11_priceOf_19 : decode cX11_priceOf 19 = .ok (.iaload, 1) := by decide +kernel
theorem dX11_priceOf_20 : decode cX11_priceOf 20 = .ok (.ifCond .eq 33, 3) := by decide +kernel
theorem dX11_priceOf_23 : decode cX11_priceOf 23 = .ok (.iload_n 2, 1) := by decide +kernel
theorem dX11_priceOf_24 : decode cX11_priceOf 24 = .ok (.iconst 0, 1) := by decide +kernel
theorem dX11_priceOf_25 : decode cX11_priceOf 25 = .ok (.bipush 18, 2) := by decide +kernel
theorem dX11_priceOf_27 : decode cX11_priceOf 27 = .ok (.invokestatic 87, 3) := by decide +kernel
theorem dX11_priceOf_30 : decode cX11_priceOf 30 = .ok (.ifCond .eq 23, 3) := by decide +kernel
theorem dX11_priceOf_33 : decode cX11_priceOf 33 = .ok (.iload_n 3, 1) := by decide +kernel
theorem dX11_priceOf_34 : decode cX11_priceOf 34 = .ok (.iconst 1, 1) := by decide +kernel
theorem dX11_priceOf_35 : decode cX11_priceOf 35 = .ok (.iconst 3, 1) := by decide +kernel
theorem dX11_priceOf_36 : decode cX11_priceOf 36 = .ok (.invokestatic 87, 3) := by decide +kernel
theorem dX11_priceOf_39 : decode cX11_priceOf 39 = .ok (.ifCond .eq 14, 3) := by decide +kernel
theorem dX11_priceOf_42 : decode cX11_priceOf 42 = .ok (.iload 4, 2) := by decide +kernel
theorem dX11_priceOf_44 : decode cX11_priceOf 44 = .ok (.iconst 0, 1) := by decide +kernel
theorem dX11_priceOf_45 : decode cX11_priceOf 45 = .ok (.ldc 94, 2) := by decide +kernel
theorem dX11_priceOf_47 : decode cX11_priceOf 47 = .ok (.invokestatic 87, 3) := by decide +kernel
theorem dX11_priceOf_50 : decode cX11_priceOf 50 = .ok (.ifCond .ne 5, 3) := by decide +kernel
theorem dX11_priceOf_53 : decode cX11_priceOf 53 = .ok (.iconst 0, 1) := by decide +kernel
theorem dX11_priceOf_54 : decode cX11_priceOf 54 = .ok (.ireturn, 1) := by decide +kernel
theorem dX11_priceOf_55 : decode cX11_priceOf 55 = .ok (.aload_n 0, 1) := by decide +kernel
theorem dX11_priceOf_56 : decode cX11_priceOf 56 = .ok (.getfield 28, 3) := by decide +kernel
theorem dX11_priceOf_59 : decode cX11_priceOf 59 = .ok (.bipush 76, 2) := by decide +kernel
theorem dX11_priceOf_61 : decode cX11_priceOf 61 = .ok (.iload_n 1, 1) := by decide +kernel
theorem dX11_priceOf_62 : decode cX11_priceOf 62 = .ok (.imul, 1) := by decide +kernel
theorem dX11_priceOf_63 : decode cX11_priceOf 63 = .ok (.iconst 4, 1) := by decide +kernel
theorem dX11_priceOf_64 : decode cX11_priceOf 64 = .ok (.iload_n 2, 1) := by decide +kernel
theorem dX11_priceOf_65 : decode cX11_priceOf 65 = .ok (.imul, 1) := by decide +kernel
theorem dX11_priceOf_66 : decode cX11_priceOf 66 = .ok (.iadd, 1) := by decide +kernel
theorem dX11_priceOf_67 : decode cX11_priceOf 67 = .ok (.iload_n 3, 1) := by decide +kernel
theorem dX11_priceOf_68 : decode cX11_priceOf 68 = .ok (.iadd, 1) := by decide +kernel
theorem dX11_priceOf_69 : decode cX11_priceOf 69 = .ok (.iload 4, 2) := by decide +kernel
theorem dX11_priceOf_71 : decode cX11_priceOf 71 = .ok (.iastore, 1) := by decide +kernel
theorem dX11_priceOf_72 : decode cX11_priceOf 72 = .ok (.iconst 1, 1) := by decide +kernel
theorem dX11_priceOf_73 : decode cX11_priceOf 73 = .ok (.ireturn, 1) := by decide +kernel
theorem dX11_topOf_0 : decode cX11_topOf 0 = .ok (.sipush 900, 3) := by decide +kernel
theorem dX11_topOf_3 : decode cX11_topOf 3 = .ok (.istore_n 3, 1) := by decide +kernel
theorem dX11_topOf_4 : decode cX11_topOf 4 = .ok (.iload_n 1, 1) := by decide +kernel
theorem dX11_topOf_5 : decode cX11_topOf 5 = .ok (.istore 4, 2) := by decide +kernel
theorem dX11_topOf_7 : decode cX11_topOf 7 = .ok (.iload 4, 2) := by decide +kernel
theorem dX11_topOf_9 : decode cX11_topOf 9 = .ok (.iload_n 1, 1) := by decide +kernel
theorem dX11_topOf_10 : decode cX11_topOf 10 = .ok (.iload_n 2, 1) := by decide +kernel
theorem dX11_topOf_11 : decode cX11_topOf 11 = .ok (.iadd, 1) := by decide +kernel
theorem dX11_topOf_12 : decode cX11_topOf 12 = .ok (.if_icmp .gt 32, 3) := by decide +kernel
theorem dX11_topOf_15 : decode cX11_topOf 15 = .ok (.aload_n 0, 1) := by decide +kernel
theorem dX11_topOf_16 : decode cX11_topOf 16 = .ok (.getfield 7, 3) := by decide +kernel
theorem dX11_topOf_19 : decode cX11_topOf 19 = .ok (.iload 4, 2) := by decide +kernel
theorem dX11_topOf_21 : decode cX11_topOf 21 = .ok (.iaload, 1) := by decide +kernel
theorem dX11_topOf_22 : decode cX11_topOf 22 = .ok (.iload_n 3, 1) := by decide +kernel
theorem dX11_topOf_23 : decode cX11_topOf 23 = .ok (.if_icmp .ge 13, 3) := by decide +kernel
theorem dX11_topOf_26 : decode cX11_topOf 26 = .ok (.aload_n 0, 1) := by decide +kernel
theorem dX11_topOf_27 : decode cX11_topOf 27 = .ok (.getfield 7, 3) := by decide +kernel
theorem dX11_topOf_30 : decode cX11_topOf 30 = .ok (.iload 4, 2) := by decide +kernel
theorem dX11_topOf_32 : decode cX11_topOf 32 = .ok (.iaload, 1) := by decide +kernel
theorem dX11_topOf_33 : decode cX11_topOf 33 = .ok (.goto 4, 3) := by decide +kernel
theorem dX11_topOf_36 : decode cX11_topOf 36 = .ok (.iload_n 3, 1) := by decide +kernel
theorem dX11_topOf_37 : decode cX11_topOf 37 = .ok (.istore_n 3, 1) := by decide +kernel
theorem dX11_topOf_38 : decode cX11_topOf 38 = .ok (.iinc 4 1, 3) := by decide +kernel
theorem dX11_topOf_41 : decode cX11_topOf 41 = .ok (.goto (-34), 3) := by decide +kernel
theorem dX11_topOf_44 : decode cX11_topOf 44 = .ok (.iload_n 3, 1) := by decide +kernel
theorem dX11_topOf_45 : decode cX11_topOf 45 = .ok (.ireturn, 1) := by decide +kernel
theorem dX11_gradeOf_0 : decode cX11_gradeOf 0 = .ok (.iconst 1, 1) := by decide +kernel
theorem dX11_gradeOf_1 : decode cX11_gradeOf 1 = .ok (.istore_n 3, 1) := by decide +kernel
theorem dX11_gradeOf_2 : decode cX11_gradeOf 2 = .ok (.iconst 0, 1) := by decide +kernel
theorem dX11_gradeOf_3 : decode cX11_gradeOf 3 = .ok (.istore 4, 2) := by decide +kernel
theorem dX11_gradeOf_5 : decode cX11_gradeOf 5 = .ok (.iload 4, 2) := by decide +kernel
theorem dX11_gradeOf_7 : decode cX11_gradeOf 7 = .ok (.aload_n 0, 1) := by decide +kernel
theorem dX11_gradeOf_8 : decode cX11_gradeOf 8 = .ok (.getfield 91, 3) := by decide +kernel
theorem dX11_gradeOf_11 : decode cX11_gradeOf 11 = .ok (.if_icmp .ge 52, 3) := by decide +kernel
theorem dX11_gradeOf_14 : decode cX11_gradeOf 14 = .ok (.aload_n 0, 1) := by decide +kernel
theorem dX11_gradeOf_15 : decode cX11_gradeOf 15 = .ok (.getfield 13, 3) := by decide +kernel
theorem dX11_gradeOf_18 : decode cX11_gradeOf 18 = .ok (.iload 4, 2) := by decide +kernel
theorem dX11_gradeOf_20 : decode cX11_gradeOf 20 = .ok (.iaload, 1) := by decide +kernel
theorem dX11_gradeOf_21 : decode cX11_gradeOf 21 = .ok (.iload_n 1, 1) := by decide +kernel
theorem dX11_gradeOf_22 : decode cX11_gradeOf 22 = .ok (.iload_n 2, 1) := by decide +kernel
theorem dX11_gradeOf_23 : decode cX11_gradeOf 23 = .ok (.iadd, 1) := by decide +kernel
theorem dX11_gradeOf_24 : decode cX11_gradeOf 24 = .ok (.if_icmp .gt 33, 3) := by decide +kernel
theorem dX11_gradeOf_27 : decode cX11_gradeOf 27 = .ok (.aload_n 0, 1) := by decide +kernel
theorem dX11_gradeOf_28 : decode cX11_gradeOf 28 = .ok (.getfield 16, 3) := by decide +kernel
theorem dX11_gradeOf_31 : decode cX11_gradeOf 31 = .ok (.iload 4, 2) := by decide +kernel
theorem dX11_gradeOf_33 : decode cX11_gradeOf 33 = .ok (.iaload, 1) := by decide +kernel
theorem dX11_gradeOf_34 : decode cX11_gradeOf 34 = .ok (.iload_n 1, 1) := by decide +kernel
theorem dX11_gradeOf_35 : decode cX11_gradeOf 35 = .ok (.if_icmp .lt 22, 3) := by decide +kernel
theorem dX11_gradeOf_38 : decode cX11_gradeOf 38 = .ok (.aload_n 0, 1) := by decide +kernel
theorem dX11_gradeOf_39 : decode cX11_gradeOf 39 = .ok (.getfield 19, 3) := by decide +kernel
theorem dX11_gradeOf_42 : decode cX11_gradeOf 42 = .ok (.iload 4, 2) := by decide +kernel
theorem dX11_gradeOf_44 : decode cX11_gradeOf 44 = .ok (.iaload, 1) := by decide +kernel
theorem dX11_gradeOf_45 : decode cX11_gradeOf 45 = .ok (.iload_n 3, 1) := by decide +kernel
theorem dX11_gradeOf_46 : decode cX11_gradeOf 46 = .ok (.if_icmp .le 11, 3) := by decide +kernel
theorem dX11_gradeOf_49 : decode cX11_gradeOf 49 = .ok (.aload_n 0, 1) := by decide +kernel
theorem dX11_gradeOf_50 : decode cX11_gradeOf 50 = .ok (.getfield 19, 3) := by decide +kernel
theorem dX11_gradeOf_53 : decode cX11_gradeOf 53 = .ok (.iload 4, 2) := by decide +kernel
theorem dX11_gradeOf_55 : decode cX11_gradeOf 55 = .ok (.iaload, 1) := by decide +kernel
theorem dX11_gradeOf_56 : decode cX11_gradeOf 56 = .ok (.istore_n 3, 1) := by decide +kernel
theorem dX11_gradeOf_57 : decode cX11_gradeOf 57 = .ok (.iinc 4 1, 3) := by decide +kernel
theorem dX11_gradeOf_60 : decode cX11_gradeOf 60 = .ok (.goto (-55), 3) := by decide +kernel
theorem dX11_gradeOf_63 : decode cX11_gradeOf 63 = .ok (.iload_n 3, 1) := by decide +kernel
theorem dX11_gradeOf_64 : decode cX11_gradeOf 64 = .ok (.ireturn, 1) := by decide +kernel
theorem dX11_isAllowed_0 : decode cX11_isAllowed 0 = .ok (.aload_n 0, 1) := by decide +kernel
theorem dX11_isAllowed_1 : decode cX11_isAllowed 1 = .ok (.getfield 22, 3) := by decide +kernel
theorem dX11_isAllowed_4 : decode cX11_isAllowed 4 = .ok (.iload_n 1, 1) := by decide +kernel
theorem dX11_isAllowed_5 : decode cX11_isAllowed 5 = .ok (.iaload, 1) := by decide +kernel
theorem dX11_isAllowed_6 : decode cX11_isAllowed 6 = .ok (.istore_n 3, 1) := by decide +kernel
theorem dX11_isAllowed_7 : decode cX11_isAllowed 7 = .ok (.iload_n 3, 1) := by decide +kernel
theorem dX11_isAllowed_8 : decode cX11_isAllowed 8 = .ok (.ifCond .le 32, 3) := by decide +kernel
theorem dX11_isAllowed_11 : decode cX11_isAllowed 11 = .ok (.iload_n 2, 1) := by decide +kernel
theorem dX11_isAllowed_12 : decode cX11_isAllowed 12 = .ok (.iload_n 3, 1) := by decide +kernel
theorem dX11_isAllowed_13 : decode cX11_isAllowed 13 = .ok (.iadd, 1) := by decide +kernel
theorem dX11_isAllowed_14 : decode cX11_isAllowed 14 = .ok (.aload_n 0, 1) := by decide +kernel
theorem dX11_isAllowed_15 : decode cX11_isAllowed 15 = .ok (.getfield 77, 3) := by decide +kernel
theorem dX11_isAllowed_18 : decode cX11_isAllowed 18 = .ok (.if_icmp .gt 22, 3) := by decide +kernel
theorem dX11_isAllowed_21 : decode cX11_isAllowed 21 = .ok (.aload_n 0, 1) := by decide +kernel
theorem dX11_isAllowed_22 : decode cX11_isAllowed 22 = .ok (.iload_n 2, 1) := by decide +kernel
theorem dX11_isAllowed_23 : decode cX11_isAllowed 23 = .ok (.iload_n 3, 1) := by decide +kernel
theorem dX11_isAllowed_24 : decode cX11_isAllowed 24 = .ok (.invokevirtual 95, 3) := by decide +kernel
theorem dX11_isAllowed_27 : decode cX11_isAllowed 27 = .ok (.aload_n 0, 1) := by decide +kernel
theorem dX11_isAllowed_28 : decode cX11_isAllowed 28 = .ok (.getfield 25, 3) := by decide +kernel
theorem dX11_isAllowed_31 : decode cX11_isAllowed 31 = .ok (.iload_n 1, 1) := by decide +kernel
theorem dX11_isAllowed_32 : decode cX11_isAllowed 32 = .ok (.iaload, 1) := by decide +kernel
theorem dX11_isAllowed_33 : decode cX11_isAllowed 33 = .ok (.if_icmp .lt 7, 3) := by decide +kernel
theorem dX11_isAllowed_36 : decode cX11_isAllowed 36 = .ok (.iconst 1, 1) := by decide +kernel
theorem dX11_isAllowed_37 : decode cX11_isAllowed 37 = .ok (.goto 4, 3) := by decide +kernel
theorem dX11_isAllowed_40 : decode cX11_isAllowed 40 = .ok (.iconst 0, 1) := by decide +kernel
theorem dX11_isAllowed_41 : decode cX11_isAllowed 41 = .ok (.ireturn, 1) := by decide +kernel
theorem dX11_worth_0 : decode cX11_worth 0 = .ok (.aload_n 0, 1) := by decide +kernel
theorem dX11_worth_1 : decode cX11_worth 1 = .ok (.getfield 22, 3) := by decide +kernel
theorem dX11_worth_4 : decode cX11_worth 4 = .ok (.iload_n 1, 1) := by decide +kernel
theorem dX11_worth_5 : decode cX11_worth 5 = .ok (.iaload, 1) := by decide +kernel
theorem dX11_worth_6 : decode cX11_worth 6 = .ok (.istore_n 3, 1) := by decide +kernel
theorem dX11_worth_7 : decode cX11_worth 7 = .ok (.aload_n 0, 1) := by decide +kernel
theorem dX11_worth_8 : decode cX11_worth 8 = .ok (.getfield 28, 3) := by decide +kernel
theorem dX11_worth_11 : decode cX11_worth 11 = .ok (.bipush 76, 2) := by decide +kernel
theorem dX11_worth_13 : decode cX11_worth 13 = .ok (.iload_n 1, 1) := by decide +kernel
theorem dX11_worth_14 : decode cX11_worth 14 = .ok (.imul, 1) := by decide +kernel
theorem dX11_worth_15 : decode cX11_worth 15 = .ok (.iconst 4, 1) := by decide +kernel
theorem dX11_worth_16 : decode cX11_worth 16 = .ok (.aload_n 0, 1) := by decide +kernel
theorem dX11_worth_17 : decode cX11_worth 17 = .ok (.iload_n 2, 1) := by decide +kernel
theorem dX11_worth_18 : decode cX11_worth 18 = .ok (.iload_n 3, 1) := by decide +kernel
theorem dX11_worth_19 : decode cX11_worth 19 = .ok (.invokevirtual 95, 3) := by decide +kernel
theorem dX11_worth_22 : decode cX11_worth 22 = .ok (.bipush 50, 2) := by decide +kernel
theorem dX11_worth_24 : decode cX11_worth 24 = .ok (.idiv, 1) := by decide +kernel
theorem dX11_worth_25 : decode cX11_worth 25 = .ok (.imul, 1) := by decide +kernel
theorem dX11_worth_26 : decode cX11_worth 26 = .ok (.iadd, 1) := by decide +kernel
theorem dX11_worth_27 : decode cX11_worth 27 = .ok (.aload_n 0, 1) := by decide +kernel
theorem dX11_worth_28 : decode cX11_worth 28 = .ok (.iload_n 2, 1) := by decide +kernel
theorem dX11_worth_29 : decode cX11_worth 29 = .ok (.iload_n 3, 1) := by decide +kernel
theorem dX11_worth_30 : decode cX11_worth 30 = .ok (.invokevirtual 99, 3) := by decide +kernel
theorem dX11_worth_33 : decode cX11_worth 33 = .ok (.iadd, 1) := by decide +kernel
theorem dX11_worth_34 : decode cX11_worth 34 = .ok (.iaload, 1) := by decide +kernel
theorem dX11_worth_35 : decode cX11_worth 35 = .ok (.ireturn, 1) := by decide +kernel
theorem dX11_add_0 : decode cX11_add 0 = .ok (.aload_n 0, 1) := by decide +kernel
theorem dX11_add_1 : decode cX11_add 1 = .ok (.getfield 22, 3) := by decide +kernel
theorem dX11_add_4 : decode cX11_add 4 = .ok (.iload_n 1, 1) := by decide +kernel
theorem dX11_add_5 : decode cX11_add 5 = .ok (.iaload, 1) := by decide +kernel
theorem dX11_add_6 : decode cX11_add 6 = .ok (.istore_n 3, 1) := by decide +kernel
theorem dX11_add_7 : decode cX11_add 7 = .ok (.bipush 6, 2) := by decide +kernel
theorem dX11_add_9 : decode cX11_add 9 = .ok (.aload_n 0, 1) := by decide +kernel
theorem dX11_add_10 : decode cX11_add 10 = .ok (.getfield 102, 3) := by decide +kernel
theorem dX11_add_13 : decode cX11_add 13 = .ok (.imul, 1) := by decide +kernel
theorem dX11_add_14 : decode cX11_add 14 = .ok (.istore 4, 2) := by decide +kernel
theorem dX11_add_16 : decode cX11_add 16 = .ok (.aload_n 0, 1) := by decide +kernel
theorem dX11_add_17 : decode cX11_add 17 = .ok (.getfield 31, 3) := by decide +kernel
theorem dX11_add_20 : decode cX11_add 20 = .ok (.iload 4, 2) := by decide +kernel
theorem dX11_add_22 : decode cX11_add 22 = .ok (.iload_n 2, 1) := by decide +kernel
theorem dX11_add_23 : decode cX11_add 23 = .ok (.iastore, 1) := by decide +kernel
theorem dX11_add_24 : decode cX11_add 24 = .ok (.aload_n 0, 1) := by decide +kernel
theorem dX11_add_25 : decode cX11_add 25 = .ok (.getfield 31, 3) := by decide +kernel
theorem dX11_add_28 : decode cX11_add 28 = .ok (.iload 4, 2) := by decide +kernel
theorem dX11_add_30 : decode cX11_add 30 = .ok (.iconst 1, 1) := by decide +kernel
theorem dX11_add_31 : decode cX11_add 31 = .ok (.iadd, 1) := by decide +kernel
theorem dX11_add_32 : decode cX11_add 32 = .ok (.iload_n 1, 1) := by decide +kernel
theorem dX11_add_33 : decode cX11_add 33 = .ok (.iastore, 1) := by decide +kernel
theorem dX11_add_34 : decode cX11_add 34 = .ok (.aload_n 0, 1) := by decide +kernel
theorem dX11_add_35 : decode cX11_add 35 = .ok (.getfield 31, 3) := by decide +kernel
theorem dX11_add_38 : decode cX11_add 38 = .ok (.iload 4, 2) := by decide +kernel
theorem dX11_add_40 : decode cX11_add 40 = .ok (.iconst 2, 1) := by decide +kernel
theorem dX11_add_41 : decode cX11_add 41 = .ok (.iadd, 1) := by decide +kernel
theorem dX11_add_42 : decode cX11_add 42 = .ok (.aload_n 0, 1) := by decide +kernel
theorem dX11_add_43 : decode cX11_add 43 = .ok (.iload_n 2, 1) := by decide +kernel
theorem dX11_add_44 : decode cX11_add 44 = .ok (.iload_n 3, 1) := by decide +kernel
theorem dX11_add_45 : decode cX11_add 45 = .ok (.invokevirtual 95, 3) := by decide +kernel
theorem dX11_add_48 : decode cX11_add 48 = .ok (.iastore, 1) := by decide +kernel
theorem dX11_add_49 : decode cX11_add 49 = .ok (.aload_n 0, 1) := by decide +kernel
theorem dX11_add_50 : decode cX11_add 50 = .ok (.getfield 31, 3) := by decide +kernel
theorem dX11_add_53 : decode cX11_add 53 = .ok (.iload 4, 2) := by decide +kernel
theorem dX11_add_55 : decode cX11_add 55 = .ok (.iconst 3, 1) := by decide +kernel
theorem dX11_add_56 : decode cX11_add 56 = .ok (.iadd, 1) := by decide +kernel
theorem dX11_add_57 : decode cX11_add 57 = .ok (.aload_n 0, 1) := by decide +kernel
theorem dX11_add_58 : decode cX11_add 58 = .ok (.iload_n 2, 1) := by decide +kernel
theorem dX11_add_59 : decode cX11_add 59 = .ok (.iload_n 3, 1) := by decide +kernel
theorem dX11_add_60 : decode cX11_add 60 = .ok (.invokevirtual 95, 3) := by decide +kernel
theorem dX11_add_63 : decode cX11_add 63 = .ok (.bipush 50, 2) := by decide +kernel
theorem dX11_add_65 : decode cX11_add 65 = .ok (.idiv, 1) := by decide +kernel
theorem dX11_add_66 : decode cX11_add 66 = .ok (.iastore, 1) := by decide +kernel
theorem dX11_add_67 : decode cX11_add 67 = .ok (.aload_n 0, 1) := by decide +kernel
theorem dX11_add_68 : decode cX11_add 68 = .ok (.getfield 31, 3) := by decide +kernel
theorem dX11_add_71 : decode cX11_add 71 = .ok (.iload 4, 2) := by decide +kernel
theorem dX11_add_73 : decode cX11_add 73 = .ok (.iconst 4, 1) := by decide +kernel
theorem dX11_add_74 : decode cX11_add 74 = .ok (.iadd, 1) := by decide +kernel
theorem dX11_add_75 : decode cX11_add 75 = .ok (.aload_n 0, 1) := by decide +kernel
theorem dX11_add_76 : decode cX11_add 76 = .ok (.iload_n 2, 1) := by decide +kernel
theorem dX11_add_77 : decode cX11_add 77 = .ok (.iload_n 3, 1) := by decide +kernel
theorem dX11_add_78 : decode cX11_add 78 = .ok (.invokevirtual 99, 3) := by decide +kernel
theorem dX11_add_81 : decode cX11_add 81 = .ok (.iastore, 1) := by decide +kernel
theorem dX11_add_82 : decode cX11_add 82 = .ok (.aload_n 0, 1) := by decide +kernel
theorem dX11_add_83 : decode cX11_add 83 = .ok (.getfield 31, 3) := by decide +kernel
theorem dX11_add_86 : decode cX11_add 86 = .ok (.iload 4, 2) := by decide +kernel
theorem dX11_add_88 : decode cX11_add 88 = .ok (.iconst 5, 1) := by decide +kernel
theorem dX11_add_89 : decode cX11_add 89 = .ok (.iadd, 1) := by decide +kernel
theorem dX11_add_90 : decode cX11_add 90 = .ok (.aload_n 0, 1) := by decide +kernel
theorem dX11_add_91 : decode cX11_add 91 = .ok (.iload_n 1, 1) := by decide +kernel
theorem dX11_add_92 : decode cX11_add 92 = .ok (.iload_n 2, 1) := by decide +kernel
theorem dX11_add_93 : decode cX11_add 93 = .ok (.invokevirtual 105, 3) := by decide +kernel
theorem dX11_add_96 : decode cX11_add 96 = .ok (.iastore, 1) := by decide +kernel
theorem dX11_add_97 : decode cX11_add 97 = .ok (.aload_n 0, 1) := by decide +kernel
theorem dX11_add_98 : decode cX11_add 98 = .ok (.dup, 1) := by decide +kernel
theorem dX11_add_99 : decode cX11_add 99 = .ok (.getfield 102, 3) := by decide +kernel
theorem dX11_add_102 : decode cX11_add 102 = .ok (.iconst 1, 1) := by decide +kernel
theorem dX11_add_103 : decode cX11_add 103 = .ok (.iadd, 1) := by decide +kernel
theorem dX11_add_104 : decode cX11_add 104 = .ok (.putfield 102, 3) := by decide +kernel
theorem dX11_add_107 : decode cX11_add 107 = .ok (.return_, 1) := by decide +kernel
theorem dX11_buck_0 : decode cX11_buck 0 = .ok (.aload_n 0, 1) := by decide +kernel
theorem dX11_buck_1 : decode cX11_buck 1 = .ok (.iconst 0, 1) := by decide +kernel
theorem dX11_buck_2 : decode cX11_buck 2 = .ok (.putfield 84, 3) := by decide +kernel
theorem dX11_buck_5 : decode cX11_buck 5 = .ok (.aload_n 0, 1) := by decide +kernel
theorem dX11_buck_6 : decode cX11_buck 6 = .ok (.getfield 77, 3) := by decide +kernel
theorem dX11_buck_9 : decode cX11_buck 9 = .ok (.iconst 1, 1) := by decide +kernel
theorem dX11_buck_10 : decode cX11_buck 10 = .ok (.iadd, 1) := by decide +kernel
theorem dX11_buck_11 : decode cX11_buck 11 = .ok (.istore_n 1, 1) := by decide +kernel
theorem dX11_buck_12 : decode cX11_buck 12 = .ok (.iconst 0, 1) := by decide +kernel
theorem dX11_buck_13 : decode cX11_buck 13 = .ok (.istore_n 2, 1) := by decide +kernel
theorem dX11_buck_14 : decode cX11_buck 14 = .ok (.iload_n 2, 1) := by decide +kernel
theorem dX11_buck_15 : decode cX11_buck 15 = .ok (.iload_n 1, 1) := by decide +kernel
theorem dX11_buck_16 : decode cX11_buck 16 = .ok (.if_icmp .gt 16, 3) := by decide +kernel
theorem dX11_buck_19 : decode cX11_buck 19 = .ok (.aload_n 0, 1) := by decide +kernel
theorem dX11_buck_20 : decode cX11_buck 20 = .ok (.getfield 70, 3) := by decide +kernel
theorem dX11_buck_23 : decode cX11_buck 23 = .ok (.iload_n 2, 1) := by decide +kernel
theorem dX11_buck_24 : decode cX11_buck 24 = .ok (.iconst 0, 1) := by decide +kernel
theorem dX11_buck_25 : decode cX11_buck 25 = .ok (.iastore, 1) := by decide +kernel
theorem dX11_buck_26 : decode cX11_buck 26 = .ok (.iinc 2 1, 3) := by decide +kernel
theorem dX11_buck_29 : decode cX11_buck 29 = .ok (.goto (-15), 3) := by decide +kernel
theorem dX11_buck_32 : decode cX11_buck 32 = .ok (.iconst 0, 1) := by decide +kernel
theorem dX11_buck_33 : decode cX11_buck 33 = .ok (.istore_n 2, 1) := by decide +kernel
theorem dX11_buck_34 : decode cX11_buck 34 = .ok (.iload_n 2, 1) := by decide +kernel
theorem dX11_buck_35 : decode cX11_buck 35 = .ok (.aload_n 0, 1) := by decide +kernel
theorem dX11_buck_36 : decode cX11_buck 36 = .ok (.getfield 77, 3) := by decide +kernel
theorem dX11_buck_39 : decode cX11_buck 39 = .ok (.if_icmp .gt 114, 3) := by decide +kernel
theorem dX11_buck_42 : decode cX11_buck 42 = .ok (.aload_n 0, 1) := by decide +kernel
theorem dX11_buck_43 : decode cX11_buck 43 = .ok (.getfield 70, 3) := by decide +kernel
theorem dX11_buck_46 : decode cX11_buck 46 = .ok (.iload_n 2, 1) := by decide +kernel
theorem dX11_buck_47 : decode cX11_buck 47 = .ok (.iaload, 1) := by decide +kernel
theorem dX11_buck_48 : decode cX11_buck 48 = .ok (.aload_n 0, 1) := by decide +kernel
theorem dX11_buck_49 : decode cX11_buck 49 = .ok (.getfield 70, 3) := by decide +kernel
theorem dX11_buck_52 : decode cX11_buck 52 = .ok (.iload_n 2, 1) := by decide +kernel
theorem dX11_buck_53 : decode cX11_buck 53 = .ok (.iconst 1, 1) := by decide +kernel
theorem dX11_buck_54 : decode cX11_buck 54 = .ok (.iadd, 1) := by decide +kernel
theorem dX11_buck_55 : decode cX11_buck 55 = .ok (.iaload, 1) := by decide +kernel
theorem dX11_buck_56 : decode cX11_buck 56 = .ok (.if_icmp .le 17, 3) := by decide +kernel
theorem dX11_buck_59 : decode cX11_buck 59 = .ok (.aload_n 0, 1) := by decide +kernel
theorem dX11_buck_60 : decode cX11_buck 60 = .ok (.getfield 70, 3) := by decide +kernel
theorem dX11_buck_63 : decode cX11_buck 63 = .ok (.iload_n 2, 1) := by decide +kernel
theorem dX11_buck_64 : decode cX11_buck 64 = .ok (.iconst 1, 1) := by decide +kernel
theorem dX11_buck_65 : decode cX11_buck 65 = .ok (.iadd, 1) := by decide +kernel
theorem dX11_buck_66 : decode cX11_buck 66 = .ok (.aload_n 0, 1) := by decide +kernel
theorem dX11_buck_67 : decode cX11_buck 67 = .ok (.getfield 70, 3) := by decide +kernel
theorem dX11_buck_70 : decode cX11_buck 70 = .ok (.iload_n 2, 1) := by decide +kernel
theorem dX11_buck_71 : decode cX11_buck 71 = .ok (.iaload, 1) := by decide +kernel
theorem dX11_buck_72 : decode cX11_buck 72 = .ok (.iastore, 1) := by decide +kernel
theorem dX11_buck_73 : decode cX11_buck 73 = .ok (.iconst 0, 1) := by decide +kernel
theorem dX11_buck_74 : decode cX11_buck 74 = .ok (.istore_n 3, 1) := by decide +kernel
theorem dX11_buck_75 : decode cX11_buck 75 = .ok (.iload_n 3, 1) := by decide +kernel
theorem dX11_buck_76 : decode cX11_buck 76 = .ok (.bipush 6, 2) := by decide +kernel
theorem dX11_buck_78 : decode cX11_buck 78 = .ok (.if_icmp .ge 69, 3) := by decide +kernel
theorem dX11_buck_81 : decode cX11_buck 81 = .ok (.aload_n 0, 1) := by decide +kernel
theorem dX11_buck_82 : decode cX11_buck 82 = .ok (.iload_n 3, 1) := by decide +kernel
theorem dX11_buck_83 : decode cX11_buck 83 = .ok (.iload_n 2, 1) := by decide +kernel
theorem dX11_buck_84 : decode cX11_buck 84 = .ok (.invokevirtual 108, 3) := by decide +kernel
theorem dX11_buck_87 : decode cX11_buck 87 = .ok (.ifCond .ne 6, 3) := by decide +kernel
theorem dX11_buck_90 : decode cX11_buck 90 = .ok (.goto 51, 3) := by decide +kernel
theorem dX11_buck_93 : decode cX11_buck 93 = .ok (.iload_n 2, 1) := by decide +kernel
theorem dX11_buck_94 : decode cX11_buck 94 = .ok (.aload_n 0, 1) := by decide +kernel
theorem dX11_buck_95 : decode cX11_buck 95 = .ok (.getfield 22, 3) := by decide +kernel
theorem dX11_buck_98 : decode cX11_buck 98 = .ok (.iload_n 3, 1) := by decide +kernel
theorem dX11_buck_99 : decode cX11_buck 99 = .ok (.iaload, 1) := by decide +kernel
theorem dX11_buck_100 : decode cX11_buck 100 = .ok (.iadd, 1) := by decide +kernel
theorem dX11_buck_101 : decode cX11_buck 101 = .ok (.iconst 1, 1) := by decide +kernel
theorem dX11_buck_102 : decode cX11_buck 102 = .ok (.iadd, 1) := by decide +kernel
theorem dX11_buck_103 : decode cX11_buck 103 = .ok (.istore 4, 2) := by decide +kernel
theorem dX11_buck_105 : decode cX11_buck 105 = .ok (.aload_n 0, 1) := by decide +kernel
theorem dX11_buck_106 : decode cX11_buck 106 = .ok (.getfield 70, 3) := by decide +kernel
theorem dX11_buck_109 : decode cX11_buck 109 = .ok (.iload_n 2, 1) := by decide +kernel
theorem dX11_buck_110 : decode cX11_buck 110 = .ok (.iaload, 1) := by decide +kernel
theorem dX11_buck_111 : decode cX11_buck 111 = .ok (.aload_n 0, 1) := by decide +kernel
theorem dX11_buck_112 : decode cX11_buck 112 = .ok (.iload_n 3, 1) := by decide +kernel
theorem dX11_buck_113 : decode cX11_buck 113 = .ok (.iload_n 2, 1) := by decide +kernel
theorem dX11_buck_114 : decode cX11_buck 114 = .ok (.invokevirtual 105, 3) := by decide +kernel
theorem dX11_buck_117 : decode cX11_buck 117 = .ok (.iadd, 1) := by decide +kernel
theorem dX11_buck_118 : decode cX11_buck 118 = .ok (.istore 5, 2) := by decide +kernel
theorem dX11_buck_120 : decode cX11_buck 120 = .ok (.iload 5, 2) := by decide +kernel
theorem dX11_buck_122 : decode cX11_buck 122 = .ok (.aload_n 0, 1) := by decide +kernel
theorem dX11_buck_123 : decode cX11_buck 123 = .ok (.getfield 70, 3) := by decide +kernel
theorem dX11_buck_126 : decode cX11_buck 126 = .ok (.iload 4, 2) := by decide +kernel
theorem dX11_buck_128 : decode cX11_buck 128 = .ok (.iaload, 1) := by decide +kernel
theorem dX11_buck_129 : decode cX11_buck 129 = .ok (.if_icmp .le 12, 3) := by decide +kernel
theorem dX11_buck_132 : decode cX11_buck 132 = .ok (.aload_n 0, 1) := by decide +kernel
theorem dX11_buck_133 : decode cX11_buck 133 = .ok (.getfield 70, 3) := by decide +kernel
theorem dX11_buck_136 : decode cX11_buck 136 = .ok (.iload 4, 2) := by decide +kernel
theorem dX11_buck_138 : decode cX11_buck 138 = .ok (.iload 5, 2) := by decide +kernel
theorem dX11_buck_140 : decode cX11_buck 140 = .ok (.iastore, 1) := by decide +kernel
theorem dX11_buck_141 : decode cX11_buck 141 = .ok (.iinc 3 1, 3) := by decide +kernel
theorem dX11_buck_144 : decode cX11_buck 144 = .ok (.goto (-69), 3) := by decide +kernel
theorem dX11_buck_147 : decode cX11_buck 147 = .ok (.iinc 2 1, 3) := by decide +kernel
theorem dX11_buck_150 : decode cX11_buck 150 = .ok (.goto (-116), 3) := by decide +kernel
theorem dX11_buck_153 : decode cX11_buck 153 = .ok (.iload_n 1, 1) := by decide +kernel
theorem dX11_buck_154 : decode cX11_buck 154 = .ok (.istore_n 2, 1) := by decide +kernel
theorem dX11_buck_155 : decode cX11_buck 155 = .ok (.iload_n 2, 1) := by decide +kernel
theorem dX11_buck_156 : decode cX11_buck 156 = .ok (.ifCond .lt 88, 3) := by decide +kernel
theorem dX11_buck_159 : decode cX11_buck 159 = .ok (.aload_n 0, 1) := by decide +kernel
theorem dX11_buck_160 : decode cX11_buck 160 = .ok (.getfield 73, 3) := by decide +kernel
theorem dX11_buck_163 : decode cX11_buck 163 = .ok (.iload_n 2, 1) := by decide +kernel
theorem dX11_buck_164 : decode cX11_buck 164 = .ok (.iload_n 2, 1) := by decide +kernel
theorem dX11_buck_165 : decode cX11_buck 165 = .ok (.iload_n 1, 1) := by decide +kernel
theorem dX11_buck_166 : decode cX11_buck 166 = .ok (.if_icmp .eq 31, 3) := by decide +kernel
theorem dX11_buck_169 : decode cX11_buck 169 = .ok (.aload_n 0, 1) := by decide +kernel
theorem dX11_buck_170 : decode cX11_buck 170 = .ok (.getfield 73, 3) := by decide +kernel
theorem dX11_buck_173 : decode cX11_buck 173 = .ok (.iload_n 2, 1) := by decide +kernel
theorem dX11_buck_174 : decode cX11_buck 174 = .ok (.iconst 1, 1) := by decide +kernel
theorem dX11_buck_175 : decode cX11_buck 175 = .ok (.iadd, 1) := by decide +kernel
theorem dX11_buck_176 : decode cX11_buck 176 = .ok (.baload, 1) := by decide +kernel
theorem dX11_buck_177 : decode cX11_buck 177 = .ok (.ifCond .eq 24, 3) := by decide +kernel
theorem dX11_buck_180 : decode cX11_buck 180 = .ok (.aload_n 0, 1) := by decide +kernel
theorem dX11_buck_181 : decode cX11_buck 181 = .ok (.getfield 70, 3) := by decide +kernel
theorem dX11_buck_184 : decode cX11_buck 184 = .ok (.iload_n 2, 1) := by decide +kernel
theorem dX11_buck_185 : decode cX11_buck 185 = .ok (.iconst 1, 1) := by decide +kernel
theorem dX11_buck_186 : decode cX11_buck 186 = .ok (.iadd, 1) := by decide +kernel
theorem dX11_buck_187 : decode cX11_buck 187 = .ok (.iaload, 1) := by decide +kernel
theorem dX11_buck_188 : decode cX11_buck 188 = .ok (.aload_n 0, 1) := by decide +kernel
theorem dX11_buck_189 : decode cX11_buck 189 = .ok (.getfield 70, 3) := by decide +kernel
theorem dX11_buck_192 : decode cX11_buck 192 = .ok (.iload_n 2, 1) := by decide +kernel
theorem dX11_buck_193 : decode cX11_buck 193 = .ok (.iaload, 1) := by decide +kernel
theorem dX11_buck_194 : decode cX11_buck 194 = .ok (.if_icmp .ne 7, 3) := by decide +kernel
theorem dX11_buck_197 : decode cX11_buck 197 = .ok (.iconst 1, 1) := by decide +kernel
theorem dX11_buck_198 : decode cX11_buck 198 = .ok (.goto 4, 3) := by decide +kernel
theorem dX11_buck_201 : decode cX11_buck 201 = .ok (.iconst 0, 1) := by decide +kernel
theorem dX11_buck_202 : decode cX11_buck 202 = .ok (.bastore, 1) := by decide +kernel
theorem dX11_buck_203 : decode cX11_buck 203 = .ok (.iconst 0, 1) := by decide +kernel
theorem dX11_buck_204 : decode cX11_buck 204 = .ok (.istore_n 3, 1) := by decide +kernel
theorem dX11_buck_205 : decode cX11_buck 205 = .ok (.iload_n 3, 1) := by decide +kernel
theorem dX11_buck_206 : decode cX11_buck 206 = .ok (.bipush 6, 2) := by decide +kernel
theorem dX11_buck_208 : decode cX11_buck 208 = .ok (.if_icmp .ge 30, 3) := by decide +kernel
theorem dX11_buck_211 : decode cX11_buck 211 = .ok (.iload_n 2, 1) := by decide +kernel
theorem dX11_buck_212 : decode cX11_buck 212 = .ok (.iload_n 1, 1) := by decide +kernel
theorem dX11_buck_213 : decode cX11_buck 213 = .ok (.if_icmp .ge 25, 3) := by decide +kernel
theorem dX11_buck_216 : decode cX11_buck 216 = .ok (.aload_n 0, 1) := by decide +kernel
theorem dX11_buck_217 : decode cX11_buck 217 = .ok (.iload_n 3, 1) := by decide +kernel
theorem dX11_buck_218 : decode cX11_buck 218 = .ok (.iload_n 2, 1) := by decide +kernel
theorem dX11_buck_219 : decode cX11_buck 219 = .ok (.invokevirtual 112, 3) := by decide +kernel
theorem dX11_buck_222 : decode cX11_buck 222 = .ok (.ifCond .eq 10, 3) := by decide +kernel
theorem dX11_buck_225 : decode cX11_buck 225 = .ok (.aload_n 0, 1) := by decide +kernel
theorem dX11_buck_226 : decode cX11_buck 226 = .ok (.getfield 73, 3) := by decide +kernel
theorem dX11_buck_229 : decode cX11_buck 229 = .ok (.iload_n 2, 1) := by decide +kernel
theorem dX11_buck_230 : decode cX11_buck 230 = .ok (.iconst 1, 1) := by decide +kernel
theorem dX11_buck_231 : decode cX11_buck 231 = .ok (.bastore, 1) := by decide +kernel
theorem dX11_buck_232 : decode cX11_buck 232 = .ok (.iinc 3 1, 3) := by decide +kernel
theorem dX11_buck_235 : decode cX11_buck 235 = .ok (.goto (-30), 3) := by decide +kernel
theorem dX11_buck_238 : decode cX11_buck 238 = .ok (.iinc 2 (-1), 3) := by decide +kernel
theorem dX11_buck_241 : decode cX11_buck 241 = .ok (.goto (-86), 3) := by decide +kernel
theorem dX11_buck_244 : decode cX11_buck 244 = .ok (.aload_n 0, 1) := by decide +kernel
theorem dX11_buck_245 : decode cX11_buck 245 = .ok (.iconst 0, 1) := by decide +kernel
theorem dX11_buck_246 : decode cX11_buck 246 = .ok (.putfield 102, 3) := by decide +kernel
theorem dX11_buck_249 : decode cX11_buck 249 = .ok (.iconst 0, 1) := by decide +kernel
theorem dX11_buck_250 : decode cX11_buck 250 = .ok (.istore_n 2, 1) := by decide +kernel
theorem dX11_buck_251 : decode cX11_buck 251 = .ok (.iload_n 2, 1) := by decide +kernel
theorem dX11_buck_252 : decode cX11_buck 252 = .ok (.iload_n 1, 1) := by decide +kernel
theorem dX11_buck_253 : decode cX11_buck 253 = .ok (.if_icmp .ge 74, 3) := by decide +kernel
theorem dX11_buck_256 : decode cX11_buck 256 = .ok (.aload_n 0, 1) := by decide +kernel
theorem dX11_buck_257 : decode cX11_buck 257 = .ok (.getfield 73, 3) := by decide +kernel
theorem dX11_buck_260 : decode cX11_buck 260 = .ok (.iload_n 2, 1) := by decide +kernel
theorem dX11_buck_261 : decode cX11_buck 261 = .ok (.iconst 1, 1) := by decide +kernel
theorem dX11_buck_262 : decode cX11_buck 262 = .ok (.iadd, 1) := by decide +kernel
theorem dX11_buck_263 : decode cX11_buck 263 = .ok (.baload, 1) := by decide +kernel
theorem dX11_buck_264 : decode cX11_buck 264 = .ok (.ifCond .eq 26, 3) := by decide +kernel
theorem dX11_buck_267 : decode cX11_buck 267 = .ok (.aload_n 0, 1) := by decide +kernel
theorem dX11_buck_268 : decode cX11_buck 268 = .ok (.getfield 70, 3) := by decide +kernel
theorem dX11_buck_271 : decode cX11_buck 271 = .ok (.iload_n 2, 1) := by decide +kernel
theorem dX11_buck_272 : decode cX11_buck 272 = .ok (.iconst 1, 1) := by decide +kernel
theorem dX11_buck_273 : decode cX11_buck 273 = .ok (.iadd, 1) := by decide +kernel
theorem dX11_buck_274 : decode cX11_buck 274 = .ok (.iaload, 1) := by decide +kernel
theorem dX11_buck_275 : decode cX11_buck 275 = .ok (.aload_n 0, 1) := by decide +kernel
theorem dX11_buck_276 : decode cX11_buck 276 = .ok (.getfield 70, 3) := by decide +kernel
theorem dX11_buck_279 : decode cX11_buck 279 = .ok (.iload_n 2, 1) := by decide +kernel
theorem dX11_buck_280 : decode cX11_buck 280 = .ok (.iaload, 1) := by decide +kernel
theorem dX11_buck_281 : decode cX11_buck 281 = .ok (.if_icmp .ne 9, 3) := by decide +kernel
theorem dX11_buck_284 : decode cX11_buck 284 = .ok (.iinc 2 1, 3) := by decide +kernel
theorem dX11_buck_287 : decode cX11_buck 287 = .ok (.goto (-36), 3) := by decide +kernel
theorem dX11_buck_290 : decode cX11_buck 290 = .ok (.iconst 0, 1) := by decide +kernel
theorem dX11_buck_291 : decode cX11_buck 291 = .ok (.istore_n 3, 1) := by decide +kernel
theorem dX11_buck_292 : decode cX11_buck 292 = .ok (.aload_n 0, 1) := by decide +kernel
theorem dX11_buck_293 : decode cX11_buck 293 = .ok (.iload_n 3, 1) := by decide +kernel
theorem dX11_buck_294 : decode cX11_buck 294 = .ok (.iload_n 2, 1) := by decide +kernel
theorem dX11_buck_295 : decode cX11_buck 295 = .ok (.invokevirtual 112, 3) := by decide +kernel
theorem dX11_buck_298 : decode cX11_buck 298 = .ok (.ifCond .ne 9, 3) := by decide +kernel
theorem dX11_buck_301 : decode cX11_buck 301 = .ok (.iinc 3 1, 3) := by decide +kernel
theorem dX11_buck_304 : decode cX11_buck 304 = .ok (.goto (-12), 3) := by decide +kernel
theorem dX11_buck_307 : decode cX11_buck 307 = .ok (.aload_n 0, 1) := by decide +kernel
theorem dX11_buck_308 : decode cX11_buck 308 = .ok (.iload_n 3, 1) := by decide +kernel
theorem dX11_buck_309 : decode cX11_buck 309 = .ok (.iload_n 2, 1) := by decide +kernel
theorem dX11_buck_310 : decode cX11_buck 310 = .ok (.invokevirtual 115, 3) := by decide +kernel
theorem dX11_buck_313 : decode cX11_buck 313 = .ok (.iload_n 2, 1) := by decide +kernel
theorem dX11_buck_314 : decode cX11_buck 314 = .ok (.aload_n 0, 1) := by decide +kernel
theorem dX11_buck_315 : decode cX11_buck 315 = .ok (.getfield 22, 3) := by decide +kernel
theorem dX11_buck_318 : decode cX11_buck 318 = .ok (.iload_n 3, 1) := by decide +kernel
theorem dX11_buck_319 : decode cX11_buck 319 = .ok (.iaload, 1) := by decide +kernel
theorem dX11_buck_320 : decode cX11_buck 320 = .ok (.iconst 1, 1) := by decide +kernel
theorem dX11_buck_321 : decode cX11_buck 321 = .ok (.iadd, 1) := by decide +kernel
theorem dX11_buck_322 : decode cX11_buck 322 = .ok (.iadd, 1) := by decide +kernel
theorem dX11_buck_323 : decode cX11_buck 323 = .ok (.istore_n 2, 1) := by decide +kernel
theorem dX11_buck_324 : decode cX11_buck 324 = .ok (.goto (-73), 3) := by decide +kernel
theorem dX11_buck_327 : decode cX11_buck 327 = .ok (.aload_n 0, 1) := by decide +kernel
theorem dX11_buck_328 : decode cX11_buck 328 = .ok (.getfield 70, 3) := by decide +kernel
theorem dX11_buck_331 : decode cX11_buck 331 = .ok (.iload_n 1, 1) := by decide +kernel
theorem dX11_buck_332 : decode cX11_buck 332 = .ok (.iaload, 1) := by decide +kernel
theorem dX11_buck_333 : decode cX11_buck 333 = .ok (.ireturn, 1) := by decide +kernel
theorem dX11_steps_0 : decode cX11_steps 0 = .ok (.aload_n 0, 1) := by decide +kernel
theorem dX11_steps_1 : decode cX11_steps 1 = .ok (.iload_n 1, 1) := by decide +kernel
theorem dX11_steps_2 : decode cX11_steps 2 = .ok (.iload_n 2, 1) := by decide +kernel
theorem dX11_steps_3 : decode cX11_steps 3 = .ok (.invokevirtual 108, 3) := by decide +kernel
theorem dX11_steps_6 : decode cX11_steps 6 = .ok (.ifCond .ne 5, 3) := by decide +kernel
theorem dX11_steps_9 : decode cX11_steps 9 = .ok (.iconst 0, 1) := by decide +kernel
theorem dX11_steps_10 : decode cX11_steps 10 = .ok (.ireturn, 1) := by decide +kernel
theorem dX11_steps_11 : decode cX11_steps 11 = .ok (.iload_n 2, 1) := by decide +kernel
theorem dX11_steps_12 : decode cX11_steps 12 = .ok (.aload_n 0, 1) := by decide +kernel
theorem dX11_steps_13 : decode cX11_steps 13 = .ok (.getfield 22, 3) := by decide +kernel
theorem dX11_steps_16 : decode cX11_steps 16 = .ok (.iload_n 1, 1) := by decide +kernel
theorem dX11_steps_17 : decode cX11_steps 17 = .ok (.iaload, 1) := by decide +kernel
theorem dX11_steps_18 : decode cX11_steps 18 = .ok (.iadd, 1) := by decide +kernel
theorem dX11_steps_19 : decode cX11_steps 19 = .ok (.iconst 1, 1) := by decide +kernel
theorem dX11_steps_20 : decode cX11_steps 20 = .ok (.iadd, 1) := by decide +kernel
theorem dX11_steps_21 : decode cX11_steps 21 = .ok (.istore_n 3, 1) := by decide +kernel
theorem dX11_steps_22 : decode cX11_steps 22 = .ok (.aload_n 0, 1) := by decide +kernel
theorem dX11_steps_23 : decode cX11_steps 23 = .ok (.getfield 73, 3) := by decide +kernel
theorem dX11_steps_26 : decode cX11_steps 26 = .ok (.iload_n 3, 1) := by decide +kernel
theorem dX11_steps_27 : decode cX11_steps 27 = .ok (.baload, 1) := by decide +kernel
theorem dX11_steps_28 : decode cX11_steps 28 = .ok (.ifCond .eq 29, 3) := by decide +kernel
theorem dX11_steps_31 : decode cX11_steps 31 = .ok (.aload_n 0, 1) := by decide +kernel
theorem dX11_steps_32 : decode cX11_steps 32 = .ok (.getfield 70, 3) := by decide +kernel
theorem dX11_steps_35 : decode cX11_steps 35 = .ok (.iload_n 3, 1) := by decide +kernel
theorem dX11_steps_36 : decode cX11_steps 36 = .ok (.iaload, 1) := by decide +kernel
theorem dX11_steps_37 : decode cX11_steps 37 = .ok (.aload_n 0, 1) := by decide +kernel
theorem dX11_steps_38 : decode cX11_steps 38 = .ok (.getfield 70, 3) := by decide +kernel
theorem dX11_steps_41 : decode cX11_steps 41 = .ok (.iload_n 2, 1) := by decide +kernel
theorem dX11_steps_42 : decode cX11_steps 42 = .ok (.iaload, 1) := by decide +kernel
theorem dX11_steps_43 : decode cX11_steps 43 = .ok (.aload_n 0, 1) := by decide +kernel
theorem dX11_steps_44 : decode cX11_steps 44 = .ok (.iload_n 1, 1) := by decide +kernel
theorem dX11_steps_45 : decode cX11_steps 45 = .ok (.iload_n 2, 1) := by decide +kernel
theorem dX11_steps_46 : decode cX11_steps 46 = .ok (.invokevirtual 105, 3) := by decide +kernel
theorem dX11_steps_49 : decode cX11_steps 49 = .ok (.iadd, 1) := by decide +kernel
theorem dX11_steps_50 : decode cX11_steps 50 = .ok (.if_icmp .ne 7, 3) := by decide +kernel
theorem dX11_steps_53 : decode cX11_steps 53 = .ok (.iconst 1, 1) := by decide +kernel
theorem dX11_steps_54 : decode cX11_steps 54 = .ok (.goto 4, 3) := by decide +kernel
theorem dX11_steps_57 : decode cX11_steps 57 = .ok (.iconst 0, 1) := by decide +kernel
theorem dX11_steps_58 : decode cX11_steps 58 = .ok (.ireturn, 1) := by decide +kernel
theorem dX11_byHand_0 : decode cX11_byHand 0 = .ok (.aload_n 0, 1) := by decide +kernel
theorem dX11_byHand_1 : decode cX11_byHand 1 = .ok (.iconst 0, 1) := by decide +kernel
theorem dX11_byHand_2 : decode cX11_byHand 2 = .ok (.putfield 84, 3) := by decide +kernel
theorem dX11_byHand_5 : decode cX11_byHand 5 = .ok (.iconst 0, 1) := by decide +kernel
theorem dX11_byHand_6 : decode cX11_byHand 6 = .ok (.istore_n 3, 1) := by decide +kernel
theorem dX11_byHand_7 : decode cX11_byHand 7 = .ok (.iconst 0, 1) := by decide +kernel
theorem dX11_byHand_8 : decode cX11_byHand 8 = .ok (.istore 4, 2) := by decide +kernel
theorem dX11_byHand_10 : decode cX11_byHand 10 = .ok (.iload 4, 2) := by decide +kernel
theorem dX11_byHand_12 : decode cX11_byHand 12 = .ok (.iconst 2, 1) := by decide +kernel
theorem dX11_byHand_13 : decode cX11_byHand 13 = .ok (.if_icmp .ge 136, 3) := by decide +kernel
theorem dX11_byHand_16 : decode cX11_byHand 16 = .ok (.iload 4, 2) := by decide +kernel
theorem dX11_byHand_18 : decode cX11_byHand 18 = .ok (.iconst 1, 1) := by decide +kernel
theorem dX11_byHand_19 : decode cX11_byHand 19 = .ok (.if_icmp .ne 8, 3) := by decide +kernel
theorem dX11_byHand_22 : decode cX11_byHand 22 = .ok (.aload_n 0, 1) := by decide +kernel
theorem dX11_byHand_23 : decode cX11_byHand 23 = .ok (.iconst 0, 1) := by decide +kernel
theorem dX11_byHand_24 : decode cX11_byHand 24 = .ok (.putfield 102, 3) := by decide +kernel
theorem dX11_byHand_27 : decode cX11_byHand 27 = .ok (.iconst 0, 1) := by decide +kernel
theorem dX11_byHand_28 : decode cX11_byHand 28 = .ok (.istore 5, 2) := by decide +kernel
theorem dX11_byHand_30 : decode cX11_byHand 30 = .ok (.iconst 0, 1) := by decide +kernel
theorem dX11_byHand_31 : decode cX11_byHand 31 = .ok (.istore_n 3, 1) := by decide +kernel
theorem dX11_byHand_32 : decode cX11_byHand 32 = .ok (.iconst 0, 1) := by decide +kernel
theorem dX11_byHand_33 : decode cX11_byHand 33 = .ok (.istore 6, 2) := by decide +kernel
theorem dX11_byHand_35 : decode cX11_byHand 35 = .ok (.iload 6, 2) := by decide +kernel
theorem dX11_byHand_37 : decode cX11_byHand 37 = .ok (.bipush 8, 2) := by decide +kernel
theorem dX11_byHand_39 : decode cX11_byHand 39 = .ok (.if_icmp .ge 104, 3) := by decide +kernel
theorem dX11_byHand_42 : decode cX11_byHand 42 = .ok (.lload_n 1, 1) := by decide +kernel
theorem dX11_byHand_43 : decode cX11_byHand 43 = .ok (.bipush 8, 2) := by decide +kernel
theorem dX11_byHand_45 : decode cX11_byHand 45 = .ok (.iload 6, 2) := by decide +kernel
theorem dX11_byHand_47 : decode cX11_byHand 47 = .ok (.imul, 1) := by decide +kernel
theorem dX11_byHand_48 : decode cX11_byHand 48 = .ok (.lushr, 1) := by decide +kernel
theorem dX11_byHand_49 : decode cX11_byHand 49 = .ok (.ldc2_w 119, 3) := by decide +kernel
theorem dX11_byHand_52 : decode cX11_byHand 52 = .ok (.land, 1) := by decide +kernel
theorem dX11_byHand_53 : decode cX11_byHand 53 = .ok (.l2i, 1) := by decide +kernel
theorem dX11_byHand_54 : decode cX11_byHand 54 = .ok (.istore 7, 2) := by decide +kernel
theorem dX11_byHand_56 : decode cX11_byHand 56 = .ok (.iload 7, 2) := by decide +kernel
theorem dX11_byHand_58 : decode cX11_byHand 58 = .ok (.ifCond .ne 6, 3) := by decide +kernel
theorem dX11_byHand_61 : decode cX11_byHand 61 = .ok (.goto 76, 3) := by decide +kernel
theorem dX11_byHand_64 : decode cX11_byHand 64 = .ok (.iload 7, 2) := by decide +kernel
theorem dX11_byHand_66 : decode cX11_byHand 66 = .ok (.iconst 1, 1) := by decide +kernel
theorem dX11_byHand_67 : decode cX11_byHand 67 = .ok (.isub, 1) := by decide +kernel
theorem dX11_byHand_68 : decode cX11_byHand 68 = .ok (.bipush 6, 2) := by decide +kernel
theorem dX11_byHand_70 : decode cX11_byHand 70 = .ok (.irem, 1) := by decide +kernel
theorem dX11_byHand_71 : decode cX11_byHand 71 = .ok (.istore 8, 2) := by decide +kernel
theorem dX11_byHand_73 : decode cX11_byHand 73 = .ok (.iload 5, 2) := by decide +kernel
theorem dX11_byHand_75 : decode cX11_byHand 75 = .ok (.iload 7, 2) := by decide +kernel
theorem dX11_byHand_77 : decode cX11_byHand 77 = .ok (.iconst 1, 1) := by decide +kernel
theorem dX11_byHand_78 : decode cX11_byHand 78 = .ok (.isub, 1) := by decide +kernel
theorem dX11_byHand_79 : decode cX11_byHand 79 = .ok (.bipush 6, 2) := by decide +kernel
theorem dX11_byHand_81 : decode cX11_byHand 81 = .ok (.idiv, 1) := by decide +kernel
theorem dX11_byHand_82 : decode cX11_byHand 82 = .ok (.iadd, 1) := by decide +kernel
theorem dX11_byHand_83 : decode cX11_byHand 83 = .ok (.istore 9, 2) := by decide +kernel
theorem dX11_byHand_85 : decode cX11_byHand 85 = .ok (.aload_n 0, 1) := by decide +kernel
theorem dX11_byHand_86 : decode cX11_byHand 86 = .ok (.iload 8, 2) := by decide +kernel
theorem dX11_byHand_88 : decode cX11_byHand 88 = .ok (.iload 9, 2) := by decide +kernel
theorem dX11_byHand_90 : decode cX11_byHand 90 = .ok (.invokevirtual 108, 3) := by decide +kernel
theorem dX11_byHand_93 : decode cX11_byHand 93 = .ok (.ifCond .ne 5, 3) := by decide +kernel
theorem dX11_byHand_96 : decode cX11_byHand 96 = .ok (.iconst (-1), 1) := by decide +kernel
theorem dX11_byHand_97 : decode cX11_byHand 97 = .ok (.ireturn, 1) := by decide +kernel
theorem dX11_byHand_98 : decode cX11_byHand 98 = .ok (.iload_n 3, 1) := by decide +kernel
theorem dX11_byHand_99 : decode cX11_byHand 99 = .ok (.aload_n 0, 1) := by decide +kernel
theorem dX11_byHand_100 : decode cX11_byHand 100 = .ok (.iload 8, 2) := by decide +kernel
theorem dX11_byHand_102 : decode cX11_byHand 102 = .ok (.iload 9, 2) := by decide +kernel
theorem dX11_byHand_104 : decode cX11_byHand 104 = .ok (.invokevirtual 105, 3) := by decide +kernel
theorem dX11_byHand_107 : decode cX11_byHand 107 = .ok (.iadd, 1) := by decide +kernel
theorem dX11_byHand_108 : decode cX11_byHand 108 = .ok (.istore_n 3, 1) := by decide +kernel
theorem dX11_byHand_109 : decode cX11_byHand 109 = .ok (.iload 4, 2) := by decide +kernel
theorem dX11_byHand_111 : decode cX11_byHand 111 = .ok (.iconst 1, 1) := by decide +kernel
theorem dX11_byHand_112 : decode cX11_byHand 112 = .ok (.if_icmp .ne 11, 3) := by decide +kernel
theorem dX11_byHand_115 : decode cX11_byHand 115 = .ok (.aload_n 0, 1) := by decide +kernel
theorem dX11_byHand_116 : decode cX11_byHand 116 = .ok (.iload 8, 2) := by decide +kernel
theorem dX11_byHand_118 : decode cX11_byHand 118 = .ok (.iload 9, 2) := by decide +kernel
theorem dX11_byHand_120 : decode cX11_byHand 120 = .ok (.invokevirtual 115, 3) := by decide +kernel
theorem dX11_byHand_123 : decode cX11_byHand 123 = .ok (.iload 9, 2) := by decide +kernel
theorem dX11_byHand_125 : decode cX11_byHand 125 = .ok (.aload_n 0, 1) := by decide +kernel
theorem dX11_byHand_126 : decode cX11_byHand 126 = .ok (.getfield 22, 3) := by decide +kernel
theorem dX11_byHand_129 : decode cX11_byHand 129 = .ok (.iload 8, 2) := by decide +kernel
theorem dX11_byHand_131 : decode cX11_byHand 131 = .ok (.iaload, 1) := by decide +kernel
theorem dX11_byHand_132 : decode cX11_byHand 132 = .ok (.iadd, 1) := by decide +kernel
theorem dX11_byHand_133 : decode cX11_byHand 133 = .ok (.iconst 1, 1) := by decide +kernel
theorem dX11_byHand_134 : decode cX11_byHand 134 = .ok (.iadd, 1) := by decide +kernel
theorem dX11_byHand_135 : decode cX11_byHand 135 = .ok (.istore 5, 2) := by decide +kernel
theorem dX11_byHand_137 : decode cX11_byHand 137 = .ok (.iinc 6 1, 3) := by decide +kernel
theorem dX11_byHand_140 : decode cX11_byHand 140 = .ok (.goto (-105), 3) := by decide +kernel
theorem dX11_byHand_143 : decode cX11_byHand 143 = .ok (.iinc 4 1, 3) := by decide +kernel
theorem dX11_byHand_146 : decode cX11_byHand 146 = .ok (.goto (-136), 3) := by decide +kernel
theorem dX11_byHand_149 : decode cX11_byHand 149 = .ok (.iload_n 3, 1) := by decide +kernel
theorem dX11_byHand_150 : decode cX11_byHand 150 = .ok (.ireturn, 1) := by decide +kernel
theorem dX11_logs_0 : decode cX11_logs 0 = .ok (.aload_n 0, 1) := by decide +kernel
theorem dX11_logs_1 : decode cX11_logs 1 = .ok (.iconst 0, 1) := by decide +kernel
theorem dX11_logs_2 : decode cX11_logs 2 = .ok (.putfield 84, 3) := by decide +kernel
theorem dX11_logs_5 : decode cX11_logs 5 = .ok (.aload_n 0, 1) := by decide +kernel
theorem dX11_logs_6 : decode cX11_logs 6 = .ok (.getfield 102, 3) := by decide +kernel
theorem dX11_logs_9 : decode cX11_logs 9 = .ok (.ireturn, 1) := by decide +kernel
theorem dX11_log_0 : decode cX11_log 0 = .ok (.aload_n 0, 1) := by decide +kernel
theorem dX11_log_1 : decode cX11_log 1 = .ok (.iload_n 1, 1) := by decide +kernel
theorem dX11_log_2 : decode cX11_log 2 = .ok (.iconst 0, 1) := by decide +kernel
theorem dX11_log_3 : decode cX11_log 3 = .ok (.aload_n 0, 1) := by decide +kernel
theorem dX11_log_4 : decode cX11_log 4 = .ok (.getfield 102, 3) := by decide +kernel
theorem dX11_log_7 : decode cX11_log 7 = .ok (.iconst 1, 1) := by decide +kernel
theorem dX11_log_8 : decode cX11_log 8 = .ok (.isub, 1) := by decide +kernel
theorem dX11_log_9 : decode cX11_log 9 = .ok (.invokestatic 87, 3) := by decide +kernel
theorem dX11_log_12 : decode cX11_log 12 = .ok (.ifCond .eq 16, 3) := by decide +kernel
theorem dX11_log_15 : decode cX11_log 15 = .ok (.iload_n 2, 1) := by decide +kernel
theorem dX11_log_16 : decode cX11_log 16 = .ok (.iconst 0, 1) := by decide +kernel
theorem dX11_log_17 : decode cX11_log 17 = .ok (.iconst 5, 1) := by decide +kernel
theorem dX11_log_18 : decode cX11_log 18 = .ok (.invokestatic 87, 3) := by decide +kernel
theorem dX11_log_21 : decode cX11_log 21 = .ok (.ifCond .eq 7, 3) := by decide +kernel
theorem dX11_log_24 : decode cX11_log 24 = .ok (.iconst 0, 1) := by decide +kernel
theorem dX11_log_25 : decode cX11_log 25 = .ok (.goto 4, 3) := by decide +kernel
theorem dX11_log_28 : decode cX11_log 28 = .ok (.iconst 1, 1) := by decide +kernel
theorem dX11_log_29 : decode cX11_log 29 = .ok (.putfield 84, 3) := by decide +kernel
theorem dX11_log_32 : decode cX11_log 32 = .ok (.aload_n 0, 1) := by decide +kernel
theorem dX11_log_33 : decode cX11_log 33 = .ok (.getfield 84, 3) := by decide +kernel
theorem dX11_log_36 : decode cX11_log 36 = .ok (.iconst 1, 1) := by decide +kernel
theorem dX11_log_37 : decode cX11_log 37 = .ok (.if_icmp .ne 7, 3) := by decide +kernel
theorem dX11_log_40 : decode cX11_log 40 = .ok (.iconst 0, 1) := by decide +kernel
theorem dX11_log_41 : decode cX11_log 41 = .ok (.goto 14, 3) := by decide +kernel
theorem dX11_log_44 : decode cX11_log 44 = .ok (.aload_n 0, 1) := by decide +kernel
theorem dX11_log_45 : decode cX11_log 45 = .ok (.getfield 31, 3) := by decide +kernel
theorem dX11_log_48 : decode cX11_log 48 = .ok (.bipush 6, 2) := by decide +kernel
theorem dX11_log_50 : decode cX11_log 50 = .ok (.iload_n 1, 1) := by decide +kernel
theorem dX11_log_51 : decode cX11_log 51 = .ok (.imul, 1) := by decide +kernel
theorem dX11_log_52 : decode cX11_log 52 = .ok (.iload_n 2, 1) := by decide +kernel
theorem dX11_log_53 : decode cX11_log 53 = .ok (.iadd, 1) := by decide +kernel
theorem dX11_log_54 : decode cX11_log 54 = .ok (.iaload, 1) := by decide +kernel
theorem dX11_log_55 : decode cX11_log 55 = .ok (.ireturn, 1) := by decide +kernel
theorem dX11_size_0 : decode cX11_size 0 = .ok (.aload_n 0, 1) := by decide +kernel
theorem dX11_size_1 : decode cX11_size 1 = .ok (.iconst 0, 1) := by decide +kernel
theorem dX11_size_2 : decode cX11_size 2 = .ok (.putfield 84, 3) := by decide +kernel
theorem dX11_size_5 : decode cX11_size 5 = .ok (.iload_n 1, 1) := by decide +kernel
theorem dX11_size_6 : decode cX11_size 6 = .ok (.iconst 0, 1) := by decide +kernel
theorem dX11_size_7 : decode cX11_size 7 = .ok (.iconst 5, 1) := by decide +kernel
theorem dX11_size_8 : decode cX11_size 8 = .ok (.invokestatic 87, 3) := by decide +kernel
theorem dX11_size_11 : decode cX11_size 11 = .ok (.ifCond .eq 27, 3) := by decide +kernel
theorem dX11_size_14 : decode cX11_size 14 = .ok (.iload_n 2, 1) := by decide +kernel
theorem dX11_size_15 : decode cX11_size 15 = .ok (.bipush 50, 2) := by decide +kernel
theorem dX11_size_17 : decode cX11_size 17 = .ok (.sipush 4000, 3) := by decide +kernel
theorem dX11_size_20 : decode cX11_size 20 = .ok (.invokestatic 87, 3) := by decide +kernel
theorem dX11_size_23 : decode cX11_size 23 = .ok (.ifCond .eq 15, 3) := by decide +kernel
theorem dX11_size_26 : decode cX11_size 26 = .ok (.iload_n 3, 1) := by decide +kernel
theorem dX11_size_27 : decode cX11_size 27 = .ok (.bipush 50, 2) := by decide +kernel
theorem dX11_size_29 : decode cX11_size 29 = .ok (.sipush 4000, 3) := by decide +kernel
theorem dX11_size_32 : decode cX11_size 32 = .ok (.invokestatic 87, 3) := by decide +kernel
theorem dX11_size_35 : decode cX11_size 35 = .ok (.ifCond .ne 5, 3) := by decide +kernel
theorem dX11_size_38 : decode cX11_size 38 = .ok (.iconst 0, 1) := by decide +kernel
theorem dX11_size_39 : decode cX11_size 39 = .ok (.ireturn, 1) := by decide +kernel
theorem dX11_size_40 : decode cX11_size 40 = .ok (.aload_n 0, 1) := by decide +kernel
theorem dX11_size_41 : decode cX11_size 41 = .ok (.getfield 34, 3) := by decide +kernel
theorem dX11_size_44 : decode cX11_size 44 = .ok (.iload_n 1, 1) := by decide +kernel
theorem dX11_size_45 : decode cX11_size 45 = .ok (.iload_n 2, 1) := by decide +kernel
theorem dX11_size_46 : decode cX11_size 46 = .ok (.iastore, 1) := by decide +kernel
theorem dX11_size_47 : decode cX11_size 47 = .ok (.aload_n 0, 1) := by decide +kernel
theorem dX11_size_48 : decode cX11_size 48 = .ok (.getfield 37, 3) := by decide +kernel
theorem dX11_size_51 : decode cX11_size 51 = .ok (.iload_n 1, 1) := by decide +kernel
theorem dX11_size_52 : decode cX11_size 52 = .ok (.iload_n 3, 1) := by decide +kernel
theorem dX11_size_53 : decode cX11_size 53 = .ok (.iastore, 1) := by decide +kernel
theorem dX11_size_54 : decode cX11_size 54 = .ok (.iconst 0, 1) := by decide +kernel
theorem dX11_size_55 : decode cX11_size 55 = .ok (.istore 4, 2) := by decide +kernel
theorem dX11_size_57 : decode cX11_size 57 = .ok (.iload 4, 2) := by decide +kernel
theorem dX11_size_59 : decode cX11_size 59 = .ok (.iconst 4, 1) := by decide +kernel
theorem dX11_size_60 : decode cX11_size 60 = .ok (.if_icmp .ge 21, 3) := by decide +kernel
theorem dX11_size_63 : decode cX11_size 63 = .ok (.aload_n 0, 1) := by decide +kernel
theorem dX11_size_64 : decode cX11_size 64 = .ok (.getfield 40, 3) := by decide +kernel
theorem dX11_size_67 : decode cX11_size 67 = .ok (.iconst 4, 1) := by decide +kernel
theorem dX11_size_68 : decode cX11_size 68 = .ok (.iload_n 1, 1) := by decide +kernel
theorem dX11_size_69 : decode cX11_size 69 = .ok (.imul, 1) := by decide +kernel
theorem dX11_size_70 : decode cX11_size 70 = .ok (.iload 4, 2) := by decide +kernel
theorem dX11_size_72 : decode cX11_size 72 = .ok (.iadd, 1) := by decide +kernel
theorem dX11_size_73 : decode cX11_size 73 = .ok (.iconst 0, 1) := by decide +kernel
theorem dX11_size_74 : decode cX11_size 74 = .ok (.iastore, 1) := by decide +kernel
theorem dX11_size_75 : decode cX11_size 75 = .ok (.iinc 4 1, 3) := by decide +kernel
theorem dX11_size_78 : decode cX11_size 78 = .ok (.goto (-21), 3) := by decide +kernel
theorem dX11_size_81 : decode cX11_size 81 = .ok (.iconst 1, 1) := by decide +kernel
theorem dX11_size_82 : decode cX11_size 82 = .ok (.ireturn, 1) := by decide +kernel
theorem dX11_boardPrice_0 : decode cX11_boardPrice 0 = .ok (.aload_n 0, 1) := by decide +kernel
theorem dX11_boardPrice_1 : decode cX11_boardPrice 1 = .ok (.iconst 0, 1) := by decide +kernel
theorem dX11_boardPrice_2 : decode cX11_boardPrice 2 = .ok (.putfield 84, 3) := by decide +kernel
theorem dX11_boardPrice_5 : decode cX11_boardPrice 5 = .ok (.iload_n 1, 1) := by decide +kernel
theorem dX11_boardPrice_6 : decode cX11_boardPrice 6 = .ok (.iconst 0, 1) := by decide +kernel
theorem dX11_boardPrice_7 : decode cX11_boardPrice 7 = .ok (.iconst 5, 1) := by decide +kernel
theorem dX11_boardPrice_8 : decode cX11_boardPrice 8 = .ok (.invokestatic 87, 3) := by decide +kernel
theorem dX11_boardPrice_11 : decode cX11_boardPrice 11 = .ok (.ifCond .eq 31, 3) := by decide +kernel
theorem dX11_boardPrice_14 : decode cX11_boardPrice 14 = .ok (.aload_n 0, 1) := by decide +kernel
theorem dX11_boardPrice_15 : decode cX11_boardPrice 15 = .ok (.getfield 34, 3) := by decide +kernel
theorem dX11_boardPrice_18 : decode cX11_boardPrice 18 = .ok (.iload_n 1, 1) := by decide +kernel
theorem dX11_boardPrice_19 : decode cX11_boardPrice 19 = .ok (.iaload, 1) := by decide +kernel
theorem dX11_boardPrice_20 : decode cX11_boardPrice 20 = .ok (.ifCond .eq 22, 3) := by decide +kernel
theorem dX11_boardPrice_23 : decode cX11_boardPrice 23 = .ok (.iload_n 2, 1) := by decide +kernel
theorem dX11_boardPrice_24 : decode cX11_boardPrice 24 = .ok (.iconst 1, 1) := by decide +kernel
theorem dX11_boardPrice_25 : decode cX11_boardPrice 25 = .ok (.iconst 3, 1) := by decide +kernel
theorem dX11_boardPrice_26 : decode cX11_boardPrice 26 = .ok (.invokestatic 87, 3) := by decide +kernel
theorem dX11_boardPrice_29 : decode cX11_boardPrice 29 = .ok (.ifCond .eq 13, 3) := by decide +kernel
theorem dX11_boardPrice_32 : decode cX11_boardPrice 32 = .ok (.iload_n 3, 1) := by decide +kernel
theorem dX11_boardPrice_33 : decode cX11_boardPrice 33 = .ok (.iconst 0, 1) := by decide +kernel
theorem dX11_boardPrice_34 : decode cX11_boardPrice 34 = .ok (.ldc 94, 2) := by decide +kernel
theorem dX11_boardPrice_36 : decode cX11_boardPrice 36 = .ok (.invokestatic 87, 3) := by decide +kernel
theorem dX11_boardPrice_39 : decode cX11_boardPrice 39 = .ok (.ifCond .ne 5, 3) := by decide +kernel
theorem dX11_boardPrice_42 : decode cX11_boardPrice 42 = .ok (.iconst 0, 1) := by decide +kernel
theorem dX11_boardPrice_43 : decode cX11_boardPrice 43 = .ok (.ireturn, 1) := by decide +kernel
theorem dX11_boardPrice_44 : decode cX11_boardPrice 44 = .ok (.aload_n 0, 1) := by decide +kernel
theorem dX11_boardPrice_45 : decode cX11_boardPrice 45 = .ok (.getfield 40, 3) := by decide +kernel
theorem dX11_boardPrice_48 : decode cX11_boardPrice 48 = .ok (.iconst 4, 1) := by decide +kernel
theorem dX11_boardPrice_49 : decode cX11_boardPrice 49 = .ok (.iload_n 1, 1) := by decide +kernel
theorem dX11_boardPrice_50 : decode cX11_boardPrice 50 = .ok (.imul, 1) := by decide +kernel
theorem dX11_boardPrice_51 : decode cX11_boardPrice 51 = .ok (.iload_n 2, 1) := by decide +kernel
theorem dX11_boardPrice_52 : decode cX11_boardPrice 52 = .ok (.iadd, 1) := by decide +kernel
theorem dX11_boardPrice_53 : decode cX11_boardPrice 53 = .ok (.iload_n 3, 1) := by decide +kernel
theorem dX11_boardPrice_54 : decode cX11_boardPrice 54 = .ok (.iastore, 1) := by decide +kernel
theorem dX11_boardPrice_55 : decode cX11_boardPrice 55 = .ok (.iconst 1, 1) := by decide +kernel
theorem dX11_boardPrice_56 : decode cX11_boardPrice 56 = .ok (.ireturn, 1) := by decide +kernel
theorem dX11_height_0 : decode cX11_height 0 = .ok (.aload_n 0, 1) := by decide +kernel
theorem dX11_height_1 : decode cX11_height 1 = .ok (.iconst 0, 1) := by decide +kernel
theorem dX11_height_2 : decode cX11_height 2 = .ok (.putfield 84, 3) := by decide +kernel
theorem dX11_height_5 : decode cX11_height 5 = .ok (.iload_n 1, 1) := by decide +kernel
theorem dX11_height_6 : decode cX11_height 6 = .ok (.iconst 0, 1) := by decide +kernel
theorem dX11_height_7 : decode cX11_height 7 = .ok (.iconst 3, 1) := by decide +kernel
theorem dX11_height_8 : decode cX11_height 8 = .ok (.invokestatic 87, 3) := by decide +kernel
theorem dX11_height_11 : decode cX11_height 11 = .ok (.ifCond .eq 16, 3) := by decide +kernel
theorem dX11_height_14 : decode cX11_height 14 = .ok (.iload_n 2, 1) := by decide +kernel
theorem dX11_height_15 : decode cX11_height 15 = .ok (.sipush 300, 3) := by decide +kernel
theorem dX11_height_18 : decode cX11_height 18 = .ok (.sipush 5000, 3) := by decide +kernel
theorem dX11_height_21 : decode cX11_height 21 = .ok (.invokestatic 87, 3) := by decide +kernel
theorem dX11_height_24 : decode cX11_height 24 = .ok (.ifCond .ne 5, 3) := by decide +kernel
theorem dX11_height_27 : decode cX11_height 27 = .ok (.iconst 0, 1) := by decide +kernel
theorem dX11_height_28 : decode cX11_height 28 = .ok (.ireturn, 1) := by decide +kernel
theorem dX11_height_29 : decode cX11_height 29 = .ok (.aload_n 0, 1) := by decide +kernel
theorem dX11_height_30 : decode cX11_height 30 = .ok (.getfield 46, 3) := by decide +kernel
theorem dX11_height_33 : decode cX11_height 33 = .ok (.iload_n 1, 1) := by decide +kernel
theorem dX11_height_34 : decode cX11_height 34 = .ok (.iload_n 2, 1) := by decide +kernel
theorem dX11_height_35 : decode cX11_height 35 = .ok (.iastore, 1) := by decide +kernel
theorem dX11_height_36 : decode cX11_height 36 = .ok (.iconst 1, 1) := by decide +kernel
theorem dX11_height_37 : decode cX11_height 37 = .ok (.ireturn, 1) := by decide +kernel
theorem dX11_kerf_0 : decode cX11_kerf 0 = .ok (.aload_n 0, 1) := by decide +kernel
theorem dX11_kerf_1 : decode cX11_kerf 1 = .ok (.iconst 0, 1) := by decide +kernel
theorem dX11_kerf_2 : decode cX11_kerf 2 = .ok (.putfield 84, 3) := by decide +kernel
theorem dX11_kerf_5 : decode cX11_kerf 5 = .ok (.iload_n 1, 1) := by decide +kernel
theorem dX11_kerf_6 : decode cX11_kerf 6 = .ok (.iconst 0, 1) := by decide +kernel
theorem dX11_kerf_7 : decode cX11_kerf 7 = .ok (.bipush 100, 2) := by decide +kernel
theorem dX11_kerf_9 : decode cX11_kerf 9 = .ok (.invokestatic 87, 3) := by decide +kernel
theorem dX11_kerf_12 : decode cX11_kerf 12 = .ok (.ifCond .ne 5, 3) := by decide +kernel
theorem dX11_kerf_15 : decode cX11_kerf 15 = .ok (.iconst 0, 1) := by decide +kernel
theorem dX11_kerf_16 : decode cX11_kerf 16 = .ok (.ireturn, 1) := by decide +kernel
theorem dX11_kerf_17 : decode cX11_kerf 17 = .ok (.aload_n 0, 1) := by decide +kernel
theorem dX11_kerf_18 : decode cX11_kerf 18 = .ok (.iload_n 1, 1) := by decide +kernel
theorem dX11_kerf_19 : decode cX11_kerf 19 = .ok (.putfield 121, 3) := by decide +kernel
theorem dX11_kerf_22 : decode cX11_kerf 22 = .ok (.iconst 1, 1) := by decide +kernel
theorem dX11_kerf_23 : decode cX11_kerf 23 = .ok (.ireturn, 1) := by decide +kernel
theorem dX11_need_0 : decode cX11_need 0 = .ok (.aload_n 0, 1) := by decide +kernel
theorem dX11_need_1 : decode cX11_need 1 = .ok (.iconst 0, 1) := by decide +kernel
theorem dX11_need_2 : decode cX11_need 2 = .ok (.putfield 84, 3) := by decide +kernel
theorem dX11_need_5 : decode cX11_need 5 = .ok (.iload_n 1, 1) := by decide +kernel
theorem dX11_need_6 : decode cX11_need 6 = .ok (.iconst 0, 1) := by decide +kernel
theorem dX11_need_7 : decode cX11_need 7 = .ok (.iconst 5, 1) := by decide +kernel
theorem dX11_need_8 : decode cX11_need 8 = .ok (.invokestatic 87, 3) := by decide +kernel
theorem dX11_need_11 : decode cX11_need 11 = .ok (.ifCond .eq 14, 3) := by decide +kernel
theorem dX11_need_14 : decode cX11_need 14 = .ok (.iload_n 2, 1) := by decide +kernel
theorem dX11_need_15 : decode cX11_need 15 = .ok (.iconst 0, 1) := by decide +kernel
theorem dX11_need_16 : decode cX11_need 16 = .ok (.sipush 1000, 3) := by decide +kernel
theorem dX11_need_19 : decode cX11_need 19 = .ok (.invokestatic 87, 3) := by decide +kernel
theorem dX11_need_22 : decode cX11_need 22 = .ok (.ifCond .ne 5, 3) := by decide +kernel
theorem dX11_need_25 : decode cX11_need 25 = .ok (.iconst 0, 1) := by decide +kernel
theorem dX11_need_26 : decode cX11_need 26 = .ok (.ireturn, 1) := by decide +kernel
theorem dX11_need_27 : decode cX11_need 27 = .ok (.aload_n 0, 1) := by decide +kernel
theorem dX11_need_28 : decode cX11_need 28 = .ok (.getfield 43, 3) := by decide +kernel
theorem dX11_need_31 : decode cX11_need 31 = .ok (.iload_n 1, 1) := by decide +kernel
theorem dX11_need_32 : decode cX11_need 32 = .ok (.iload_n 2, 1) := by decide +kernel
theorem dX11_need_33 : decode cX11_need 33 = .ok (.iastore, 1) := by decide +kernel
theorem dX11_need_34 : decode cX11_need 34 = .ok (.iconst 1, 1) := by decide +kernel
theorem dX11_need_35 : decode cX11_need 35 = .ok (.ireturn, 1) := by decide +kernel
theorem dX11_ladder_0 : decode cX11_ladder 0 = .ok (.aload_n 0, 1) := by decide +kernel
theorem dX11_ladder_1 : decode cX11_ladder 1 = .ok (.iconst 0, 1) := by decide +kernel
theorem dX11_ladder_2 : decode cX11_ladder 2 = .ok (.putfield 84, 3) := by decide +kernel
theorem dX11_ladder_5 : decode cX11_ladder 5 = .ok (.iload_n 1, 1) := by decide +kernel
theorem dX11_ladder_6 : decode cX11_ladder 6 = .ok (.iconst 0, 1) := by decide +kernel
theorem dX11_ladder_7 : decode cX11_ladder 7 = .ok (.iconst 3, 1) := by decide +kernel
theorem dX11_ladder_8 : decode cX11_ladder 8 = .ok (.invokestatic 87, 3) := by decide +kernel
theorem dX11_ladder_11 : decode cX11_ladder 11 = .ok (.ifCond .eq 23, 3) := by decide +kernel
theorem dX11_ladder_14 : decode cX11_ladder 14 = .ok (.iload_n 2, 1) := by decide +kernel
theorem dX11_ladder_15 : decode cX11_ladder 15 = .ok (.iconst 0, 1) := by decide +kernel
theorem dX11_ladder_16 : decode cX11_ladder 16 = .ok (.ldc 124, 2) := by decide +kernel
theorem dX11_ladder_18 : decode cX11_ladder 18 = .ok (.invokestatic 87, 3) := by decide +kernel
theorem dX11_ladder_21 : decode cX11_ladder 21 = .ok (.ifCond .eq 13, 3) := by decide +kernel
theorem dX11_ladder_24 : decode cX11_ladder 24 = .ok (.iload_n 3, 1) := by decide +kernel
theorem dX11_ladder_25 : decode cX11_ladder 25 = .ok (.iconst 0, 1) := by decide +kernel
theorem dX11_ladder_26 : decode cX11_ladder 26 = .ok (.ldc 124, 2) := by decide +kernel
theorem dX11_ladder_28 : decode cX11_ladder 28 = .ok (.invokestatic 87, 3) := by decide +kernel
theorem dX11_ladder_31 : decode cX11_ladder 31 = .ok (.ifCond .ne 5, 3) := by decide +kernel
theorem dX11_ladder_34 : decode cX11_ladder 34 = .ok (.iconst 0, 1) := by decide +kernel
theorem dX11_ladder_35 : decode cX11_ladder 35 = .ok (.ireturn, 1) := by decide +kernel
theorem dX11_ladder_36 : decode cX11_ladder 36 = .ok (.aload_n 0, 1) := by decide +kernel
theorem dX11_ladder_37 : decode cX11_ladder 37 = .ok (.getfield 49, 3) := by decide +kernel
theorem dX11_ladder_40 : decode cX11_ladder 40 = .ok (.iload_n 1, 1) := by decide +kernel
theorem dX11_ladder_41 : decode cX11_ladder 41 = .ok (.iload_n 2, 1) := by decide +kernel
theorem dX11_ladder_42 : decode cX11_ladder 42 = .ok (.iastore, 1) := by decide +kernel
theorem dX11_ladder_43 : decode cX11_ladder 43 = .ok (.aload_n 0, 1) := by decide +kernel
theorem dX11_ladder_44 : decode cX11_ladder 44 = .ok (.getfield 52, 3) := by decide +kernel
theorem dX11_ladder_47 : decode cX11_ladder 47 = .ok (.iload_n 1, 1) := by decide +kernel
theorem dX11_ladder_48 : decode cX11_ladder 48 = .ok (.iload_n 3, 1) := by decide +kernel
theorem dX11_ladder_49 : decode cX11_ladder 49 = .ok (.iastore, 1) := by decide +kernel
theorem dX11_ladder_50 : decode cX11_ladder 50 = .ok (.iconst 1, 1) := by decide +kernel
theorem dX11_ladder_51 : decode cX11_ladder 51 = .ok (.ireturn, 1) := by decide +kernel
theorem dX11_needNow_0 : decode cX11_needNow 0 = .ok (.aload_n 0, 1) := by decide +kernel
theorem dX11_needNow_1 : decode cX11_needNow 1 = .ok (.iconst 0, 1) := by decide +kernel
theorem dX11_needNow_2 : decode cX11_needNow 2 = .ok (.putfield 84, 3) := by decide +kernel
theorem dX11_needNow_5 : decode cX11_needNow 5 = .ok (.iload_n 1, 1) := by decide +kernel
theorem dX11_needNow_6 : decode cX11_needNow 6 = .ok (.iconst 0, 1) := by decide +kernel
theorem dX11_needNow_7 : decode cX11_needNow 7 = .ok (.iconst 5, 1) := by decide +kernel
theorem dX11_needNow_8 : decode cX11_needNow 8 = .ok (.invokestatic 87, 3) := by decide +kernel
theorem dX11_needNow_11 : decode cX11_needNow 11 = .ok (.ifCond .eq 12, 3) := by decide +kernel
theorem dX11_needNow_14 : decode cX11_needNow 14 = .ok (.aload_n 0, 1) := by decide +kernel
theorem dX11_needNow_15 : decode cX11_needNow 15 = .ok (.getfield 43, 3) := by decide +kernel
theorem dX11_needNow_18 : decode cX11_needNow 18 = .ok (.iload_n 1, 1) := by decide +kernel
theorem dX11_needNow_19 : decode cX11_needNow 19 = .ok (.iaload, 1) := by decide +kernel
theorem dX11_needNow_20 : decode cX11_needNow 20 = .ok (.goto 4, 3) := by decide +kernel
theorem dX11_needNow_23 : decode cX11_needNow 23 = .ok (.iconst (-1), 1) := by decide +kernel
theorem dX11_needNow_24 : decode cX11_needNow 24 = .ok (.ireturn, 1) := by decide +kernel
theorem dX11_prices_0 : decode cX11_prices 0 = .ok (.iconst 0, 1) := by decide +kernel
theorem dX11_prices_1 : decode cX11_prices 1 = .ok (.istore_n 2, 1) := by decide +kernel
theorem dX11_prices_2 : decode cX11_prices 2 = .ok (.iload_n 2, 1) := by decide +kernel
theorem dX11_prices_3 : decode cX11_prices 3 = .ok (.bipush 6, 2) := by decide +kernel
theorem dX11_prices_5 : decode cX11_prices 5 = .ok (.if_icmp .ge 102, 3) := by decide +kernel
theorem dX11_prices_8 : decode cX11_prices 8 = .ok (.iconst 0, 1) := by decide +kernel
theorem dX11_prices_9 : decode cX11_prices 9 = .ok (.istore_n 3, 1) := by decide +kernel
theorem dX11_prices_10 : decode cX11_prices 10 = .ok (.iconst 0, 1) := by decide +kernel
theorem dX11_prices_11 : decode cX11_prices 11 = .ok (.istore 4, 2) := by decide +kernel
theorem dX11_prices_13 : decode cX11_prices 13 = .ok (.iload 4, 2) := by decide +kernel
theorem dX11_prices_15 : decode cX11_prices 15 = .ok (.iconst 4, 1) := by decide +kernel
theorem dX11_prices_16 : decode cX11_prices 16 = .ok (.if_icmp .ge 54, 3) := by decide +kernel
theorem dX11_prices_19 : decode cX11_prices 19 = .ok (.aload_n 0, 1) := by decide +kernel
theorem dX11_prices_20 : decode cX11_prices 20 = .ok (.getfield 49, 3) := by decide +kernel
theorem dX11_prices_23 : decode cX11_prices 23 = .ok (.iload 4, 2) := by decide +kernel
theorem dX11_prices_25 : decode cX11_prices 25 = .ok (.iaload, 1) := by decide +kernel
theorem dX11_prices_26 : decode cX11_prices 26 = .ok (.ifCond .le 38, 3) := by decide +kernel
theorem dX11_prices_29 : decode cX11_prices 29 = .ok (.aload_n 0, 1) := by decide +kernel
theorem dX11_prices_30 : decode cX11_prices 30 = .ok (.getfield 49, 3) := by decide +kernel
theorem dX11_prices_33 : decode cX11_prices 33 = .ok (.iload 4, 2) := by decide +kernel
theorem dX11_prices_35 : decode cX11_prices 35 = .ok (.iaload, 1) := by decide +kernel
theorem dX11_prices_36 : decode cX11_prices 36 = .ok (.aload_n 0, 1) := by decide +kernel
theorem dX11_prices_37 : decode cX11_prices 37 = .ok (.getfield 43, 3) := by decide +kernel
theorem dX11_prices_40 : decode cX11_prices 40 = .ok (.iload_n 2, 1) := by decide +kernel
theorem dX11_prices_41 : decode cX11_prices 41 = .ok (.iaload, 1) := by decide +kernel
theorem dX11_prices_42 : decode cX11_prices 42 = .ok (.if_icmp .gt 22, 3) := by decide +kernel
theorem dX11_prices_45 : decode cX11_prices 45 = .ok (.aload_n 0, 1) := by decide +kernel
theorem dX11_prices_46 : decode cX11_prices 46 = .ok (.getfield 52, 3) := by decide +kernel
theorem dX11_prices_49 : decode cX11_prices 49 = .ok (.iload 4, 2) := by decide +kernel
theorem dX11_prices_51 : decode cX11_prices 51 = .ok (.iaload, 1) := by decide +kernel
theorem dX11_prices_52 : decode cX11_prices 52 = .ok (.iload_n 3, 1) := by decide +kernel
theorem dX11_prices_53 : decode cX11_prices 53 = .ok (.if_icmp .le 11, 3) := by decide +kernel
theorem dX11_prices_56 : decode cX11_prices 56 = .ok (.aload_n 0, 1) := by decide +kernel
theorem dX11_prices_57 : decode cX11_prices 57 = .ok (.getfield 52, 3) := by decide +kernel
theorem dX11_prices_60 : decode cX11_prices 60 = .ok (.iload 4, 2) := by decide +kernel
theorem dX11_prices_62 : decode cX11_prices 62 = .ok (.iaload, 1) := by decide +kernel
theorem dX11_prices_63 : decode cX11_prices 63 = .ok (.istore_n 3, 1) := by decide +kernel
theorem dX11_prices_64 : decode cX11_prices 64 = .ok (.iinc 4 1, 3) := by decide +kernel
theorem dX11_prices_67 : decode cX11_prices 67 = .ok (.goto (-54), 3) := by decide +kernel
theorem dX11_prices_70 : decode cX11_prices 70 = .ok (.aload_n 0, 1) := by decide +kernel
theorem dX11_prices_71 : decode cX11_prices 71 = .ok (.getfield 58, 3) := by decide +kernel
theorem dX11_prices_74 : decode cX11_prices 74 = .ok (.iload_n 2, 1) := by decide +kernel
theorem dX11_prices_75 : decode cX11_prices 75 = .ok (.aload_n 0, 1) := by decide +kernel
theorem dX11_prices_76 : decode cX11_prices 76 = .ok (.getfield 34, 3) := by decide +kernel
theorem dX11_prices_79 : decode cX11_prices 79 = .ok (.iload_n 2, 1) := by decide +kernel
theorem dX11_prices_80 : decode cX11_prices 80 = .ok (.iaload, 1) := by decide +kernel
theorem dX11_prices_81 : decode cX11_prices 81 = .ok (.ifCond .ne 7, 3) := by decide +kernel
theorem dX11_prices_84 : decode cX11_prices 84 = .ok (.iconst 0, 1) := by decide +kernel
theorem dX11_prices_85 : decode cX11_prices 85 = .ok (.goto 15, 3) := by decide +kernel
theorem dX11_prices_88 : decode cX11_prices 88 = .ok (.aload_n 0, 1) := by decide +kernel
theorem dX11_prices_89 : decode cX11_prices 89 = .ok (.getfield 40, 3) := by decide +kernel
theorem dX11_prices_92 : decode cX11_prices 92 = .ok (.iconst 4, 1) := by decide +kernel
theorem dX11_prices_93 : decode cX11_prices 93 = .ok (.iload_n 2, 1) := by decide +kernel
theorem dX11_prices_94 : decode cX11_prices 94 = .ok (.imul, 1) := by decide +kernel
theorem dX11_prices_95 : decode cX11_prices 95 = .ok (.iload_n 1, 1) := by decide +kernel
theorem dX11_prices_96 : decode cX11_prices 96 = .ok (.iadd, 1) := by decide +kernel
theorem dX11_prices_97 : decode cX11_prices 97 = .ok (.iaload, 1) := by decide +kernel
theorem dX11_prices_98 : decode cX11_prices 98 = .ok (.iload_n 3, 1) := by decide +kernel
theorem dX11_prices_99 : decode cX11_prices 99 = .ok (.iadd, 1) := by decide +kernel
theorem dX11_prices_100 : decode cX11_prices 100 = .ok (.iastore, 1) := by decide +kernel
theorem dX11_prices_101 : decode cX11_prices 101 = .ok (.iinc 2 1, 3) := by decide +kernel
theorem dX11_prices_104 : decode cX11_prices 104 = .ok (.goto (-102), 3) := by decide +kernel
theorem dX11_prices_107 : decode cX11_prices 107 = .ok (.return_, 1) := by decide +kernel
theorem dX11_isWithin_0 : decode cX11_isWithin 0 = .ok (.iload_n 0, 1) := by decide +kernel
theorem dX11_isWithin_1 : decode cX11_isWithin 1 = .ok (.iload_n 0, 1) := by decide +kernel
theorem dX11_isWithin_2 : decode cX11_isWithin 2 = .ok (.imul, 1) := by decide +kernel
theorem dX11_isWithin_3 : decode cX11_isWithin 3 = .ok (.iload_n 1, 1) := by decide +kernel
theorem dX11_isWithin_4 : decode cX11_isWithin 4 = .ok (.iload_n 1, 1) := by decide +kernel
theorem dX11_isWithin_5 : decode cX11_isWithin 5 = .ok (.imul, 1) := by decide +kernel
theorem dX11_isWithin_6 : decode cX11_isWithin 6 = .ok (.iadd, 1) := by decide +kernel
theorem dX11_isWithin_7 : decode cX11_isWithin 7 = .ok (.iload_n 2, 1) := by decide +kernel
theorem dX11_isWithin_8 : decode cX11_isWithin 8 = .ok (.iload_n 2, 1) := by decide +kernel
theorem dX11_isWithin_9 : decode cX11_isWithin 9 = .ok (.imul, 1) := by decide +kernel
theorem dX11_isWithin_10 : decode cX11_isWithin 10 = .ok (.if_icmp .gt 7, 3) := by decide +kernel
theorem dX11_isWithin_13 : decode cX11_isWithin 13 = .ok (.iconst 1, 1) := by decide +kernel
theorem dX11_isWithin_14 : decode cX11_isWithin 14 = .ok (.goto 4, 3) := by decide +kernel
theorem dX11_isWithin_17 : decode cX11_isWithin 17 = .ok (.iconst 0, 1) := by decide +kernel
theorem dX11_isWithin_18 : decode cX11_isWithin 18 = .ok (.ireturn, 1) := by decide +kernel
theorem dX11_beside_0 : decode cX11_beside 0 = .ok (.aload_n 0, 1) := by decide +kernel
theorem dX11_beside_1 : decode cX11_beside 1 = .ok (.getfield 58, 3) := by decide +kernel
theorem dX11_beside_4 : decode cX11_beside 4 = .ok (.iload_n 2, 1) := by decide +kernel
theorem dX11_beside_5 : decode cX11_beside 5 = .ok (.iaload, 1) := by decide +kernel
theorem dX11_beside_6 : decode cX11_beside 6 = .ok (.ifCond .eq 13, 3) := by decide +kernel
theorem dX11_beside_9 : decode cX11_beside 9 = .ok (.aload_n 0, 1) := by decide +kernel
theorem dX11_beside_10 : decode cX11_beside 10 = .ok (.getfield 37, 3) := by decide +kernel
theorem dX11_beside_13 : decode cX11_beside 13 = .ok (.iload_n 2, 1) := by decide +kernel
theorem dX11_beside_14 : decode cX11_beside 14 = .ok (.iaload, 1) := by decide +kernel
theorem dX11_beside_15 : decode cX11_beside 15 = .ok (.iload_n 3, 1) := by decide +kernel
theorem dX11_beside_16 : decode cX11_beside 16 = .ok (.if_icmp .eq 5, 3) := by decide +kernel
theorem dX11_beside_19 : decode cX11_beside 19 = .ok (.iconst (-1), 1) := by decide +kernel
theorem dX11_beside_20 : decode cX11_beside 20 = .ok (.ireturn, 1) := by decide +kernel
theorem dX11_beside_21 : decode cX11_beside 21 = .ok (.iload_n 1, 1) := by decide +kernel
theorem dX11_beside_22 : decode cX11_beside 22 = .ok (.aload_n 0, 1) := by decide +kernel
theorem dX11_beside_23 : decode cX11_beside 23 = .ok (.getfield 34, 3) := by decide +kernel
theorem dX11_beside_26 : decode cX11_beside 26 = .ok (.iload_n 2, 1) := by decide +kernel
theorem dX11_beside_27 : decode cX11_beside 27 = .ok (.iaload, 1) := by decide +kernel
theorem dX11_beside_28 : decode cX11_beside 28 = .ok (.iadd, 1) := by decide +kernel
theorem dX11_beside_29 : decode cX11_beside 29 = .ok (.aload_n 0, 1) := by decide +kernel
theorem dX11_beside_30 : decode cX11_beside 30 = .ok (.getfield 121, 3) := by decide +kernel
theorem dX11_beside_33 : decode cX11_beside 33 = .ok (.iadd, 1) := by decide +kernel
theorem dX11_beside_34 : decode cX11_beside 34 = .ok (.istore 5, 2) := by decide +kernel
theorem dX11_beside_36 : decode cX11_beside 36 = .ok (.iload 5, 2) := by decide +kernel
theorem dX11_beside_38 : decode cX11_beside 38 = .ok (.aload_n 0, 1) := by decide +kernel
theorem dX11_beside_39 : decode cX11_beside 39 = .ok (.getfield 121, 3) := by decide +kernel
theorem dX11_beside_42 : decode cX11_beside 42 = .ok (.isub, 1) := by decide +kernel
theorem dX11_beside_43 : decode cX11_beside 43 = .ok (.iload_n 3, 1) := by decide +kernel
theorem dX11_beside_44 : decode cX11_beside 44 = .ok (.iload 4, 2) := by decide +kernel
theorem dX11_beside_46 : decode cX11_beside 46 = .ok (.invokestatic 125, 3) := by decide +kernel
theorem dX11_beside_49 : decode cX11_beside 49 = .ok (.ifCond .eq 8, 3) := by decide +kernel
theorem dX11_beside_52 : decode cX11_beside 52 = .ok (.iload 5, 2) := by decide +kernel
theorem dX11_beside_54 : decode cX11_beside 54 = .ok (.goto 4, 3) := by decide +kernel
theorem dX11_beside_57 : decode cX11_beside 57 = .ok (.iconst (-1), 1) := by decide +kernel
theorem dX11_beside_58 : decode cX11_beside 58 = .ok (.ireturn, 1) := by decide +kernel
theorem dX11_above_0 : decode cX11_above 0 = .ok (.aload_n 0, 1) := by decide +kernel
theorem dX11_above_1 : decode cX11_above 1 = .ok (.getfield 58, 3) := by decide +kernel
theorem dX11_above_4 : decode cX11_above 4 = .ok (.iload_n 2, 1) := by decide +kernel
theorem dX11_above_5 : decode cX11_above 5 = .ok (.iaload, 1) := by decide +kernel
theorem dX11_above_6 : decode cX11_above 6 = .ok (.ifCond .ne 5, 3) := by decide +kernel
theorem dX11_above_9 : decode cX11_above 9 = .ok (.iconst (-1), 1) := by decide +kernel
theorem dX11_above_10 : decode cX11_above 10 = .ok (.ireturn, 1) := by decide +kernel
theorem dX11_above_11 : decode cX11_above 11 = .ok (.iload_n 1, 1) := by decide +kernel
theorem dX11_above_12 : decode cX11_above 12 = .ok (.iconst 2, 1) := by decide +kernel
theorem dX11_above_13 : decode cX11_above 13 = .ok (.aload_n 0, 1) := by decide +kernel
theorem dX11_above_14 : decode cX11_above 14 = .ok (.getfield 34, 3) := by decide +kernel
theorem dX11_above_17 : decode cX11_above 17 = .ok (.iload_n 2, 1) := by decide +kernel
theorem dX11_above_18 : decode cX11_above 18 = .ok (.iaload, 1) := by decide +kernel
theorem dX11_above_19 : decode cX11_above 19 = .ok (.imul, 1) := by decide +kernel
theorem dX11_above_20 : decode cX11_above 20 = .ok (.iadd, 1) := by decide +kernel
theorem dX11_above_21 : decode cX11_above 21 = .ok (.iload_n 1, 1) := by decide +kernel
theorem dX11_above_22 : decode cX11_above 22 = .ok (.ifCond .ne 7, 3) := by decide +kernel
theorem dX11_above_25 : decode cX11_above 25 = .ok (.iconst 0, 1) := by decide +kernel
theorem dX11_above_26 : decode cX11_above 26 = .ok (.goto 9, 3) := by decide +kernel
theorem dX11_above_29 : decode cX11_above 29 = .ok (.iconst 2, 1) := by decide +kernel
theorem dX11_above_30 : decode cX11_above 30 = .ok (.aload_n 0, 1) := by decide +kernel
theorem dX11_above_31 : decode cX11_above 31 = .ok (.getfield 121, 3) := by decide +kernel
theorem dX11_above_34 : decode cX11_above 34 = .ok (.imul, 1) := by decide +kernel
theorem dX11_above_35 : decode cX11_above 35 = .ok (.iadd, 1) := by decide +kernel
theorem dX11_above_36 : decode cX11_above 36 = .ok (.istore 4, 2) := by decide +kernel
theorem dX11_above_38 : decode cX11_above 38 = .ok (.aload_n 0, 1) := by decide +kernel
theorem dX11_above_39 : decode cX11_above 39 = .ok (.getfield 37, 3) := by decide +kernel
theorem dX11_above_42 : decode cX11_above 42 = .ok (.iload_n 2, 1) := by decide +kernel
theorem dX11_above_43 : decode cX11_above 43 = .ok (.iaload, 1) := by decide +kernel
theorem dX11_above_44 : decode cX11_above 44 = .ok (.iload 4, 2) := by decide +kernel
theorem dX11_above_46 : decode cX11_above 46 = .ok (.iload_n 3, 1) := by decide +kernel
theorem dX11_above_47 : decode cX11_above 47 = .ok (.invokestatic 125, 3) := by decide +kernel
theorem dX11_above_50 : decode cX11_above 50 = .ok (.ifCond .eq 8, 3) := by decide +kernel
theorem dX11_above_53 : decode cX11_above 53 = .ok (.iload 4, 2) := by decide +kernel
theorem dX11_above_55 : decode cX11_above 55 = .ok (.goto 4, 3) := by decide +kernel
theorem dX11_above_58 : decode cX11_above 58 = .ok (.iconst (-1), 1) := by decide +kernel
theorem dX11_above_59 : decode cX11_above 59 = .ok (.ireturn, 1) := by decide +kernel
theorem dX11_step_0 : decode cX11_step 0 = .ok (.iload_n 1, 1) := by decide +kernel
theorem dX11_step_1 : decode cX11_step 1 = .ok (.ifCond .eq 16, 3) := by decide +kernel
theorem dX11_step_4 : decode cX11_step 4 = .ok (.aload_n 0, 1) := by decide +kernel
theorem dX11_step_5 : decode cX11_step 5 = .ok (.iload_n 2, 1) := by decide +kernel
theorem dX11_step_6 : decode cX11_step 6 = .ok (.iload_n 3, 1) := by decide +kernel
theorem dX11_step_7 : decode cX11_step 7 = .ok (.iload 4, 2) := by decide +kernel
theorem dX11_step_9 : decode cX11_step 9 = .ok (.iload 5, 2) := by decide +kernel
theorem dX11_step_11 : decode cX11_step 11 = .ok (.invokevirtual 128, 3) := by decide +kernel
theorem dX11_step_14 : decode cX11_step 14 = .ok (.goto 11, 3) := by decide +kernel
theorem dX11_step_17 : decode cX11_step 17 = .ok (.aload_n 0, 1) := by decide +kernel
theorem dX11_step_18 : decode cX11_step 18 = .ok (.iload_n 2, 1) := by decide +kernel
theorem dX11_step_19 : decode cX11_step 19 = .ok (.iload_n 3, 1) := by decide +kernel
theorem dX11_step_20 : decode cX11_step 20 = .ok (.iload 5, 2) := by decide +kernel
theorem dX11_step_22 : decode cX11_step 22 = .ok (.invokevirtual 132, 3) := by decide +kernel
theorem dX11_step_25 : decode cX11_step 25 = .ok (.ireturn, 1) := by decide +kernel
theorem dX11_sequence_0 : decode cX11_sequence 0 = .ok (.iconst 0, 1) := by decide +kernel
theorem dX11_sequence_1 : decode cX11_sequence 1 = .ok (.istore 6, 2) := by decide +kernel
theorem dX11_sequence_3 : decode cX11_sequence 3 = .ok (.iload 6, 2) := by decide +kernel
theorem dX11_sequence_5 : decode cX11_sequence 5 = .ok (.sipush 9400, 3) := by decide +kernel
theorem dX11_sequence_8 : decode cX11_sequence 8 = .ok (.if_icmp .ge 17, 3) := by decide +kernel
theorem dX11_sequence_11 : decode cX11_sequence 11 = .ok (.aload_n 0, 1) := by decide +kernel
theorem dX11_sequence_12 : decode cX11_sequence 12 = .ok (.getfield 70, 3) := by decide +kernel
theorem dX11_sequence_15 : decode cX11_sequence 15 = .ok (.iload 6, 2) := by decide +kernel
theorem dX11_sequence_17 : decode cX11_sequence 17 = .ok (.iconst (-1), 1) := by decide +kernel
theorem dX11_sequence_18 : decode cX11_sequence 18 = .ok (.iastore, 1) := by decide +kernel
theorem dX11_sequence_19 : decode cX11_sequence 19 = .ok (.iinc 6 1, 3) := by decide +kernel
theorem dX11_sequence_22 : decode cX11_sequence 22 = .ok (.goto (-19), 3) := by decide +kernel
theorem dX11_sequence_25 : decode cX11_sequence 25 = .ok (.aload_n 0, 1) := by decide +kernel
theorem dX11_sequence_26 : decode cX11_sequence 26 = .ok (.getfield 70, 3) := by decide +kernel
theorem dX11_sequence_29 : decode cX11_sequence 29 = .ok (.iload_n 2, 1) := by decide +kernel
theorem dX11_sequence_30 : decode cX11_sequence 30 = .ok (.iconst 0, 1) := by decide +kernel
theorem dX11_sequence_31 : decode cX11_sequence 31 = .ok (.iastore, 1) := by decide +kernel
theorem dX11_sequence_32 : decode cX11_sequence 32 = .ok (.iconst 0, 1) := by decide +kernel
theorem dX11_sequence_33 : decode cX11_sequence 33 = .ok (.istore 6, 2) := by decide +kernel
theorem dX11_sequence_35 : decode cX11_sequence 35 = .ok (.iload_n 2, 1) := by decide +kernel
theorem dX11_sequence_36 : decode cX11_sequence 36 = .ok (.istore 7, 2) := by decide +kernel
theorem dX11_sequence_38 : decode cX11_sequence 38 = .ok (.iload 7, 2) := by decide +kernel
theorem dX11_sequence_40 : decode cX11_sequence 40 = .ok (.sipush 9300, 3) := by decide +kernel
theorem dX11_sequence_43 : decode cX11_sequence 43 = .ok (.if_icmp .gt 130, 3) := by decide +kernel
theorem dX11_sequence_46 : decode cX11_sequence 46 = .ok (.aload_n 0, 1) := by decide +kernel
theorem dX11_sequence_47 : decode cX11_sequence 47 = .ok (.getfield 70, 3) := by decide +kernel
theorem dX11_sequence_50 : decode cX11_sequence 50 = .ok (.iload 7, 2) := by decide +kernel
theorem dX11_sequence_52 : decode cX11_sequence 52 = .ok (.iaload, 1) := by decide +kernel
theorem dX11_sequence_53 : decode cX11_sequence 53 = .ok (.ifCond .ge 6, 3) := by decide +kernel
theorem dX11_sequence_56 : decode cX11_sequence 56 = .ok (.goto 111, 3) := by decide +kernel
theorem dX11_sequence_59 : decode cX11_sequence 59 = .ok (.aload_n 0, 1) := by decide +kernel
theorem dX11_sequence_60 : decode cX11_sequence 60 = .ok (.getfield 70, 3) := by decide +kernel
theorem dX11_sequence_63 : decode cX11_sequence 63 = .ok (.iload 7, 2) := by decide +kernel
theorem dX11_sequence_65 : decode cX11_sequence 65 = .ok (.iaload, 1) := by decide +kernel
theorem dX11_sequence_66 : decode cX11_sequence 66 = .ok (.iload 6, 2) := by decide +kernel
theorem dX11_sequence_68 : decode cX11_sequence 68 = .ok (.if_icmp .le 13, 3) := by decide +kernel
theorem dX11_sequence_71 : decode cX11_sequence 71 = .ok (.aload_n 0, 1) := by decide +kernel
theorem dX11_sequence_72 : decode cX11_sequence 72 = .ok (.getfield 70, 3) := by decide +kernel
theorem dX11_sequence_75 : decode cX11_sequence 75 = .ok (.iload 7, 2) := by decide +kernel
theorem dX11_sequence_77 : decode cX11_sequence 77 = .ok (.iaload, 1) := by decide +kernel
theorem dX11_sequence_78 : decode cX11_sequence 78 = .ok (.goto 5, 3) := by decide +kernel
theorem dX11_sequence_81 : decode cX11_sequence 81 = .ok (.iload 6, 2) := by decide +kernel
theorem dX11_sequence_83 : decode cX11_sequence 83 = .ok (.istore 6, 2) := by decide +kernel
theorem dX11_sequence_85 : decode cX11_sequence 85 = .ok (.iconst 0, 1) := by decide +kernel
theorem dX11_sequence_86 : decode cX11_sequence 86 = .ok (.istore 8, 2) := by decide +kernel
theorem dX11_sequence_88 : decode cX11_sequence 88 = .ok (.iload 8, 2) := by decide +kernel
theorem dX11_sequence_90 : decode cX11_sequence 90 = .ok (.bipush 6, 2) := by decide +kernel
theorem dX11_sequence_92 : decode cX11_sequence 92 = .ok (.if_icmp .ge 75, 3) := by decide +kernel
theorem dX11_sequence_95 : decode cX11_sequence 95 = .ok (.aload_n 0, 1) := by decide +kernel
theorem dX11_sequence_96 : decode cX11_sequence 96 = .ok (.iload_n 1, 1) := by decide +kernel
theorem dX11_sequence_97 : decode cX11_sequence 97 = .ok (.iload 7, 2) := by decide +kernel
theorem dX11_sequence_99 : decode cX11_sequence 99 = .ok (.iload 8, 2) := by decide +kernel
theorem dX11_sequence_101 : decode cX11_sequence 101 = .ok (.iload_n 3, 1) := by decide +kernel
theorem dX11_sequence_102 : decode cX11_sequence 102 = .ok (.iload 4, 2) := by decide +kernel
theorem dX11_sequence_104 : decode cX11_sequence 104 = .ok (.invokevirtual 136, 3) := by decide +kernel
theorem dX11_sequence_107 : decode cX11_sequence 107 = .ok (.istore 9, 2) := by decide +kernel
theorem dX11_sequence_109 : decode cX11_sequence 109 = .ok (.iload 9, 2) := by decide +kernel
theorem dX11_sequence_111 : decode cX11_sequence 111 = .ok (.ifCond .lt 50, 3) := by decide +kernel
theorem dX11_sequence_114 : decode cX11_sequence 114 = .ok (.aload_n 0, 1) := by decide +kernel
theorem dX11_sequence_115 : decode cX11_sequence 115 = .ok (.getfield 70, 3) := by decide +kernel
theorem dX11_sequence_118 : decode cX11_sequence 118 = .ok (.iload 7, 2) := by decide +kernel
theorem dX11_sequence_120 : decode cX11_sequence 120 = .ok (.iaload, 1) := by decide +kernel
theorem dX11_sequence_121 : decode cX11_sequence 121 = .ok (.aload_n 0, 1) := by decide +kernel
theorem dX11_sequence_122 : decode cX11_sequence 122 = .ok (.getfield 58, 3) := by decide +kernel
theorem dX11_sequence_125 : decode cX11_sequence 125 = .ok (.iload 8, 2) := by decide +kernel
theorem dX11_sequence_127 : decode cX11_sequence 127 = .ok (.iaload, 1) := by decide +kernel
theorem dX11_sequence_128 : decode cX11_sequence 128 = .ok (.iadd, 1) := by decide +kernel
theorem dX11_sequence_129 : decode cX11_sequence 129 = .ok (.aload_n 0, 1) := by decide +kernel
theorem dX11_sequence_130 : decode cX11_sequence 130 = .ok (.getfield 70, 3) := by decide +kernel
theorem dX11_sequence_133 : decode cX11_sequence 133 = .ok (.iload 9, 2) := by decide +kernel
theorem dX11_sequence_135 : decode cX11_sequence 135 = .ok (.iaload, 1) := by decide +kernel
theorem dX11_sequence_136 : decode cX11_sequence 136 = .ok (.if_icmp .le 25, 3) := by decide +kernel
theorem dX11_sequence_139 : decode cX11_sequence 139 = .ok (.aload_n 0, 1) := by decide +kernel
theorem dX11_sequence_140 : decode cX11_sequence 140 = .ok (.getfield 70, 3) := by decide +kernel
theorem dX11_sequence_143 : decode cX11_sequence 143 = .ok (.iload 9, 2) := by decide +kernel
theorem dX11_sequence_145 : decode cX11_sequence 145 = .ok (.aload_n 0, 1) := by decide +kernel
theorem dX11_sequence_146 : decode cX11_sequence 146 = .ok (.getfield 70, 3) := by decide +kernel
theorem dX11_sequence_149 : decode cX11_sequence 149 = .ok (.iload 7, 2) := by decide +kernel
theorem dX11_sequence_151 : decode cX11_sequence 151 = .ok (.iaload, 1) := by decide +kernel
theorem dX11_sequence_152 : decode cX11_sequence 152 = .ok (.aload_n 0, 1) := by decide +kernel
theorem dX11_sequence_153 : decode cX11_sequence 153 = .ok (.getfield 58, 3) := by decide +kernel
theorem dX11_sequence_156 : decode cX11_sequence 156 = .ok (.iload 8, 2) := by decide +kernel
theorem dX11_sequence_158 : decode cX11_sequence 158 = .ok (.iaload, 1) := by decide +kernel
theorem dX11_sequence_159 : decode cX11_sequence 159 = .ok (.iadd, 1) := by decide +kernel
theorem dX11_sequence_160 : decode cX11_sequence 160 = .ok (.iastore, 1) := by decide +kernel
theorem dX11_sequence_161 : decode cX11_sequence 161 = .ok (.iinc 8 1, 3) := by decide +kernel
theorem dX11_sequence_164 : decode cX11_sequence 164 = .ok (.goto (-76), 3) := by decide +kernel
theorem dX11_sequence_167 : decode cX11_sequence 167 = .ok (.iinc 7 1, 3) := by decide +kernel
theorem dX11_sequence_170 : decode cX11_sequence 170 = .ok (.goto (-132), 3) := by decide +kernel
theorem dX11_sequence_173 : decode cX11_sequence 173 = .ok (.sipush 9300, 3) := by decide +kernel
theorem dX11_sequence_176 : decode cX11_sequence 176 = .ok (.istore 7, 2) := by decide +kernel
theorem dX11_sequence_178 : decode cX11_sequence 178 = .ok (.iload 7, 2) := by decide +kernel
theorem dX11_sequence_180 : decode cX11_sequence 180 = .ok (.iload_n 2, 1) := by decide +kernel
theorem dX11_sequence_181 : decode cX11_sequence 181 = .ok (.if_icmp .lt 82, 3) := by decide +kernel
theorem dX11_sequence_184 : decode cX11_sequence 184 = .ok (.aload_n 0, 1) := by decide +kernel
theorem dX11_sequence_185 : decode cX11_sequence 185 = .ok (.getfield 73, 3) := by decide +kernel
theorem dX11_sequence_188 : decode cX11_sequence 188 = .ok (.iload 7, 2) := by decide +kernel
theorem dX11_sequence_190 : decode cX11_sequence 190 = .ok (.aload_n 0, 1) := by decide +kernel
theorem dX11_sequence_191 : decode cX11_sequence 191 = .ok (.getfield 70, 3) := by decide +kernel
theorem dX11_sequence_194 : decode cX11_sequence 194 = .ok (.iload 7, 2) := by decide +kernel
theorem dX11_sequence_196 : decode cX11_sequence 196 = .ok (.iaload, 1) := by decide +kernel
theorem dX11_sequence_197 : decode cX11_sequence 197 = .ok (.iload 6, 2) := by decide +kernel
theorem dX11_sequence_199 : decode cX11_sequence 199 = .ok (.if_icmp .ne 7, 3) := by decide +kernel
theorem dX11_sequence_202 : decode cX11_sequence 202 = .ok (.iconst 1, 1) := by decide +kernel
theorem dX11_sequence_203 : decode cX11_sequence 203 = .ok (.goto 4, 3) := by decide +kernel
theorem dX11_sequence_206 : decode cX11_sequence 206 = .ok (.iconst 0, 1) := by decide +kernel
theorem dX11_sequence_207 : decode cX11_sequence 207 = .ok (.bastore, 1) := by decide +kernel
theorem dX11_sequence_208 : decode cX11_sequence 208 = .ok (.iconst 0, 1) := by decide +kernel
theorem dX11_sequence_209 : decode cX11_sequence 209 = .ok (.istore 8, 2) := by decide +kernel
theorem dX11_sequence_211 : decode cX11_sequence 211 = .ok (.iload 8, 2) := by decide +kernel
theorem dX11_sequence_213 : decode cX11_sequence 213 = .ok (.bipush 6, 2) := by decide +kernel
theorem dX11_sequence_215 : decode cX11_sequence 215 = .ok (.if_icmp .ge 42, 3) := by decide +kernel
theorem dX11_sequence_218 : decode cX11_sequence 218 = .ok (.aload_n 0, 1) := by decide +kernel
theorem dX11_sequence_219 : decode cX11_sequence 219 = .ok (.getfield 70, 3) := by decide +kernel
theorem dX11_sequence_222 : decode cX11_sequence 222 = .ok (.iload 7, 2) := by decide +kernel
theorem dX11_sequence_224 : decode cX11_sequence 224 = .ok (.iaload, 1) := by decide +kernel
theorem dX11_sequence_225 : decode cX11_sequence 225 = .ok (.ifCond .lt 32, 3) := by decide +kernel
theorem dX11_sequence_228 : decode cX11_sequence 228 = .ok (.aload_n 0, 1) := by decide +kernel
theorem dX11_sequence_229 : decode cX11_sequence 229 = .ok (.iload_n 1, 1) := by decide +kernel
theorem dX11_sequence_230 : decode cX11_sequence 230 = .ok (.iload 7, 2) := by decide +kernel
theorem dX11_sequence_232 : decode cX11_sequence 232 = .ok (.iload 8, 2) := by decide +kernel
theorem dX11_sequence_234 : decode cX11_sequence 234 = .ok (.iload_n 3, 1) := by decide +kernel
theorem dX11_sequence_235 : decode cX11_sequence 235 = .ok (.iload 4, 2) := by decide +kernel
theorem dX11_sequence_237 : decode cX11_sequence 237 = .ok (.invokevirtual 140, 3) := by decide +kernel
theorem dX11_sequence_240 : decode cX11_sequence 240 = .ok (.ifCond .eq 11, 3) := by decide +kernel
theorem dX11_sequence_243 : decode cX11_sequence 243 = .ok (.aload_n 0, 1) := by decide +kernel
theorem dX11_sequence_244 : decode cX11_sequence 244 = .ok (.getfield 73, 3) := by decide +kernel
theorem dX11_sequence_247 : decode cX11_sequence 247 = .ok (.iload 7, 2) := by decide +kernel
theorem dX11_sequence_249 : decode cX11_sequence 249 = .ok (.iconst 1, 1) := by decide +kernel
theorem dX11_sequence_250 : decode cX11_sequence 250 = .ok (.bastore, 1) := by decide +kernel
theorem dX11_sequence_251 : decode cX11_sequence 251 = .ok (.iinc 8 1, 3) := by decide +kernel
theorem dX11_sequence_254 : decode cX11_sequence 254 = .ok (.goto (-43), 3) := by decide +kernel
theorem dX11_sequence_257 : decode cX11_sequence 257 = .ok (.iinc 7 (-1), 3) := by decide +kernel
theorem dX11_sequence_260 : decode cX11_sequence 260 = .ok (.goto (-82), 3) := by decide +kernel
theorem dX11_sequence_263 : decode cX11_sequence 263 = .ok (.iconst 0, 1) := by decide +kernel
theorem dX11_sequence_264 : decode cX11_sequence 264 = .ok (.istore 7, 2) := by decide +kernel
theorem dX11_sequence_266 : decode cX11_sequence 266 = .ok (.iload_n 2, 1) := by decide +kernel
theorem dX11_sequence_267 : decode cX11_sequence 267 = .ok (.istore 8, 2) := by decide +kernel
theorem dX11_sequence_269 : decode cX11_sequence 269 = .ok (.aload_n 0, 1) := by decide +kernel
theorem dX11_sequence_270 : decode cX11_sequence 270 = .ok (.getfield 70, 3) := by decide +kernel
theorem dX11_sequence_273 : decode cX11_sequence 273 = .ok (.iload 8, 2) := by decide +kernel
theorem dX11_sequence_275 : decode cX11_sequence 275 = .ok (.iaload, 1) := by decide +kernel
theorem dX11_sequence_276 : decode cX11_sequence 276 = .ok (.iload 6, 2) := by decide +kernel
theorem dX11_sequence_278 : decode cX11_sequence 278 = .ok (.if_icmp .ge 54, 3) := by decide +kernel
theorem dX11_sequence_281 : decode cX11_sequence 281 = .ok (.iconst 0, 1) := by decide +kernel
theorem dX11_sequence_282 : decode cX11_sequence 282 = .ok (.istore 9, 2) := by decide +kernel
theorem dX11_sequence_284 : decode cX11_sequence 284 = .ok (.aload_n 0, 1) := by decide +kernel
theorem dX11_sequence_285 : decode cX11_sequence 285 = .ok (.iload_n 1, 1) := by decide +kernel
theorem dX11_sequence_286 : decode cX11_sequence 286 = .ok (.iload 8, 2) := by decide +kernel
theorem dX11_sequence_288 : decode cX11_sequence 288 = .ok (.iload 9, 2) := by decide +kernel
theorem dX11_sequence_290 : decode cX11_sequence 290 = .ok (.iload_n 3, 1) := by decide +kernel
theorem dX11_sequence_291 : decode cX11_sequence 291 = .ok (.iload 4, 2) := by decide +kernel
theorem dX11_sequence_293 : decode cX11_sequence 293 = .ok (.invokevirtual 140, 3) := by decide +kernel
theorem dX11_sequence_296 : decode cX11_sequence 296 = .ok (.ifCond .ne 9, 3) := by decide +kernel
theorem dX11_sequence_299 : decode cX11_sequence 299 = .ok (.iinc 9 1, 3) := by decide +kernel
theorem dX11_sequence_302 : decode cX11_sequence 302 = .ok (.goto (-18), 3) := by decide +kernel
theorem dX11_sequence_305 : decode cX11_sequence 305 = .ok (.aload 5, 2) := by decide +kernel
theorem dX11_sequence_307 : decode cX11_sequence 307 = .ok (.iload 7, 2) := by decide +kernel
theorem dX11_sequence_309 : decode cX11_sequence 309 = .ok (.iload 9, 2) := by decide +kernel
theorem dX11_sequence_311 : decode cX11_sequence 311 = .ok (.iastore, 1) := by decide +kernel
theorem dX11_sequence_312 : decode cX11_sequence 312 = .ok (.iinc 7 1, 3) := by decide +kernel
theorem dX11_sequence_315 : decode cX11_sequence 315 = .ok (.aload_n 0, 1) := by decide +kernel
theorem dX11_sequence_316 : decode cX11_sequence 316 = .ok (.iload_n 1, 1) := by decide +kernel
theorem dX11_sequence_317 : decode cX11_sequence 317 = .ok (.iload 8, 2) := by decide +kernel
theorem dX11_sequence_319 : decode cX11_sequence 319 = .ok (.iload 9, 2) := by decide +kernel
theorem dX11_sequence_321 : decode cX11_sequence 321 = .ok (.iload_n 3, 1) := by decide +kernel
theorem dX11_sequence_322 : decode cX11_sequence 322 = .ok (.iload 4, 2) := by decide +kernel
theorem dX11_sequence_324 : decode cX11_sequence 324 = .ok (.invokevirtual 136, 3) := by decide +kernel
theorem dX11_sequence_327 : decode cX11_sequence 327 = .ok (.istore 8, 2) := by decide +kernel
theorem dX11_sequence_329 : decode cX11_sequence 329 = .ok (.goto (-60), 3) := by decide +kernel
theorem dX11_sequence_332 : decode cX11_sequence 332 = .ok (.aload 5, 2) := by decide +kernel
theorem dX11_sequence_334 : decode cX11_sequence 334 = .ok (.iload 7, 2) := by decide +kernel
theorem dX11_sequence_336 : decode cX11_sequence 336 = .ok (.iconst (-1), 1) := by decide +kernel
theorem dX11_sequence_337 : decode cX11_sequence 337 = .ok (.iastore, 1) := by decide +kernel
theorem dX11_sequence_338 : decode cX11_sequence 338 = .ok (.iload 6, 2) := by decide +kernel
theorem dX11_sequence_340 : decode cX11_sequence 340 = .ok (.ireturn, 1) := by decide +kernel
theorem dX11_isBest_0 : decode cX11_isBest 0 = .ok (.aload_n 0, 1) := by decide +kernel
theorem dX11_isBest_1 : decode cX11_isBest 1 = .ok (.iload_n 1, 1) := by decide +kernel
theorem dX11_isBest_2 : decode cX11_isBest 2 = .ok (.iload_n 2, 1) := by decide +kernel
theorem dX11_isBest_3 : decode cX11_isBest 3 = .ok (.iload_n 3, 1) := by decide +kernel
theorem dX11_isBest_4 : decode cX11_isBest 4 = .ok (.iload 4, 2) := by decide +kernel
theorem dX11_isBest_6 : decode cX11_isBest 6 = .ok (.iload 5, 2) := by decide +kernel
theorem dX11_isBest_8 : decode cX11_isBest 8 = .ok (.invokevirtual 136, 3) := by decide +kernel
theorem dX11_isBest_11 : decode cX11_isBest 11 = .ok (.istore 6, 2) := by decide +kernel
theorem dX11_isBest_13 : decode cX11_isBest 13 = .ok (.iload 6, 2) := by decide +kernel
theorem dX11_isBest_15 : decode cX11_isBest 15 = .ok (.ifCond .lt 40, 3) := by decide +kernel
theorem dX11_isBest_18 : decode cX11_isBest 18 = .ok (.aload_n 0, 1) := by decide +kernel
theorem dX11_isBest_19 : decode cX11_isBest 19 = .ok (.getfield 73, 3) := by decide +kernel
theorem dX11_isBest_22 : decode cX11_isBest 22 = .ok (.iload 6, 2) := by decide +kernel
theorem dX11_isBest_24 : decode cX11_isBest 24 = .ok (.baload, 1) := by decide +kernel
theorem dX11_isBest_25 : decode cX11_isBest 25 = .ok (.ifCond .eq 30, 3) := by decide +kernel
theorem dX11_isBest_28 : decode cX11_isBest 28 = .ok (.aload_n 0, 1) := by decide +kernel
theorem dX11_isBest_29 : decode cX11_isBest 29 = .ok (.getfield 70, 3) := by decide +kernel
theorem dX11_isBest_32 : decode cX11_isBest 32 = .ok (.iload 6, 2) := by decide +kernel
theorem dX11_isBest_34 : decode cX11_isBest 34 = .ok (.iaload, 1) := by decide +kernel
theorem dX11_isBest_35 : decode cX11_isBest 35 = .ok (.aload_n 0, 1) := by decide +kernel
theorem dX11_isBest_36 : decode cX11_isBest 36 = .ok (.getfield 70, 3) := by decide +kernel
theorem dX11_isBest_39 : decode cX11_isBest 39 = .ok (.iload_n 2, 1) := by decide +kernel
theorem dX11_isBest_40 : decode cX11_isBest 40 = .ok (.iaload, 1) := by decide +kernel
theorem dX11_isBest_41 : decode cX11_isBest 41 = .ok (.aload_n 0, 1) := by decide +kernel
theorem dX11_isBest_42 : decode cX11_isBest 42 = .ok (.getfield 58, 3) := by decide +kernel
theorem dX11_isBest_45 : decode cX11_isBest 45 = .ok (.iload_n 3, 1) := by decide +kernel
theorem dX11_isBest_46 : decode cX11_isBest 46 = .ok (.iaload, 1) := by decide +kernel
theorem dX11_isBest_47 : decode cX11_isBest 47 = .ok (.iadd, 1) := by decide +kernel
theorem dX11_isBest_48 : decode cX11_isBest 48 = .ok (.if_icmp .ne 7, 3) := by decide +kernel
theorem dX11_isBest_51 : decode cX11_isBest 51 = .ok (.iconst 1, 1) := by decide +kernel
theorem dX11_isBest_52 : decode cX11_isBest 52 = .ok (.goto 4, 3) := by decide +kernel
theorem dX11_isBest_55 : decode cX11_isBest 55 = .ok (.iconst 0, 1) := by decide +kernel
theorem dX11_isBest_56 : decode cX11_isBest 56 = .ok (.ireturn, 1) := by decide +kernel
theorem dX11_saw_0 : decode cX11_saw 0 = .ok (.aload_n 0, 1) := by decide +kernel
theorem dX11_saw_1 : decode cX11_saw 1 = .ok (.iload_n 1, 1) := by decide +kernel
theorem dX11_saw_2 : decode cX11_saw 2 = .ok (.iconst 0, 1) := by decide +kernel
theorem dX11_saw_3 : decode cX11_saw 3 = .ok (.aload_n 0, 1) := by decide +kernel
theorem dX11_saw_4 : decode cX11_saw 4 = .ok (.getfield 102, 3) := by decide +kernel
theorem dX11_saw_7 : decode cX11_saw 7 = .ok (.iconst 1, 1) := by decide +kernel
theorem dX11_saw_8 : decode cX11_saw 8 = .ok (.isub, 1) := by decide +kernel
theorem dX11_saw_9 : decode cX11_saw 9 = .ok (.invokestatic 87, 3) := by decide +kernel
theorem dX11_saw_12 : decode cX11_saw 12 = .ok (.ifCond .eq 7, 3) := by decide +kernel
theorem dX11_saw_15 : decode cX11_saw 15 = .ok (.iconst 0, 1) := by decide +kernel
theorem dX11_saw_16 : decode cX11_saw 16 = .ok (.goto 4, 3) := by decide +kernel
theorem dX11_saw_19 : decode cX11_saw 19 = .ok (.iconst 1, 1) := by decide +kernel
theorem dX11_saw_20 : decode cX11_saw 20 = .ok (.putfield 84, 3) := by decide +kernel
theorem dX11_saw_23 : decode cX11_saw 23 = .ok (.aload_n 0, 1) := by decide +kernel
theorem dX11_saw_24 : decode cX11_saw 24 = .ok (.getfield 84, 3) := by decide +kernel
theorem dX11_saw_27 : decode cX11_saw 27 = .ok (.iconst 1, 1) := by decide +kernel
theorem dX11_saw_28 : decode cX11_saw 28 = .ok (.if_icmp .ne 5, 3) := by decide +kernel
theorem dX11_saw_31 : decode cX11_saw 31 = .ok (.iconst 0, 1) := by decide +kernel
theorem dX11_saw_32 : decode cX11_saw 32 = .ok (.ireturn, 1) := by decide +kernel
theorem dX11_saw_33 : decode cX11_saw 33 = .ok (.aload_n 0, 1) := by decide +kernel
theorem dX11_saw_34 : decode cX11_saw 34 = .ok (.aload_n 0, 1) := by decide +kernel
theorem dX11_saw_35 : decode cX11_saw 35 = .ok (.getfield 31, 3) := by decide +kernel
theorem dX11_saw_38 : decode cX11_saw 38 = .ok (.bipush 6, 2) := by decide +kernel
theorem dX11_saw_40 : decode cX11_saw 40 = .ok (.iload_n 1, 1) := by decide +kernel
theorem dX11_saw_41 : decode cX11_saw 41 = .ok (.imul, 1) := by decide +kernel
theorem dX11_saw_42 : decode cX11_saw 42 = .ok (.iconst 4, 1) := by decide +kernel
theorem dX11_saw_43 : decode cX11_saw 43 = .ok (.iadd, 1) := by decide +kernel
theorem dX11_saw_44 : decode cX11_saw 44 = .ok (.iaload, 1) := by decide +kernel
theorem dX11_saw_45 : decode cX11_saw 45 = .ok (.invokevirtual 144, 3) := by decide +kernel
theorem dX11_saw_48 : decode cX11_saw 48 = .ok (.bipush 10, 2) := by decide +kernel
theorem dX11_saw_50 : decode cX11_saw 50 = .ok (.aload_n 0, 1) := by decide +kernel
theorem dX11_saw_51 : decode cX11_saw 51 = .ok (.getfield 31, 3) := by decide +kernel
theorem dX11_saw_54 : decode cX11_saw 54 = .ok (.bipush 6, 2) := by decide +kernel
theorem dX11_saw_56 : decode cX11_saw 56 = .ok (.iload_n 1, 1) := by decide +kernel
theorem dX11_saw_57 : decode cX11_saw 57 = .ok (.imul, 1) := by decide +kernel
theorem dX11_saw_58 : decode cX11_saw 58 = .ok (.iconst 2, 1) := by decide +kernel
theorem dX11_saw_59 : decode cX11_saw 59 = .ok (.iadd, 1) := by decide +kernel
theorem dX11_saw_60 : decode cX11_saw 60 = .ok (.iaload, 1) := by decide +kernel
theorem dX11_saw_61 : decode cX11_saw 61 = .ok (.imul, 1) := by decide +kernel
theorem dX11_saw_62 : decode cX11_saw 62 = .ok (.istore_n 2, 1) := by decide +kernel
theorem dX11_saw_63 : decode cX11_saw 63 = .ok (.iconst (-1), 1) := by decide +kernel
theorem dX11_saw_64 : decode cX11_saw 64 = .ok (.istore_n 3, 1) := by decide +kernel
theorem dX11_saw_65 : decode cX11_saw 65 = .ok (.iconst 4, 1) := by decide +kernel
theorem dX11_saw_66 : decode cX11_saw 66 = .ok (.istore 4, 2) := by decide +kernel
theorem dX11_saw_68 : decode cX11_saw 68 = .ok (.iconst 0, 1) := by decide +kernel
theorem dX11_saw_69 : decode cX11_saw 69 = .ok (.istore 5, 2) := by decide +kernel
theorem dX11_saw_71 : decode cX11_saw 71 = .ok (.iload 5, 2) := by decide +kernel
theorem dX11_saw_73 : decode cX11_saw 73 = .ok (.iconst 5, 1) := by decide +kernel
theorem dX11_saw_74 : decode cX11_saw 74 = .ok (.if_icmp .ge 238, 3) := by decide +kernel
theorem dX11_saw_77 : decode cX11_saw 77 = .ok (.iload 5, 2) := by decide +kernel
theorem dX11_saw_79 : decode cX11_saw 79 = .ok (.iconst 4, 1) := by decide +kernel
theorem dX11_saw_80 : decode cX11_saw 80 = .ok (.if_icmp .ge 27, 3) := by decide +kernel
theorem dX11_saw_83 : decode cX11_saw 83 = .ok (.aload_n 0, 1) := by decide +kernel
theorem dX11_saw_84 : decode cX11_saw 84 = .ok (.getfield 46, 3) := by decide +kernel
theorem dX11_saw_87 : decode cX11_saw 87 = .ok (.iload 5, 2) := by decide +kernel
theorem dX11_saw_89 : decode cX11_saw 89 = .ok (.iaload, 1) := by decide +kernel
theorem dX11_saw_90 : decode cX11_saw 90 = .ok (.ifCond .eq 216, 3) := by decide +kernel
theorem dX11_saw_93 : decode cX11_saw 93 = .ok (.aload_n 0, 1) := by decide +kernel
theorem dX11_saw_94 : decode cX11_saw 94 = .ok (.getfield 46, 3) := by decide +kernel
theorem dX11_saw_97 : decode cX11_saw 97 = .ok (.iload 5, 2) := by decide +kernel
theorem dX11_saw_99 : decode cX11_saw 99 = .ok (.iaload, 1) := by decide +kernel
theorem dX11_saw_100 : decode cX11_saw 100 = .ok (.iload_n 2, 1) := by decide +kernel
theorem dX11_saw_101 : decode cX11_saw 101 = .ok (.if_icmp .le 6, 3) := by decide +kernel
theorem dX11_saw_104 : decode cX11_saw 104 = .ok (.goto 202, 3) := by decide +kernel
theorem dX11_saw_107 : decode cX11_saw 107 = .ok (.iload 5, 2) := by decide +kernel
theorem dX11_saw_109 : decode cX11_saw 109 = .ok (.iconst 4, 1) := by decide +kernel
theorem dX11_saw_110 : decode cX11_saw 110 = .ok (.if_icmp .ge 24, 3) := by decide +kernel
theorem dX11_saw_113 : decode cX11_saw 113 = .ok (.aload_n 0, 1) := by decide +kernel
theorem dX11_saw_114 : decode cX11_saw 114 = .ok (.iconst 1, 1) := by decide +kernel
theorem dX11_saw_115 : decode cX11_saw 115 = .ok (.iconst 0, 1) := by decide +kernel
theorem dX11_saw_116 : decode cX11_saw 116 = .ok (.aload_n 0, 1) := by decide +kernel
theorem dX11_saw_117 : decode cX11_saw 117 = .ok (.getfield 46, 3) := by decide +kernel
theorem dX11_saw_120 : decode cX11_saw 120 = .ok (.iload 5, 2) := by decide +kernel
theorem dX11_saw_122 : decode cX11_saw 122 = .ok (.iaload, 1) := by decide +kernel
theorem dX11_saw_123 : decode cX11_saw 123 = .ok (.iload_n 2, 1) := by decide +kernel
theorem dX11_saw_124 : decode cX11_saw 124 = .ok (.aload_n 0, 1) := by decide +kernel
theorem dX11_saw_125 : decode cX11_saw 125 = .ok (.getfield 61, 3) := by decide +kernel
theorem dX11_saw_128 : decode cX11_saw 128 = .ok (.invokevirtual 148, 3) := by decide +kernel
theorem dX11_saw_131 : decode cX11_saw 131 = .ok (.goto 4, 3) := by decide +kernel
theorem dX11_saw_134 : decode cX11_saw 134 = .ok (.iconst 0, 1) := by decide +kernel
theorem dX11_saw_135 : decode cX11_saw 135 = .ok (.istore 6, 2) := by decide +kernel
theorem dX11_saw_137 : decode cX11_saw 137 = .ok (.iload 5, 2) := by decide +kernel
theorem dX11_saw_139 : decode cX11_saw 139 = .ok (.iconst 4, 1) := by decide +kernel
theorem dX11_saw_140 : decode cX11_saw 140 = .ok (.if_icmp .ge 11, 3) := by decide +kernel
theorem dX11_saw_143 : decode cX11_saw 143 = .ok (.iload 6, 2) := by decide +kernel
theorem dX11_saw_145 : decode cX11_saw 145 = .ok (.ifCond .ne 6, 3) := by decide +kernel
theorem dX11_saw_148 : decode cX11_saw 148 = .ok (.goto 158, 3) := by decide +kernel
theorem dX11_saw_151 : decode cX11_saw 151 = .ok (.iload 6, 2) := by decide +kernel
theorem dX11_saw_153 : decode cX11_saw 153 = .ok (.iload 5, 2) := by decide +kernel
theorem dX11_saw_155 : decode cX11_saw 155 = .ok (.iconst 4, 1) := by decide +kernel
theorem dX11_saw_156 : decode cX11_saw 156 = .ok (.if_icmp .ge 7, 3) := by decide +kernel
theorem dX11_saw_159 : decode cX11_saw 159 = .ok (.iconst 2, 1) := by decide +kernel
theorem dX11_saw_160 : decode cX11_saw 160 = .ok (.goto 4, 3) := by decide +kernel
theorem dX11_saw_163 : decode cX11_saw 163 = .ok (.iconst 1, 1) := by decide +kernel
theorem dX11_saw_164 : decode cX11_saw 164 = .ok (.aload_n 0, 1) := by decide +kernel
theorem dX11_saw_165 : decode cX11_saw 165 = .ok (.iconst 0, 1) := by decide +kernel
theorem dX11_saw_166 : decode cX11_saw 166 = .ok (.iload 5, 2) := by decide +kernel
theorem dX11_saw_168 : decode cX11_saw 168 = .ok (.iconst 4, 1) := by decide +kernel
theorem dX11_saw_169 : decode cX11_saw 169 = .ok (.if_icmp .ge 13, 3) := by decide +kernel
theorem dX11_saw_172 : decode cX11_saw 172 = .ok (.aload_n 0, 1) := by decide +kernel
theorem dX11_saw_173 : decode cX11_saw 173 = .ok (.getfield 46, 3) := by decide +kernel
theorem dX11_saw_176 : decode cX11_saw 176 = .ok (.iload 5, 2) := by decide +kernel
theorem dX11_saw_178 : decode cX11_saw 178 = .ok (.iaload, 1) := by decide +kernel
theorem dX11_saw_179 : decode cX11_saw 179 = .ok (.goto 4, 3) := by decide +kernel
theorem dX11_saw_182 : decode cX11_saw 182 = .ok (.iconst 0, 1) := by decide +kernel
theorem dX11_saw_183 : decode cX11_saw 183 = .ok (.iconst 0, 1) := by decide +kernel
theorem dX11_saw_184 : decode cX11_saw 184 = .ok (.iload_n 2, 1) := by decide +kernel
theorem dX11_saw_185 : decode cX11_saw 185 = .ok (.aload_n 0, 1) := by decide +kernel
theorem dX11_saw_186 : decode cX11_saw 186 = .ok (.getfield 64, 3) := by decide +kernel
theorem dX11_saw_189 : decode cX11_saw 189 = .ok (.invokevirtual 148, 3) := by decide +kernel
theorem dX11_saw_192 : decode cX11_saw 192 = .ok (.imul, 1) := by decide +kernel
theorem dX11_saw_193 : decode cX11_saw 193 = .ok (.iadd, 1) := by decide +kernel
theorem dX11_saw_194 : decode cX11_saw 194 = .ok (.istore 7, 2) := by decide +kernel
theorem dX11_saw_196 : decode cX11_saw 196 = .ok (.iload 7, 2) := by decide +kernel
theorem dX11_saw_198 : decode cX11_saw 198 = .ok (.iload_n 3, 1) := by decide +kernel
theorem dX11_saw_199 : decode cX11_saw 199 = .ok (.if_icmp .lt 107, 3) := by decide +kernel
theorem dX11_saw_202 : decode cX11_saw 202 = .ok (.iload 7, 2) := by decide +kernel
theorem dX11_saw_204 : decode cX11_saw 204 = .ok (.iload_n 3, 1) := by decide +kernel
theorem dX11_saw_205 : decode cX11_saw 205 = .ok (.if_icmp .ne 35, 3) := by decide +kernel
theorem dX11_saw_208 : decode cX11_saw 208 = .ok (.iload 5, 2) := by decide +kernel
theorem dX11_saw_210 : decode cX11_saw 210 = .ok (.iconst 4, 1) := by decide +kernel
theorem dX11_saw_211 : decode cX11_saw 211 = .ok (.if_icmp .eq 95, 3) := by decide +kernel
theorem dX11_saw_214 : decode cX11_saw 214 = .ok (.iload 4, 2) := by decide +kernel
theorem dX11_saw_216 : decode cX11_saw 216 = .ok (.iconst 4, 1) := by decide +kernel
theorem dX11_saw_217 : decode cX11_saw 217 = .ok (.if_icmp .eq 89, 3) := by decide +kernel
theorem dX11_saw_220 : decode cX11_saw 220 = .ok (.aload_n 0, 1) := by decide +kernel
theorem dX11_saw_221 : decode cX11_saw 221 = .ok (.getfield 46, 3) := by decide +kernel
theorem dX11_saw_224 : decode cX11_saw 224 = .ok (.iload 5, 2) := by decide +kernel
theorem dX11_saw_226 : decode cX11_saw 226 = .ok (.iaload, 1) := by decide +kernel
theorem dX11_saw_227 : decode cX11_saw 227 = .ok (.aload_n 0, 1) := by decide +kernel
theorem dX11_saw_228 : decode cX11_saw 228 = .ok (.getfield 46, 3) := by decide +kernel
theorem dX11_saw_231 : decode cX11_saw 231 = .ok (.iload 4, 2) := by decide +kernel
theorem dX11_saw_233 : decode cX11_saw 233 = .ok (.iaload, 1) := by decide +kernel
theorem dX11_saw_234 : decode cX11_saw 234 = .ok (.if_icmp .lt 6, 3) := by decide +kernel
theorem dX11_saw_237 : decode cX11_saw 237 = .ok (.goto 69, 3) := by decide +kernel
theorem dX11_saw_240 : decode cX11_saw 240 = .ok (.iload 7, 2) := by decide +kernel
theorem dX11_saw_242 : decode cX11_saw 242 = .ok (.istore_n 3, 1) := by decide +kernel
theorem dX11_saw_243 : decode cX11_saw 243 = .ok (.iload 5, 2) := by decide +kernel
theorem dX11_saw_245 : decode cX11_saw 245 = .ok (.istore 4, 2) := by decide +kernel
theorem dX11_saw_247 : decode cX11_saw 247 = .ok (.iconst 0, 1) := by decide +kernel
theorem dX11_saw_248 : decode cX11_saw 248 = .ok (.istore 8, 2) := by decide +kernel
theorem dX11_saw_250 : decode cX11_saw 250 = .ok (.iload 8, 2) := by decide +kernel
theorem dX11_saw_252 : decode cX11_saw 252 = .ok (.sipush 300, 3) := by decide +kernel
theorem dX11_saw_255 : decode cX11_saw 255 = .ok (.if_icmp .ge 51, 3) := by decide +kernel
theorem dX11_saw_258 : decode cX11_saw 258 = .ok (.aload_n 0, 1) := by decide +kernel
theorem dX11_saw_259 : decode cX11_saw 259 = .ok (.getfield 67, 3) := by decide +kernel
theorem dX11_saw_262 : decode cX11_saw 262 = .ok (.iload 8, 2) := by decide +kernel
theorem dX11_saw_264 : decode cX11_saw 264 = .ok (.iload 5, 2) := by decide +kernel
theorem dX11_saw_266 : decode cX11_saw 266 = .ok (.iconst 4, 1) := by decide +kernel
theorem dX11_saw_267 : decode cX11_saw 267 = .ok (.if_icmp .ge 13, 3) := by decide +kernel
theorem dX11_saw_270 : decode cX11_saw 270 = .ok (.aload_n 0, 1) := by decide +kernel
theorem dX11_saw_271 : decode cX11_saw 271 = .ok (.getfield 61, 3) := by decide +kernel
theorem dX11_saw_274 : decode cX11_saw 274 = .ok (.iload 8, 2) := by decide +kernel
theorem dX11_saw_276 : decode cX11_saw 276 = .ok (.iaload, 1) := by decide +kernel
theorem dX11_saw_277 : decode cX11_saw 277 = .ok (.goto 4, 3) := by decide +kernel
theorem dX11_saw_280 : decode cX11_saw 280 = .ok (.iconst (-1), 1) := by decide +kernel
theorem dX11_saw_281 : decode cX11_saw 281 = .ok (.iastore, 1) := by decide +kernel
theorem dX11_saw_282 : decode cX11_saw 282 = .ok (.aload_n 0, 1) := by decide +kernel
theorem dX11_saw_283 : decode cX11_saw 283 = .ok (.getfield 67, 3) := by decide +kernel
theorem dX11_saw_286 : decode cX11_saw 286 = .ok (.sipush 300, 3) := by decide +kernel
theorem dX11_saw_289 : decode cX11_saw 289 = .ok (.iload 8, 2) := by decide +kernel
theorem dX11_saw_291 : decode cX11_saw 291 = .ok (.iadd, 1) := by decide +kernel
theorem dX11_saw_292 : decode cX11_saw 292 = .ok (.aload_n 0, 1) := by decide +kernel
theorem dX11_saw_293 : decode cX11_saw 293 = .ok (.getfield 64, 3) := by decide +kernel
theorem dX11_saw_296 : decode cX11_saw 296 = .ok (.iload 8, 2) := by decide +kernel
theorem dX11_saw_298 : decode cX11_saw 298 = .ok (.iaload, 1) := by decide +kernel
theorem dX11_saw_299 : decode cX11_saw 299 = .ok (.iastore, 1) := by decide +kernel
theorem dX11_saw_300 : decode cX11_saw 300 = .ok (.iinc 8 1, 3) := by decide +kernel
theorem dX11_saw_303 : decode cX11_saw 303 = .ok (.goto (-53), 3) := by decide +kernel
theorem dX11_saw_306 : decode cX11_saw 306 = .ok (.iinc 5 1, 3) := by decide +kernel
theorem dX11_saw_309 : decode cX11_saw 309 = .ok (.goto (-238), 3) := by decide +kernel
theorem dX11_saw_312 : decode cX11_saw 312 = .ok (.aload_n 0, 1) := by decide +kernel
theorem dX11_saw_313 : decode cX11_saw 313 = .ok (.iload 4, 2) := by decide +kernel
theorem dX11_saw_315 : decode cX11_saw 315 = .ok (.invokevirtual 152, 3) := by decide +kernel
theorem dX11_saw_318 : decode cX11_saw 318 = .ok (.iconst 0, 1) := by decide +kernel
theorem dX11_saw_319 : decode cX11_saw 319 = .ok (.istore 5, 2) := by decide +kernel
theorem dX11_saw_321 : decode cX11_saw 321 = .ok (.iload 5, 2) := by decide +kernel
theorem dX11_saw_323 : decode cX11_saw 323 = .ok (.aload_n 0, 1) := by decide +kernel
theorem dX11_saw_324 : decode cX11_saw 324 = .ok (.getfield 155, 3) := by decide +kernel
theorem dX11_saw_327 : decode cX11_saw 327 = .ok (.if_icmp .ge 41, 3) := by decide +kernel
theorem dX11_saw_330 : decode cX11_saw 330 = .ok (.aload_n 0, 1) := by decide +kernel
theorem dX11_saw_331 : decode cX11_saw 331 = .ok (.getfield 55, 3) := by decide +kernel
theorem dX11_saw_334 : decode cX11_saw 334 = .ok (.iconst 4, 1) := by decide +kernel
theorem dX11_saw_335 : decode cX11_saw 335 = .ok (.iload 5, 2) := by decide +kernel
theorem dX11_saw_337 : decode cX11_saw 337 = .ok (.imul, 1) := by decide +kernel
theorem dX11_saw_338 : decode cX11_saw 338 = .ok (.iaload, 1) := by decide +kernel
theorem dX11_saw_339 : decode cX11_saw 339 = .ok (.istore 6, 2) := by decide +kernel
theorem dX11_saw_341 : decode cX11_saw 341 = .ok (.aload_n 0, 1) := by decide +kernel
theorem dX11_saw_342 : decode cX11_saw 342 = .ok (.getfield 43, 3) := by decide +kernel
theorem dX11_saw_345 : decode cX11_saw 345 = .ok (.iload 6, 2) := by decide +kernel
theorem dX11_saw_347 : decode cX11_saw 347 = .ok (.iaload, 1) := by decide +kernel
theorem dX11_saw_348 : decode cX11_saw 348 = .ok (.ifCond .le 14, 3) := by decide +kernel
theorem dX11_saw_351 : decode cX11_saw 351 = .ok (.aload_n 0, 1) := by decide +kernel
theorem dX11_saw_352 : decode cX11_saw 352 = .ok (.getfield 43, 3) := by decide +kernel
theorem dX11_saw_355 : decode cX11_saw 355 = .ok (.iload 6, 2) := by decide +kernel
theorem dX11_saw_357 : decode cX11_saw 357 = .ok (.dup2, 1) := by decide +kernel
theorem dX11_saw_358 : decode cX11_saw 358 = .ok (.iaload, 1) := by decide +kernel
theorem dX11_saw_359 : decode cX11_saw 359 = .ok (.iconst 1, 1) := by decide +kernel
theorem dX11_saw_360 : decode cX11_saw 360 = .ok (.isub, 1) := by decide +kernel
theorem dX11_saw_361 : decode cX11_saw 361 = .ok (.iastore, 1) := by decide +kernel
theorem dX11_saw_362 : decode cX11_saw 362 = .ok (.iinc 5 1, 3) := by decide +kernel
theorem dX11_saw_365 : decode cX11_saw 365 = .ok (.goto (-44), 3) := by decide +kernel
theorem dX11_saw_368 : decode cX11_saw 368 = .ok (.iload_n 3, 1) := by decide +kernel
theorem dX11_saw_369 : decode cX11_saw 369 = .ok (.ireturn, 1) := by decide +kernel
theorem dX11_put_0 : decode cX11_put 0 = .ok (.iconst 4, 1) := by decide +kernel
theorem dX11_put_1 : decode cX11_put 1 = .ok (.aload_n 0, 1) := by decide +kernel
theorem dX11_put_2 : decode cX11_put 2 = .ok (.getfield 155, 3) := by decide +kernel
theorem dX11_put_5 : decode cX11_put 5 = .ok (.imul, 1) := by decide +kernel
theorem dX11_put_6 : decode cX11_put 6 = .ok (.istore 4, 2) := by decide +kernel
theorem dX11_put_8 : decode cX11_put 8 = .ok (.aload_n 0, 1) := by decide +kernel
theorem dX11_put_9 : decode cX11_put 9 = .ok (.getfield 55, 3) := by decide +kernel
theorem dX11_put_12 : decode cX11_put 12 = .ok (.iload 4, 2) := by decide +kernel
theorem dX11_put_14 : decode cX11_put 14 = .ok (.iload_n 1, 1) := by decide +kernel
theorem dX11_put_15 : decode cX11_put 15 = .ok (.iastore, 1) := by decide +kernel
theorem dX11_put_16 : decode cX11_put 16 = .ok (.aload_n 0, 1) := by decide +kernel
theorem dX11_put_17 : decode cX11_put 17 = .ok (.getfield 55, 3) := by decide +kernel
theorem dX11_put_20 : decode cX11_put 20 = .ok (.iload 4, 2) := by decide +kernel
theorem dX11_put_22 : decode cX11_put 22 = .ok (.iconst 1, 1) := by decide +kernel
theorem dX11_put_23 : decode cX11_put 23 = .ok (.iadd, 1) := by decide +kernel
theorem dX11_put_24 : decode cX11_put 24 = .ok (.iload_n 2, 1) := by decide +kernel
theorem dX11_put_25 : decode cX11_put 25 = .ok (.iastore, 1) := by decide +kernel
theorem dX11_put_26 : decode cX11_put 26 = .ok (.aload_n 0, 1) := by decide +kernel
theorem dX11_put_27 : decode cX11_put 27 = .ok (.getfield 55, 3) := by decide +kernel
theorem dX11_put_30 : decode cX11_put 30 = .ok (.iload 4, 2) := by decide +kernel
theorem dX11_put_32 : decode cX11_put 32 = .ok (.iconst 2, 1) := by decide +kernel
theorem dX11_put_33 : decode cX11_put 33 = .ok (.iadd, 1) := by decide +kernel
theorem dX11_put_34 : decode cX11_put 34 = .ok (.iload_n 3, 1) := by decide +kernel
theorem dX11_put_35 : decode cX11_put 35 = .ok (.iastore, 1) := by decide +kernel
theorem dX11_put_36 : decode cX11_put 36 = .ok (.aload_n 0, 1) := by decide +kernel
theorem dX11_put_37 : decode cX11_put 37 = .ok (.getfield 55, 3) := by decide +kernel
theorem dX11_put_40 : decode cX11_put 40 = .ok (.iload 4, 2) := by decide +kernel
theorem dX11_put_42 : decode cX11_put 42 = .ok (.iconst 3, 1) := by decide +kernel
theorem dX11_put_43 : decode cX11_put 43 = .ok (.iadd, 1) := by decide +kernel
theorem dX11_put_44 : decode cX11_put 44 = .ok (.aload_n 0, 1) := by decide +kernel
theorem dX11_put_45 : decode cX11_put 45 = .ok (.getfield 58, 3) := by decide +kernel
theorem dX11_put_48 : decode cX11_put 48 = .ok (.iload_n 1, 1) := by decide +kernel
theorem dX11_put_49 : decode cX11_put 49 = .ok (.iaload, 1) := by decide +kernel
theorem dX11_put_50 : decode cX11_put 50 = .ok (.iastore, 1) := by decide +kernel
theorem dX11_put_51 : decode cX11_put 51 = .ok (.aload_n 0, 1) := by decide +kernel
theorem dX11_put_52 : decode cX11_put 52 = .ok (.dup, 1) := by decide +kernel
theorem dX11_put_53 : decode cX11_put 53 = .ok (.getfield 155, 3) := by decide +kernel
theorem dX11_put_56 : decode cX11_put 56 = .ok (.iconst 1, 1) := by decide +kernel
theorem dX11_put_57 : decode cX11_put 57 = .ok (.iadd, 1) := by decide +kernel
theorem dX11_put_58 : decode cX11_put 58 = .ok (.putfield 155, 3) := by decide +kernel
theorem dX11_put_61 : decode cX11_put 61 = .ok (.return_, 1) := by decide +kernel
theorem dX11_lay_0 : decode cX11_lay 0 = .ok (.aload_n 0, 1) := by decide +kernel
theorem dX11_lay_1 : decode cX11_lay 1 = .ok (.iconst 0, 1) := by decide +kernel
theorem dX11_lay_2 : decode cX11_lay 2 = .ok (.putfield 155, 3) := by decide +kernel
theorem dX11_lay_5 : decode cX11_lay 5 = .ok (.aload_n 0, 1) := by decide +kernel
theorem dX11_lay_6 : decode cX11_lay 6 = .ok (.iload_n 1, 1) := by decide +kernel
theorem dX11_lay_7 : decode cX11_lay 7 = .ok (.iconst 4, 1) := by decide +kernel
theorem dX11_lay_8 : decode cX11_lay 8 = .ok (.if_icmp .ge 12, 3) := by decide +kernel
theorem dX11_lay_11 : decode cX11_lay 11 = .ok (.aload_n 0, 1) := by decide +kernel
theorem dX11_lay_12 : decode cX11_lay 12 = .ok (.getfield 46, 3) := by decide +kernel
theorem dX11_lay_15 : decode cX11_lay 15 = .ok (.iload_n 1, 1) := by decide +kernel
theorem dX11_lay_16 : decode cX11_lay 16 = .ok (.iaload, 1) := by decide +kernel
theorem dX11_lay_17 : decode cX11_lay 17 = .ok (.goto 4, 3) := by decide +kernel
theorem dX11_lay_20 : decode cX11_lay 20 = .ok (.iconst (-1), 1) := by decide +kernel
theorem dX11_lay_21 : decode cX11_lay 21 = .ok (.putfield 81, 3) := by decide +kernel
theorem dX11_lay_24 : decode cX11_lay 24 = .ok (.iconst 0, 1) := by decide +kernel
theorem dX11_lay_25 : decode cX11_lay 25 = .ok (.istore_n 2, 1) := by decide +kernel
theorem dX11_lay_26 : decode cX11_lay 26 = .ok (.iconst 0, 1) := by decide +kernel
theorem dX11_lay_27 : decode cX11_lay 27 = .ok (.istore_n 3, 1) := by decide +kernel
theorem dX11_lay_28 : decode cX11_lay 28 = .ok (.aload_n 0, 1) := by decide +kernel
theorem dX11_lay_29 : decode cX11_lay 29 = .ok (.getfield 67, 3) := by decide +kernel
theorem dX11_lay_32 : decode cX11_lay 32 = .ok (.iload_n 3, 1) := by decide +kernel
theorem dX11_lay_33 : decode cX11_lay 33 = .ok (.iaload, 1) := by decide +kernel
theorem dX11_lay_34 : decode cX11_lay 34 = .ok (.ifCond .lt 40, 3) := by decide +kernel
theorem dX11_lay_37 : decode cX11_lay 37 = .ok (.aload_n 0, 1) := by decide +kernel
theorem dX11_lay_38 : decode cX11_lay 38 = .ok (.aload_n 0, 1) := by decide +kernel
theorem dX11_lay_39 : decode cX11_lay 39 = .ok (.getfield 67, 3) := by decide +kernel
theorem dX11_lay_42 : decode cX11_lay 42 = .ok (.iload_n 3, 1) := by decide +kernel
theorem dX11_lay_43 : decode cX11_lay 43 = .ok (.iaload, 1) := by decide +kernel
theorem dX11_lay_44 : decode cX11_lay 44 = .ok (.iconst 0, 1) := by decide +kernel
theorem dX11_lay_45 : decode cX11_lay 45 = .ok (.iload_n 2, 1) := by decide +kernel
theorem dX11_lay_46 : decode cX11_lay 46 = .ok (.invokevirtual 158, 3) := by decide +kernel
theorem dX11_lay_49 : decode cX11_lay 49 = .ok (.iload_n 2, 1) := by decide +kernel
theorem dX11_lay_50 : decode cX11_lay 50 = .ok (.aload_n 0, 1) := by decide +kernel
theorem dX11_lay_51 : decode cX11_lay 51 = .ok (.getfield 34, 3) := by decide +kernel
theorem dX11_lay_54 : decode cX11_lay 54 = .ok (.aload_n 0, 1) := by decide +kernel
theorem dX11_lay_55 : decode cX11_lay 55 = .ok (.getfield 67, 3) := by decide +kernel
theorem dX11_lay_58 : decode cX11_lay 58 = .ok (.iload_n 3, 1) := by decide +kernel
theorem dX11_lay_59 : decode cX11_lay 59 = .ok (.iaload, 1) := by decide +kernel
theorem dX11_lay_60 : decode cX11_lay 60 = .ok (.iaload, 1) := by decide +kernel
theorem dX11_lay_61 : decode cX11_lay 61 = .ok (.aload_n 0, 1) := by decide +kernel
theorem dX11_lay_62 : decode cX11_lay 62 = .ok (.getfield 121, 3) := by decide +kernel
theorem dX11_lay_65 : decode cX11_lay 65 = .ok (.iadd, 1) := by decide +kernel
theorem dX11_lay_66 : decode cX11_lay 66 = .ok (.iadd, 1) := by decide +kernel
theorem dX11_lay_67 : decode cX11_lay 67 = .ok (.istore_n 2, 1) := by decide +kernel
theorem dX11_lay_68 : decode cX11_lay 68 = .ok (.iinc 3 1, 3) := by decide +kernel
theorem dX11_lay_71 : decode cX11_lay 71 = .ok (.goto (-43), 3) := by decide +kernel
theorem dX11_lay_74 : decode cX11_lay 74 = .ok (.iconst 1, 1) := by decide +kernel
theorem dX11_lay_75 : decode cX11_lay 75 = .ok (.istore_n 3, 1) := by decide +kernel
theorem dX11_lay_76 : decode cX11_lay 76 = .ok (.iload_n 3, 1) := by decide +kernel
theorem dX11_lay_77 : decode cX11_lay 77 = .ok (.iload_n 1, 1) := by decide +kernel
theorem dX11_lay_78 : decode cX11_lay 78 = .ok (.iconst 4, 1) := by decide +kernel
theorem dX11_lay_79 : decode cX11_lay 79 = .ok (.if_icmp .ge 7, 3) := by decide +kernel
theorem dX11_lay_82 : decode cX11_lay 82 = .ok (.iconst 3, 1) := by decide +kernel
theorem dX11_lay_83 : decode cX11_lay 83 = .ok (.goto 4, 3) := by decide +kernel
theorem dX11_lay_86 : decode cX11_lay 86 = .ok (.iconst 2, 1) := by decide +kernel
theorem dX11_lay_87 : decode cX11_lay 87 = .ok (.if_icmp .ge 96, 3) := by decide +kernel
theorem dX11_lay_90 : decode cX11_lay 90 = .ok (.iload_n 1, 1) := by decide +kernel
theorem dX11_lay_91 : decode cX11_lay 91 = .ok (.iconst 4, 1) := by decide +kernel
theorem dX11_lay_92 : decode cX11_lay 92 = .ok (.if_icmp .ge 12, 3) := by decide +kernel
theorem dX11_lay_95 : decode cX11_lay 95 = .ok (.aload_n 0, 1) := by decide +kernel
theorem dX11_lay_96 : decode cX11_lay 96 = .ok (.getfield 46, 3) := by decide +kernel
theorem dX11_lay_99 : decode cX11_lay 99 = .ok (.iload_n 1, 1) := by decide +kernel
theorem dX11_lay_100 : decode cX11_lay 100 = .ok (.iaload, 1) := by decide +kernel
theorem dX11_lay_101 : decode cX11_lay 101 = .ok (.goto 4, 3) := by decide +kernel
theorem dX11_lay_104 : decode cX11_lay 104 = .ok (.iconst 0, 1) := by decide +kernel
theorem dX11_lay_105 : decode cX11_lay 105 = .ok (.istore 4, 2) := by decide +kernel
theorem dX11_lay_107 : decode cX11_lay 107 = .ok (.sipush 300, 3) := by decide +kernel
theorem dX11_lay_110 : decode cX11_lay 110 = .ok (.istore 5, 2) := by decide +kernel
theorem dX11_lay_112 : decode cX11_lay 112 = .ok (.aload_n 0, 1) := by decide +kernel
theorem dX11_lay_113 : decode cX11_lay 113 = .ok (.getfield 67, 3) := by decide +kernel
theorem dX11_lay_116 : decode cX11_lay 116 = .ok (.iload 5, 2) := by decide +kernel
theorem dX11_lay_118 : decode cX11_lay 118 = .ok (.iaload, 1) := by decide +kernel
theorem dX11_lay_119 : decode cX11_lay 119 = .ok (.ifCond .lt 58, 3) := by decide +kernel
theorem dX11_lay_122 : decode cX11_lay 122 = .ok (.iload 4, 2) := by decide +kernel
theorem dX11_lay_124 : decode cX11_lay 124 = .ok (.iconst 2, 1) := by decide +kernel
theorem dX11_lay_125 : decode cX11_lay 125 = .ok (.aload_n 0, 1) := by decide +kernel
theorem dX11_lay_126 : decode cX11_lay 126 = .ok (.getfield 34, 3) := by decide +kernel
theorem dX11_lay_129 : decode cX11_lay 129 = .ok (.aload_n 0, 1) := by decide +kernel
theorem dX11_lay_130 : decode cX11_lay 130 = .ok (.getfield 67, 3) := by decide +kernel
theorem dX11_lay_133 : decode cX11_lay 133 = .ok (.iload 5, 2) := by decide +kernel
theorem dX11_lay_135 : decode cX11_lay 135 = .ok (.iaload, 1) := by decide +kernel
theorem dX11_lay_136 : decode cX11_lay 136 = .ok (.iaload, 1) := by decide +kernel
theorem dX11_lay_137 : decode cX11_lay 137 = .ok (.imul, 1) := by decide +kernel
theorem dX11_lay_138 : decode cX11_lay 138 = .ok (.iload 4, 2) := by decide +kernel
theorem dX11_lay_140 : decode cX11_lay 140 = .ok (.ifCond .ne 7, 3) := by decide +kernel
theorem dX11_lay_143 : decode cX11_lay 143 = .ok (.iconst 0, 1) := by decide +kernel
theorem dX11_lay_144 : decode cX11_lay 144 = .ok (.goto 9, 3) := by decide +kernel
theorem dX11_lay_147 : decode cX11_lay 147 = .ok (.iconst 2, 1) := by decide +kernel
theorem dX11_lay_148 : decode cX11_lay 148 = .ok (.aload_n 0, 1) := by decide +kernel
theorem dX11_lay_149 : decode cX11_lay 149 = .ok (.getfield 121, 3) := by decide +kernel
theorem dX11_lay_152 : decode cX11_lay 152 = .ok (.imul, 1) := by decide +kernel
theorem dX11_lay_153 : decode cX11_lay 153 = .ok (.iadd, 1) := by decide +kernel
theorem dX11_lay_154 : decode cX11_lay 154 = .ok (.iadd, 1) := by decide +kernel
theorem dX11_lay_155 : decode cX11_lay 155 = .ok (.istore 4, 2) := by decide +kernel
theorem dX11_lay_157 : decode cX11_lay 157 = .ok (.aload_n 0, 1) := by decide +kernel
theorem dX11_lay_158 : decode cX11_lay 158 = .ok (.aload_n 0, 1) := by decide +kernel
theorem dX11_lay_159 : decode cX11_lay 159 = .ok (.getfield 67, 3) := by decide +kernel
theorem dX11_lay_162 : decode cX11_lay 162 = .ok (.iload 5, 2) := by decide +kernel
theorem dX11_lay_164 : decode cX11_lay 164 = .ok (.iaload, 1) := by decide +kernel
theorem dX11_lay_165 : decode cX11_lay 165 = .ok (.iload_n 3, 1) := by decide +kernel
theorem dX11_lay_166 : decode cX11_lay 166 = .ok (.iload 4, 2) := by decide +kernel
theorem dX11_lay_168 : decode cX11_lay 168 = .ok (.invokevirtual 158, 3) := by decide +kernel
theorem dX11_lay_171 : decode cX11_lay 171 = .ok (.iinc 5 1, 3) := by decide +kernel
theorem dX11_lay_174 : decode cX11_lay 174 = .ok (.goto (-62), 3) := by decide +kernel
theorem dX11_lay_177 : decode cX11_lay 177 = .ok (.iinc 3 1, 3) := by decide +kernel
theorem dX11_lay_180 : decode cX11_lay 180 = .ok (.goto (-104), 3) := by decide +kernel
theorem dX11_lay_183 : decode cX11_lay 183 = .ok (.return_, 1) := by decide +kernel
theorem dX11_boards_0 : decode cX11_boards 0 = .ok (.aload_n 0, 1) := by decide +kernel
theorem dX11_boards_1 : decode cX11_boards 1 = .ok (.iconst 0, 1) := by decide +kernel
theorem dX11_boards_2 : decode cX11_boards 2 = .ok (.putfield 84, 3) := by decide +kernel
theorem dX11_boards_5 : decode cX11_boards 5 = .ok (.aload_n 0, 1) := by decide +kernel
theorem dX11_boards_6 : decode cX11_boards 6 = .ok (.getfield 155, 3) := by decide +kernel
theorem dX11_boards_9 : decode cX11_boards 9 = .ok (.ireturn, 1) := by decide +kernel
theorem dX11_board_0 : decode cX11_board 0 = .ok (.aload_n 0, 1) := by decide +kernel
theorem dX11_board_1 : decode cX11_board 1 = .ok (.iload_n 1, 1) := by decide +kernel
theorem dX11_board_2 : decode cX11_board 2 = .ok (.iconst 0, 1) := by decide +kernel
theorem dX11_board_3 : decode cX11_board 3 = .ok (.aload_n 0, 1) := by decide +kernel
theorem dX11_board_4 : decode cX11_board 4 = .ok (.getfield 155, 3) := by decide +kernel
theorem dX11_board_7 : decode cX11_board 7 = .ok (.iconst 1, 1) := by decide +kernel
theorem dX11_board_8 : decode cX11_board 8 = .ok (.isub, 1) := by decide +kernel
theorem dX11_board_9 : decode cX11_board 9 = .ok (.invokestatic 87, 3) := by decide +kernel
theorem dX11_board_12 : decode cX11_board 12 = .ok (.ifCond .eq 16, 3) := by decide +kernel
theorem dX11_board_15 : decode cX11_board 15 = .ok (.iload_n 2, 1) := by decide +kernel
theorem dX11_board_16 : decode cX11_board 16 = .ok (.iconst 0, 1) := by decide +kernel
theorem dX11_board_17 : decode cX11_board 17 = .ok (.iconst 3, 1) := by decide +kernel
theorem dX11_board_18 : decode cX11_board 18 = .ok (.invokestatic 87, 3) := by decide +kernel
theorem dX11_board_21 : decode cX11_board 21 = .ok (.ifCond .eq 7, 3) := by decide +kernel
theorem dX11_board_24 : decode cX11_board 24 = .ok (.iconst 0, 1) := by decide +kernel
theorem dX11_board_25 : decode cX11_board 25 = .ok (.goto 4, 3) := by decide +kernel
theorem dX11_board_28 : decode cX11_board 28 = .ok (.iconst 1, 1) := by decide +kernel
theorem dX11_board_29 : decode cX11_board 29 = .ok (.putfield 84, 3) := by decide +kernel
theorem dX11_board_32 : decode cX11_board 32 = .ok (.aload_n 0, 1) := by decide +kernel
theorem dX11_board_33 : decode cX11_board 33 = .ok (.getfield 84, 3) := by decide +kernel
theorem dX11_board_36 : decode cX11_board 36 = .ok (.iconst 1, 1) := by decide +kernel
theorem dX11_board_37 : decode cX11_board 37 = .ok (.if_icmp .ne 7, 3) := by decide +kernel
theorem dX11_board_40 : decode cX11_board 40 = .ok (.iconst 0, 1) := by decide +kernel
theorem dX11_board_41 : decode cX11_board 41 = .ok (.goto 13, 3) := by decide +kernel
theorem dX11_board_44 : decode cX11_board 44 = .ok (.aload_n 0, 1) := by decide +kernel
theorem dX11_board_45 : decode cX11_board 45 = .ok (.getfield 55, 3) := by decide +kernel
theorem dX11_board_48 : decode cX11_board 48 = .ok (.iconst 4, 1) := by decide +kernel
theorem dX11_board_49 : decode cX11_board 49 = .ok (.iload_n 1, 1) := by decide +kernel
theorem dX11_board_50 : decode cX11_board 50 = .ok (.imul, 1) := by decide +kernel
theorem dX11_board_51 : decode cX11_board 51 = .ok (.iload_n 2, 1) := by decide +kernel
theorem dX11_board_52 : decode cX11_board 52 = .ok (.iadd, 1) := by decide +kernel
theorem dX11_board_53 : decode cX11_board 53 = .ok (.iaload, 1) := by decide +kernel
theorem dX11_board_54 : decode cX11_board 54 = .ok (.ireturn, 1) := by decide +kernel
theorem dX11_cant_0 : decode cX11_cant 0 = .ok (.aload_n 0, 1) := by decide +kernel
theorem dX11_cant_1 : decode cX11_cant 1 = .ok (.iconst 0, 1) := by decide +kernel
theorem dX11_cant_2 : decode cX11_cant 2 = .ok (.putfield 84, 3) := by decide +kernel
theorem dX11_cant_5 : decode cX11_cant 5 = .ok (.aload_n 0, 1) := by decide +kernel
theorem dX11_cant_6 : decode cX11_cant 6 = .ok (.getfield 81, 3) := by decide +kernel
theorem dX11_cant_9 : decode cX11_cant 9 = .ok (.ireturn, 1) := by decide +kernel
theorem dX11_fits_0 : decode cX11_fits 0 = .ok (.aload_n 0, 1) := by decide +kernel
theorem dX11_fits_1 : decode cX11_fits 1 = .ok (.iconst 0, 1) := by decide +kernel
theorem dX11_fits_2 : decode cX11_fits 2 = .ok (.putfield 84, 3) := by decide +kernel
theorem dX11_fits_5 : decode cX11_fits 5 = .ok (.iload_n 1, 1) := by decide +kernel
theorem dX11_fits_6 : decode cX11_fits 6 = .ok (.iconst 0, 1) := by decide +kernel
theorem dX11_fits_7 : decode cX11_fits 7 = .ok (.iconst 5, 1) := by decide +kernel
theorem dX11_fits_8 : decode cX11_fits 8 = .ok (.invokestatic 87, 3) := by decide +kernel
theorem dX11_fits_11 : decode cX11_fits 11 = .ok (.ifCond .eq 35, 3) := by decide +kernel
theorem dX11_fits_14 : decode cX11_fits 14 = .ok (.aload_n 0, 1) := by decide +kernel
theorem dX11_fits_15 : decode cX11_fits 15 = .ok (.getfield 34, 3) := by decide +kernel
theorem dX11_fits_18 : decode cX11_fits 18 = .ok (.iload_n 1, 1) := by decide +kernel
theorem dX11_fits_19 : decode cX11_fits 19 = .ok (.iaload, 1) := by decide +kernel
theorem dX11_fits_20 : decode cX11_fits 20 = .ok (.ifCond .eq 26, 3) := by decide +kernel
theorem dX11_fits_23 : decode cX11_fits 23 = .ok (.iload_n 2, 1) := by decide +kernel
theorem dX11_fits_24 : decode cX11_fits 24 = .ok (.iconst 1, 1) := by decide +kernel
theorem dX11_fits_25 : decode cX11_fits 25 = .ok (.sipush 200, 3) := by decide +kernel
theorem dX11_fits_28 : decode cX11_fits 28 = .ok (.invokestatic 87, 3) := by decide +kernel
theorem dX11_fits_31 : decode cX11_fits 31 = .ok (.ifCond .eq 15, 3) := by decide +kernel
theorem dX11_fits_34 : decode cX11_fits 34 = .ok (.iload_n 3, 1) := by decide +kernel
theorem dX11_fits_35 : decode cX11_fits 35 = .ok (.bipush 50, 2) := by decide +kernel
theorem dX11_fits_37 : decode cX11_fits 37 = .ok (.sipush 900, 3) := by decide +kernel
theorem dX11_fits_40 : decode cX11_fits 40 = .ok (.invokestatic 87, 3) := by decide +kernel
theorem dX11_fits_43 : decode cX11_fits 43 = .ok (.ifCond .ne 5, 3) := by decide +kernel
theorem dX11_fits_46 : decode cX11_fits 46 = .ok (.iconst 0, 1) := by decide +kernel
theorem dX11_fits_47 : decode cX11_fits 47 = .ok (.ireturn, 1) := by decide +kernel
theorem dX11_fits_48 : decode cX11_fits 48 = .ok (.iload_n 2, 1) := by decide +kernel
theorem dX11_fits_49 : decode cX11_fits 49 = .ok (.i2l, 1) := by decide +kernel
theorem dX11_fits_50 : decode cX11_fits 50 = .ok (.aload_n 0, 1) := by decide +kernel
theorem dX11_fits_51 : decode cX11_fits 51 = .ok (.getfield 34, 3) := by decide +kernel
theorem dX11_fits_54 : decode cX11_fits 54 = .ok (.iload_n 1, 1) := by decide +kernel
theorem dX11_fits_55 : decode cX11_fits 55 = .ok (.iaload, 1) := by decide +kernel
theorem dX11_fits_56 : decode cX11_fits 56 = .ok (.i2l, 1) := by decide +kernel
theorem dX11_fits_57 : decode cX11_fits 57 = .ok (.lmul, 1) := by decide +kernel
theorem dX11_fits_58 : decode cX11_fits 58 = .ok (.iload_n 2, 1) := by decide +kernel
theorem dX11_fits_59 : decode cX11_fits 59 = .ok (.iconst 1, 1) := by decide +kernel
theorem dX11_fits_60 : decode cX11_fits 60 = .ok (.isub, 1) := by decide +kernel
theorem dX11_fits_61 : decode cX11_fits 61 = .ok (.i2l, 1) := by decide +kernel
theorem dX11_fits_62 : decode cX11_fits 62 = .ok (.aload_n 0, 1) := by decide +kernel
theorem dX11_fits_63 : decode cX11_fits 63 = .ok (.getfield 121, 3) := by decide +kernel
theorem dX11_fits_66 : decode cX11_fits 66 = .ok (.i2l, 1) := by decide +kernel
theorem dX11_fits_67 : decode cX11_fits 67 = .ok (.lmul, 1) := by decide +kernel
theorem dX11_fits_68 : decode cX11_fits 68 = .ok (.ladd, 1) := by decide +kernel
theorem dX11_fits_69 : decode cX11_fits 69 = .ok (.lstore 4, 2) := by decide +kernel
theorem dX11_fits_71 : decode cX11_fits 71 = .ok (.ldc2_w 162, 3) := by decide +kernel
theorem dX11_fits_74 : decode cX11_fits 74 = .ok (.iload_n 3, 1) := by decide +kernel
theorem dX11_fits_75 : decode cX11_fits 75 = .ok (.i2l, 1) := by decide +kernel
theorem dX11_fits_76 : decode cX11_fits 76 = .ok (.lmul, 1) := by decide +kernel
theorem dX11_fits_77 : decode cX11_fits 77 = .ok (.lstore 6, 2) := by decide +kernel
theorem dX11_fits_79 : decode cX11_fits 79 = .ok (.lload 4, 2) := by decide +kernel
theorem dX11_fits_81 : decode cX11_fits 81 = .ok (.lload 4, 2) := by decide +kernel
theorem dX11_fits_83 : decode cX11_fits 83 = .ok (.lmul, 1) := by decide +kernel
theorem dX11_fits_84 : decode cX11_fits 84 = .ok (.aload_n 0, 1) := by decide +kernel
theorem dX11_fits_85 : decode cX11_fits 85 = .ok (.getfield 37, 3) := by decide +kernel
theorem dX11_fits_88 : decode cX11_fits 88 = .ok (.iload_n 1, 1) := by decide +kernel
theorem dX11_fits_89 : decode cX11_fits 89 = .ok (.iaload, 1) := by decide +kernel
theorem dX11_fits_90 : decode cX11_fits 90 = .ok (.i2l, 1) := by decide +kernel
theorem dX11_fits_91 : decode cX11_fits 91 = .ok (.aload_n 0, 1) := by decide +kernel
theorem dX11_fits_92 : decode cX11_fits 92 = .ok (.getfield 37, 3) := by decide +kernel
theorem dX11_fits_95 : decode cX11_fits 95 = .ok (.iload_n 1, 1) := by decide +kernel
theorem dX11_fits_96 : decode cX11_fits 96 = .ok (.iaload, 1) := by decide +kernel
theorem dX11_fits_97 : decode cX11_fits 97 = .ok (.i2l, 1) := by decide +kernel
theorem dX11_fits_98 : decode cX11_fits 98 = .ok (.lmul, 1) := by decide +kernel
theorem dX11_fits_99 : decode cX11_fits 99 = .ok (.ladd, 1) := by decide +kernel
theorem dX11_fits_100 : decode cX11_fits 100 = .ok (.lload 6, 2) := by decide +kernel
theorem dX11_fits_102 : decode cX11_fits 102 = .ok (.lload 6, 2) := by decide +kernel
theorem dX11_fits_104 : decode cX11_fits 104 = .ok (.lmul, 1) := by decide +kernel
theorem dX11_fits_105 : decode cX11_fits 105 = .ok (.lcmp, 1) := by decide +kernel
theorem dX11_fits_106 : decode cX11_fits 106 = .ok (.ifCond .gt 7, 3) := by decide +kernel
theorem dX11_fits_109 : decode cX11_fits 109 = .ok (.iconst 1, 1) := by decide +kernel
theorem dX11_fits_110 : decode cX11_fits 110 = .ok (.goto 4, 3) := by decide +kernel
theorem dX11_fits_113 : decode cX11_fits 113 = .ok (.iconst 0, 1) := by decide +kernel
theorem dX11_fits_114 : decode cX11_fits 114 = .ok (.ireturn, 1) := by decide +kernel
