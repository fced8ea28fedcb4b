theorem dX11_sheet_5 : decode cX11_sheet 5 = .ok (.iload_n 1, 1) := by decide +kernel
theorem dX11_sheet_6 : decode cX11_sheet 6 = .ok (.i2l, 1) := by decide +kernel
theorem dX11_sheet_7 : decode cX11_sheet 7 = .ok (.lconst 0, 1) := by decide +kernel
theorem dX11_sheet_8 : decode cX11_sheet 8 = .ok (.ldc2_w 192, 3) := by decide +kernel
theorem dX11_sheet_11 : decode cX11_sheet 11 = .ok (.invokestatic 107, 3) := by decide +kernel
theorem dX11_sheet_14 : decode cX11_sheet 14 = .ok (.ifCond .eq 9, 3) := by decide +kernel
theorem dX11_sheet_17 : decode cX11_sheet 17 = .ok (.iload_n 2, 1) := by decide +kernel
theorem dX11_sheet_18 : decode cX11_sheet 18 = .ok (.bipush 12, 2) := by decide +kernel
theorem dX11_sheet_20 : decode cX11_sheet 20 = .ok (.if_icmp .le 5, 3) := by decide +kernel
theorem dX11_sheet_23 : decode cX11_sheet 23 = .ok (.iconst (-1), 1) := by decide +kernel
theorem dX11_sheet_24 : decode cX11_sheet 24 = .ok (.ireturn, 1) := by decide +kernel
theorem dX11_sheet_25 : decode cX11_sheet 25 = .ok (.iload_n 1, 1) := by decide +kernel
theorem dX11_sheet_26 : decode cX11_sheet 26 = .ok (.iconst 3, 1) := by decide +kernel
theorem dX11_sheet_27 : decode cX11_sheet 27 = .ok (.if_icmp .ge 10, 3) := by decide +kernel
theorem dX11_sheet_30 : decode cX11_sheet 30 = .ok (.iload_n 2, 1) := by decide +kernel
theorem dX11_sheet_31 : decode cX11_sheet 31 = .ok (.ifCond .ge 6, 3) := by decide +kernel
theorem dX11_sheet_34 : decode cX11_sheet 34 = .ok (.bipush (-2), 2) := by decide +kernel
theorem dX11_sheet_36 : decode cX11_sheet 36 = .ok (.ireturn, 1) := by decide +kernel
theorem dX11_sheet_37 : decode cX11_sheet 37 = .ok (.iconst 0, 1) := by decide +kernel
theorem dX11_sheet_38 : decode cX11_sheet 38 = .ok (.istore 5, 2) := by decide +kernel
theorem dX11_sheet_40 : decode cX11_sheet 40 = .ok (.iload_n 3, 1) := by decide +kernel
theorem dX11_sheet_41 : decode cX11_sheet 41 = .ok (.istore 6, 2) := by decide +kernel
theorem dX11_sheet_43 : decode cX11_sheet 43 = .ok (.iconst 0, 1) := by decide +kernel
theorem dX11_sheet_44 : decode cX11_sheet 44 = .ok (.istore 7, 2) := by decide +kernel
theorem dX11_sheet_46 : decode cX11_sheet 46 = .ok (.iload 7, 2) := by decide +kernel
theorem dX11_sheet_48 : decode cX11_sheet 48 = .ok (.aload_n 0, 1) := by decide +kernel
theorem dX11_sheet_49 : decode cX11_sheet 49 = .ok (.getfield 104, 3) := by decide +kernel
theorem dX11_sheet_52 : decode cX11_sheet 52 = .ok (.if_icmp .ge 86, 3) := by decide +kernel
theorem dX11_sheet_55 : decode cX11_sheet 55 = .ok (.iload_n 1, 1) := by decide +kernel
theorem dX11_sheet_56 : decode cX11_sheet 56 = .ok (.ifCond .ne 9, 3) := by decide +kernel
theorem dX11_sheet_59 : decode cX11_sheet 59 = .ok (.iload 6, 2) := by decide +kernel
theorem dX11_sheet_61 : decode cX11_sheet 61 = .ok (.i2b, 1) := by decide +kernel
theorem dX11_sheet_62 : decode cX11_sheet 62 = .ok (.goto 16, 3) := by decide +kernel
theorem dX11_sheet_65 : decode cX11_sheet 65 = .ok (.iload_n 1, 1) := by decide +kernel
theorem dX11_sheet_66 : decode cX11_sheet 66 = .ok (.iconst 1, 1) := by decide +kernel
theorem dX11_sheet_67 : decode cX11_sheet 67 = .ok (.if_icmp .ne 9, 3) := by decide +kernel
theorem dX11_sheet_70 : decode cX11_sheet 70 = .ok (.iload 6, 2) := by decide +kernel
theorem dX11_sheet_72 : decode cX11_sheet 72 = .ok (.i2s, 1) := by decide +kernel
theorem dX11_sheet_73 : decode cX11_sheet 73 = .ok (.goto 5, 3) := by decide +kernel
theorem dX11_sheet_76 : decode cX11_sheet 76 = .ok (.iload 6, 2) := by decide +kernel
theorem dX11_sheet_78 : decode cX11_sheet 78 = .ok (.istore 8, 2) := by decide +kernel
theorem dX11_sheet_80 : decode cX11_sheet 80 = .ok (.aload_n 0, 1) := by decide +kernel
theorem dX11_sheet_81 : decode cX11_sheet 81 = .ok (.getfield 16, 3) := by decide +kernel
theorem dX11_sheet_84 : decode cX11_sheet 84 = .ok (.iload 7, 2) := by decide +kernel
theorem dX11_sheet_86 : decode cX11_sheet 86 = .ok (.iload_n 1, 1) := by decide +kernel
theorem dX11_sheet_87 : decode cX11_sheet 87 = .ok (.iconst 3, 1) := by decide +kernel
theorem dX11_sheet_88 : decode cX11_sheet 88 = .ok (.if_icmp .eq 9, 3) := by decide +kernel
theorem dX11_sheet_91 : decode cX11_sheet 91 = .ok (.iload 7, 2) := by decide +kernel
theorem dX11_sheet_93 : decode cX11_sheet 93 = .ok (.iload_n 2, 1) := by decide +kernel
theorem dX11_sheet_94 : decode cX11_sheet 94 = .ok (.if_icmp .lt 7, 3) := by decide +kernel
theorem dX11_sheet_97 : decode cX11_sheet 97 = .ok (.iconst 1, 1) := by decide +kernel
theorem dX11_sheet_98 : decode cX11_sheet 98 = .ok (.goto 14, 3) := by decide +kernel
theorem dX11_sheet_101 : decode cX11_sheet 101 = .ok (.iconst 1, 1) := by decide +kernel
theorem dX11_sheet_102 : decode cX11_sheet 102 = .ok (.bipush 20, 2) := by decide +kernel
theorem dX11_sheet_104 : decode cX11_sheet 104 = .ok (.iload 8, 2) := by decide +kernel
theorem dX11_sheet_106 : decode cX11_sheet 106 = .ok (.invokestatic 208, 3) := by decide +kernel
theorem dX11_sheet_109 : decode cX11_sheet 109 = .ok (.invokestatic 214, 3) := by decide +kernel
theorem dX11_sheet_112 : decode cX11_sheet 112 = .ok (.iastore, 1) := by decide +kernel
theorem dX11_sheet_113 : decode cX11_sheet 113 = .ok (.iload 5, 2) := by decide +kernel
theorem dX11_sheet_115 : decode cX11_sheet 115 = .ok (.aload_n 0, 1) := by decide +kernel
theorem dX11_sheet_116 : decode cX11_sheet 116 = .ok (.getfield 16, 3) := by decide +kernel
theorem dX11_sheet_119 : decode cX11_sheet 119 = .ok (.iload 7, 2) := by decide +kernel
theorem dX11_sheet_121 : decode cX11_sheet 121 = .ok (.iaload, 1) := by decide +kernel
theorem dX11_sheet_122 : decode cX11_sheet 122 = .ok (.iadd, 1) := by decide +kernel
theorem dX11_sheet_123 : decode cX11_sheet 123 = .ok (.istore 5, 2) := by decide +kernel
theorem dX11_sheet_125 : decode cX11_sheet 125 = .ok (.iload 6, 2) := by decide +kernel
theorem dX11_sheet_127 : decode cX11_sheet 127 = .ok (.iload 4, 2) := by decide +kernel
theorem dX11_sheet_129 : decode cX11_sheet 129 = .ok (.iadd, 1) := by decide +kernel
theorem dX11_sheet_130 : decode cX11_sheet 130 = .ok (.istore 6, 2) := by decide +kernel
theorem dX11_sheet_132 : decode cX11_sheet 132 = .ok (.iinc 7 1, 3) := by decide +kernel
theorem dX11_sheet_135 : decode cX11_sheet 135 = .ok (.goto (-89), 3) := by decide +kernel
theorem dX11_sheet_138 : decode cX11_sheet 138 = .ok (.iload_n 1, 1) := by decide +kernel
theorem dX11_sheet_139 : decode cX11_sheet 139 = .ok (.iconst 3, 1) := by decide +kernel
theorem dX11_sheet_140 : decode cX11_sheet 140 = .ok (.if_icmp .ne 8, 3) := by decide +kernel
theorem dX11_sheet_143 : decode cX11_sheet 143 = .ok (.bipush (-3), 2) := by decide +kernel
theorem dX11_sheet_145 : decode cX11_sheet 145 = .ok (.goto 5, 3) := by decide +kernel
theorem dX11_sheet_148 : decode cX11_sheet 148 = .ok (.iload 5, 2) := by decide +kernel
theorem dX11_sheet_150 : decode cX11_sheet 150 = .ok (.ireturn, 1) := by decide +kernel
theorem dX11_findFar_0 : decode cX11_findFar 0 = .ok (.iconst 0, 1) := by decide +kernel
theorem dX11_findFar_1 : decode cX11_findFar 1 = .ok (.istore_n 1, 1) := by decide +kernel
theorem dX11_findFar_2 : decode cX11_findFar 2 = .ok (.iload_n 1, 1) := by decide +kernel
theorem dX11_findFar_3 : decode cX11_findFar 3 = .ok (.bipush 10, 2) := by decide +kernel
theorem dX11_findFar_5 : decode cX11_findFar 5 = .ok (.if_icmp .ge 46, 3) := by decide +kernel
theorem dX11_findFar_8 : decode cX11_findFar 8 = .ok (.iconst 0, 1) := by decide +kernel
theorem dX11_findFar_9 : decode cX11_findFar 9 = .ok (.istore_n 2, 1) := by decide +kernel
theorem dX11_findFar_10 : decode cX11_findFar 10 = .ok (.iload_n 2, 1) := by decide +kernel
theorem dX11_findFar_11 : decode cX11_findFar 11 = .ok (.bipush 10, 2) := by decide +kernel
theorem dX11_findFar_13 : decode cX11_findFar 13 = .ok (.if_icmp .ge 32, 3) := by decide +kernel
theorem dX11_findFar_16 : decode cX11_findFar 16 = .ok (.aload_n 0, 1) := by decide +kernel
theorem dX11_findFar_17 : decode cX11_findFar 17 = .ok (.getfield 45, 3) := by decide +kernel
theorem dX11_findFar_20 : decode cX11_findFar 20 = .ok (.bipush 10, 2) := by decide +kernel
theorem dX11_findFar_22 : decode cX11_findFar 22 = .ok (.iload_n 1, 1) := by decide +kernel
theorem dX11_findFar_23 : decode cX11_findFar 23 = .ok (.imul, 1) := by decide +kernel
theorem dX11_findFar_24 : decode cX11_findFar 24 = .ok (.iload_n 2, 1) := by decide +kernel
theorem dX11_findFar_25 : decode cX11_findFar 25 = .ok (.iadd, 1) := by decide +kernel
theorem dX11_findFar_26 : decode cX11_findFar 26 = .ok (.iload_n 1, 1) := by decide +kernel
theorem dX11_findFar_27 : decode cX11_findFar 27 = .ok (.iload_n 2, 1) := by decide +kernel
theorem dX11_findFar_28 : decode cX11_findFar 28 = .ok (.if_icmp .ne 7, 3) := by decide +kernel
theorem dX11_findFar_31 : decode cX11_findFar 31 = .ok (.iconst 0, 1) := by decide +kernel
theorem dX11_findFar_32 : decode cX11_findFar 32 = .ok (.goto 6, 3) := by decide +kernel
theorem dX11_findFar_35 : decode cX11_findFar 35 = .ok (.sipush 999, 3) := by decide +kernel
theorem dX11_findFar_38 : decode cX11_findFar 38 = .ok (.iastore, 1) := by decide +kernel
theorem dX11_findFar_39 : decode cX11_findFar 39 = .ok (.iinc 2 1, 3) := by decide +kernel
theorem dX11_findFar_42 : decode cX11_findFar 42 = .ok (.goto (-32), 3) := by decide +kernel
theorem dX11_findFar_45 : decode cX11_findFar 45 = .ok (.iinc 1 1, 3) := by decide +kernel
theorem dX11_findFar_48 : decode cX11_findFar 48 = .ok (.goto (-46), 3) := by decide +kernel
theorem dX11_findFar_51 : decode cX11_findFar 51 = .ok (.iconst 0, 1) := by decide +kernel
theorem dX11_findFar_52 : decode cX11_findFar 52 = .ok (.istore_n 1, 1) := by decide +kernel
theorem dX11_findFar_53 : decode cX11_findFar 53 = .ok (.iload_n 1, 1) := by decide +kernel
theorem dX11_findFar_54 : decode cX11_findFar 54 = .ok (.aload_n 0, 1) := by decide +kernel
theorem dX11_findFar_55 : decode cX11_findFar 55 = .ok (.getfield 104, 3) := by decide +kernel
theorem dX11_findFar_58 : decode cX11_findFar 58 = .ok (.if_icmp .ge 76, 3) := by decide +kernel
theorem dX11_findFar_61 : decode cX11_findFar 61 = .ok (.bipush 10, 2) := by decide +kernel
theorem dX11_findFar_63 : decode cX11_findFar 63 = .ok (.aload_n 0, 1) := by decide +kernel
theorem dX11_findFar_64 : decode cX11_findFar 64 = .ok (.getfield 9, 3) := by decide +kernel
theorem dX11_findFar_67 : decode cX11_findFar 67 = .ok (.iload_n 1, 1) := by decide +kernel
theorem dX11_findFar_68 : decode cX11_findFar 68 = .ok (.iaload, 1) := by decide +kernel
theorem dX11_findFar_69 : decode cX11_findFar 69 = .ok (.imul, 1) := by decide +kernel
theorem dX11_findFar_70 : decode cX11_findFar 70 = .ok (.aload_n 0, 1) := by decide +kernel
theorem dX11_findFar_71 : decode cX11_findFar 71 = .ok (.getfield 13, 3) := by decide +kernel
theorem dX11_findFar_74 : decode cX11_findFar 74 = .ok (.iload_n 1, 1) := by decide +kernel
theorem dX11_findFar_75 : decode cX11_findFar 75 = .ok (.iaload, 1) := by decide +kernel
theorem dX11_findFar_76 : decode cX11_findFar 76 = .ok (.iadd, 1) := by decide +kernel
theorem dX11_findFar_77 : decode cX11_findFar 77 = .ok (.istore_n 2, 1) := by decide +kernel
theorem dX11_findFar_78 : decode cX11_findFar 78 = .ok (.bipush 10, 2) := by decide +kernel
theorem dX11_findFar_80 : decode cX11_findFar 80 = .ok (.aload_n 0, 1) := by decide +kernel
theorem dX11_findFar_81 : decode cX11_findFar 81 = .ok (.getfield 13, 3) := by decide +kernel
theorem dX11_findFar_84 : decode cX11_findFar 84 = .ok (.iload_n 1, 1) := by decide +kernel
theorem dX11_findFar_85 : decode cX11_findFar 85 = .ok (.iaload, 1) := by decide +kernel
theorem dX11_findFar_86 : decode cX11_findFar 86 = .ok (.imul, 1) := by decide +kernel
theorem dX11_findFar_87 : decode cX11_findFar 87 = .ok (.aload_n 0, 1) := by decide +kernel
theorem dX11_findFar_88 : decode cX11_findFar 88 = .ok (.getfield 9, 3) := by decide +kernel
theorem dX11_findFar_91 : decode cX11_findFar 91 = .ok (.iload_n 1, 1) := by decide +kernel
theorem dX11_findFar_92 : decode cX11_findFar 92 = .ok (.iaload, 1) := by decide +kernel
theorem dX11_findFar_93 : decode cX11_findFar 93 = .ok (.iadd, 1) := by decide +kernel
theorem dX11_findFar_94 : decode cX11_findFar 94 = .ok (.istore_n 3, 1) := by decide +kernel
theorem dX11_findFar_95 : decode cX11_findFar 95 = .ok (.aload_n 0, 1) := by decide +kernel
theorem dX11_findFar_96 : decode cX11_findFar 96 = .ok (.getfield 45, 3) := by decide +kernel
theorem dX11_findFar_99 : decode cX11_findFar 99 = .ok (.iload_n 2, 1) := by decide +kernel
theorem dX11_findFar_100 : decode cX11_findFar 100 = .ok (.aload_n 0, 1) := by decide +kernel
theorem dX11_findFar_101 : decode cX11_findFar 101 = .ok (.getfield 45, 3) := by decide +kernel
theorem dX11_findFar_104 : decode cX11_findFar 104 = .ok (.iload_n 2, 1) := by decide +kernel
theorem dX11_findFar_105 : decode cX11_findFar 105 = .ok (.iaload, 1) := by decide +kernel
theorem dX11_findFar_106 : decode cX11_findFar 106 = .ok (.aload_n 0, 1) := by decide +kernel
theorem dX11_findFar_107 : decode cX11_findFar 107 = .ok (.getfield 16, 3) := by decide +kernel
theorem dX11_findFar_110 : decode cX11_findFar 110 = .ok (.iload_n 1, 1) := by decide +kernel
theorem dX11_findFar_111 : decode cX11_findFar 111 = .ok (.iaload, 1) := by decide +kernel
theorem dX11_findFar_112 : decode cX11_findFar 112 = .ok (.invokestatic 208, 3) := by decide +kernel
theorem dX11_findFar_115 : decode cX11_findFar 115 = .ok (.iastore, 1) := by decide +kernel
theorem dX11_findFar_116 : decode cX11_findFar 116 = .ok (.aload_n 0, 1) := by decide +kernel
theorem dX11_findFar_117 : decode cX11_findFar 117 = .ok (.getfield 45, 3) := by decide +kernel
theorem dX11_findFar_120 : decode cX11_findFar 120 = .ok (.iload_n 3, 1) := by decide +kernel
theorem dX11_findFar_121 : decode cX11_findFar 121 = .ok (.aload_n 0, 1) := by decide +kernel
theorem dX11_findFar_122 : decode cX11_findFar 122 = .ok (.getfield 45, 3) := by decide +kernel
theorem dX11_findFar_125 : decode cX11_findFar 125 = .ok (.iload_n 2, 1) := by decide +kernel
theorem dX11_findFar_126 : decode cX11_findFar 126 = .ok (.iaload, 1) := by decide +kernel
theorem dX11_findFar_127 : decode cX11_findFar 127 = .ok (.iastore, 1) := by decide +kernel
theorem dX11_findFar_128 : decode cX11_findFar 128 = .ok (.iinc 1 1, 3) := by decide +kernel
theorem dX11_findFar_131 : decode cX11_findFar 131 = .ok (.goto (-78), 3) := by decide +kernel
theorem dX11_findFar_134 : decode cX11_findFar 134 = .ok (.iconst 0, 1) := by decide +kernel
theorem dX11_findFar_135 : decode cX11_findFar 135 = .ok (.istore_n 1, 1) := by decide +kernel
theorem dX11_findFar_136 : decode cX11_findFar 136 = .ok (.iload_n 1, 1) := by decide +kernel
theorem dX11_findFar_137 : decode cX11_findFar 137 = .ok (.bipush 10, 2) := by decide +kernel
theorem dX11_findFar_139 : decode cX11_findFar 139 = .ok (.if_icmp .ge 91, 3) := by decide +kernel
theorem dX11_findFar_142 : decode cX11_findFar 142 = .ok (.iconst 0, 1) := by decide +kernel
theorem dX11_findFar_143 : decode cX11_findFar 143 = .ok (.istore_n 2, 1) := by decide +kernel
theorem dX11_findFar_144 : decode cX11_findFar 144 = .ok (.iload_n 2, 1) := by decide +kernel
theorem dX11_findFar_145 : decode cX11_findFar 145 = .ok (.bipush 10, 2) := by decide +kernel
theorem dX11_findFar_147 : decode cX11_findFar 147 = .ok (.if_icmp .ge 77, 3) := by decide +kernel
theorem dX11_findFar_150 : decode cX11_findFar 150 = .ok (.iconst 0, 1) := by decide +kernel
theorem dX11_findFar_151 : decode cX11_findFar 151 = .ok (.istore_n 3, 1) := by decide +kernel
theorem dX11_findFar_152 : decode cX11_findFar 152 = .ok (.iload_n 3, 1) := by decide +kernel
theorem dX11_findFar_153 : decode cX11_findFar 153 = .ok (.bipush 10, 2) := by decide +kernel
theorem dX11_findFar_155 : decode cX11_findFar 155 = .ok (.if_icmp .ge 63, 3) := by decide +kernel
theorem dX11_findFar_158 : decode cX11_findFar 158 = .ok (.aload_n 0, 1) := by decide +kernel
theorem dX11_findFar_159 : decode cX11_findFar 159 = .ok (.getfield 45, 3) := by decide +kernel
theorem dX11_findFar_162 : decode cX11_findFar 162 = .ok (.bipush 10, 2) := by decide +kernel
theorem dX11_findFar_164 : decode cX11_findFar 164 = .ok (.iload_n 2, 1) := by decide +kernel
theorem dX11_findFar_165 : decode cX11_findFar 165 = .ok (.imul, 1) := by decide +kernel
theorem dX11_findFar_166 : decode cX11_findFar 166 = .ok (.iload_n 1, 1) := by decide +kernel
theorem dX11_findFar_167 : decode cX11_findFar 167 = .ok (.iadd, 1) := by decide +kernel
theorem dX11_findFar_168 : decode cX11_findFar 168 = .ok (.iaload, 1) := by decide +kernel
theorem dX11_findFar_169 : decode cX11_findFar 169 = .ok (.aload_n 0, 1) := by decide +kernel
theorem dX11_findFar_170 : decode cX11_findFar 170 = .ok (.getfield 45, 3) := by decide +kernel
theorem dX11_findFar_173 : decode cX11_findFar 173 = .ok (.bipush 10, 2) := by decide +kernel
theorem dX11_findFar_175 : decode cX11_findFar 175 = .ok (.iload_n 1, 1) := by decide +kernel
theorem dX11_findFar_176 : decode cX11_findFar 176 = .ok (.imul, 1) := by decide +kernel
theorem dX11_findFar_177 : decode cX11_findFar 177 = .ok (.iload_n 3, 1) := by decide +kernel
theorem dX11_findFar_178 : decode cX11_findFar 178 = .ok (.iadd, 1) := by decide +kernel
theorem dX11_findFar_179 : decode cX11_findFar 179 = .ok (.iaload, 1) := by decide +kernel
theorem dX11_findFar_180 : decode cX11_findFar 180 = .ok (.iadd, 1) := by decide +kernel
theorem dX11_findFar_181 : decode cX11_findFar 181 = .ok (.istore 4, 2) := by decide +kernel
theorem dX11_findFar_183 : decode cX11_findFar 183 = .ok (.iload 4, 2) := by decide +kernel
theorem dX11_findFar_185 : decode cX11_findFar 185 = .ok (.aload_n 0, 1) := by decide +kernel
theorem dX11_findFar_186 : decode cX11_findFar 186 = .ok (.getfield 45, 3) := by decide +kernel
theorem dX11_findFar_189 : decode cX11_findFar 189 = .ok (.bipush 10, 2) := by decide +kernel
theorem dX11_findFar_191 : decode cX11_findFar 191 = .ok (.iload_n 2, 1) := by decide +kernel
theorem dX11_findFar_192 : decode cX11_findFar 192 = .ok (.imul, 1) := by decide +kernel
theorem dX11_findFar_193 : decode cX11_findFar 193 = .ok (.iload_n 3, 1) := by decide +kernel
theorem dX11_findFar_194 : decode cX11_findFar 194 = .ok (.iadd, 1) := by decide +kernel
theorem dX11_findFar_195 : decode cX11_findFar 195 = .ok (.iaload, 1) := by decide +kernel
theorem dX11_findFar_196 : decode cX11_findFar 196 = .ok (.if_icmp .ge 16, 3) := by decide +kernel
theorem dX11_findFar_199 : decode cX11_findFar 199 = .ok (.aload_n 0, 1) := by decide +kernel
theorem dX11_findFar_200 : decode cX11_findFar 200 = .ok (.getfield 45, 3) := by decide +kernel
theorem dX11_findFar_203 : decode cX11_findFar 203 = .ok (.bipush 10, 2) := by decide +kernel
theorem dX11_findFar_205 : decode cX11_findFar 205 = .ok (.iload_n 2, 1) := by decide +kernel
theorem dX11_findFar_206 : decode cX11_findFar 206 = .ok (.imul, 1) := by decide +kernel
theorem dX11_findFar_207 : decode cX11_findFar 207 = .ok (.iload_n 3, 1) := by decide +kernel
theorem dX11_findFar_208 : decode cX11_findFar 208 = .ok (.iadd, 1) := by decide +kernel
theorem dX11_findFar_209 : decode cX11_findFar 209 = .ok (.iload 4, 2) := by decide +kernel
theorem dX11_findFar_211 : decode cX11_findFar 211 = .ok (.iastore, 1) := by decide +kernel
theorem dX11_findFar_212 : decode cX11_findFar 212 = .ok (.iinc 3 1, 3) := by decide +kernel
theorem dX11_findFar_215 : decode cX11_findFar 215 = .ok (.goto (-63), 3) := by decide +kernel
theorem dX11_findFar_218 : decode cX11_findFar 218 = .ok (.iinc 2 1, 3) := by decide +kernel
theorem dX11_findFar_221 : decode cX11_findFar 221 = .ok (.goto (-77), 3) := by decide +kernel
theorem dX11_findFar_224 : decode cX11_findFar 224 = .ok (.iinc 1 1, 3) := by decide +kernel
theorem dX11_findFar_227 : decode cX11_findFar 227 = .ok (.goto (-91), 3) := by decide +kernel
theorem dX11_findFar_230 : decode cX11_findFar 230 = .ok (.return_, 1) := by decide +kernel
set_option maxRecDepth 20000 in
theorem ggX11_far_X11_isPlace : GoodIn wsX11_far wsX11_isPlace := goodIn_r _ [6, 7, 8, 9, 5, 10] (by decide +kernel) (by decide +kernel)
set_option maxRecDepth 20000 in
theorem gX11_far_X11_isPlace : GoodIn wsX11_far (va_wsS RX11 217 yX11_isPlace wsX11_isPlace) := goodIn_app (goodIn_of _ (by decide +kernel)) ggX11_far_X11_isPlace
set_option maxRecDepth 20000 in
theorem ggX11_far_X11_findFar : GoodIn wsX11_far wsX11_findFar := goodIn_r _ [14, 2, 15, 16, 17, 18, 19, 20, 21, 22, 23, 24, 25, 26, 27, 28, 29, 30, 31, 32, 33, 34, 35, 36, 37, 38, 39, 40, 41, 42, 43, 44, 45, 46, 47, 48, 49, 50, 51, 52, 53, 54, 55, 56, 57, 58, 59, 60, 61, 62, 63, 64, 65, 66, 67, 68, 69, 70, 71, 72, 73, 74, 75, 76, 77] (by decide +kernel) (by decide +kernel)
set_option maxRecDepth 20000 in
theorem gX11_far_X11_findFar : GoodIn wsX11_far (wsV RX11 220 RX11 yX11_findFar wsX11_findFar) := goodIn_app (goodIn_of _ (by decide +kernel)) ggX11_far_X11_findFar
theorem dX11_far_0 : decode cX11_far 0 = .ok (.aload_n 0, 1) := by decide +kernel
theorem dX11_far_1 : decode cX11_far 1 = .ok (.iconst 0, 1) := by decide +kernel
theorem dX11_far_2 : decode cX11_far 2 = .ok (.putfield 98, 3) := by decide +kernel
theorem dX11_far_5 : decode cX11_far 5 = .ok (.iload_n 1, 1) := by decide +kernel
theorem dX11_far_6 : decode cX11_far 6 = .ok (.invokestatic 217, 3) := by decide +kernel
theorem dX11_far_9 : decode cX11_far 9 = .ok (.ifCond .eq 10, 3) := by decide +kernel
theorem dX11_far_12 : decode cX11_far 12 = .ok (.iload_n 2, 1) := by decide +kernel
theorem dX11_far_13 : decode cX11_far 13 = .ok (.invokestatic 217, 3) := by decide +kernel
theorem dX11_far_16 : decode cX11_far 16 = .ok (.ifCond .ne 5, 3) := by decide +kernel
theorem dX11_far_19 : decode cX11_far 19 = .ok (.iconst (-1), 1) := by decide +kernel
theorem dX11_far_20 : decode cX11_far 20 = .ok (.ireturn, 1) := by decide +kernel
theorem dX11_far_21 : decode cX11_far 21 = .ok (.aload_n 0, 1) := by decide +kernel
theorem dX11_far_22 : decode cX11_far 22 = .ok (.invokevirtual 220, 3) := by decide +kernel
theorem dX11_far_25 : decode cX11_far 25 = .ok (.aload_n 0, 1) := by decide +kernel
theorem dX11_far_26 : decode cX11_far 26 = .ok (.getfield 45, 3) := by decide +kernel
theorem dX11_far_29 : decode cX11_far 29 = .ok (.bipush 10, 2) := by decide +kernel
theorem dX11_far_31 : decode cX11_far 31 = .ok (.iload_n 1, 1) := by decide +kernel
theorem dX11_far_32 : decode cX11_far 32 = .ok (.imul, 1) := by decide +kernel
theorem dX11_far_33 : decode cX11_far 33 = .ok (.iload_n 2, 1) := by decide +kernel
theorem dX11_far_34 : decode cX11_far 34 = .ok (.iadd, 1) := by decide +kernel
theorem dX11_far_35 : decode cX11_far 35 = .ok (.iaload, 1) := by decide +kernel
theorem dX11_far_36 : decode cX11_far 36 = .ok (.ireturn, 1) := by decide +kernel
theorem dX11_week_0 : decode cX11_week 0 = .ok (.aload_n 0, 1) := by decide +kernel
theorem dX11_week_1 : decode cX11_week 1 = .ok (.getfield 111, 3) := by decide +kernel
theorem dX11_week_4 : decode cX11_week 4 = .ok (.ifCond .ne 7, 3) := by decide +kernel
theorem dX11_week_7 : decode cX11_week 7 = .ok (.iconst 0, 1) := by decide +kernel
theorem dX11_week_8 : decode cX11_week 8 = .ok (.goto 11, 3) := by decide +kernel
theorem dX11_week_11 : decode cX11_week 11 = .ok (.lload_n 1, 1) := by decide +kernel
theorem dX11_week_12 : decode cX11_week 12 = .ok (.aload_n 0, 1) := by decide +kernel
theorem dX11_week_13 : decode cX11_week 13 = .ok (.getfield 111, 3) := by decide +kernel
theorem dX11_week_16 : decode cX11_week 16 = .ok (.i2l, 1) := by decide +kernel
theorem dX11_week_17 : decode cX11_week 17 = .ok (.lrem, 1) := by decide +kernel
theorem dX11_week_18 : decode cX11_week 18 = .ok (.l2i, 1) := by decide +kernel
theorem dX11_week_19 : decode cX11_week 19 = .ok (.ireturn, 1) := by decide +kernel
set_option maxRecDepth 20000 in
theorem ggX11_pass_X11_in : GoodIn wsX11_pass wsX11_in := goodIn_r _ [7] (by decide +kernel) (by decide +kernel)
set_option maxRecDepth 20000 in
theorem gX11_pass_X11_in : GoodIn wsX11_pass (va_wsS RX11 107 yX11_in wsX11_in) := goodIn_app (goodIn_of _ (by decide +kernel)) ggX11_pass_X11_in
set_option maxRecDepth 20000 in
theorem ggX11_pass_X11_week : GoodIn wsX11_pass wsX11_week := goodIn_r _ [11, 12, 13, 14, 15, 16, 17, 18, 19, 20, 21, 22, 23, 24, 25, 26, 27, 28, 29, 30, 31, 32, 33, 34, 35, 36, 37, 38, 39, 40, 41, 42, 43, 44, 45, 46, 47, 48, 49, 50, 51, 52, 53, 54, 55, 56, 57, 58, 59, 60, 61, 62, 63, 64, 65, 66, 67] (by decide +kernel) (by decide +kernel)
set_option maxRecDepth 20000 in
theorem gX11_pass_X11_week : GoodIn wsX11_pass (wsV RX11 223 RX11 yX11_week wsX11_week) := goodIn_app (goodIn_of _ (by decide +kernel)) ggX11_pass_X11_week
theorem dX11_pass_0 : decode cX11_pass 0 = .ok (.aload_n 0, 1) := by decide +kernel
theorem dX11_pass_1 : decode cX11_pass 1 = .ok (.iconst 0, 1) := by decide +kernel
theorem dX11_pass_2 : decode cX11_pass 2 = .ok (.putfield 98, 3) := by decide +kernel
theorem dX11_pass_5 : decode cX11_pass 5 = .ok (.lload_n 1, 1) := by decide +kernel
theorem dX11_pass_6 : decode cX11_pass 6 = .ok (.lconst 0, 1) := by decide +kernel
theorem dX11_pass_7 : decode cX11_pass 7 = .ok (.ldc2_w 119, 3) := by decide +kernel
theorem dX11_pass_10 : decode cX11_pass 10 = .ok (.invokestatic 107, 3) := by decide +kernel
theorem dX11_pass_13 : decode cX11_pass 13 = .ok (.ifCond .eq 16, 3) := by decide +kernel
theorem dX11_pass_16 : decode cX11_pass 16 = .ok (.aload_n 0, 1) := by decide +kernel
theorem dX11_pass_17 : decode cX11_pass 17 = .ok (.getfield 197, 3) := by decide +kernel
theorem dX11_pass_20 : decode cX11_pass 20 = .ok (.lload_n 1, 1) := by decide +kernel
theorem dX11_pass_21 : decode cX11_pass 21 = .ok (.ladd, 1) := by decide +kernel
theorem dX11_pass_22 : decode cX11_pass 22 = .ok (.ldc2_w 119, 3) := by decide +kernel
theorem dX11_pass_25 : decode cX11_pass 25 = .ok (.lcmp, 1) := by decide +kernel
theorem dX11_pass_26 : decode cX11_pass 26 = .ok (.ifCond .le 5, 3) := by decide +kernel
theorem dX11_pass_29 : decode cX11_pass 29 = .ok (.iconst (-1), 1) := by decide +kernel
theorem dX11_pass_30 : decode cX11_pass 30 = .ok (.ireturn, 1) := by decide +kernel
theorem dX11_pass_31 : decode cX11_pass 31 = .ok (.aload_n 0, 1) := by decide +kernel
theorem dX11_pass_32 : decode cX11_pass 32 = .ok (.dup, 1) := by decide +kernel
theorem dX11_pass_33 : decode cX11_pass 33 = .ok (.getfield 197, 3) := by decide +kernel
theorem dX11_pass_36 : decode cX11_pass 36 = .ok (.lload_n 1, 1) := by decide +kernel
theorem dX11_pass_37 : decode cX11_pass 37 = .ok (.ladd, 1) := by decide +kernel
theorem dX11_pass_38 : decode cX11_pass 38 = .ok (.putfield 197, 3) := by decide +kernel
theorem dX11_pass_41 : decode cX11_pass 41 = .ok (.aload_n 0, 1) := by decide +kernel
theorem dX11_pass_42 : decode cX11_pass 42 = .ok (.aload_n 0, 1) := by decide +kernel
theorem dX11_pass_43 : decode cX11_pass 43 = .ok (.getfield 197, 3) := by decide +kernel
theorem dX11_pass_46 : decode cX11_pass 46 = .ok (.invokevirtual 223, 3) := by decide +kernel
theorem dX11_pass_49 : decode cX11_pass 49 = .ok (.ireturn, 1) := by decide +kernel
theorem dX11_layOut_0 : decode cX11_layOut 0 = .ok (.iconst 0, 1) := by decide +kernel
theorem dX11_layOut_1 : decode cX11_layOut 1 = .ok (.istore_n 2, 1) := by decide +kernel
theorem dX11_layOut_2 : decode cX11_layOut 2 = .ok (.iload_n 2, 1) := by decide +kernel
theorem dX11_layOut_3 : decode cX11_layOut 3 = .ok (.aload_n 0, 1) := by decide +kernel
theorem dX11_layOut_4 : decode cX11_layOut 4 = .ok (.getfield 104, 3) := by decide +kernel
theorem dX11_layOut_7 : decode cX11_layOut 7 = .ok (.if_icmp .ge 16, 3) := by decide +kernel
theorem dX11_layOut_10 : decode cX11_layOut 10 = .ok (.aload_n 0, 1) := by decide +kernel
theorem dX11_layOut_11 : decode cX11_layOut 11 = .ok (.getfield 48, 3) := by decide +kernel
theorem dX11_layOut_14 : decode cX11_layOut 14 = .ok (.iload_n 2, 1) := by decide +kernel
theorem dX11_layOut_15 : decode cX11_layOut 15 = .ok (.iload_n 2, 1) := by decide +kernel
theorem dX11_layOut_16 : decode cX11_layOut 16 = .ok (.iastore, 1) := by decide +kernel
theorem dX11_layOut_17 : decode cX11_layOut 17 = .ok (.iinc 2 1, 3) := by decide +kernel
theorem dX11_layOut_20 : decode cX11_layOut 20 = .ok (.goto (-18), 3) := by decide +kernel
theorem dX11_layOut_23 : decode cX11_layOut 23 = .ok (.aload_n 0, 1) := by decide +kernel
theorem dX11_layOut_24 : decode cX11_layOut 24 = .ok (.iconst 1, 1) := by decide +kernel
theorem dX11_layOut_25 : decode cX11_layOut 25 = .ok (.putfield 227, 3) := by decide +kernel
theorem dX11_layOut_28 : decode cX11_layOut 28 = .ok (.aload_n 0, 1) := by decide +kernel
theorem dX11_layOut_29 : decode cX11_layOut 29 = .ok (.getfield 104, 3) := by decide +kernel
theorem dX11_layOut_32 : decode cX11_layOut 32 = .ok (.ifCond .eq 10, 3) := by decide +kernel
theorem dX11_layOut_35 : decode cX11_layOut 35 = .ok (.aload_n 0, 1) := by decide +kernel
theorem dX11_layOut_36 : decode cX11_layOut 36 = .ok (.getfield 111, 3) := by decide +kernel
theorem dX11_layOut_39 : decode cX11_layOut 39 = .ok (.ifCond .ne 4, 3) := by decide +kernel
theorem dX11_layOut_42 : decode cX11_layOut 42 = .ok (.return_, 1) := by decide +kernel
theorem dX11_layOut_43 : decode cX11_layOut 43 = .ok (.iconst 0, 1) := by decide +kernel
theorem dX11_layOut_44 : decode cX11_layOut 44 = .ok (.istore_n 2, 1) := by decide +kernel
theorem dX11_layOut_45 : decode cX11_layOut 45 = .ok (.iconst 0, 1) := by decide +kernel
theorem dX11_layOut_46 : decode cX11_layOut 46 = .ok (.istore_n 3, 1) := by decide +kernel
theorem dX11_layOut_47 : decode cX11_layOut 47 = .ok (.iload_n 3, 1) := by decide +kernel
theorem dX11_layOut_48 : decode cX11_layOut 48 = .ok (.ifCond .ne 116, 3) := by decide +kernel
theorem dX11_layOut_51 : decode cX11_layOut 51 = .ok (.iload_n 2, 1) := by decide +kernel
theorem dX11_layOut_52 : decode cX11_layOut 52 = .ok (.iload_n 1, 1) := by decide +kernel
theorem dX11_layOut_53 : decode cX11_layOut 53 = .ok (.iadd, 1) := by decide +kernel
theorem dX11_layOut_54 : decode cX11_layOut 54 = .ok (.aload_n 0, 1) := by decide +kernel
theorem dX11_layOut_55 : decode cX11_layOut 55 = .ok (.getfield 111, 3) := by decide +kernel
theorem dX11_layOut_58 : decode cX11_layOut 58 = .ok (.irem, 1) := by decide +kernel
theorem dX11_layOut_59 : decode cX11_layOut 59 = .ok (.istore 4, 2) := by decide +kernel
theorem dX11_layOut_61 : decode cX11_layOut 61 = .ok (.iinc 2 1, 3) := by decide +kernel
theorem dX11_layOut_64 : decode cX11_layOut 64 = .ok (.iload_n 2, 1) := by decide +kernel
theorem dX11_layOut_65 : decode cX11_layOut 65 = .ok (.aload_n 0, 1) := by decide +kernel
theorem dX11_layOut_66 : decode cX11_layOut 66 = .ok (.getfield 111, 3) := by decide +kernel
theorem dX11_layOut_69 : decode cX11_layOut 69 = .ok (.irem, 1) := by decide +kernel
theorem dX11_layOut_70 : decode cX11_layOut 70 = .ok (.ifCond .ne 7, 3) := by decide +kernel
theorem dX11_layOut_73 : decode cX11_layOut 73 = .ok (.iconst 1, 1) := by decide +kernel
theorem dX11_layOut_74 : decode cX11_layOut 74 = .ok (.goto 4, 3) := by decide +kernel
theorem dX11_layOut_77 : decode cX11_layOut 77 = .ok (.iconst 0, 1) := by decide +kernel
theorem dX11_layOut_78 : decode cX11_layOut 78 = .ok (.istore_n 3, 1) := by decide +kernel
theorem dX11_layOut_79 : decode cX11_layOut 79 = .ok (.iconst 0, 1) := by decide +kernel
theorem dX11_layOut_80 : decode cX11_layOut 80 = .ok (.istore 5, 2) := by decide +kernel
theorem dX11_layOut_82 : decode cX11_layOut 82 = .ok (.iload 5, 2) := by decide +kernel
theorem dX11_layOut_84 : decode cX11_layOut 84 = .ok (.aload_n 0, 1) := by decide +kernel
theorem dX11_layOut_85 : decode cX11_layOut 85 = .ok (.getfield 104, 3) := by decide +kernel
theorem dX11_layOut_88 : decode cX11_layOut 88 = .ok (.if_icmp .ge 73, 3) := by decide +kernel
theorem dX11_layOut_91 : decode cX11_layOut 91 = .ok (.aload_n 0, 1) := by decide +kernel
theorem dX11_layOut_92 : decode cX11_layOut 92 = .ok (.getfield 48, 3) := by decide +kernel
theorem dX11_layOut_95 : decode cX11_layOut 95 = .ok (.bipush 12, 2) := by decide +kernel
theorem dX11_layOut_97 : decode cX11_layOut 97 = .ok (.iload_n 2, 1) := by decide +kernel
theorem dX11_layOut_98 : decode cX11_layOut 98 = .ok (.imul, 1) := by decide +kernel
theorem dX11_layOut_99 : decode cX11_layOut 99 = .ok (.iload 5, 2) := by decide +kernel
theorem dX11_layOut_101 : decode cX11_layOut 101 = .ok (.iadd, 1) := by decide +kernel
theorem dX11_layOut_102 : decode cX11_layOut 102 = .ok (.aload_n 0, 1) := by decide +kernel
theorem dX11_layOut_103 : decode cX11_layOut 103 = .ok (.getfield 48, 3) := by decide +kernel
theorem dX11_layOut_106 : decode cX11_layOut 106 = .ok (.bipush 12, 2) := by decide +kernel
theorem dX11_layOut_108 : decode cX11_layOut 108 = .ok (.iload_n 2, 1) := by decide +kernel
theorem dX11_layOut_109 : decode cX11_layOut 109 = .ok (.iconst 1, 1) := by decide +kernel
theorem dX11_layOut_110 : decode cX11_layOut 110 = .ok (.isub, 1) := by decide +kernel
theorem dX11_layOut_111 : decode cX11_layOut 111 = .ok (.imul, 1) := by decide +kernel
theorem dX11_layOut_112 : decode cX11_layOut 112 = .ok (.aload_n 0, 1) := by decide +kernel
theorem dX11_layOut_113 : decode cX11_layOut 113 = .ok (.getfield 19, 3) := by decide +kernel
theorem dX11_layOut_116 : decode cX11_layOut 116 = .ok (.bipush 12, 2) := by decide +kernel
theorem dX11_layOut_118 : decode cX11_layOut 118 = .ok (.iload 4, 2) := by decide +kernel
theorem dX11_layOut_120 : decode cX11_layOut 120 = .ok (.imul, 1) := by decide +kernel
theorem dX11_layOut_121 : decode cX11_layOut 121 = .ok (.iload 5, 2) := by decide +kernel
theorem dX11_layOut_123 : decode cX11_layOut 123 = .ok (.iadd, 1) := by decide +kernel
theorem dX11_layOut_124 : decode cX11_layOut 124 = .ok (.iaload, 1) := by decide +kernel
theorem dX11_layOut_125 : decode cX11_layOut 125 = .ok (.iadd, 1) := by decide +kernel
theorem dX11_layOut_126 : decode cX11_layOut 126 = .ok (.iaload, 1) := by decide +kernel
theorem dX11_layOut_127 : decode cX11_layOut 127 = .ok (.iastore, 1) := by decide +kernel
theorem dX11_layOut_128 : decode cX11_layOut 128 = .ok (.iload_n 3, 1) := by decide +kernel
theorem dX11_layOut_129 : decode cX11_layOut 129 = .ok (.ifCond .eq 24, 3) := by decide +kernel
theorem dX11_layOut_132 : decode cX11_layOut 132 = .ok (.aload_n 0, 1) := by decide +kernel
theorem dX11_layOut_133 : decode cX11_layOut 133 = .ok (.getfield 48, 3) := by decide +kernel
theorem dX11_layOut_136 : decode cX11_layOut 136 = .ok (.bipush 12, 2) := by decide +kernel
theorem dX11_layOut_138 : decode cX11_layOut 138 = .ok (.iload_n 2, 1) := by decide +kernel
theorem dX11_layOut_139 : decode cX11_layOut 139 = .ok (.imul, 1) := by decide +kernel
theorem dX11_layOut_140 : decode cX11_layOut 140 = .ok (.iload 5, 2) := by decide +kernel
theorem dX11_layOut_142 : decode cX11_layOut 142 = .ok (.iadd, 1) := by decide +kernel
theorem dX11_layOut_143 : decode cX11_layOut 143 = .ok (.iaload, 1) := by decide +kernel
theorem dX11_layOut_144 : decode cX11_layOut 144 = .ok (.iload 5, 2) := by decide +kernel
theorem dX11_layOut_146 : decode cX11_layOut 146 = .ok (.if_icmp .ne 7, 3) := by decide +kernel
theorem dX11_layOut_149 : decode cX11_layOut 149 = .ok (.iconst 1, 1) := by decide +kernel
theorem dX11_layOut_150 : decode cX11_layOut 150 = .ok (.goto 4, 3) := by decide +kernel
theorem dX11_layOut_153 : decode cX11_layOut 153 = .ok (.iconst 0, 1) := by decide +kernel
theorem dX11_layOut_154 : decode cX11_layOut 154 = .ok (.istore_n 3, 1) := by decide +kernel
theorem dX11_layOut_155 : decode cX11_layOut 155 = .ok (.iinc 5 1, 3) := by decide +kernel
theorem dX11_layOut_158 : decode cX11_layOut 158 = .ok (.goto (-76), 3) := by decide +kernel
theorem dX11_layOut_161 : decode cX11_layOut 161 = .ok (.goto (-114), 3) := by decide +kernel
theorem dX11_layOut_164 : decode cX11_layOut 164 = .ok (.aload_n 0, 1) := by decide +kernel
theorem dX11_layOut_165 : decode cX11_layOut 165 = .ok (.iload_n 2, 1) := by decide +kernel
theorem dX11_layOut_166 : decode cX11_layOut 166 = .ok (.putfield 227, 3) := by decide +kernel
theorem dX11_layOut_169 : decode cX11_layOut 169 = .ok (.return_, 1) := by decide +kernel
set_option maxRecDepth 20000 in
theorem ggX11_name_X11_isStreet : GoodIn wsX11_name wsX11_isStreet := goodIn_r _ [6, 7, 8, 9, 5, 10, 31, 32, 33, 34, 35, 36, 37, 38, 39, 40, 41, 42, 43, 44, 45, 46, 47, 48, 49, 50, 51, 52, 53, 54, 55, 56, 57, 58, 59, 60, 61, 62, 63, 64, 65, 66, 67, 68, 69, 70, 71, 72, 73, 74, 75, 76, 77, 78, 79, 80, 81, 82, 83, 84, 85] (by decide +kernel) (by decide +kernel)
set_option maxRecDepth 20000 in
theorem gX11_name_X11_isStreet : GoodIn wsX11_name (wsV RX11 188 RX11 yX11_isStreet wsX11_isStreet) := goodIn_app (goodIn_of _ (by decide +kernel)) ggX11_name_X11_isStreet
set_option maxRecDepth 20000 in
theorem ggX11_name_X11_isDay : GoodIn wsX11_name wsX11_isDay := goodIn_r _ [13, 14, 8, 9, 5, 10] (by decide +kernel) (by decide +kernel)
set_option maxRecDepth 20000 in
theorem gX11_name_X11_isDay : GoodIn wsX11_name (va_wsS RX11 236 yX11_isDay wsX11_isDay) := goodIn_app (goodIn_of _ (by decide +kernel)) ggX11_name_X11_isDay
theorem dX11_name_0 : decode cX11_name 0 = .ok (.aload_n 0, 1) := by decide +kernel
theorem dX11_name_1 : decode cX11_name 1 = .ok (.iconst 0, 1) := by decide +kernel
theorem dX11_name_2 : decode cX11_name 2 = .ok (.putfield 98, 3) := by decide +kernel
theorem dX11_name_5 : decode cX11_name 5 = .ok (.aload_n 0, 1) := by decide +kernel
theorem dX11_name_6 : decode cX11_name 6 = .ok (.iload_n 1, 1) := by decide +kernel
theorem dX11_name_7 : decode cX11_name 7 = .ok (.invokevirtual 188, 3) := by decide +kernel
theorem dX11_name_10 : decode cX11_name 10 = .ok (.ifCond .eq 19, 3) := by decide +kernel
theorem dX11_name_13 : decode cX11_name 13 = .ok (.lload_n 2, 1) := by decide +kernel
theorem dX11_name_14 : decode cX11_name 14 = .ok (.invokestatic 236, 3) := by decide +kernel
theorem dX11_name_17 : decode cX11_name 17 = .ok (.ifCond .eq 12, 3) := by decide +kernel
theorem dX11_name_20 : decode cX11_name 20 = .ok (.aload_n 0, 1) := by decide +kernel
theorem dX11_name_21 : decode cX11_name 21 = .ok (.iload_n 1, 1) := by decide +kernel
theorem dX11_name_22 : decode cX11_name 22 = .ok (.lload_n 2, 1) := by decide +kernel
theorem dX11_name_29 : decode cX11_name 29 = .ok (.iconst (-1), 1) := by decide +kernel
theorem dX11_name_30 : decode cX11_name 30 = .ok (.ireturn, 1) := by decide +kernel
set_option maxRecDepth 20000 in
theorem ggX11_where_X11_isStreet : GoodIn wsX11_where wsX11_isStreet := goodIn_r _ [6, 7, 8, 9, 5, 10, 31, 32, 33, 34, 35, 36, 37, 38, 39, 40, 41, 42, 43, 44, 45, 46, 47, 48, 49, 50, 51, 52, 53, 54, 55, 56, 57, 58, 59, 60, 61, 62, 63, 64, 65, 66, 67, 68, 69, 70, 71, 72, 73, 74, 75, 76, 77, 78, 79, 80, 81, 82, 83, 84, 85] (by decide +kernel) (by decide +kernel)
set_option maxRecDepth 20000 in
theorem gX11_where_X11_isStreet : GoodIn wsX11_where (wsV RX11 188 RX11 yX11_isStreet wsX11_isStreet) := goodIn_app (goodIn_of _ (by decide +kernel)) ggX11_where_X11_isStreet
set_option maxRecDepth 20000 in
theorem ggX11_where_X11_isDay : GoodIn wsX11_where wsX11_isDay := goodIn_r _ [13, 14, 8, 9, 5, 10] (by decide +kernel) (by decide +kernel)
set_option maxRecDepth 20000 in
theorem gX11_where_X11_isDay : GoodIn wsX11_where (va_wsS RX11 236 yX11_isDay wsX11_isDay) := goodIn_app (goodIn_of _ (by decide +kernel)) ggX11_where_X11_isDay
set_option maxRecDepth 20000 in
theorem ggX11_where_X11_layOut : GoodIn wsX11_where wsX11_layOut := goodIn_r _ [18, 7, 19, 20, 21, 22, 31, 32, 33, 34, 35, 36, 37, 38, 39, 40, 41, 42, 43, 44, 45, 46, 47, 48, 49, 50, 51, 52, 53, 54, 55, 56, 57, 58, 59, 60, 61, 62, 63, 64, 65, 66, 67, 68, 69, 70, 71, 72, 73, 74, 75, 76, 77, 78, 79, 80, 81, 82, 83, 84, 85] (by decide +kernel) (by decide +kernel)
set_option maxRecDepth 20000 in
theorem gX11_where_X11_layOut : GoodIn wsX11_where (wsV RX11 233 RX11 yX11_layOut wsX11_layOut) := goodIn_app (goodIn_of _ (by decide +kernel)) ggX11_where_X11_layOut
theorem dX11_where_0 : decode cX11_where 0 = .ok (.aload_n 0, 1) := by decide +kernel
theorem dX11_where_1 : decode cX11_where 1 = .ok (.iconst 0, 1) := by decide +kernel
theorem dX11_where_2 : decode cX11_where 2 = .ok (.putfield 98, 3) := by decide +kernel
theorem dX11_where_5 : decode cX11_where 5 = .ok (.aload_n 0, 1) := by decide +kernel
theorem dX11_where_6 : decode cX11_where 6 = .ok (.iload_n 1, 1) := by decide +kernel
theorem dX11_where_7 : decode cX11_where 7 = .ok (.invokevirtual 188, 3) := by decide +kernel
theorem dX11_where_10 : decode cX11_where 10 = .ok (.ifCond .eq 10, 3) := by decide +kernel
theorem dX11_where_13 : decode cX11_where 13 = .ok (.lload_n 2, 1) := by decide +kernel
theorem dX11_where_14 : decode cX11_where 14 = .ok (.invokestatic 236, 3) := by decide +kernel
theorem dX11_where_17 : decode cX11_where 17 = .ok (.ifCond .ne 5, 3) := by decide +kernel
theorem dX11_where_20 : decode cX11_where 20 = .ok (.iconst (-1), 1) := by decide +kernel
theorem dX11_where_21 : decode cX11_where 21 = .ok (.ireturn, 1) := by decide +kernel
theorem dX11_where_22 : decode cX11_where 22 = .ok (.aload_n 0, 1) := by decide +kernel
theorem dX11_where_23 : decode cX11_where 23 = .ok (.iconst 0, 1) := by decide +kernel
theorem dX11_where_24 : decode cX11_where 24 = .ok (.invokevirtual 233, 3) := by decide +kernel
theorem dX11_where_27 : decode cX11_where 27 = .ok (.aload_n 0, 1) := by decide +kernel
theorem dX11_where_28 : decode cX11_where 28 = .ok (.iload_n 1, 1) := by decide +kernel
theorem dX11_where_29 : decode cX11_where 29 = .ok (.lload_n 2, 1) := by decide +kernel
set_option maxRecDepth 20000 in
theorem ggX11_same_X11_isDay : GoodIn wsX11_same wsX11_isDay := goodIn_r _ [7, 8, 9, 10, 6, 11] (by decide +kernel) (by decide +kernel)
set_option maxRecDepth 20000 in
theorem gX11_same_X11_isDay : GoodIn wsX11_same (va_wsS RX11 236 yX11_isDay wsX11_isDay) := goodIn_app (goodIn_of _ (by decide +kernel)) ggX11_same_X11_isDay
set_option maxRecDepth 20000 in
theorem ggX11_same_X11_layOut : GoodIn wsX11_same wsX11_layOut := goodIn_r _ [15, 2, 16, 17, 18, 19, 36, 37, 38, 39, 40, 41, 42, 43, 44, 45, 46, 47, 48, 49, 50, 51, 52, 53, 54, 55, 56, 57, 58, 59, 60, 61, 62, 63, 64, 65, 66, 67, 68, 69, 70, 71, 72, 73, 74, 75, 76, 77, 78, 79, 80, 81, 82, 83, 84, 85, 86, 87, 88, 89, 90] (by decide +kernel) (by decide +kernel)
set_option maxRecDepth 20000 in
theorem gX11_same_X11_layOut : GoodIn wsX11_same (wsV RX11 233 RX11 yX11_layOut wsX11_layOut) := goodIn_app (goodIn_of _ (by decide +kernel)) ggX11_same_X11_layOut
set_option maxRecDepth 20000 in
theorem ggX11_same_X11_tell : GoodIn wsX11_same wsX11_tell := goodIn_r _ [27, 28, 3, 36, 37, 38, 39, 40, 41, 42, 43, 44, 45, 46, 47, 48, 49, 50, 51, 52, 53, 54, 55, 56, 57, 58, 59, 60, 61, 62, 63, 64, 65, 66, 67, 68, 69, 70, 71, 72, 73, 74, 75, 76, 77, 78, 79, 80, 81, 82, 83, 84, 85, 86, 87, 88, 89, 90] (by decide +kernel) (by decide +kernel)
set_option maxRecDepth 20000 in
theorem gX11_same_X11_tell : GoodIn wsX11_same (wsV RX11 243 RX11 yX11_tell wsX11_tell) := goodIn_app (goodIn_of _ (by decide +kernel)) ggX11_same_X11_tell
set_option maxRecDepth 20000 in
theorem ggX11_same_J6_bitCount_0f7a4 : GoodIn wsX11_same wsJ6_bitCount_0f7a4 := goodIn_r _ [32, 33, 34, 35] (by decide +kernel) (by decide +kernel)
set_option maxRecDepth 20000 in
theorem gX11_same_J6_bitCount_0f7a4 : GoodIn wsX11_same (va_wsS RX11 247 yJ6_bitCount_0f7a4 wsJ6_bitCount_0f7a4) := goodIn_app (goodIn_of _ (by decide +kernel)) ggX11_same_J6_bitCount_0f7a4
theorem dX11_same_0 : decode cX11_same 0 = .ok (.aload_n 0, 1) := by decide +kernel
theorem dX11_same_1 : decode cX11_same 1 = .ok (.iconst 0, 1) := by decide +kernel
theorem dX11_same_2 : decode cX11_same 2 = .ok (.putfield 98, 3) := by decide +kernel
theorem dX11_same_5 : decode cX11_same 5 = .ok (.lload_n 1, 1) := by decide +kernel
theorem dX11_same_6 : decode cX11_same 6 = .ok (.invokestatic 236, 3) := by decide +kernel
theorem dX11_same_9 : decode cX11_same 9 = .ok (.ifCond .eq 10, 3) := by decide +kernel
theorem dX11_same_12 : decode cX11_same 12 = .ok (.lload_n 3, 1) := by decide +kernel
theorem dX11_same_13 : decode cX11_same 13 = .ok (.invokestatic 236, 3) := by decide +kernel
theorem dX11_same_16 : decode cX11_same 16 = .ok (.ifCond .ne 5, 3) := by decide +kernel
theorem dX11_same_19 : decode cX11_same 19 = .ok (.iconst (-1), 1) := by decide +kernel
theorem dX11_same_20 : decode cX11_same 20 = .ok (.ireturn, 1) := by decide +kernel
theorem dX11_same_21 : decode cX11_same 21 = .ok (.aload_n 0, 1) := by decide +kernel
theorem dX11_same_22 : decode cX11_same 22 = .ok (.iconst 0, 1) := by decide +kernel
theorem dX11_same_23 : decode cX11_same 23 = .ok (.invokevirtual 233, 3) := by decide +kernel
theorem dX11_same_26 : decode cX11_same 26 = .ok (.iconst 0, 1) := by decide +kernel
theorem dX11_same_27 : decode cX11_same 27 = .ok (.istore 5, 2) := by decide +kernel
theorem dX11_same_29 : decode cX11_same 29 = .ok (.iconst 0, 1) := by decide +kernel
theorem dX11_same_30 : decode cX11_same 30 = .ok (.istore 6, 2) := by decide +kernel
theorem dX11_same_32 : decode cX11_same 32 = .ok (.iload 6, 2) := by decide +kernel
theorem dX11_same_34 : decode cX11_same 34 = .ok (.aload_n 0, 1) := by decide +kernel
theorem dX11_same_35 : decode cX11_same 35 = .ok (.getfield 104, 3) := by decide +kernel
theorem dX11_same_38 : decode cX11_same 38 = .ok (.if_icmp .ge 39, 3) := by decide +kernel
theorem dX11_same_41 : decode cX11_same 41 = .ok (.iload 5, 2) := by decide +kernel
theorem dX11_same_43 : decode cX11_same 43 = .ok (.aload_n 0, 1) := by decide +kernel
theorem dX11_same_44 : decode cX11_same 44 = .ok (.iload 6, 2) := by decide +kernel
theorem dX11_same_46 : decode cX11_same 46 = .ok (.lload_n 1, 1) := by decide +kernel
theorem dX11_same_77 : decode cX11_same 77 = .ok (.aload_n 0, 1) := by decide +kernel
theorem dX11_same_78 : decode cX11_same 78 = .ok (.iconst 0, 1) := by decide +kernel
theorem dX11_same_79 : decode cX11_same 79 = .ok (.putfield 101, 3) := by decide +kernel
theorem dX11_same_82 : decode cX11_same 82 = .ok (.aload_n 0, 1) := by decide +kernel
theorem dX11_same_83 : decode cX11_same 83 = .ok (.iload 5, 2) := by decide +kernel
theorem dX11_same_85 : decode cX11_same 85 = .ok (.i2l, 1) := by decide +kernel
theorem dX11_same_86 : decode cX11_same 86 = .ok (.invokevirtual 243, 3) := by decide +kernel
theorem dX11_same_89 : decode cX11_same 89 = .ok (.iload 5, 2) := by decide +kernel
theorem dX11_same_91 : decode cX11_same 91 = .ok (.invokestatic 247, 3) := by decide +kernel
theorem dX11_same_94 : decode cX11_same 94 = .ok (.ireturn, 1) := by decide +kernel
theorem dX11_ownOn_0 : decode cX11_ownOn 0 = .ok (.iconst 0, 1) := by decide +kernel
theorem dX11_ownOn_1 : decode cX11_ownOn 1 = .ok (.istore_n 3, 1) := by decide +kernel
theorem dX11_ownOn_2 : decode cX11_ownOn 2 = .ok (.iconst 0, 1) := by decide +kernel
theorem dX11_ownOn_3 : decode cX11_ownOn 3 = .ok (.istore 4, 2) := by decide +kernel
theorem dX11_ownOn_5 : decode cX11_ownOn 5 = .ok (.iload 4, 2) := by decide +kernel
theorem dX11_ownOn_7 : decode cX11_ownOn 7 = .ok (.aload_n 0, 1) := by decide +kernel
theorem dX11_ownOn_8 : decode cX11_ownOn 8 = .ok (.getfield 104, 3) := by decide +kernel
theorem dX11_ownOn_11 : decode cX11_ownOn 11 = .ok (.if_icmp .ge 29, 3) := by decide +kernel
theorem dX11_ownOn_14 : decode cX11_ownOn 14 = .ok (.iload_n 3, 1) := by decide +kernel
theorem dX11_ownOn_15 : decode cX11_ownOn 15 = .ok (.aload_n 0, 1) := by decide +kernel
theorem dX11_ownOn_16 : decode cX11_ownOn 16 = .ok (.iload 4, 2) := by decide +kernel
theorem dX11_ownOn_18 : decode cX11_ownOn 18 = .ok (.lload_n 1, 1) := by decide +kernel
theorem dX11_ownOn_40 : decode cX11_ownOn 40 = .ok (.iload_n 3, 1) := by decide +kernel
theorem dX11_ownOn_41 : decode cX11_ownOn 41 = .ok (.ireturn, 1) := by decide +kernel
set_option maxRecDepth 20000 in
theorem ggX11_findPeriod_X11_layOut : GoodIn wsX11_findPeriod wsX11_layOut := goodIn_r _ [6, 1, 7, 8, 9, 10, 19, 20, 21, 22, 23, 24, 25, 26, 27, 28, 29, 30, 31, 32, 33, 34, 35, 36, 37, 38, 39, 40, 41, 42, 43, 44, 45, 46, 47, 48, 49, 50, 51, 52, 53, 54, 55, 56, 57, 58, 59, 60, 61, 62, 63, 64, 65, 66, 67, 68, 69, 70, 71, 72, 73] (by decide +kernel) (by decide +kernel)
set_option maxRecDepth 20000 in
theorem gX11_findPeriod_X11_layOut : GoodIn wsX11_findPeriod (wsV RX11 233 RX11 yX11_layOut wsX11_layOut) := goodIn_app (goodIn_of _ (by decide +kernel)) ggX11_findPeriod_X11_layOut
set_option maxRecDepth 20000 in
theorem ggX11_findPeriod_X11_ownOn : GoodIn wsX11_findPeriod wsX11_ownOn := goodIn_r _ [14, 1, 15, 16, 17, 5, 18, 7, 8, 19, 20, 21, 22, 23, 24, 25, 26, 27, 28, 29, 30, 31, 32, 33, 34, 35, 36, 37, 38, 39, 40, 41, 42, 43, 44, 45, 46, 47, 48, 49, 50, 51, 52, 53, 54, 55, 56, 57, 58, 59, 60, 61, 62, 63, 64, 65, 66, 67, 68, 69, 70, 71, 72, 73] (by decide +kernel) (by decide +kernel)
set_option maxRecDepth 20000 in
theorem gX11_findPeriod_X11_ownOn : GoodIn wsX11_findPeriod (wsV RX11 253 RX11 yX11_ownOn wsX11_ownOn) := goodIn_app (goodIn_of _ (by decide +kernel)) ggX11_findPeriod_X11_ownOn
theorem dX11_findPeriod_0 : decode cX11_findPeriod 0 = .ok (.aload_n 0, 1) := by decide +kernel
theorem dX11_findPeriod_1 : decode cX11_findPeriod 1 = .ok (.iconst 0, 1) := by decide +kernel
theorem dX11_findPeriod_2 : decode cX11_findPeriod 2 = .ok (.invokevirtual 233, 3) := by decide +kernel
theorem dX11_findPeriod_5 : decode cX11_findPeriod 5 = .ok (.iconst 1, 1) := by decide +kernel
theorem dX11_findPeriod_6 : decode cX11_findPeriod 6 = .ok (.istore_n 1, 1) := by decide +kernel
theorem dX11_findPeriod_7 : decode cX11_findPeriod 7 = .ok (.aload_n 0, 1) := by decide +kernel
theorem dX11_findPeriod_8 : decode cX11_findPeriod 8 = .ok (.iload_n 1, 1) := by decide +kernel
theorem dX11_findPeriod_9 : decode cX11_findPeriod 9 = .ok (.i2l, 1) := by decide +kernel
theorem dX11_findPeriod_10 : decode cX11_findPeriod 10 = .ok (.invokevirtual 253, 3) := by decide +kernel
theorem dX11_findPeriod_13 : decode cX11_findPeriod 13 = .ok (.aload_n 0, 1) := by decide +kernel
theorem dX11_findPeriod_14 : decode cX11_findPeriod 14 = .ok (.getfield 104, 3) := by decide +kernel
theorem dX11_findPeriod_17 : decode cX11_findPeriod 17 = .ok (.if_icmp .ge 9, 3) := by decide +kernel
theorem dX11_findPeriod_20 : decode cX11_findPeriod 20 = .ok (.iinc 1 1, 3) := by decide +kernel
theorem dX11_findPeriod_23 : decode cX11_findPeriod 23 = .ok (.goto (-16), 3) := by decide +kernel
theorem dX11_findPeriod_26 : decode cX11_findPeriod 26 = .ok (.iload_n 1, 1) := by decide +kernel
theorem dX11_findPeriod_27 : decode cX11_findPeriod 27 = .ok (.ireturn, 1) := by decide +kernel
set_option maxRecDepth 20000 in
theorem ggX11_period_X11_findPeriod : GoodIn wsX11_period wsX11_findPeriod := goodIn_r _ [8, 9, 10, 11, 12, 7, 13, 14, 3, 15, 16, 17, 18, 19, 20, 21, 22, 23, 24, 30, 31, 32, 33, 34, 35, 36, 37, 38, 39, 40, 41, 42, 43, 44, 45, 46, 47, 48, 49, 50, 51, 52, 53, 54, 55, 56, 57, 58, 59, 60, 61, 62, 63, 64, 65, 66, 67, 68, 69, 70, 71, 72, 73, 74, 75, 76, 77, 78, 79, 80, 81, 82, 83, 84] (by decide +kernel) (by decide +kernel)
set_option maxRecDepth 20000 in
theorem gX11_period_X11_findPeriod : GoodIn wsX11_period (wsV RX11 256 RX11 yX11_findPeriod wsX11_findPeriod) := goodIn_app (goodIn_of _ (by decide +kernel)) ggX11_period_X11_findPeriod
set_option maxRecDepth 20000 in
theorem ggX11_period_X11_tell : GoodIn wsX11_period wsX11_tell := goodIn_r _ [28, 29, 2, 30, 31, 32, 33, 34, 35, 36, 37, 38, 39, 40, 41, 42, 43, 44, 45, 46, 47, 48, 49, 50, 51, 52, 53, 54, 55, 56, 57, 58, 59, 60, 61, 62, 63, 64, 65, 66, 67, 68, 69, 70, 71, 72, 73, 74, 75, 76, 77, 78, 79, 80, 81, 82, 83, 84] (by decide +kernel) (by decide +kernel)
set_option maxRecDepth 20000 in
theorem gX11_period_X11_tell : GoodIn wsX11_period (wsV RX11 243 RX11 yX11_tell wsX11_tell) := goodIn_app (goodIn_of _ (by decide +kernel)) ggX11_period_X11_tell
theorem dX11_period_0 : decode cX11_period 0 = .ok (.aload_n 0, 1) := by decide +kernel
theorem dX11_period_1 : decode cX11_period 1 = .ok (.iconst 0, 1) := by decide +kernel
theorem dX11_period_2 : decode cX11_period 2 = .ok (.putfield 98, 3) := by decide +kernel
theorem dX11_period_5 : decode cX11_period 5 = .ok (.aload_n 0, 1) := by decide +kernel
theorem dX11_period_6 : decode cX11_period 6 = .ok (.invokevirtual 256, 3) := by decide +kernel
theorem dX11_period_9 : decode cX11_period 9 = .ok (.istore_n 1, 1) := by decide +kernel
theorem dX11_period_10 : decode cX11_period 10 = .ok (.aload_n 0, 1) := by decide +kernel
theorem dX11_period_11 : decode cX11_period 11 = .ok (.iconst 0, 1) := by decide +kernel
theorem dX11_period_12 : decode cX11_period 12 = .ok (.putfield 101, 3) := by decide +kernel
theorem dX11_period_15 : decode cX11_period 15 = .ok (.aload_n 0, 1) := by decide +kernel
theorem dX11_period_16 : decode cX11_period 16 = .ok (.aload_n 0, 1) := by decide +kernel
theorem dX11_period_17 : decode cX11_period 17 = .ok (.getfield 227, 3) := by decide +kernel
theorem dX11_period_20 : decode cX11_period 20 = .ok (.i2l, 1) := by decide +kernel
theorem dX11_period_21 : decode cX11_period 21 = .ok (.invokevirtual 243, 3) := by decide +kernel
theorem dX11_period_24 : decode cX11_period 24 = .ok (.iload_n 1, 1) := by decide +kernel
theorem dX11_period_25 : decode cX11_period 25 = .ok (.ireturn, 1) := by decide +kernel
set_option maxRecDepth 20000 in
theorem ggX11_meets_X11_isStreet : GoodIn wsX11_meets wsX11_isStreet := goodIn_r _ [9, 10, 11, 12, 8, 13, 29, 30, 31, 32, 33, 34, 35, 36, 37, 38, 39, 40, 41, 42, 43, 44, 45, 46, 47, 48, 49, 50, 51, 52, 53, 54, 55, 56, 57, 58, 59, 60, 61, 62, 63, 64, 65, 66, 67, 68, 69, 70, 71, 72, 73, 74, 75, 76, 77, 78, 79, 80, 81, 82, 83] (by decide +kernel) (by decide +kernel)
set_option maxRecDepth 20000 in
theorem gX11_meets_X11_isStreet : GoodIn wsX11_meets (wsV RX11 188 RX11 yX11_isStreet wsX11_isStreet) := goodIn_app (goodIn_of _ (by decide +kernel)) ggX11_meets_X11_isStreet
set_option maxRecDepth 20000 in
theorem ggX11_meets_X11_isDay : GoodIn wsX11_meets wsX11_isDay := goodIn_r _ [16, 17, 11, 12, 8, 13] (by decide +kernel) (by decide +kernel)
set_option maxRecDepth 20000 in
theorem gX11_meets_X11_isDay : GoodIn wsX11_meets (va_wsS RX11 236 yX11_isDay wsX11_isDay) := goodIn_app (goodIn_of _ (by decide +kernel)) ggX11_meets_X11_isDay
set_option maxRecDepth 20000 in
theorem ggX11_meets_X11_layOut : GoodIn wsX11_meets wsX11_layOut := goodIn_r _ [21, 10, 22, 3, 23, 24, 29, 30, 31, 32, 33, 34, 35, 36, 37, 38, 39, 40, 41, 42, 43, 44, 45, 46, 47, 48, 49, 50, 51, 52, 53, 54, 55, 56, 57, 58, 59, 60, 61, 62, 63, 64, 65, 66, 67, 68, 69, 70, 71, 72, 73, 74, 75, 76, 77, 78, 79, 80, 81, 82, 83] (by decide +kernel) (by decide +kernel)
set_option maxRecDepth 20000 in
theorem gX11_meets_X11_layOut : GoodIn wsX11_meets (wsV RX11 233 RX11 yX11_layOut wsX11_layOut) := goodIn_app (goodIn_of _ (by decide +kernel)) ggX11_meets_X11_layOut
theorem dX11_meets_0 : decode cX11_meets 0 = .ok (.aload_n 0, 1) := by decide +kernel
theorem dX11_meets_1 : decode cX11_meets 1 = .ok (.iconst 0, 1) := by decide +kernel
theorem dX11_meets_2 : decode cX11_meets 2 = .ok (.putfield 98, 3) := by decide +kernel
theorem dX11_meets_5 : decode cX11_meets 5 = .ok (.aload_n 0, 1) := by decide +kernel
theorem dX11_meets_6 : decode cX11_meets 6 = .ok (.iload_n 1, 1) := by decide +kernel
theorem dX11_meets_7 : decode cX11_meets 7 = .ok (.invokevirtual 188, 3) := by decide +kernel
theorem dX11_meets_10 : decode cX11_meets 10 = .ok (.ifCond .eq 18, 3) := by decide +kernel
theorem dX11_meets_13 : decode cX11_meets 13 = .ok (.aload_n 0, 1) := by decide +kernel
theorem dX11_meets_14 : decode cX11_meets 14 = .ok (.iload_n 2, 1) := by decide +kernel
theorem dX11_meets_15 : decode cX11_meets 15 = .ok (.invokevirtual 188, 3) := by decide +kernel
theorem dX11_meets_18 : decode cX11_meets 18 = .ok (.ifCond .eq 10, 3) := by decide +kernel
theorem dX11_meets_21 : decode cX11_meets 21 = .ok (.lload_n 3, 1) := by decide +kernel
theorem dX11_meets_22 : decode cX11_meets 22 = .ok (.invokestatic 236, 3) := by decide +kernel
theorem dX11_meets_25 : decode cX11_meets 25 = .ok (.ifCond .ne 7, 3) := by decide +kernel
theorem dX11_meets_28 : decode cX11_meets 28 = .ok (.ldc2_w 259, 3) := by decide +kernel
theorem dX11_meets_31 : decode cX11_meets 31 = .ok (.lreturn, 1) := by decide +kernel
theorem dX11_meets_32 : decode cX11_meets 32 = .ok (.aload_n 0, 1) := by decide +kernel
theorem dX11_meets_33 : decode cX11_meets 33 = .ok (.iconst 0, 1) := by decide +kernel
theorem dX11_meets_34 : decode cX11_meets 34 = .ok (.invokevirtual 233, 3) := by decide +kernel
theorem dX11_meets_37 : decode cX11_meets 37 = .ok (.lload_n 3, 1) := by decide +kernel
theorem dX11_meets_38 : decode cX11_meets 38 = .ok (.lconst 1, 1) := by decide +kernel
theorem dX11_meets_39 : decode cX11_meets 39 = .ok (.ladd, 1) := by decide +kernel
theorem dX11_meets_40 : decode cX11_meets 40 = .ok (.lstore 5, 2) := by decide +kernel
theorem dX11_meets_42 : decode cX11_meets 42 = .ok (.lload 5, 2) := by decide +kernel
theorem dX11_meets_44 : decode cX11_meets 44 = .ok (.lload_n 3, 1) := by decide +kernel
theorem dX11_meets_45 : decode cX11_meets 45 = .ok (.aload_n 0, 1) := by decide +kernel
theorem dX11_meets_46 : decode cX11_meets 46 = .ok (.getfield 227, 3) := by decide +kernel
theorem dX11_meets_49 : decode cX11_meets 49 = .ok (.i2l, 1) := by decide +kernel
theorem dX11_meets_50 : decode cX11_meets 50 = .ok (.ladd, 1) := by decide +kernel
theorem dX11_meets_51 : decode cX11_meets 51 = .ok (.lcmp, 1) := by decide +kernel
theorem dX11_meets_52 : decode cX11_meets 52 = .ok (.ifCond .gt 26, 3) := by decide +kernel
theorem dX11_meets_55 : decode cX11_meets 55 = .ok (.aload_n 0, 1) := by decide +kernel
theorem dX11_meets_56 : decode cX11_meets 56 = .ok (.iload_n 1, 1) := by decide +kernel
theorem dX11_meets_57 : decode cX11_meets 57 = .ok (.lload 5, 2) := by decide +kernel
theorem dX11_meets_78 : decode cX11_meets 78 = .ok (.ldc2_w 261, 3) := by decide +kernel
theorem dX11_meets_81 : decode cX11_meets 81 = .ok (.lreturn, 1) := by decide +kernel
set_option maxRecDepth 20000 in
theorem ggX11_trade_X11_isStreet : GoodIn wsX11_trade wsX11_isStreet := goodIn_r _ [9, 10, 11, 12, 8, 13, 29, 30, 31, 32, 33, 34, 35, 36, 37, 38, 39, 40, 41, 42, 43, 44, 45, 46, 47, 48, 49, 50, 51, 52, 53, 54, 55, 56, 57, 58, 59, 60, 61, 62, 63, 64, 65, 66, 67, 68, 69, 70, 71, 72, 73, 74, 75, 76, 77, 78, 79, 80, 81, 82, 83] (by decide +kernel) (by decide +kernel)
set_option maxRecDepth 20000 in
theorem gX11_trade_X11_isStreet : GoodIn wsX11_trade (wsV RX11 188 RX11 yX11_isStreet wsX11_isStreet) := goodIn_app (goodIn_of _ (by decide +kernel)) ggX11_trade_X11_isStreet
set_option maxRecDepth 20000 in
theorem ggX11_trade_X11_isDay : GoodIn wsX11_trade wsX11_isDay := goodIn_r _ [16, 17, 11, 12, 8, 13] (by decide +kernel) (by decide +kernel)
set_option maxRecDepth 20000 in
theorem gX11_trade_X11_isDay : GoodIn wsX11_trade (va_wsS RX11 236 yX11_isDay wsX11_isDay) := goodIn_app (goodIn_of _ (by decide +kernel)) ggX11_trade_X11_isDay
set_option maxRecDepth 20000 in
theorem ggX11_trade_X11_layOut : GoodIn wsX11_trade wsX11_layOut := goodIn_r _ [21, 10, 22, 3, 23, 24, 29, 30, 31, 32, 33, 34, 35, 36, 37, 38, 39, 40, 41, 42, 43, 44, 45, 46, 47, 48, 49, 50, 51, 52, 53, 54, 55, 56, 57, 58, 59, 60, 61, 62, 63, 64, 65, 66, 67, 68, 69, 70, 71, 72, 73, 74, 75, 76, 77, 78, 79, 80, 81, 82, 83] (by decide +kernel) (by decide +kernel)
set_option maxRecDepth 20000 in
theorem gX11_trade_X11_layOut : GoodIn wsX11_trade (wsV RX11 233 RX11 yX11_layOut wsX11_layOut) := goodIn_app (goodIn_of _ (by decide +kernel)) ggX11_trade_X11_layOut
theorem dX11_trade_0 : decode cX11_trade 0 = .ok (.aload_n 0, 1) := by decide +kernel
theorem dX11_trade_1 : decode cX11_trade 1 = .ok (.iconst 0, 1) := by decide +kernel
theorem dX11_trade_2 : decode cX11_trade 2 = .ok (.putfield 98, 3) := by decide +kernel
theorem dX11_trade_5 : decode cX11_trade 5 = .ok (.aload_n 0, 1) := by decide +kernel
theorem dX11_trade_6 : decode cX11_trade 6 = .ok (.iload_n 1, 1) := by decide +kernel
theorem dX11_trade_7 : decode cX11_trade 7 = .ok (.invokevirtual 188, 3) := by decide +kernel
theorem dX11_trade_10 : decode cX11_trade 10 = .ok (.ifCond .eq 23, 3) := by decide +kernel
theorem dX11_trade_13 : decode cX11_trade 13 = .ok (.aload_n 0, 1) := by decide +kernel
theorem dX11_trade_14 : decode cX11_trade 14 = .ok (.iload_n 2, 1) := by decide +kernel
theorem dX11_trade_15 : decode cX11_trade 15 = .ok (.invokevirtual 188, 3) := by decide +kernel
theorem dX11_trade_18 : decode cX11_trade 18 = .ok (.ifCond .eq 15, 3) := by decide +kernel
theorem dX11_trade_21 : decode cX11_trade 21 = .ok (.iload_n 1, 1) := by decide +kernel
theorem dX11_trade_22 : decode cX11_trade 22 = .ok (.iload_n 2, 1) := by decide +kernel
theorem dX11_trade_23 : decode cX11_trade 23 = .ok (.if_icmp .eq 10, 3) := by decide +kernel
theorem dX11_trade_26 : decode cX11_trade 26 = .ok (.lload_n 3, 1) := by decide +kernel
theorem dX11_trade_27 : decode cX11_trade 27 = .ok (.invokestatic 236, 3) := by decide +kernel
theorem dX11_trade_30 : decode cX11_trade 30 = .ok (.ifCond .ne 7, 3) := by decide +kernel
theorem dX11_trade_33 : decode cX11_trade 33 = .ok (.ldc2_w 259, 3) := by decide +kernel
theorem dX11_trade_36 : decode cX11_trade 36 = .ok (.lreturn, 1) := by decide +kernel
theorem dX11_trade_37 : decode cX11_trade 37 = .ok (.aload_n 0, 1) := by decide +kernel
theorem dX11_trade_38 : decode cX11_trade 38 = .ok (.iconst 0, 1) := by decide +kernel
theorem dX11_trade_39 : decode cX11_trade 39 = .ok (.invokevirtual 233, 3) := by decide +kernel
theorem dX11_trade_42 : decode cX11_trade 42 = .ok (.lload_n 3, 1) := by decide +kernel
theorem dX11_trade_43 : decode cX11_trade 43 = .ok (.lconst 1, 1) := by decide +kernel
theorem dX11_trade_44 : decode cX11_trade 44 = .ok (.ladd, 1) := by decide +kernel
theorem dX11_trade_45 : decode cX11_trade 45 = .ok (.lstore 5, 2) := by decide +kernel
theorem dX11_trade_47 : decode cX11_trade 47 = .ok (.lload 5, 2) := by decide +kernel
theorem dX11_trade_49 : decode cX11_trade 49 = .ok (.lload_n 3, 1) := by decide +kernel
theorem dX11_trade_50 : decode cX11_trade 50 = .ok (.aload_n 0, 1) := by decide +kernel
theorem dX11_trade_51 : decode cX11_trade 51 = .ok (.getfield 227, 3) := by decide +kernel
theorem dX11_trade_54 : decode cX11_trade 54 = .ok (.i2l, 1) := by decide +kernel
theorem dX11_trade_55 : decode cX11_trade 55 = .ok (.ladd, 1) := by decide +kernel
theorem dX11_trade_56 : decode cX11_trade 56 = .ok (.lcmp, 1) := by decide +kernel
theorem dX11_trade_57 : decode cX11_trade 57 = .ok (.ifCond .gt 37, 3) := by decide +kernel
theorem dX11_trade_60 : decode cX11_trade 60 = .ok (.aload_n 0, 1) := by decide +kernel
theorem dX11_trade_61 : decode cX11_trade 61 = .ok (.iload_n 1, 1) := by decide +kernel
theorem dX11_trade_62 : decode cX11_trade 62 = .ok (.lload 5, 2) := by decide +kernel
theorem dX11_trade_94 : decode cX11_trade 94 = .ok (.ldc2_w 261, 3) := by decide +kernel
theorem dX11_trade_97 : decode cX11_trade 97 = .ok (.lreturn, 1) := by decide +kernel
set_option maxRecDepth 20000 in
theorem ggX11_bears_X11_isStreet : GoodIn wsX11_bears wsX11_isStreet := goodIn_r _ [7, 8, 9, 10, 6, 11, 23, 24, 25, 26, 27, 28, 29, 30, 31, 32, 33, 34, 35, 36, 37, 38, 39, 40, 41, 42, 43, 44, 45, 46, 47, 48, 49, 50, 51, 52, 53, 54, 55, 56, 57, 58, 59, 60, 61, 62, 63, 64, 65, 66, 67, 68, 69, 70, 71, 72, 73, 74, 75, 76, 77] (by decide +kernel) (by decide +kernel)
set_option maxRecDepth 20000 in
theorem gX11_bears_X11_isStreet : GoodIn wsX11_bears (wsV RX11 188 RX11 yX11_isStreet wsX11_isStreet) := goodIn_app (goodIn_of _ (by decide +kernel)) ggX11_bears_X11_isStreet
set_option maxRecDepth 20000 in
theorem ggX11_bears_X11_layOut : GoodIn wsX11_bears wsX11_layOut := goodIn_r _ [15, 8, 16, 2, 17, 18, 23, 24, 25, 26, 27, 28, 29, 30, 31, 32, 33, 34, 35, 36, 37, 38, 39, 40, 41, 42, 43, 44, 45, 46, 47, 48, 49, 50, 51, 52, 53, 54, 55, 56, 57, 58, 59, 60, 61, 62, 63, 64, 65, 66, 67, 68, 69, 70, 71, 72, 73, 74, 75, 76, 77] (by decide +kernel) (by decide +kernel)
set_option maxRecDepth 20000 in
theorem gX11_bears_X11_layOut : GoodIn wsX11_bears (wsV RX11 233 RX11 yX11_layOut wsX11_layOut) := goodIn_app (goodIn_of _ (by decide +kernel)) ggX11_bears_X11_layOut
theorem dX11_bears_0 : decode cX11_bears 0 = .ok (.aload_n 0, 1) := by decide +kernel
theorem dX11_bears_1 : decode cX11_bears 1 = .ok (.iconst 0, 1) := by decide +kernel
theorem dX11_bears_2 : decode cX11_bears 2 = .ok (.putfield 98, 3) := by decide +kernel
theorem dX11_bears_5 : decode cX11_bears 5 = .ok (.aload_n 0, 1) := by decide +kernel
theorem dX11_bears_6 : decode cX11_bears 6 = .ok (.iload_n 1, 1) := by decide +kernel
theorem dX11_bears_7 : decode cX11_bears 7 = .ok (.invokevirtual 188, 3) := by decide +kernel
theorem dX11_bears_10 : decode cX11_bears 10 = .ok (.ifCond .ne 5, 3) := by decide +kernel
theorem dX11_bears_13 : decode cX11_bears 13 = .ok (.iconst (-1), 1) := by decide +kernel
theorem dX11_bears_14 : decode cX11_bears 14 = .ok (.ireturn, 1) := by decide +kernel
theorem dX11_bears_15 : decode cX11_bears 15 = .ok (.aload_n 0, 1) := by decide +kernel
theorem dX11_bears_16 : decode cX11_bears 16 = .ok (.iconst 0, 1) := by decide +kernel
theorem dX11_bears_17 : decode cX11_bears 17 = .ok (.invokevirtual 233, 3) := by decide +kernel
theorem dX11_bears_20 : decode cX11_bears 20 = .ok (.iconst 0, 1) := by decide +kernel
theorem dX11_bears_21 : decode cX11_bears 21 = .ok (.istore_n 2, 1) := by decide +kernel
theorem dX11_bears_22 : decode cX11_bears 22 = .ok (.iconst 0, 1) := by decide +kernel
theorem dX11_bears_23 : decode cX11_bears 23 = .ok (.istore_n 3, 1) := by decide +kernel
theorem dX11_bears_24 : decode cX11_bears 24 = .ok (.iload_n 3, 1) := by decide +kernel
theorem dX11_bears_25 : decode cX11_bears 25 = .ok (.aload_n 0, 1) := by decide +kernel
theorem dX11_bears_26 : decode cX11_bears 26 = .ok (.getfield 227, 3) := by decide +kernel
theorem dX11_bears_29 : decode cX11_bears 29 = .ok (.if_icmp .ge 21, 3) := by decide +kernel
theorem dX11_bears_32 : decode cX11_bears 32 = .ok (.iload_n 2, 1) := by decide +kernel
theorem dX11_bears_33 : decode cX11_bears 33 = .ok (.iconst 1, 1) := by decide +kernel
theorem dX11_bears_34 : decode cX11_bears 34 = .ok (.aload_n 0, 1) := by decide +kernel
theorem dX11_bears_35 : decode cX11_bears 35 = .ok (.iload_n 1, 1) := by decide +kernel
theorem dX11_bears_36 : decode cX11_bears 36 = .ok (.iload_n 3, 1) := by decide +kernel
theorem dX11_bears_37 : decode cX11_bears 37 = .ok (.i2l, 1) := by decide +kernel
theorem dX11_bears_50 : decode cX11_bears 50 = .ok (.iload_n 2, 1) := by decide +kernel
theorem dX11_bears_51 : decode cX11_bears 51 = .ok (.ireturn, 1) := by decide +kernel
set_option maxRecDepth 20000 in
theorem ggX11_often_X11_isStreet : GoodIn wsX11_often wsX11_isStreet := goodIn_r _ [9, 10, 11, 12, 8, 13, 25, 26, 27, 28, 29, 30, 31, 32, 33, 34, 35, 36, 37, 38, 39, 40, 41, 42, 43, 44, 45, 46, 47, 48, 49, 50, 51, 52, 53, 54, 55, 56, 57, 58, 59, 60, 61, 62, 63, 64, 65, 66, 67, 68, 69, 70, 71, 72, 73, 74, 75, 76, 77, 78, 79] (by decide +kernel) (by decide +kernel)
set_option maxRecDepth 20000 in
theorem gX11_often_X11_isStreet : GoodIn wsX11_often (wsV RX11 188 RX11 yX11_isStreet wsX11_isStreet) := goodIn_app (goodIn_of _ (by decide +kernel)) ggX11_often_X11_isStreet
set_option maxRecDepth 20000 in
theorem ggX11_often_X11_in : GoodIn wsX11_often wsX11_in := goodIn_r _ [13] (by decide +kernel) (by decide +kernel)
set_option maxRecDepth 20000 in
theorem gX11_often_X11_in : GoodIn wsX11_often (va_wsS RX11 107 yX11_in wsX11_in) := goodIn_app (goodIn_of _ (by decide +kernel)) ggX11_often_X11_in
set_option maxRecDepth 20000 in
theorem ggX11_often_X11_layOut : GoodIn wsX11_often wsX11_layOut := goodIn_r _ [17, 10, 18, 4, 19, 20, 25, 26, 27, 28, 29, 30, 31, 32, 33, 34, 35, 36, 37, 38, 39, 40, 41, 42, 43, 44, 45, 46, 47, 48, 49, 50, 51, 52, 53, 54, 55, 56, 57, 58, 59, 60, 61, 62, 63, 64, 65, 66, 67, 68, 69, 70, 71, 72, 73, 74, 75, 76, 77, 78, 79] (by decide +kernel) (by decide +kernel)
set_option maxRecDepth 20000 in
theorem gX11_often_X11_layOut : GoodIn wsX11_often (wsV RX11 233 RX11 yX11_layOut wsX11_layOut) := goodIn_app (goodIn_of _ (by decide +kernel)) ggX11_often_X11_layOut
theorem dX11_often_0 : decode cX11_often 0 = .ok (.aload_n 0, 1) := by decide +kernel
theorem dX11_often_1 : decode cX11_often 1 = .ok (.iconst 0, 1) := by decide +kernel
theorem dX11_often_2 : decode cX11_often 2 = .ok (.putfield 98, 3) := by decide +kernel
theorem dX11_often_5 : decode cX11_often 5 = .ok (.aload_n 0, 1) := by decide +kernel
theorem dX11_often_6 : decode cX11_often 6 = .ok (.iload_n 1, 1) := by decide +kernel
theorem dX11_often_7 : decode cX11_often 7 = .ok (.invokevirtual 188, 3) := by decide +kernel
theorem dX11_often_10 : decode cX11_often 10 = .ok (.ifCond .eq 22, 3) := by decide +kernel
theorem dX11_often_13 : decode cX11_often 13 = .ok (.aload_n 0, 1) := by decide +kernel
theorem dX11_often_14 : decode cX11_often 14 = .ok (.iload_n 2, 1) := by decide +kernel
theorem dX11_often_15 : decode cX11_often 15 = .ok (.invokevirtual 188, 3) := by decide +kernel
theorem dX11_often_18 : decode cX11_often 18 = .ok (.ifCond .eq 14, 3) := by decide +kernel
theorem dX11_often_21 : decode cX11_often 21 = .ok (.lload_n 3, 1) := by decide +kernel
theorem dX11_often_22 : decode cX11_often 22 = .ok (.lconst 1, 1) := by decide +kernel
theorem dX11_often_23 : decode cX11_often 23 = .ok (.ldc2_w 119, 3) := by decide +kernel
theorem dX11_often_26 : decode cX11_often 26 = .ok (.invokestatic 107, 3) := by decide +kernel
theorem dX11_often_29 : decode cX11_often 29 = .ok (.ifCond .ne 7, 3) := by decide +kernel
theorem dX11_often_32 : decode cX11_often 32 = .ok (.ldc2_w 259, 3) := by decide +kernel
theorem dX11_often_35 : decode cX11_often 35 = .ok (.lreturn, 1) := by decide +kernel
theorem dX11_often_36 : decode cX11_often 36 = .ok (.aload_n 0, 1) := by decide +kernel
theorem dX11_often_37 : decode cX11_often 37 = .ok (.iconst 0, 1) := by decide +kernel
theorem dX11_often_38 : decode cX11_often 38 = .ok (.invokevirtual 233, 3) := by decide +kernel
theorem dX11_often_41 : decode cX11_often 41 = .ok (.lconst 0, 1) := by decide +kernel
theorem dX11_often_42 : decode cX11_often 42 = .ok (.lstore 5, 2) := by decide +kernel
theorem dX11_often_44 : decode cX11_often 44 = .ok (.iconst 0, 1) := by decide +kernel
theorem dX11_often_45 : decode cX11_often 45 = .ok (.istore 7, 2) := by decide +kernel
theorem dX11_often_47 : decode cX11_often 47 = .ok (.iload 7, 2) := by decide +kernel
theorem dX11_often_49 : decode cX11_often 49 = .ok (.aload_n 0, 1) := by decide +kernel
theorem dX11_often_50 : decode cX11_often 50 = .ok (.getfield 227, 3) := by decide +kernel
theorem dX11_often_53 : decode cX11_often 53 = .ok (.if_icmp .ge 49, 3) := by decide +kernel
theorem dX11_often_56 : decode cX11_often 56 = .ok (.aload_n 0, 1) := by decide +kernel
theorem dX11_often_57 : decode cX11_often 57 = .ok (.iload_n 1, 1) := by decide +kernel
theorem dX11_often_58 : decode cX11_often 58 = .ok (.iload 7, 2) := by decide +kernel
theorem dX11_often_60 : decode cX11_often 60 = .ok (.i2l, 1) := by decide +kernel
theorem dX11_often_102 : decode cX11_often 102 = .ok (.lload 5, 2) := by decide +kernel
theorem dX11_often_104 : decode cX11_often 104 = .ok (.lreturn, 1) := by decide +kernel
set_option maxRecDepth 20000 in
theorem ggX11_quiet_X11_layOut : GoodIn wsX11_quiet wsX11_layOut := goodIn_r _ [8, 9, 10, 2, 11, 12, 26, 27, 28, 29, 30, 31, 32, 33, 34, 35, 36, 37, 38, 39, 40, 41, 42, 43, 44, 45, 46, 47, 48, 49, 50, 51, 52, 53, 54, 55, 56, 57, 58, 59, 60, 61, 62, 63, 64, 65, 66, 67, 68, 69, 70, 71, 72, 73, 74, 75, 76, 77, 78, 79, 80] (by decide +kernel) (by decide +kernel)
set_option maxRecDepth 20000 in
theorem gX11_quiet_X11_layOut : GoodIn wsX11_quiet (wsV RX11 233 RX11 yX11_layOut wsX11_layOut) := goodIn_app (goodIn_of _ (by decide +kernel)) ggX11_quiet_X11_layOut
set_option maxRecDepth 20000 in
theorem ggX11_quiet_X11_ownOn : GoodIn wsX11_quiet wsX11_ownOn := goodIn_r _ [16, 9, 17, 18, 19, 7, 20, 10, 2, 26, 27, 28, 29, 30, 31, 32, 33, 34, 35, 36, 37, 38, 39, 40, 41, 42, 43, 44, 45, 46, 47, 48, 49, 50, 51, 52, 53, 54, 55, 56, 57, 58, 59, 60, 61, 62, 63, 64, 65, 66, 67, 68, 69, 70, 71, 72, 73, 74, 75, 76, 77, 78, 79, 80] (by decide +kernel) (by decide +kernel)
set_option maxRecDepth 20000 in
theorem gX11_quiet_X11_ownOn : GoodIn wsX11_quiet (wsV RX11 253 RX11 yX11_ownOn wsX11_ownOn) := goodIn_app (goodIn_of _ (by decide +kernel)) ggX11_quiet_X11_ownOn
set_option maxRecDepth 20000 in
theorem ggX11_quiet_X11_tell : GoodIn wsX11_quiet wsX11_tell := goodIn_r _ [24, 25, 3, 26, 27, 28, 29, 30, 31, 32, 33, 34, 35, 36, 37, 38, 39, 40, 41, 42, 43, 44, 45, 46, 47, 48, 49, 50, 51, 52, 53, 54, 55, 56, 57, 58, 59, 60, 61, 62, 63, 64, 65, 66, 67, 68, 69, 70, 71, 72, 73, 74, 75, 76, 77, 78, 79, 80] (by decide +kernel) (by decide +kernel)
set_option maxRecDepth 20000 in
theorem gX11_quiet_X11_tell : GoodIn wsX11_quiet (wsV RX11 243 RX11 yX11_tell wsX11_tell) := goodIn_app (goodIn_of _ (by decide +kernel)) ggX11_quiet_X11_tell
theorem dX11_quiet_0 : decode cX11_quiet 0 = .ok (.aload_n 0, 1) := by decide +kernel
theorem dX11_quiet_1 : decode cX11_quiet 1 = .ok (.iconst 0, 1) := by decide +kernel
theorem dX11_quiet_2 : decode cX11_quiet 2 = .ok (.putfield 98, 3) := by decide +kernel
theorem dX11_quiet_5 : decode cX11_quiet 5 = .ok (.aload_n 0, 1) := by decide +kernel
theorem dX11_quiet_6 : decode cX11_quiet 6 = .ok (.iconst 0, 1) := by decide +kernel
theorem dX11_quiet_7 : decode cX11_quiet 7 = .ok (.invokevirtual 233, 3) := by decide +kernel
theorem dX11_quiet_10 : decode cX11_quiet 10 = .ok (.bipush (-2), 2) := by decide +kernel
theorem dX11_quiet_12 : decode cX11_quiet 12 = .ok (.istore_n 1, 1) := by decide +kernel
theorem dX11_quiet_13 : decode cX11_quiet 13 = .ok (.iconst 1, 1) := by decide +kernel
theorem dX11_quiet_14 : decode cX11_quiet 14 = .ok (.istore_n 2, 1) := by decide +kernel
theorem dX11_quiet_15 : decode cX11_quiet 15 = .ok (.iload_n 2, 1) := by decide +kernel
theorem dX11_quiet_16 : decode cX11_quiet 16 = .ok (.aload_n 0, 1) := by decide +kernel
theorem dX11_quiet_17 : decode cX11_quiet 17 = .ok (.getfield 227, 3) := by decide +kernel
theorem dX11_quiet_20 : decode cX11_quiet 20 = .ok (.if_icmp .ge 30, 3) := by decide +kernel
theorem dX11_quiet_23 : decode cX11_quiet 23 = .ok (.iload_n 1, 1) := by decide +kernel
theorem dX11_quiet_24 : decode cX11_quiet 24 = .ok (.ifCond .lt 18, 3) := by decide +kernel
theorem dX11_quiet_27 : decode cX11_quiet 27 = .ok (.aload_n 0, 1) := by decide +kernel
theorem dX11_quiet_28 : decode cX11_quiet 28 = .ok (.iload_n 2, 1) := by decide +kernel
theorem dX11_quiet_29 : decode cX11_quiet 29 = .ok (.i2l, 1) := by decide +kernel
theorem dX11_quiet_30 : decode cX11_quiet 30 = .ok (.invokevirtual 253, 3) := by decide +kernel
theorem dX11_quiet_33 : decode cX11_quiet 33 = .ok (.aload_n 0, 1) := by decide +kernel
theorem dX11_quiet_34 : decode cX11_quiet 34 = .ok (.iload_n 1, 1) := by decide +kernel
theorem dX11_quiet_35 : decode cX11_quiet 35 = .ok (.i2l, 1) := by decide +kernel
theorem dX11_quiet_36 : decode cX11_quiet 36 = .ok (.invokevirtual 253, 3) := by decide +kernel
theorem dX11_quiet_39 : decode cX11_quiet 39 = .ok (.if_icmp .le 5, 3) := by decide +kernel
theorem dX11_quiet_42 : decode cX11_quiet 42 = .ok (.iload_n 2, 1) := by decide +kernel
theorem dX11_quiet_43 : decode cX11_quiet 43 = .ok (.istore_n 1, 1) := by decide +kernel
theorem dX11_quiet_44 : decode cX11_quiet 44 = .ok (.iinc 2 1, 3) := by decide +kernel
theorem dX11_quiet_47 : decode cX11_quiet 47 = .ok (.goto (-32), 3) := by decide +kernel
theorem dX11_quiet_50 : decode cX11_quiet 50 = .ok (.iload_n 1, 1) := by decide +kernel
theorem dX11_quiet_51 : decode cX11_quiet 51 = .ok (.ifCond .ge 6, 3) := by decide +kernel
theorem dX11_quiet_54 : decode cX11_quiet 54 = .ok (.bipush (-2), 2) := by decide +kernel
theorem dX11_quiet_56 : decode cX11_quiet 56 = .ok (.ireturn, 1) := by decide +kernel
theorem dX11_quiet_57 : decode cX11_quiet 57 = .ok (.aload_n 0, 1) := by decide +kernel
theorem dX11_quiet_58 : decode cX11_quiet 58 = .ok (.iconst 0, 1) := by decide +kernel
theorem dX11_quiet_59 : decode cX11_quiet 59 = .ok (.putfield 101, 3) := by decide +kernel
theorem dX11_quiet_62 : decode cX11_quiet 62 = .ok (.aload_n 0, 1) := by decide +kernel
theorem dX11_quiet_63 : decode cX11_quiet 63 = .ok (.aload_n 0, 1) := by decide +kernel
theorem dX11_quiet_64 : decode cX11_quiet 64 = .ok (.iload_n 1, 1) := by decide +kernel
theorem dX11_quiet_65 : decode cX11_quiet 65 = .ok (.i2l, 1) := by decide +kernel
theorem dX11_quiet_66 : decode cX11_quiet 66 = .ok (.invokevirtual 253, 3) := by decide +kernel
theorem dX11_quiet_69 : decode cX11_quiet 69 = .ok (.i2l, 1) := by decide +kernel
theorem dX11_quiet_70 : decode cX11_quiet 70 = .ok (.invokevirtual 243, 3) := by decide +kernel
theorem dX11_quiet_73 : decode cX11_quiet 73 = .ok (.iload_n 1, 1) := by decide +kernel
theorem dX11_quiet_74 : decode cX11_quiet 74 = .ok (.ireturn, 1) := by decide +kernel
set_option maxRecDepth 20000 in
theorem ggX11_letter_X11_isStreet : GoodIn wsX11_letter wsX11_isStreet := goodIn_r _ [9, 10, 11, 12, 8, 13, 18, 19, 20, 21, 22, 23, 24, 25, 26, 27, 28, 29, 30, 31, 32, 33, 34, 35, 36, 37, 38, 39, 40, 41, 42, 43, 44, 45, 46, 47, 48, 49, 50, 51, 52, 53, 54, 55, 56, 57, 58, 59, 60, 61, 62, 63, 64, 65, 66, 67, 68, 69, 70, 71, 72] (by decide +kernel) (by decide +kernel)
set_option maxRecDepth 20000 in
theorem gX11_letter_X11_isStreet : GoodIn wsX11_letter (wsV RX11 188 RX11 yX11_isStreet wsX11_isStreet) := goodIn_app (goodIn_of _ (by decide +kernel)) ggX11_letter_X11_isStreet
set_option maxRecDepth 20000 in
theorem ggX11_letter_X11_isDay : GoodIn wsX11_letter wsX11_isDay := goodIn_r _ [16, 17, 11, 12, 8, 13] (by decide +kernel) (by decide +kernel)
set_option maxRecDepth 20000 in
theorem gX11_letter_X11_isDay : GoodIn wsX11_letter (va_wsS RX11 236 yX11_isDay wsX11_isDay) := goodIn_app (goodIn_of _ (by decide +kernel)) ggX11_letter_X11_isDay
theorem dX11_letter_0 : decode cX11_letter 0 = .ok (.aload_n 0, 1) := by decide +kernel
theorem dX11_letter_1 : decode cX11_letter 1 = .ok (.iconst 0, 1) := by decide +kernel
theorem dX11_letter_2 : decode cX11_letter 2 = .ok (.putfield 98, 3) := by decide +kernel
theorem dX11_letter_5 : decode cX11_letter 5 = .ok (.aload_n 0, 1) := by decide +kernel
theorem dX11_letter_6 : decode cX11_letter 6 = .ok (.iload_n 1, 1) := by decide +kernel
theorem dX11_letter_7 : decode cX11_letter 7 = .ok (.invokevirtual 188, 3) := by decide +kernel
theorem dX11_letter_10 : decode cX11_letter 10 = .ok (.ifCond .eq 19, 3) := by decide +kernel
theorem dX11_letter_13 : decode cX11_letter 13 = .ok (.lload_n 2, 1) := by decide +kernel
theorem dX11_letter_14 : decode cX11_letter 14 = .ok (.invokestatic 236, 3) := by decide +kernel
theorem dX11_letter_17 : decode cX11_letter 17 = .ok (.ifCond .eq 12, 3) := by decide +kernel
theorem dX11_letter_20 : decode cX11_letter 20 = .ok (.aload_n 0, 1) := by decide +kernel
theorem dX11_letter_21 : decode cX11_letter 21 = .ok (.getfield 114, 3) := by decide +kernel
theorem dX11_letter_24 : decode cX11_letter 24 = .ok (.bipush 12, 2) := by decide +kernel
theorem dX11_letter_26 : decode cX11_letter 26 = .ok (.if_icmp .ne 5, 3) := by decide +kernel
theorem dX11_letter_29 : decode cX11_letter 29 = .ok (.iconst (-1), 1) := by decide +kernel
theorem dX11_letter_30 : decode cX11_letter 30 = .ok (.ireturn, 1) := by decide +kernel
theorem dX11_letter_31 : decode cX11_letter 31 = .ok (.aload_n 0, 1) := by decide +kernel
theorem dX11_letter_32 : decode cX11_letter 32 = .ok (.getfield 22, 3) := by decide +kernel
theorem dX11_letter_35 : decode cX11_letter 35 = .ok (.aload_n 0, 1) := by decide +kernel
theorem dX11_letter_36 : decode cX11_letter 36 = .ok (.getfield 114, 3) := by decide +kernel
theorem dX11_letter_39 : decode cX11_letter 39 = .ok (.iload_n 1, 1) := by decide +kernel
theorem dX11_letter_40 : decode cX11_letter 40 = .ok (.iastore, 1) := by decide +kernel
theorem dX11_letter_41 : decode cX11_letter 41 = .ok (.aload_n 0, 1) := by decide +kernel
theorem dX11_letter_42 : decode cX11_letter 42 = .ok (.getfield 25, 3) := by decide +kernel
theorem dX11_letter_45 : decode cX11_letter 45 = .ok (.aload_n 0, 1) := by decide +kernel
theorem dX11_letter_46 : decode cX11_letter 46 = .ok (.getfield 114, 3) := by decide +kernel
theorem dX11_letter_49 : decode cX11_letter 49 = .ok (.lload_n 2, 1) := by decide +kernel
theorem dX11_letter_50 : decode cX11_letter 50 = .ok (.lastore, 1) := by decide +kernel
theorem dX11_letter_51 : decode cX11_letter 51 = .ok (.aload_n 0, 1) := by decide +kernel
theorem dX11_letter_52 : decode cX11_letter 52 = .ok (.dup, 1) := by decide +kernel
theorem dX11_letter_53 : decode cX11_letter 53 = .ok (.getfield 114, 3) := by decide +kernel
theorem dX11_letter_56 : decode cX11_letter 56 = .ok (.iconst 1, 1) := by decide +kernel
theorem dX11_letter_57 : decode cX11_letter 57 = .ok (.iadd, 1) := by decide +kernel
theorem dX11_letter_58 : decode cX11_letter 58 = .ok (.putfield 114, 3) := by decide +kernel
theorem dX11_letter_61 : decode cX11_letter 61 = .ok (.aload_n 0, 1) := by decide +kernel
theorem dX11_letter_62 : decode cX11_letter 62 = .ok (.getfield 114, 3) := by decide +kernel
theorem dX11_letter_65 : decode cX11_letter 65 = .ok (.iconst 1, 1) := by decide +kernel
theorem dX11_letter_66 : decode cX11_letter 66 = .ok (.isub, 1) := by decide +kernel
theorem dX11_letter_67 : decode cX11_letter 67 = .ok (.ireturn, 1) := by decide +kernel
set_option maxRecDepth 20000 in
theorem ggX11_home_X11_isLetter : GoodIn wsX11_home wsX11_isLetter := goodIn_r _ [10, 11, 12, 13, 9, 14, 41, 42, 43, 44, 45, 46, 47, 48, 49, 50, 51, 52, 53, 54, 55, 56, 57, 58, 59, 60, 61, 62, 63, 64, 65, 66, 67, 68, 69, 70, 71, 72, 73, 74, 75, 76, 77, 78, 79, 80, 81, 82, 83, 84, 85, 86, 87, 88, 89, 90, 91, 92, 93, 94, 95] (by decide +kernel) (by decide +kernel)
set_option maxRecDepth 20000 in
theorem gX11_home_X11_isLetter : GoodIn wsX11_home (wsV RX11 263 RX11 yX11_isLetter wsX11_isLetter) := goodIn_app (goodIn_of _ (by decide +kernel)) ggX11_home_X11_isLetter
set_option maxRecDepth 20000 in
theorem ggX11_home_X11_layOut : GoodIn wsX11_home wsX11_layOut := goodIn_r _ [18, 19, 20, 21, 22, 23, 41, 42, 43, 44, 45, 46, 47, 48, 49, 50, 51, 52, 53, 54, 55, 56, 57, 58, 59, 60, 61, 62, 63, 64, 65, 66, 67, 68, 69, 70, 71, 72, 73, 74, 75, 76, 77, 78, 79, 80, 81, 82, 83, 84, 85, 86, 87, 88, 89, 90, 91, 92, 93, 94, 95] (by decide +kernel) (by decide +kernel)
set_option maxRecDepth 20000 in
theorem gX11_home_X11_layOut : GoodIn wsX11_home (wsV RX11 233 RX11 yX11_layOut wsX11_layOut) := goodIn_app (goodIn_of _ (by decide +kernel)) ggX11_home_X11_layOut
theorem dX11_home_0 : decode cX11_home 0 = .ok (.aload_n 0, 1) := by decide +kernel
theorem dX11_home_1 : decode cX11_home 1 = .ok (.iconst 0, 1) := by decide +kernel
theorem dX11_home_2 : decode cX11_home 2 = .ok (.putfield 98, 3) := by decide +kernel
theorem dX11_home_5 : decode cX11_home 5 = .ok (.aload_n 0, 1) := by decide +kernel
theorem dX11_home_6 : decode cX11_home 6 = .ok (.iload_n 1, 1) := by decide +kernel
theorem dX11_home_7 : decode cX11_home 7 = .ok (.invokevirtual 263, 3) := by decide +kernel
theorem dX11_home_10 : decode cX11_home 10 = .ok (.ifCond .ne 5, 3) := by decide +kernel
theorem dX11_home_13 : decode cX11_home 13 = .ok (.iconst (-1), 1) := by decide +kernel
theorem dX11_home_14 : decode cX11_home 14 = .ok (.ireturn, 1) := by decide +kernel
theorem dX11_home_15 : decode cX11_home 15 = .ok (.aload_n 0, 1) := by decide +kernel
theorem dX11_home_16 : decode cX11_home 16 = .ok (.iconst 0, 1) := by decide +kernel
theorem dX11_home_17 : decode cX11_home 17 = .ok (.invokevirtual 233, 3) := by decide +kernel
theorem dX11_home_20 : decode cX11_home 20 = .ok (.aload_n 0, 1) := by decide +kernel
theorem dX11_home_21 : decode cX11_home 21 = .ok (.iconst 0, 1) := by decide +kernel
theorem dX11_home_22 : decode cX11_home 22 = .ok (.putfield 101, 3) := by decide +kernel
theorem dX11_home_25 : decode cX11_home 25 = .ok (.aload_n 0, 1) := by decide +kernel
theorem dX11_home_26 : decode cX11_home 26 = .ok (.aload_n 0, 1) := by decide +kernel
theorem dX11_home_27 : decode cX11_home 27 = .ok (.aload_n 0, 1) := by decide +kernel
theorem dX11_home_28 : decode cX11_home 28 = .ok (.getfield 22, 3) := by decide +kernel
theorem dX11_home_31 : decode cX11_home 31 = .ok (.iload_n 1, 1) := by decide +kernel
theorem dX11_home_32 : decode cX11_home 32 = .ok (.iaload, 1) := by decide +kernel
theorem dX11_home_33 : decode cX11_home 33 = .ok (.aload_n 0, 1) := by decide +kernel
theorem dX11_home_34 : decode cX11_home 34 = .ok (.getfield 197, 3) := by decide +kernel
set_option maxRecDepth 20000 in
theorem ggX11_areDays_X11_isDay : GoodIn wsX11_areDays wsX11_isDay := goodIn_r _ [4, 5, 6, 7, 3, 8] (by decide +kernel) (by decide +kernel)
set_option maxRecDepth 20000 in
theorem gX11_areDays_X11_isDay : GoodIn wsX11_areDays (va_wsS RX11 236 yX11_isDay wsX11_isDay) := goodIn_app (goodIn_of _ (by decide +kernel)) ggX11_areDays_X11_isDay
set_option maxRecDepth 20000 in
theorem ggX11_areDays_X11_in : GoodIn wsX11_areDays wsX11_in := goodIn_r _ [8] (by decide +kernel) (by decide +kernel)
set_option maxRecDepth 20000 in
theorem gX11_areDays_X11_in : GoodIn wsX11_areDays (va_wsS RX11 107 yX11_in wsX11_in) := goodIn_app (goodIn_of _ (by decide +kernel)) ggX11_areDays_X11_in
theorem dX11_areDays_0 : decode cX11_areDays 0 = .ok (.lload_n 0, 1) := by decide +kernel
theorem dX11_areDays_1 : decode cX11_areDays 1 = .ok (.invokestatic 236, 3) := by decide +kernel
theorem dX11_areDays_4 : decode cX11_areDays 4 = .ok (.ifCond .eq 29, 3) := by decide +kernel
theorem dX11_areDays_7 : decode cX11_areDays 7 = .ok (.lload_n 2, 1) := by decide +kernel
theorem dX11_areDays_8 : decode cX11_areDays 8 = .ok (.invokestatic 236, 3) := by decide +kernel
theorem dX11_areDays_11 : decode cX11_areDays 11 = .ok (.ifCond .eq 22, 3) := by decide +kernel
theorem dX11_areDays_14 : decode cX11_areDays 14 = .ok (.lload_n 2, 1) := by decide +kernel
theorem dX11_areDays_15 : decode cX11_areDays 15 = .ok (.lload_n 0, 1) := by decide +kernel
theorem dX11_areDays_16 : decode cX11_areDays 16 = .ok (.lsub, 1) := by decide +kernel
theorem dX11_areDays_17 : decode cX11_areDays 17 = .ok (.lconst 1, 1) := by decide +kernel
theorem dX11_areDays_18 : decode cX11_areDays 18 = .ok (.ladd, 1) := by decide +kernel
theorem dX11_areDays_19 : decode cX11_areDays 19 = .ok (.lconst 1, 1) := by decide +kernel
theorem dX11_areDays_20 : decode cX11_areDays 20 = .ok (.iload 4, 2) := by decide +kernel
theorem dX11_areDays_22 : decode cX11_areDays 22 = .ok (.i2l, 1) := by decide +kernel
theorem dX11_areDays_23 : decode cX11_areDays 23 = .ok (.invokestatic 107, 3) := by decide +kernel
theorem dX11_areDays_26 : decode cX11_areDays 26 = .ok (.ifCond .eq 7, 3) := by decide +kernel
theorem dX11_areDays_29 : decode cX11_areDays 29 = .ok (.iconst 1, 1) := by decide +kernel
theorem dX11_areDays_30 : decode cX11_areDays 30 = .ok (.goto 4, 3) := by decide +kernel
theorem dX11_areDays_33 : decode cX11_areDays 33 = .ok (.iconst 0, 1) := by decide +kernel
theorem dX11_areDays_34 : decode cX11_areDays 34 = .ok (.ireturn, 1) := by decide +kernel
set_option maxRecDepth 20000 in
theorem ggX11_means_X11_isStreet : GoodIn wsX11_means wsX11_isStreet := goodIn_r _ [8, 2, 9, 10, 7, 11, 52, 53, 54, 55, 56, 57, 58, 59, 60, 61, 62, 63, 64, 65, 66, 67, 68, 69, 70, 71, 72, 73, 74, 75, 76, 77, 78, 79, 80, 81, 82, 83, 84, 85, 86, 87, 88, 89, 90, 91, 92, 93, 94, 95, 96, 97, 98, 99, 100, 101, 102, 103, 104, 105, 106] (by decide +kernel) (by decide +kernel)
set_option maxRecDepth 20000 in
theorem gX11_means_X11_isStreet : GoodIn wsX11_means (wsV RX11 188 RX11 yX11_isStreet wsX11_isStreet) := goodIn_app (goodIn_of _ (by decide +kernel)) ggX11_means_X11_isStreet
set_option maxRecDepth 20000 in
theorem ggX11_means_X11_areDays : GoodIn wsX11_means wsX11_areDays := goodIn_r _ [14, 15, 16, 7, 17, 18, 9, 10, 11] (by decide +kernel) (by decide +kernel)
set_option maxRecDepth 20000 in
theorem gX11_means_X11_areDays : GoodIn wsX11_means (va_wsS RX11 269 yX11_areDays wsX11_areDays) := goodIn_app (goodIn_of _ (by decide +kernel)) ggX11_means_X11_areDays
set_option maxRecDepth 20000 in
theorem ggX11_means_X11_layOut : GoodIn wsX11_means wsX11_layOut := goodIn_r _ [22, 2, 23, 24, 25, 26, 52, 53, 54, 55, 56, 57, 58, 59, 60, 61, 62, 63, 64, 65, 66, 67, 68, 69, 70, 71, 72, 73, 74, 75, 76, 77, 78, 79, 80, 81, 82, 83, 84, 85, 86, 87, 88, 89, 90, 91, 92, 93, 94, 95, 96, 97, 98, 99, 100, 101, 102, 103, 104, 105, 106] (by decide +kernel) (by decide +kernel)
set_option maxRecDepth 20000 in
theorem gX11_means_X11_layOut : GoodIn wsX11_means (wsV RX11 233 RX11 yX11_layOut wsX11_layOut) := goodIn_app (goodIn_of _ (by decide +kernel)) ggX11_means_X11_layOut
theorem dX11_means_0 : decode cX11_means 0 = .ok (.aload_n 0, 1) := by decide +kernel
theorem dX11_means_1 : decode cX11_means 1 = .ok (.iconst 0, 1) := by decide +kernel
theorem dX11_means_2 : decode cX11_means 2 = .ok (.putfield 98, 3) := by decide +kernel
theorem dX11_means_5 : decode cX11_means 5 = .ok (.aload_n 0, 1) := by decide +kernel
theorem dX11_means_6 : decode cX11_means 6 = .ok (.iload_n 1, 1) := by decide +kernel
theorem dX11_means_7 : decode cX11_means 7 = .ok (.invokevirtual 188, 3) := by decide +kernel
theorem dX11_means_10 : decode cX11_means 10 = .ok (.ifCond .eq 15, 3) := by decide +kernel
theorem dX11_means_13 : decode cX11_means 13 = .ok (.lload_n 2, 1) := by decide +kernel
theorem dX11_means_14 : decode cX11_means 14 = .ok (.lload 4, 2) := by decide +kernel
theorem dX11_means_16 : decode cX11_means 16 = .ok (.sipush 1000, 3) := by decide +kernel
theorem dX11_means_19 : decode cX11_means 19 = .ok (.invokestatic 269, 3) := by decide +kernel
theorem dX11_means_22 : decode cX11_means 22 = .ok (.ifCond .ne 5, 3) := by decide +kernel
theorem dX11_means_25 : decode cX11_means 25 = .ok (.iconst (-1), 1) := by decide +kernel
theorem dX11_means_26 : decode cX11_means 26 = .ok (.ireturn, 1) := by decide +kernel
theorem dX11_means_27 : decode cX11_means 27 = .ok (.aload_n 0, 1) := by decide +kernel
theorem dX11_means_28 : decode cX11_means 28 = .ok (.iconst 0, 1) := by decide +kernel
theorem dX11_means_29 : decode cX11_means 29 = .ok (.invokevirtual 233, 3) := by decide +kernel
theorem dX11_means_32 : decode cX11_means 32 = .ok (.iconst 0, 1) := by decide +kernel
theorem dX11_means_33 : decode cX11_means 33 = .ok (.istore 6, 2) := by decide +kernel
theorem dX11_means_35 : decode cX11_means 35 = .ok (.iload 6, 2) := by decide +kernel
theorem dX11_means_37 : decode cX11_means 37 = .ok (.aload_n 0, 1) := by decide +kernel
theorem dX11_means_38 : decode cX11_means 38 = .ok (.getfield 104, 3) := by decide +kernel
theorem dX11_means_41 : decode cX11_means 41 = .ok (.if_icmp .ge 17, 3) := by decide +kernel
theorem dX11_means_44 : decode cX11_means 44 = .ok (.aload_n 0, 1) := by decide +kernel
theorem dX11_means_45 : decode cX11_means 45 = .ok (.getfield 51, 3) := by decide +kernel
theorem dX11_means_48 : decode cX11_means 48 = .ok (.iload 6, 2) := by decide +kernel
theorem dX11_means_50 : decode cX11_means 50 = .ok (.iconst 0, 1) := by decide +kernel
theorem dX11_means_51 : decode cX11_means 51 = .ok (.iastore, 1) := by decide +kernel
theorem dX11_means_52 : decode cX11_means 52 = .ok (.iinc 6 1, 3) := by decide +kernel
theorem dX11_means_55 : decode cX11_means 55 = .ok (.goto (-20), 3) := by decide +kernel
theorem dX11_means_58 : decode cX11_means 58 = .ok (.lload_n 2, 1) := by decide +kernel
theorem dX11_means_59 : decode cX11_means 59 = .ok (.lstore 6, 2) := by decide +kernel
theorem dX11_means_61 : decode cX11_means 61 = .ok (.lload 6, 2) := by decide +kernel
theorem dX11_means_63 : decode cX11_means 63 = .ok (.lload 4, 2) := by decide +kernel
theorem dX11_means_65 : decode cX11_means 65 = .ok (.lcmp, 1) := by decide +kernel
theorem dX11_means_66 : decode cX11_means 66 = .ok (.ifCond .gt 28, 3) := by decide +kernel
theorem dX11_means_69 : decode cX11_means 69 = .ok (.aload_n 0, 1) := by decide +kernel
theorem dX11_means_70 : decode cX11_means 70 = .ok (.getfield 51, 3) := by decide +kernel
theorem dX11_means_73 : decode cX11_means 73 = .ok (.aload_n 0, 1) := by decide +kernel
theorem dX11_means_74 : decode cX11_means 74 = .ok (.iload_n 1, 1) := by decide +kernel
theorem dX11_means_75 : decode cX11_means 75 = .ok (.lload 6, 2) := by decide +kernel
theorem dX11_means_94 : decode cX11_means 94 = .ok (.aload_n 0, 1) := by decide +kernel
set_option maxRecDepth 20000 in
theorem ggX11_smudge_X11_isStreet : GoodIn wsX11_smudge wsX11_isStreet := goodIn_r _ [10, 2, 11, 12, 9, 13, 49, 50, 51, 52, 53, 54, 55, 56, 57, 58, 59, 60, 61, 62, 63, 64, 65, 66, 67, 68, 69, 70, 71, 72, 73, 74, 75, 76, 77, 78, 79, 80, 81, 82, 83, 84, 85, 86, 87, 88, 89, 90, 91, 92, 93, 94, 95, 96, 97, 98, 99, 100, 101, 102, 103] (by decide +kernel) (by decide +kernel)
set_option maxRecDepth 20000 in
theorem gX11_smudge_X11_isStreet : GoodIn wsX11_smudge (wsV RX11 188 RX11 yX11_isStreet wsX11_isStreet) := goodIn_app (goodIn_of _ (by decide +kernel)) ggX11_smudge_X11_isStreet
set_option maxRecDepth 20000 in
theorem ggX11_smudge_X11_isOrder : GoodIn wsX11_smudge wsX11_isOrder := goodIn_r _ [17, 5, 11, 12, 9, 13, 49, 50, 51, 52, 53, 54, 55, 56, 57, 58, 59, 60, 61, 62, 63, 64, 65, 66, 67, 68, 69, 70, 71, 72, 73, 74, 75, 76, 77, 78, 79, 80, 81, 82, 83, 84, 85, 86, 87, 88, 89, 90, 91, 92, 93, 94, 95, 96, 97, 98, 99, 100, 101, 102, 103] (by decide +kernel) (by decide +kernel)
set_option maxRecDepth 20000 in
theorem gX11_smudge_X11_isOrder : GoodIn wsX11_smudge (wsV RX11 205 RX11 yX11_isOrder wsX11_isOrder) := goodIn_app (goodIn_of _ (by decide +kernel)) ggX11_smudge_X11_isOrder
set_option maxRecDepth 20000 in
theorem ggX11_smudge_X11_layOut : GoodIn wsX11_smudge wsX11_layOut := goodIn_r _ [21, 2, 22, 4, 5, 23, 49, 50, 51, 52, 53, 54, 55, 56, 57, 58, 59, 60, 61, 62, 63, 64, 65, 66, 67, 68, 69, 70, 71, 72, 73, 74, 75, 76, 77, 78, 79, 80, 81, 82, 83, 84, 85, 86, 87, 88, 89, 90, 91, 92, 93, 94, 95, 96, 97, 98, 99, 100, 101, 102, 103] (by decide +kernel) (by decide +kernel)
set_option maxRecDepth 20000 in
theorem gX11_smudge_X11_layOut : GoodIn wsX11_smudge (wsV RX11 233 RX11 yX11_layOut wsX11_layOut) := goodIn_app (goodIn_of _ (by decide +kernel)) ggX11_smudge_X11_layOut
theorem dX11_smudge_0 : decode cX11_smudge 0 = .ok (.aload_n 0, 1) := by decide +kernel
theorem dX11_smudge_1 : decode cX11_smudge 1 = .ok (.iconst 0, 1) := by decide +kernel
theorem dX11_smudge_2 : decode cX11_smudge 2 = .ok (.putfield 98, 3) := by decide +kernel
theorem dX11_smudge_5 : decode cX11_smudge 5 = .ok (.aload_n 0, 1) := by decide +kernel
theorem dX11_smudge_6 : decode cX11_smudge 6 = .ok (.iload_n 1, 1) := by decide +kernel
theorem dX11_smudge_7 : decode cX11_smudge 7 = .ok (.invokevirtual 188, 3) := by decide +kernel
theorem dX11_smudge_10 : decode cX11_smudge 10 = .ok (.ifCond .eq 11, 3) := by decide +kernel
theorem dX11_smudge_13 : decode cX11_smudge 13 = .ok (.aload_n 0, 1) := by decide +kernel
theorem dX11_smudge_14 : decode cX11_smudge 14 = .ok (.iload_n 2, 1) := by decide +kernel
theorem dX11_smudge_15 : decode cX11_smudge 15 = .ok (.invokevirtual 205, 3) := by decide +kernel
theorem dX11_smudge_18 : decode cX11_smudge 18 = .ok (.ifCond .ne 5, 3) := by decide +kernel
theorem dX11_smudge_21 : decode cX11_smudge 21 = .ok (.iconst (-1), 1) := by decide +kernel
theorem dX11_smudge_22 : decode cX11_smudge 22 = .ok (.ireturn, 1) := by decide +kernel
theorem dX11_smudge_23 : decode cX11_smudge 23 = .ok (.aload_n 0, 1) := by decide +kernel
theorem dX11_smudge_24 : decode cX11_smudge 24 = .ok (.iconst 0, 1) := by decide +kernel
theorem dX11_smudge_25 : decode cX11_smudge 25 = .ok (.invokevirtual 233, 3) := by decide +kernel
theorem dX11_smudge_28 : decode cX11_smudge 28 = .ok (.iconst 0, 1) := by decide +kernel
theorem dX11_smudge_29 : decode cX11_smudge 29 = .ok (.istore_n 3, 1) := by decide +kernel
theorem dX11_smudge_30 : decode cX11_smudge 30 = .ok (.iload_n 3, 1) := by decide +kernel
theorem dX11_smudge_31 : decode cX11_smudge 31 = .ok (.aload_n 0, 1) := by decide +kernel
theorem dX11_smudge_32 : decode cX11_smudge 32 = .ok (.getfield 104, 3) := by decide +kernel
theorem dX11_smudge_35 : decode cX11_smudge 35 = .ok (.if_icmp .ge 16, 3) := by decide +kernel
theorem dX11_smudge_38 : decode cX11_smudge 38 = .ok (.aload_n 0, 1) := by decide +kernel
theorem dX11_smudge_39 : decode cX11_smudge 39 = .ok (.getfield 51, 3) := by decide +kernel
theorem dX11_smudge_42 : decode cX11_smudge 42 = .ok (.iload_n 3, 1) := by decide +kernel
theorem dX11_smudge_43 : decode cX11_smudge 43 = .ok (.iconst 0, 1) := by decide +kernel
theorem dX11_smudge_44 : decode cX11_smudge 44 = .ok (.iastore, 1) := by decide +kernel
theorem dX11_smudge_45 : decode cX11_smudge 45 = .ok (.iinc 3 1, 3) := by decide +kernel
theorem dX11_smudge_48 : decode cX11_smudge 48 = .ok (.goto (-18), 3) := by decide +kernel
theorem dX11_smudge_51 : decode cX11_smudge 51 = .ok (.iload_n 2, 1) := by decide +kernel
theorem dX11_smudge_52 : decode cX11_smudge 52 = .ok (.istore_n 3, 1) := by decide +kernel
theorem dX11_smudge_53 : decode cX11_smudge 53 = .ok (.iload_n 3, 1) := by decide +kernel
theorem dX11_smudge_54 : decode cX11_smudge 54 = .ok (.aload_n 0, 1) := by decide +kernel
theorem dX11_smudge_55 : decode cX11_smudge 55 = .ok (.getfield 227, 3) := by decide +kernel
theorem dX11_smudge_58 : decode cX11_smudge 58 = .ok (.if_icmp .ge 29, 3) := by decide +kernel
theorem dX11_smudge_61 : decode cX11_smudge 61 = .ok (.aload_n 0, 1) := by decide +kernel
theorem dX11_smudge_62 : decode cX11_smudge 62 = .ok (.getfield 51, 3) := by decide +kernel
theorem dX11_smudge_65 : decode cX11_smudge 65 = .ok (.aload_n 0, 1) := by decide +kernel
theorem dX11_smudge_66 : decode cX11_smudge 66 = .ok (.iload_n 1, 1) := by decide +kernel
theorem dX11_smudge_67 : decode cX11_smudge 67 = .ok (.iload_n 3, 1) := by decide +kernel
theorem dX11_smudge_68 : decode cX11_smudge 68 = .ok (.i2l, 1) := by decide +kernel
theorem dX11_smudge_87 : decode cX11_smudge 87 = .ok (.aload_n 0, 1) := by decide +kernel
set_option maxRecDepth 20000 in
theorem ggX11_misread_X11_isLetter : GoodIn wsX11_misread wsX11_isLetter := goodIn_r _ [7, 8, 9, 10, 6, 11, 35, 36, 37, 38, 39, 40, 41, 42, 43, 44, 45, 46, 47, 48, 49, 50, 51, 52, 53, 54, 55, 56, 57, 58, 59, 60, 61, 62, 63, 64, 65, 66, 67, 68, 69, 70, 71, 72, 73, 74, 75, 76, 77, 78, 79, 80, 81, 82, 83, 84, 85, 86, 87, 88, 89] (by decide +kernel) (by decide +kernel)
set_option maxRecDepth 20000 in
theorem gX11_misread_X11_isLetter : GoodIn wsX11_misread (wsV RX11 263 RX11 yX11_isLetter wsX11_isLetter) := goodIn_app (goodIn_of _ (by decide +kernel)) ggX11_misread_X11_isLetter
set_option maxRecDepth 20000 in
theorem ggX11_misread_X11_in : GoodIn wsX11_misread wsX11_in := goodIn_r _ [11] (by decide +kernel) (by decide +kernel)
set_option maxRecDepth 20000 in
theorem gX11_misread_X11_in : GoodIn wsX11_misread (va_wsS RX11 107 yX11_in wsX11_in) := goodIn_app (goodIn_of _ (by decide +kernel)) ggX11_misread_X11_in
set_option maxRecDepth 20000 in
theorem ggX11_misread_X11_layOut : GoodIn wsX11_misread wsX11_layOut := goodIn_r _ [15, 16, 17, 18, 19, 20, 35, 36, 37, 38, 39, 40, 41, 42, 43, 44, 45, 46, 47, 48, 49, 50, 51, 52, 53, 54, 55, 56, 57, 58, 59, 60, 61, 62, 63, 64, 65, 66, 67, 68, 69, 70, 71, 72, 73, 74, 75, 76, 77, 78, 79, 80, 81, 82, 83, 84, 85, 86, 87, 88, 89] (by decide +kernel) (by decide +kernel)
set_option maxRecDepth 20000 in
theorem gX11_misread_X11_layOut : GoodIn wsX11_misread (wsV RX11 233 RX11 yX11_layOut wsX11_layOut) := goodIn_app (goodIn_of _ (by decide +kernel)) ggX11_misread_X11_layOut
theorem dX11_misread_0 : decode cX11_misread 0 = .ok (.aload_n 0, 1) := by decide +kernel
theorem dX11_misread_1 : decode cX11_misread 1 = .ok (.iconst 0, 1) := by decide +kernel
theorem dX11_misread_2 : decode cX11_misread 2 = .ok (.putfield 98, 3) := by decide +kernel
theorem dX11_misread_5 : decode cX11_misread 5 = .ok (.aload_n 0, 1) := by decide +kernel
theorem dX11_misread_6 : decode cX11_misread 6 = .ok (.iload_n 1, 1) := by decide +kernel
theorem dX11_misread_7 : decode cX11_misread 7 = .ok (.invokevirtual 263, 3) := by decide +kernel
theorem dX11_misread_10 : decode cX11_misread 10 = .ok (.ifCond .eq 15, 3) := by decide +kernel
theorem dX11_misread_13 : decode cX11_misread 13 = .ok (.iload_n 2, 1) := by decide +kernel
theorem dX11_misread_14 : decode cX11_misread 14 = .ok (.i2l, 1) := by decide +kernel
theorem dX11_misread_15 : decode cX11_misread 15 = .ok (.lconst 0, 1) := by decide +kernel
theorem dX11_misread_16 : decode cX11_misread 16 = .ok (.ldc2_w 276, 3) := by decide +kernel
theorem dX11_misread_19 : decode cX11_misread 19 = .ok (.invokestatic 107, 3) := by decide +kernel
theorem dX11_misread_22 : decode cX11_misread 22 = .ok (.ifCond .ne 5, 3) := by decide +kernel
theorem dX11_misread_25 : decode cX11_misread 25 = .ok (.iconst (-1), 1) := by decide +kernel
theorem dX11_misread_26 : decode cX11_misread 26 = .ok (.ireturn, 1) := by decide +kernel
theorem dX11_misread_27 : decode cX11_misread 27 = .ok (.aload_n 0, 1) := by decide +kernel
theorem dX11_misread_28 : decode cX11_misread 28 = .ok (.iload_n 2, 1) := by decide +kernel
theorem dX11_misread_29 : decode cX11_misread 29 = .ok (.invokevirtual 233, 3) := by decide +kernel
theorem dX11_misread_32 : decode cX11_misread 32 = .ok (.aload_n 0, 1) := by decide +kernel
theorem dX11_misread_33 : decode cX11_misread 33 = .ok (.iload_n 1, 1) := by decide +kernel
set_option maxRecDepth 20000 in
theorem ggX11_shifts_X11_isLetter : GoodIn wsX11_shifts wsX11_isLetter := goodIn_r _ [8, 9, 10, 11, 7, 12, 47, 48, 49, 50, 51, 52, 53, 54, 55, 56, 57, 58, 59, 60, 61, 62, 63, 64, 65, 66, 67, 68, 69, 70, 71, 72, 73, 74, 75, 76, 77, 78, 79, 80, 81, 82, 83, 84, 85, 86, 87, 88, 89, 90, 91, 92, 93, 94, 95, 96, 97, 98, 99, 100, 101] (by decide +kernel) (by decide +kernel)
set_option maxRecDepth 20000 in
theorem gX11_shifts_X11_isLetter : GoodIn wsX11_shifts (wsV RX11 263 RX11 yX11_isLetter wsX11_isLetter) := goodIn_app (goodIn_of _ (by decide +kernel)) ggX11_shifts_X11_isLetter
set_option maxRecDepth 20000 in
theorem ggX11_shifts_X11_layOut : GoodIn wsX11_shifts wsX11_layOut := goodIn_r _ [16, 17, 18, 19, 2, 20, 47, 48, 49, 50, 51, 52, 53, 54, 55, 56, 57, 58, 59, 60, 61, 62, 63, 64, 65, 66, 67, 68, 69, 70, 71, 72, 73, 74, 75, 76, 77, 78, 79, 80, 81, 82, 83, 84, 85, 86, 87, 88, 89, 90, 91, 92, 93, 94, 95, 96, 97, 98, 99, 100, 101] (by decide +kernel) (by decide +kernel)
set_option maxRecDepth 20000 in
theorem gX11_shifts_X11_layOut : GoodIn wsX11_shifts (wsV RX11 233 RX11 yX11_layOut wsX11_layOut) := goodIn_app (goodIn_of _ (by decide +kernel)) ggX11_shifts_X11_layOut
theorem dX11_shifts_0 : decode cX11_shifts 0 = .ok (.aload_n 0, 1) := by decide +kernel
theorem dX11_shifts_1 : decode cX11_shifts 1 = .ok (.iconst 0, 1) := by decide +kernel
theorem dX11_shifts_2 : decode cX11_shifts 2 = .ok (.putfield 98, 3) := by decide +kernel
theorem dX11_shifts_5 : decode cX11_shifts 5 = .ok (.aload_n 0, 1) := by decide +kernel
theorem dX11_shifts_6 : decode cX11_shifts 6 = .ok (.iload_n 1, 1) := by decide +kernel
theorem dX11_shifts_7 : decode cX11_shifts 7 = .ok (.invokevirtual 263, 3) := by decide +kernel
theorem dX11_shifts_10 : decode cX11_shifts 10 = .ok (.ifCond .ne 5, 3) := by decide +kernel
theorem dX11_shifts_13 : decode cX11_shifts 13 = .ok (.iconst (-1), 1) := by decide +kernel
theorem dX11_shifts_14 : decode cX11_shifts 14 = .ok (.ireturn, 1) := by decide +kernel
theorem dX11_shifts_15 : decode cX11_shifts 15 = .ok (.aload_n 0, 1) := by decide +kernel
theorem dX11_shifts_16 : decode cX11_shifts 16 = .ok (.iconst 0, 1) := by decide +kernel
theorem dX11_shifts_17 : decode cX11_shifts 17 = .ok (.invokevirtual 233, 3) := by decide +kernel
theorem dX11_shifts_20 : decode cX11_shifts 20 = .ok (.aload_n 0, 1) := by decide +kernel
theorem dX11_shifts_21 : decode cX11_shifts 21 = .ok (.iload_n 1, 1) := by decide +kernel
set_option maxRecDepth 20000 in
theorem ggX11_asks_X11_isStreet : GoodIn wsX11_asks wsX11_isStreet := goodIn_r _ [11, 2, 12, 13, 10, 14, 69, 70, 71, 72, 73, 74, 75, 76, 77, 78, 79, 80, 81, 82, 83, 84, 85, 86, 87, 88, 89, 90, 91, 92, 93, 94, 95, 96, 97, 98, 99, 100, 101, 102, 103, 104, 105, 106, 107, 108, 109, 110, 111, 112, 113, 114, 115, 116, 117, 118, 119, 120, 121, 122, 123] (by decide +kernel) (by decide +kernel)
set_option maxRecDepth 20000 in
theorem gX11_asks_X11_isStreet : GoodIn wsX11_asks (wsV RX11 188 RX11 yX11_isStreet wsX11_isStreet) := goodIn_app (goodIn_of _ (by decide +kernel)) ggX11_asks_X11_isStreet
set_option maxRecDepth 20000 in
theorem ggX11_asks_X11_areDays : GoodIn wsX11_asks wsX11_areDays := goodIn_r _ [17, 18, 19, 10, 20, 21, 12, 13, 14] (by decide +kernel) (by decide +kernel)
set_option maxRecDepth 20000 in
theorem gX11_asks_X11_areDays : GoodIn wsX11_asks (va_wsS RX11 269 yX11_areDays wsX11_areDays) := goodIn_app (goodIn_of _ (by decide +kernel)) ggX11_asks_X11_areDays
set_option maxRecDepth 20000 in
theorem ggX11_asks_X11_layOut : GoodIn wsX11_asks wsX11_layOut := goodIn_r _ [25, 2, 26, 27, 28, 29, 69, 70, 71, 72, 73, 74, 75, 76, 77, 78, 79, 80, 81, 82, 83, 84, 85, 86, 87, 88, 89, 90, 91, 92, 93, 94, 95, 96, 97, 98, 99, 100, 101, 102, 103, 104, 105, 106, 107, 108, 109, 110, 111, 112, 113, 114, 115, 116, 117, 118, 119, 120, 121, 122, 123] (by decide +kernel) (by decide +kernel)
set_option maxRecDepth 20000 in
theorem gX11_asks_X11_layOut : GoodIn wsX11_asks (wsV RX11 233 RX11 yX11_layOut wsX11_layOut) := goodIn_app (goodIn_of _ (by decide +kernel)) ggX11_asks_X11_layOut
theorem dX11_asks_0 : decode cX11_asks 0 = .ok (.aload_n 0, 1) := by decide +kernel
theorem dX11_asks_1 : decode cX11_asks 1 = .ok (.iconst 0, 1) := by decide +kernel
theorem dX11_asks_2 : decode cX11_asks 2 = .ok (.putfield 98, 3) := by decide +kernel
theorem dX11_asks_5 : decode cX11_asks 5 = .ok (.aload_n 0, 1) := by decide +kernel
theorem dX11_asks_6 : decode cX11_asks 6 = .ok (.iload_n 1, 1) := by decide +kernel
theorem dX11_asks_7 : decode cX11_asks 7 = .ok (.invokevirtual 188, 3) := by decide +kernel
theorem dX11_asks_10 : decode cX11_asks 10 = .ok (.ifCond .eq 14, 3) := by decide +kernel
theorem dX11_asks_13 : decode cX11_asks 13 = .ok (.lload_n 2, 1) := by decide +kernel
theorem dX11_asks_14 : decode cX11_asks 14 = .ok (.lload 4, 2) := by decide +kernel
theorem dX11_asks_16 : decode cX11_asks 16 = .ok (.bipush 60, 2) := by decide +kernel
theorem dX11_asks_18 : decode cX11_asks 18 = .ok (.invokestatic 269, 3) := by decide +kernel
theorem dX11_asks_21 : decode cX11_asks 21 = .ok (.ifCond .ne 5, 3) := by decide +kernel
theorem dX11_asks_24 : decode cX11_asks 24 = .ok (.iconst (-1), 1) := by decide +kernel
theorem dX11_asks_25 : decode cX11_asks 25 = .ok (.ireturn, 1) := by decide +kernel
theorem dX11_asks_26 : decode cX11_asks 26 = .ok (.aload_n 0, 1) := by decide +kernel
theorem dX11_asks_27 : decode cX11_asks 27 = .ok (.getfield 104, 3) := by decide +kernel
theorem dX11_asks_30 : decode cX11_asks 30 = .ok (.bipush 6, 2) := by decide +kernel
theorem dX11_asks_32 : decode cX11_asks 32 = .ok (.if_icmp .le 6, 3) := by decide +kernel
theorem dX11_asks_35 : decode cX11_asks 35 = .ok (.bipush (-3), 2) := by decide +kernel
theorem dX11_asks_37 : decode cX11_asks 37 = .ok (.ireturn, 1) := by decide +kernel
theorem dX11_asks_38 : decode cX11_asks 38 = .ok (.aload_n 0, 1) := by decide +kernel
theorem dX11_asks_39 : decode cX11_asks 39 = .ok (.iconst 0, 1) := by decide +kernel
theorem dX11_asks_40 : decode cX11_asks 40 = .ok (.invokevirtual 233, 3) := by decide +kernel
theorem dX11_asks_43 : decode cX11_asks 43 = .ok (.aload_n 0, 1) := by decide +kernel
theorem dX11_asks_44 : decode cX11_asks 44 = .ok (.lload_n 2, 1) := by decide +kernel
theorem dX11_asks_45 : decode cX11_asks 45 = .ok (.putfield 281, 3) := by decide +kernel
theorem dX11_asks_48 : decode cX11_asks 48 = .ok (.aload_n 0, 1) := by decide +kernel
theorem dX11_asks_49 : decode cX11_asks 49 = .ok (.iload_n 1, 1) := by decide +kernel
theorem dX11_asks_50 : decode cX11_asks 50 = .ok (.putfield 278, 3) := by decide +kernel
theorem dX11_asks_53 : decode cX11_asks 53 = .ok (.aload_n 0, 1) := by decide +kernel
theorem dX11_asks_54 : decode cX11_asks 54 = .ok (.iconst (-1), 1) := by decide +kernel
theorem dX11_asks_55 : decode cX11_asks 55 = .ok (.putfield 291, 3) := by decide +kernel
theorem dX11_asks_58 : decode cX11_asks 58 = .ok (.lconst 0, 1) := by decide +kernel
theorem dX11_asks_59 : decode cX11_asks 59 = .ok (.lstore 6, 2) := by decide +kernel
theorem dX11_asks_61 : decode cX11_asks 61 = .ok (.iconst 0, 1) := by decide +kernel
theorem dX11_asks_62 : decode cX11_asks 62 = .ok (.istore 8, 2) := by decide +kernel
theorem dX11_asks_64 : decode cX11_asks 64 = .ok (.lload_n 2, 1) := by decide +kernel
theorem dX11_asks_65 : decode cX11_asks 65 = .ok (.lstore 9, 2) := by decide +kernel
theorem dX11_asks_67 : decode cX11_asks 67 = .ok (.lload 9, 2) := by decide +kernel
theorem dX11_asks_69 : decode cX11_asks 69 = .ok (.lload 4, 2) := by decide +kernel
theorem dX11_asks_71 : decode cX11_asks 71 = .ok (.lcmp, 1) := by decide +kernel
theorem dX11_asks_72 : decode cX11_asks 72 = .ok (.ifCond .gt 93, 3) := by decide +kernel
theorem dX11_asks_75 : decode cX11_asks 75 = .ok (.iconst 1, 1) := by decide +kernel
theorem dX11_asks_76 : decode cX11_asks 76 = .ok (.istore 11, 2) := by decide +kernel
theorem dX11_asks_78 : decode cX11_asks 78 = .ok (.lload_n 2, 1) := by decide +kernel
theorem dX11_asks_79 : decode cX11_asks 79 = .ok (.lstore 12, 2) := by decide +kernel
theorem dX11_asks_81 : decode cX11_asks 81 = .ok (.lload 12, 2) := by decide +kernel
theorem dX11_asks_83 : decode cX11_asks 83 = .ok (.lload 9, 2) := by decide +kernel
theorem dX11_asks_85 : decode cX11_asks 85 = .ok (.lcmp, 1) := by decide +kernel
theorem dX11_asks_86 : decode cX11_asks 86 = .ok (.ifCond .ge 35, 3) := by decide +kernel
theorem dX11_asks_89 : decode cX11_asks 89 = .ok (.iload 11, 2) := by decide +kernel
theorem dX11_asks_91 : decode cX11_asks 91 = .ok (.ifCond .eq 30, 3) := by decide +kernel
theorem dX11_asks_94 : decode cX11_asks 94 = .ok (.aload_n 0, 1) := by decide +kernel
theorem dX11_asks_95 : decode cX11_asks 95 = .ok (.lload 12, 2) := by decide +kernel
theorem dX11_asks_97 : decode cX11_asks 97 = .ok (.lload 9, 2) := by decide +kernel
theorem dX11_asks_121 : decode cX11_asks 121 = .ok (.lload 6, 2) := by decide +kernel
theorem dX11_asks_123 : decode cX11_asks 123 = .ok (.iload 11, 2) := by decide +kernel
theorem dX11_asks_125 : decode cX11_asks 125 = .ok (.ifCond .eq 13, 3) := by decide +kernel
theorem dX11_asks_128 : decode cX11_asks 128 = .ok (.lconst 1, 1) := by decide +kernel
theorem dX11_asks_129 : decode cX11_asks 129 = .ok (.lload 9, 2) := by decide +kernel
theorem dX11_asks_131 : decode cX11_asks 131 = .ok (.lload_n 2, 1) := by decide +kernel
theorem dX11_asks_132 : decode cX11_asks 132 = .ok (.lsub, 1) := by decide +kernel
theorem dX11_asks_133 : decode cX11_asks 133 = .ok (.l2i, 1) := by decide +kernel
theorem dX11_asks_134 : decode cX11_asks 134 = .ok (.lshl, 1) := by decide +kernel
theorem dX11_asks_135 : decode cX11_asks 135 = .ok (.goto 4, 3) := by decide +kernel
theorem dX11_asks_138 : decode cX11_asks 138 = .ok (.lconst 0, 1) := by decide +kernel
theorem dX11_asks_139 : decode cX11_asks 139 = .ok (.lor, 1) := by decide +kernel
theorem dX11_asks_140 : decode cX11_asks 140 = .ok (.lstore 6, 2) := by decide +kernel
theorem dX11_asks_142 : decode cX11_asks 142 = .ok (.iload 8, 2) := by decide +kernel
theorem dX11_asks_144 : decode cX11_asks 144 = .ok (.iconst 1, 1) := by decide +kernel
theorem dX11_asks_145 : decode cX11_asks 145 = .ok (.aload_n 0, 1) := by decide +kernel
theorem dX11_asks_146 : decode cX11_asks 146 = .ok (.iload_n 1, 1) := by decide +kernel
theorem dX11_asks_147 : decode cX11_asks 147 = .ok (.lload 9, 2) := by decide +kernel
theorem dX11_asks_165 : decode cX11_asks 165 = .ok (.aload_n 0, 1) := by decide +kernel
theorem dX11_asks_166 : decode cX11_asks 166 = .ok (.lload 6, 2) := by decide +kernel
theorem dX11_asks_168 : decode cX11_asks 168 = .ok (.iconst 0, 1) := by decide +kernel
theorem dX11_asks_169 : decode cX11_asks 169 = .ok (.iconst 1, 1) := by decide +kernel
set_option maxRecDepth 20000 in
theorem ggX11_answer_X11_isLetter : GoodIn wsX11_answer wsX11_isLetter := goodIn_r _ [7, 8, 9, 10, 6, 11, 33, 34, 35, 36, 37, 38, 39, 40, 41, 42, 43, 44, 45, 46, 47, 48, 49, 50, 51, 52, 53, 54, 55, 56, 57, 58, 59, 60, 61, 62, 63, 64, 65, 66, 67, 68, 69, 70, 71, 72, 73, 74, 75, 76, 77, 78, 79, 80, 81, 82, 83, 84, 85, 86, 87] (by decide +kernel) (by decide +kernel)
set_option maxRecDepth 20000 in
theorem gX11_answer_X11_isLetter : GoodIn wsX11_answer (wsV RX11 263 RX11 yX11_isLetter wsX11_isLetter) := goodIn_app (goodIn_of _ (by decide +kernel)) ggX11_answer_X11_isLetter
set_option maxRecDepth 20000 in
theorem ggX11_answer_X11_isStreet : GoodIn wsX11_answer wsX11_isStreet := goodIn_r _ [15, 16, 9, 10, 6, 11, 33, 34, 35, 36, 37, 38, 39, 40, 41, 42, 43, 44, 45, 46, 47, 48, 49, 50, 51, 52, 53, 54, 55, 56, 57, 58, 59, 60, 61, 62, 63, 64, 65, 66, 67, 68, 69, 70, 71, 72, 73, 74, 75, 76, 77, 78, 79, 80, 81, 82, 83, 84, 85, 86, 87] (by decide +kernel) (by decide +kernel)
set_option maxRecDepth 20000 in
theorem gX11_answer_X11_isStreet : GoodIn wsX11_answer (wsV RX11 188 RX11 yX11_isStreet wsX11_isStreet) := goodIn_app (goodIn_of _ (by decide +kernel)) ggX11_answer_X11_isStreet
theorem dX11_answer_0 : decode cX11_answer 0 = .ok (.aload_n 0, 1) := by decide +kernel
theorem dX11_answer_1 : decode cX11_answer 1 = .ok (.iconst 0, 1) := by decide +kernel
theorem dX11_answer_2 : decode cX11_answer 2 = .ok (.putfield 98, 3) := by decide +kernel
theorem dX11_answer_5 : decode cX11_answer 5 = .ok (.aload_n 0, 1) := by decide +kernel
theorem dX11_answer_6 : decode cX11_answer 6 = .ok (.iload_n 1, 1) := by decide +kernel
theorem dX11_answer_7 : decode cX11_answer 7 = .ok (.invokevirtual 263, 3) := by decide +kernel
theorem dX11_answer_10 : decode cX11_answer 10 = .ok (.ifCond .eq 25, 3) := by decide +kernel
theorem dX11_answer_13 : decode cX11_answer 13 = .ok (.aload_n 0, 1) := by decide +kernel
theorem dX11_answer_14 : decode cX11_answer 14 = .ok (.iload_n 2, 1) := by decide +kernel
theorem dX11_answer_15 : decode cX11_answer 15 = .ok (.invokevirtual 188, 3) := by decide +kernel
theorem dX11_answer_18 : decode cX11_answer 18 = .ok (.ifCond .eq 17, 3) := by decide +kernel
theorem dX11_answer_21 : decode cX11_answer 21 = .ok (.aload_n 0, 1) := by decide +kernel
theorem dX11_answer_22 : decode cX11_answer 22 = .ok (.iload_n 2, 1) := by decide +kernel
theorem dX11_answer_23 : decode cX11_answer 23 = .ok (.aload_n 0, 1) := by decide +kernel
theorem dX11_answer_24 : decode cX11_answer 24 = .ok (.getfield 25, 3) := by decide +kernel
theorem dX11_answer_27 : decode cX11_answer 27 = .ok (.iload_n 1, 1) := by decide +kernel
theorem dX11_answer_28 : decode cX11_answer 28 = .ok (.laload, 1) := by decide +kernel
theorem dX11_answer_35 : decode cX11_answer 35 = .ok (.iconst (-1), 1) := by decide +kernel
theorem dX11_answer_36 : decode cX11_answer 36 = .ok (.ireturn, 1) := by decide +kernel
set_option maxRecDepth 20000 in
theorem ggX11_findCycles_X11_has : GoodIn wsX11_findCycles wsX11_has := goodIn_r _ [6] (by decide +kernel) (by decide +kernel)
set_option maxRecDepth 20000 in
theorem gX11_findCycles_X11_has : GoodIn wsX11_findCycles (va_wsS RX11 184 yX11_has wsX11_has) := goodIn_app (goodIn_of _ (by decide +kernel)) ggX11_findCycles_X11_has
theorem dX11_findCycles_0 : decode cX11_findCycles 0 = .ok (.iconst 0, 1) := by decide +kernel
theorem dX11_findCycles_1 : decode cX11_findCycles 1 = .ok (.istore_n 3, 1) := by decide +kernel
theorem dX11_findCycles_2 : decode cX11_findCycles 2 = .ok (.iload_n 3, 1) := by decide +kernel
theorem dX11_findCycles_3 : decode cX11_findCycles 3 = .ok (.bipush 12, 2) := by decide +kernel
theorem dX11_findCycles_5 : decode cX11_findCycles 5 = .ok (.if_icmp .ge 16, 3) := by decide +kernel
theorem dX11_findCycles_8 : decode cX11_findCycles 8 = .ok (.aload_n 0, 1) := by decide +kernel
theorem dX11_findCycles_9 : decode cX11_findCycles 9 = .ok (.getfield 54, 3) := by decide +kernel
theorem dX11_findCycles_12 : decode cX11_findCycles 12 = .ok (.iload_n 3, 1) := by decide +kernel
theorem dX11_findCycles_13 : decode cX11_findCycles 13 = .ok (.iconst 0, 1) := by decide +kernel
theorem dX11_findCycles_14 : decode cX11_findCycles 14 = .ok (.iastore, 1) := by decide +kernel
theorem dX11_findCycles_15 : decode cX11_findCycles 15 = .ok (.iinc 3 1, 3) := by decide +kernel
theorem dX11_findCycles_18 : decode cX11_findCycles 18 = .ok (.goto (-16), 3) := by decide +kernel
theorem dX11_findCycles_21 : decode cX11_findCycles 21 = .ok (.iconst 0, 1) := by decide +kernel
theorem dX11_findCycles_22 : decode cX11_findCycles 22 = .ok (.istore_n 3, 1) := by decide +kernel
theorem dX11_findCycles_23 : decode cX11_findCycles 23 = .ok (.iconst 0, 1) := by decide +kernel
theorem dX11_findCycles_24 : decode cX11_findCycles 24 = .ok (.istore 4, 2) := by decide +kernel
theorem dX11_findCycles_26 : decode cX11_findCycles 26 = .ok (.iconst 0, 1) := by decide +kernel
theorem dX11_findCycles_27 : decode cX11_findCycles 27 = .ok (.istore 5, 2) := by decide +kernel
theorem dX11_findCycles_29 : decode cX11_findCycles 29 = .ok (.iload 5, 2) := by decide +kernel
theorem dX11_findCycles_31 : decode cX11_findCycles 31 = .ok (.aload_n 0, 1) := by decide +kernel
theorem dX11_findCycles_32 : decode cX11_findCycles 32 = .ok (.getfield 104, 3) := by decide +kernel
theorem dX11_findCycles_35 : decode cX11_findCycles 35 = .ok (.if_icmp .ge 74, 3) := by decide +kernel
theorem dX11_findCycles_38 : decode cX11_findCycles 38 = .ok (.iload_n 3, 1) := by decide +kernel
theorem dX11_findCycles_39 : decode cX11_findCycles 39 = .ok (.iload 5, 2) := by decide +kernel
theorem dX11_findCycles_41 : decode cX11_findCycles 41 = .ok (.invokestatic 184, 3) := by decide +kernel
theorem dX11_findCycles_44 : decode cX11_findCycles 44 = .ok (.ifCond .eq 6, 3) := by decide +kernel
theorem dX11_findCycles_47 : decode cX11_findCycles 47 = .ok (.goto 56, 3) := by decide +kernel
theorem dX11_findCycles_50 : decode cX11_findCycles 50 = .ok (.iconst 0, 1) := by decide +kernel
theorem dX11_findCycles_51 : decode cX11_findCycles 51 = .ok (.istore 6, 2) := by decide +kernel
theorem dX11_findCycles_53 : decode cX11_findCycles 53 = .ok (.iload 5, 2) := by decide +kernel
theorem dX11_findCycles_55 : decode cX11_findCycles 55 = .ok (.istore 7, 2) := by decide +kernel
theorem dX11_findCycles_57 : decode cX11_findCycles 57 = .ok (.iload_n 3, 1) := by decide +kernel
theorem dX11_findCycles_58 : decode cX11_findCycles 58 = .ok (.iload 7, 2) := by decide +kernel
theorem dX11_findCycles_60 : decode cX11_findCycles 60 = .ok (.invokestatic 184, 3) := by decide +kernel
theorem dX11_findCycles_63 : decode cX11_findCycles 63 = .ok (.ifCond .ne 24, 3) := by decide +kernel
theorem dX11_findCycles_66 : decode cX11_findCycles 66 = .ok (.iload_n 3, 1) := by decide +kernel
theorem dX11_findCycles_67 : decode cX11_findCycles 67 = .ok (.iconst 1, 1) := by decide +kernel
theorem dX11_findCycles_68 : decode cX11_findCycles 68 = .ok (.iload 7, 2) := by decide +kernel
theorem dX11_findCycles_70 : decode cX11_findCycles 70 = .ok (.ishl, 1) := by decide +kernel
theorem dX11_findCycles_71 : decode cX11_findCycles 71 = .ok (.ior, 1) := by decide +kernel
theorem dX11_findCycles_72 : decode cX11_findCycles 72 = .ok (.istore_n 3, 1) := by decide +kernel
theorem dX11_findCycles_73 : decode cX11_findCycles 73 = .ok (.iinc 6 1, 3) := by decide +kernel
theorem dX11_findCycles_76 : decode cX11_findCycles 76 = .ok (.aload_n 1, 1) := by decide +kernel
theorem dX11_findCycles_77 : decode cX11_findCycles 77 = .ok (.iload_n 2, 1) := by decide +kernel
theorem dX11_findCycles_78 : decode cX11_findCycles 78 = .ok (.iload 7, 2) := by decide +kernel
theorem dX11_findCycles_80 : decode cX11_findCycles 80 = .ok (.iadd, 1) := by decide +kernel
theorem dX11_findCycles_81 : decode cX11_findCycles 81 = .ok (.iaload, 1) := by decide +kernel
theorem dX11_findCycles_82 : decode cX11_findCycles 82 = .ok (.istore 7, 2) := by decide +kernel
theorem dX11_findCycles_84 : decode cX11_findCycles 84 = .ok (.goto (-27), 3) := by decide +kernel
theorem dX11_findCycles_87 : decode cX11_findCycles 87 = .ok (.aload_n 0, 1) := by decide +kernel
theorem dX11_findCycles_88 : decode cX11_findCycles 88 = .ok (.getfield 54, 3) := by decide +kernel
theorem dX11_findCycles_91 : decode cX11_findCycles 91 = .ok (.iload 6, 2) := by decide +kernel
theorem dX11_findCycles_93 : decode cX11_findCycles 93 = .ok (.iconst 1, 1) := by decide +kernel
theorem dX11_findCycles_94 : decode cX11_findCycles 94 = .ok (.isub, 1) := by decide +kernel
theorem dX11_findCycles_95 : decode cX11_findCycles 95 = .ok (.dup2, 1) := by decide +kernel
theorem dX11_findCycles_96 : decode cX11_findCycles 96 = .ok (.iaload, 1) := by decide +kernel
theorem dX11_findCycles_97 : decode cX11_findCycles 97 = .ok (.iconst 1, 1) := by decide +kernel
theorem dX11_findCycles_98 : decode cX11_findCycles 98 = .ok (.iadd, 1) := by decide +kernel
theorem dX11_findCycles_99 : decode cX11_findCycles 99 = .ok (.iastore, 1) := by decide +kernel
theorem dX11_findCycles_100 : decode cX11_findCycles 100 = .ok (.iinc 4 1, 3) := by decide +kernel
theorem dX11_findCycles_103 : decode cX11_findCycles 103 = .ok (.iinc 5 1, 3) := by decide +kernel
theorem dX11_findCycles_106 : decode cX11_findCycles 106 = .ok (.goto (-77), 3) := by decide +kernel
theorem dX11_findCycles_109 : decode cX11_findCycles 109 = .ok (.iload 4, 2) := by decide +kernel
theorem dX11_findCycles_111 : decode cX11_findCycles 111 = .ok (.ireturn, 1) := by decide +kernel
set_option maxRecDepth 20000 in
theorem ggX11_cycles_X11_isOrder : GoodIn wsX11_cycles wsX11_isOrder := goodIn_r _ [10, 11, 12, 13, 9, 14, 27, 28, 29, 30, 31, 32, 33, 34, 35, 36, 37, 38, 39, 40, 41, 42, 43, 44, 45, 46, 47, 48, 49, 50, 51, 52, 53, 54, 55, 56, 57, 58, 59, 60, 61, 62, 63, 64, 65, 66, 67, 68, 69, 70, 71, 72, 73, 74, 75, 76, 77, 78, 79, 80, 81] (by decide +kernel) (by decide +kernel)
set_option maxRecDepth 20000 in
theorem gX11_cycles_X11_isOrder : GoodIn wsX11_cycles (wsV RX11 205 RX11 yX11_isOrder wsX11_isOrder) := goodIn_app (goodIn_of _ (by decide +kernel)) ggX11_cycles_X11_isOrder
set_option maxRecDepth 20000 in
theorem ggX11_cycles_X11_findCycles : GoodIn wsX11_cycles wsX11_findCycles := goodIn_r _ [18, 5, 4, 19, 20, 9, 21, 27, 28, 29, 30, 31, 32, 33, 34, 35, 36, 37, 38, 39, 40, 41, 42, 43, 44, 45, 46, 47, 48, 49, 50, 51, 52, 53, 54, 55, 56, 57, 58, 59, 60, 61, 62, 63, 64, 65, 66, 67, 68, 69, 70, 71, 72, 73, 74, 75, 76, 77, 78, 79, 80, 81] (by decide +kernel) (by decide +kernel)
set_option maxRecDepth 20000 in
theorem gX11_cycles_X11_findCycles : GoodIn wsX11_cycles (wsV RX11 298 RX11 yX11_findCycles wsX11_findCycles) := goodIn_app (goodIn_of _ (by decide +kernel)) ggX11_cycles_X11_findCycles
set_option maxRecDepth 20000 in
theorem ggX11_cycles_X11_tell : GoodIn wsX11_cycles wsX11_tell := goodIn_r _ [25, 26, 3, 27, 28, 29, 30, 31, 32, 33, 34, 35, 36, 37, 38, 39, 40, 41, 42, 43, 44, 45, 46, 47, 48, 49, 50, 51, 52, 53, 54, 55, 56, 57, 58, 59, 60, 61, 62, 63, 64, 65, 66, 67, 68, 69, 70, 71, 72, 73, 74, 75, 76, 77, 78, 79, 80, 81] (by decide +kernel) (by decide +kernel)
set_option maxRecDepth 20000 in
theorem gX11_cycles_X11_tell : GoodIn wsX11_cycles (wsV RX11 243 RX11 yX11_tell wsX11_tell) := goodIn_app (goodIn_of _ (by decide +kernel)) ggX11_cycles_X11_tell
theorem dX11_cycles_0 : decode cX11_cycles 0 = .ok (.aload_n 0, 1) := by decide +kernel
theorem dX11_cycles_1 : decode cX11_cycles 1 = .ok (.iconst 0, 1) := by decide +kernel
theorem dX11_cycles_2 : decode cX11_cycles 2 = .ok (.putfield 98, 3) := by decide +kernel
theorem dX11_cycles_5 : decode cX11_cycles 5 = .ok (.aload_n 0, 1) := by decide +kernel
theorem dX11_cycles_6 : decode cX11_cycles 6 = .ok (.iload_n 1, 1) := by decide +kernel
theorem dX11_cycles_7 : decode cX11_cycles 7 = .ok (.invokevirtual 205, 3) := by decide +kernel
theorem dX11_cycles_10 : decode cX11_cycles 10 = .ok (.ifCond .ne 5, 3) := by decide +kernel
theorem dX11_cycles_13 : decode cX11_cycles 13 = .ok (.iconst (-1), 1) := by decide +kernel
theorem dX11_cycles_14 : decode cX11_cycles 14 = .ok (.ireturn, 1) := by decide +kernel
theorem dX11_cycles_15 : decode cX11_cycles 15 = .ok (.aload_n 0, 1) := by decide +kernel
theorem dX11_cycles_16 : decode cX11_cycles 16 = .ok (.aload_n 0, 1) := by decide +kernel
theorem dX11_cycles_17 : decode cX11_cycles 17 = .ok (.getfield 19, 3) := by decide +kernel
theorem dX11_cycles_20 : decode cX11_cycles 20 = .ok (.bipush 12, 2) := by decide +kernel
theorem dX11_cycles_22 : decode cX11_cycles 22 = .ok (.iload_n 1, 1) := by decide +kernel
theorem dX11_cycles_23 : decode cX11_cycles 23 = .ok (.imul, 1) := by decide +kernel
theorem dX11_cycles_24 : decode cX11_cycles 24 = .ok (.invokevirtual 298, 3) := by decide +kernel
theorem dX11_cycles_27 : decode cX11_cycles 27 = .ok (.pop, 1) := by decide +kernel
theorem dX11_cycles_28 : decode cX11_cycles 28 = .ok (.aload_n 0, 1) := by decide +kernel
theorem dX11_cycles_29 : decode cX11_cycles 29 = .ok (.iconst 0, 1) := by decide +kernel
theorem dX11_cycles_30 : decode cX11_cycles 30 = .ok (.putfield 101, 3) := by decide +kernel
theorem dX11_cycles_33 : decode cX11_cycles 33 = .ok (.iconst 0, 1) := by decide +kernel
theorem dX11_cycles_34 : decode cX11_cycles 34 = .ok (.istore_n 2, 1) := by decide +kernel
theorem dX11_cycles_35 : decode cX11_cycles 35 = .ok (.iload_n 2, 1) := by decide +kernel
theorem dX11_cycles_36 : decode cX11_cycles 36 = .ok (.aload_n 0, 1) := by decide +kernel
theorem dX11_cycles_37 : decode cX11_cycles 37 = .ok (.getfield 104, 3) := by decide +kernel
theorem dX11_cycles_40 : decode cX11_cycles 40 = .ok (.if_icmp .ge 20, 3) := by decide +kernel
theorem dX11_cycles_43 : decode cX11_cycles 43 = .ok (.aload_n 0, 1) := by decide +kernel
theorem dX11_cycles_44 : decode cX11_cycles 44 = .ok (.aload_n 0, 1) := by decide +kernel
theorem dX11_cycles_45 : decode cX11_cycles 45 = .ok (.getfield 54, 3) := by decide +kernel
theorem dX11_cycles_48 : decode cX11_cycles 48 = .ok (.iload_n 2, 1) := by decide +kernel
theorem dX11_cycles_49 : decode cX11_cycles 49 = .ok (.iaload, 1) := by decide +kernel
theorem dX11_cycles_50 : decode cX11_cycles 50 = .ok (.i2l, 1) := by decide +kernel
theorem dX11_cycles_51 : decode cX11_cycles 51 = .ok (.invokevirtual 243, 3) := by decide +kernel
theorem dX11_cycles_54 : decode cX11_cycles 54 = .ok (.iinc 2 1, 3) := by decide +kernel
theorem dX11_cycles_57 : decode cX11_cycles 57 = .ok (.goto (-22), 3) := by decide +kernel
theorem dX11_cycles_60 : decode cX11_cycles 60 = .ok (.aload_n 0, 1) := by decide +kernel
theorem dX11_cycles_61 : decode cX11_cycles 61 = .ok (.getfield 104, 3) := by decide +kernel
theorem dX11_cycles_64 : decode cX11_cycles 64 = .ok (.aload_n 0, 1) := by decide +kernel
theorem dX11_cycles_65 : decode cX11_cycles 65 = .ok (.getfield 54, 3) := by decide +kernel
theorem dX11_cycles_68 : decode cX11_cycles 68 = .ok (.iconst 0, 1) := by decide +kernel
theorem dX11_cycles_69 : decode cX11_cycles 69 = .ok (.iaload, 1) := by decide +kernel
theorem dX11_cycles_70 : decode cX11_cycles 70 = .ok (.isub, 1) := by decide +kernel
theorem dX11_cycles_71 : decode cX11_cycles 71 = .ok (.ireturn, 1) := by decide +kernel
set_option maxRecDepth 20000 in
theorem ggX11_findWays_X11_has : GoodIn wsX11_findWays wsX11_has := goodIn_r _ [8] (by decide +kernel) (by decide +kernel)
set_option maxRecDepth 20000 in
theorem gX11_findWays_X11_has : GoodIn wsX11_findWays (va_wsS RX11 184 yX11_has wsX11_has) := goodIn_app (goodIn_of _ (by decide +kernel)) ggX11_findWays_X11_has
theorem dX11_findWays_0 : decode cX11_findWays 0 = .ok (.iload_n 1, 1) := by decide +kernel
theorem dX11_findWays_1 : decode cX11_findWays 1 = .ok (.aload_n 0, 1) := by decide +kernel
theorem dX11_findWays_2 : decode cX11_findWays 2 = .ok (.getfield 104, 3) := by decide +kernel
theorem dX11_findWays_5 : decode cX11_findWays 5 = .ok (.if_icmp .ne 50, 3) := by decide +kernel
theorem dX11_findWays_8 : decode cX11_findWays 8 = .ok (.iconst 0, 1) := by decide +kernel
theorem dX11_findWays_9 : decode cX11_findWays 9 = .ok (.istore_n 3, 1) := by decide +kernel
theorem dX11_findWays_10 : decode cX11_findWays 10 = .ok (.iload_n 3, 1) := by decide +kernel
theorem dX11_findWays_11 : decode cX11_findWays 11 = .ok (.aload_n 0, 1) := by decide +kernel
theorem dX11_findWays_12 : decode cX11_findWays 12 = .ok (.getfield 104, 3) := by decide +kernel
theorem dX11_findWays_15 : decode cX11_findWays 15 = .ok (.if_icmp .ge 29, 3) := by decide +kernel
theorem dX11_findWays_18 : decode cX11_findWays 18 = .ok (.aload_n 0, 1) := by decide +kernel
theorem dX11_findWays_19 : decode cX11_findWays 19 = .ok (.getfield 57, 3) := by decide +kernel
theorem dX11_findWays_22 : decode cX11_findWays 22 = .ok (.bipush 6, 2) := by decide +kernel
theorem dX11_findWays_24 : decode cX11_findWays 24 = .ok (.aload_n 0, 1) := by decide +kernel
theorem dX11_findWays_25 : decode cX11_findWays 25 = .ok (.getfield 302, 3) := by decide +kernel
theorem dX11_findWays_28 : decode cX11_findWays 28 = .ok (.imul, 1) := by decide +kernel
theorem dX11_findWays_29 : decode cX11_findWays 29 = .ok (.iload_n 3, 1) := by decide +kernel
theorem dX11_findWays_30 : decode cX11_findWays 30 = .ok (.iadd, 1) := by decide +kernel
theorem dX11_findWays_31 : decode cX11_findWays 31 = .ok (.aload_n 0, 1) := by decide +kernel
theorem dX11_findWays_32 : decode cX11_findWays 32 = .ok (.getfield 60, 3) := by decide +kernel
theorem dX11_findWays_35 : decode cX11_findWays 35 = .ok (.iload_n 3, 1) := by decide +kernel
theorem dX11_findWays_36 : decode cX11_findWays 36 = .ok (.iaload, 1) := by decide +kernel
theorem dX11_findWays_37 : decode cX11_findWays 37 = .ok (.iastore, 1) := by decide +kernel
theorem dX11_findWays_38 : decode cX11_findWays 38 = .ok (.iinc 3 1, 3) := by decide +kernel
theorem dX11_findWays_41 : decode cX11_findWays 41 = .ok (.goto (-31), 3) := by decide +kernel
theorem dX11_findWays_44 : decode cX11_findWays 44 = .ok (.aload_n 0, 1) := by decide +kernel
theorem dX11_findWays_45 : decode cX11_findWays 45 = .ok (.dup, 1) := by decide +kernel
theorem dX11_findWays_46 : decode cX11_findWays 46 = .ok (.getfield 302, 3) := by decide +kernel
theorem dX11_findWays_49 : decode cX11_findWays 49 = .ok (.iconst 1, 1) := by decide +kernel
theorem dX11_findWays_50 : decode cX11_findWays 50 = .ok (.iadd, 1) := by decide +kernel
theorem dX11_findWays_51 : decode cX11_findWays 51 = .ok (.putfield 302, 3) := by decide +kernel
theorem dX11_findWays_54 : decode cX11_findWays 54 = .ok (.return_, 1) := by decide +kernel
theorem dX11_findWays_55 : decode cX11_findWays 55 = .ok (.iconst 0, 1) := by decide +kernel
theorem dX11_findWays_56 : decode cX11_findWays 56 = .ok (.istore_n 3, 1) := by decide +kernel
theorem dX11_findWays_57 : decode cX11_findWays 57 = .ok (.iload_n 3, 1) := by decide +kernel
theorem dX11_findWays_58 : decode cX11_findWays 58 = .ok (.aload_n 0, 1) := by decide +kernel
theorem dX11_findWays_59 : decode cX11_findWays 59 = .ok (.getfield 104, 3) := by decide +kernel
theorem dX11_findWays_62 : decode cX11_findWays 62 = .ok (.if_icmp .ge 39, 3) := by decide +kernel
theorem dX11_findWays_65 : decode cX11_findWays 65 = .ok (.iload_n 2, 1) := by decide +kernel
theorem dX11_findWays_66 : decode cX11_findWays 66 = .ok (.iload_n 3, 1) := by decide +kernel
theorem dX11_findWays_67 : decode cX11_findWays 67 = .ok (.invokestatic 184, 3) := by decide +kernel
theorem dX11_findWays_70 : decode cX11_findWays 70 = .ok (.ifCond .eq 6, 3) := by decide +kernel
theorem dX11_findWays_73 : decode cX11_findWays 73 = .ok (.goto 22, 3) := by decide +kernel
theorem dX11_findWays_76 : decode cX11_findWays 76 = .ok (.aload_n 0, 1) := by decide +kernel
theorem dX11_findWays_77 : decode cX11_findWays 77 = .ok (.getfield 60, 3) := by decide +kernel
theorem dX11_findWays_80 : decode cX11_findWays 80 = .ok (.iload_n 1, 1) := by decide +kernel
theorem dX11_findWays_81 : decode cX11_findWays 81 = .ok (.iload_n 3, 1) := by decide +kernel
theorem dX11_findWays_82 : decode cX11_findWays 82 = .ok (.iastore, 1) := by decide +kernel
theorem dX11_findWays_83 : decode cX11_findWays 83 = .ok (.aload_n 0, 1) := by decide +kernel
theorem dX11_findWays_84 : decode cX11_findWays 84 = .ok (.iload_n 1, 1) := by decide +kernel
theorem dX11_findWays_85 : decode cX11_findWays 85 = .ok (.iconst 1, 1) := by decide +kernel
theorem dX11_findWays_86 : decode cX11_findWays 86 = .ok (.iadd, 1) := by decide +kernel
theorem dX11_findWays_87 : decode cX11_findWays 87 = .ok (.iload_n 2, 1) := by decide +kernel
theorem dX11_findWays_88 : decode cX11_findWays 88 = .ok (.iconst 1, 1) := by decide +kernel
theorem dX11_findWays_89 : decode cX11_findWays 89 = .ok (.iload_n 3, 1) := by decide +kernel
theorem dX11_findWays_90 : decode cX11_findWays 90 = .ok (.ishl, 1) := by decide +kernel
theorem dX11_findWays_91 : decode cX11_findWays 91 = .ok (.ior, 1) := by decide +kernel
theorem dX11_findWays_95 : decode cX11_findWays 95 = .ok (.iinc 3 1, 3) := by decide +kernel
theorem dX11_findWays_98 : decode cX11_findWays 98 = .ok (.goto (-41), 3) := by decide +kernel
theorem dX11_findWays_101 : decode cX11_findWays 101 = .ok (.return_, 1) := by decide +kernel
set_option maxRecDepth 20000 in
theorem ggX11_tellWay_X11_tell : GoodIn wsX11_tellWay wsX11_tell := goodIn_r _ [7, 8, 9, 10, 11, 12, 13, 14, 15, 16, 17, 18, 19, 20, 21, 22, 23, 24, 25, 26, 27, 28, 29, 30, 31, 32, 33, 34, 35, 36, 37, 38, 39, 40, 41, 42, 43, 44, 45, 46, 47, 48, 49, 50, 51, 52, 53, 54, 55, 56, 57, 58, 59, 60, 61, 62, 63, 64] (by decide +kernel) (by decide +kernel)
set_option maxRecDepth 20000 in
theorem gX11_tellWay_X11_tell : GoodIn wsX11_tellWay (wsV RX11 243 RX11 yX11_tell wsX11_tell) := goodIn_app (goodIn_of _ (by decide +kernel)) ggX11_tellWay_X11_tell
theorem dX11_tellWay_0 : decode cX11_tellWay 0 = .ok (.iconst 0, 1) := by decide +kernel
theorem dX11_tellWay_1 : decode cX11_tellWay 1 = .ok (.istore_n 2, 1) := by decide +kernel
theorem dX11_tellWay_2 : decode cX11_tellWay 2 = .ok (.iload_n 2, 1) := by decide +kernel
theorem dX11_tellWay_3 : decode cX11_tellWay 3 = .ok (.aload_n 0, 1) := by decide +kernel
theorem dX11_tellWay_4 : decode cX11_tellWay 4 = .ok (.getfield 104, 3) := by decide +kernel
theorem dX11_tellWay_7 : decode cX11_tellWay 7 = .ok (.if_icmp .ge 25, 3) := by decide +kernel
theorem dX11_tellWay_10 : decode cX11_tellWay 10 = .ok (.aload_n 0, 1) := by decide +kernel
theorem dX11_tellWay_11 : decode cX11_tellWay 11 = .ok (.aload_n 0, 1) := by decide +kernel
theorem dX11_tellWay_12 : decode cX11_tellWay 12 = .ok (.getfield 57, 3) := by decide +kernel
theorem dX11_tellWay_15 : decode cX11_tellWay 15 = .ok (.bipush 6, 2) := by decide +kernel
theorem dX11_tellWay_17 : decode cX11_tellWay 17 = .ok (.iload_n 1, 1) := by decide +kernel
theorem dX11_tellWay_18 : decode cX11_tellWay 18 = .ok (.imul, 1) := by decide +kernel
theorem dX11_tellWay_19 : decode cX11_tellWay 19 = .ok (.iload_n 2, 1) := by decide +kernel
theorem dX11_tellWay_20 : decode cX11_tellWay 20 = .ok (.iadd, 1) := by decide +kernel
theorem dX11_tellWay_21 : decode cX11_tellWay 21 = .ok (.iaload, 1) := by decide +kernel
theorem dX11_tellWay_22 : decode cX11_tellWay 22 = .ok (.i2l, 1) := by decide +kernel
theorem dX11_tellWay_23 : decode cX11_tellWay 23 = .ok (.invokevirtual 243, 3) := by decide +kernel
theorem dX11_tellWay_26 : decode cX11_tellWay 26 = .ok (.iinc 2 1, 3) := by decide +kernel
theorem dX11_tellWay_29 : decode cX11_tellWay 29 = .ok (.goto (-27), 3) := by decide +kernel
theorem dX11_tellWay_32 : decode cX11_tellWay 32 = .ok (.return_, 1) := by decide +kernel
set_option maxRecDepth 20000 in
theorem ggX11_roots_X11_isOrder : GoodIn wsX11_roots wsX11_isOrder := goodIn_r _ [11, 12, 13, 14, 10, 15, 38, 39, 40, 41, 42, 43, 44, 45, 46, 47, 48, 49, 50, 51, 52, 53, 54, 55, 56, 57, 58, 59, 60, 61, 62, 63, 64, 65, 66, 67, 68, 69, 70, 71, 72, 73, 74, 75, 76, 77, 78, 79, 80, 81, 82, 83, 84, 85, 86, 87, 88, 89, 90, 91, 92] (by decide +kernel) (by decide +kernel)
set_option maxRecDepth 20000 in
theorem gX11_roots_X11_isOrder : GoodIn wsX11_roots (wsV RX11 205 RX11 yX11_isOrder wsX11_isOrder) := goodIn_app (goodIn_of _ (by decide +kernel)) ggX11_roots_X11_isOrder
set_option maxRecDepth 20000 in
theorem ggX11_roots_X11_in : GoodIn wsX11_roots wsX11_in := goodIn_r _ [15] (by decide +kernel) (by decide +kernel)
set_option maxRecDepth 20000 in
theorem gX11_roots_X11_in : GoodIn wsX11_roots (va_wsS RX11 107 yX11_in wsX11_in) := goodIn_app (goodIn_of _ (by decide +kernel)) ggX11_roots_X11_in
set_option maxRecDepth 20000 in
theorem ggX11_roots_X11_findWays : GoodIn wsX11_roots wsX11_findWays := goodIn_r _ [19, 3, 20, 4, 21, 22, 23, 10, 24, 16, 17, 18, 38, 39, 40, 41, 42, 43, 44, 45, 46, 47, 48, 49, 50, 51, 52, 53, 54, 55, 56, 57, 58, 59, 60, 61, 62, 63, 64, 65, 66, 67, 68, 69, 70, 71, 72, 73, 74, 75, 76, 77, 78, 79, 80, 81, 82, 83, 84, 85, 86, 87, 88, 89, 90, 91, 92] (by decide +kernel) (by decide +kernel)
set_option maxRecDepth 20000 in
theorem gX11_roots_X11_findWays : GoodIn wsX11_roots (wsV RX11 305 RX11 yX11_findWays wsX11_findWays) := goodIn_app (goodIn_of _ (by decide +kernel)) ggX11_roots_X11_findWays
set_option maxRecDepth 20000 in
theorem ggX11_roots_X11_tellWay : GoodIn wsX11_roots wsX11_tellWay := goodIn_r _ [32, 3, 20, 33, 34, 35, 10, 36, 37, 5, 38, 39, 40, 41, 42, 43, 44, 45, 46, 47, 48, 49, 50, 51, 52, 53, 54, 55, 56, 57, 58, 59, 60, 61, 62, 63, 64, 65, 66, 67, 68, 69, 70, 71, 72, 73, 74, 75, 76, 77, 78, 79, 80, 81, 82, 83, 84, 85, 86, 87, 88, 89, 90, 91, 92] (by decide +kernel) (by decide +kernel)
set_option maxRecDepth 20000 in
theorem gX11_roots_X11_tellWay : GoodIn wsX11_roots (wsV RX11 314 RX11 yX11_tellWay wsX11_tellWay) := goodIn_app (goodIn_of _ (by decide +kernel)) ggX11_roots_X11_tellWay
theorem dX11_roots_0 : decode cX11_roots 0 = .ok (.aload_n 0, 1) := by decide +kernel
theorem dX11_roots_1 : decode cX11_roots 1 = .ok (.iconst 0, 1) := by decide +kernel
theorem dX11_roots_2 : decode cX11_roots 2 = .ok (.putfield 98, 3) := by decide +kernel
theorem dX11_roots_5 : decode cX11_roots 5 = .ok (.aload_n 0, 1) := by decide +kernel
theorem dX11_roots_6 : decode cX11_roots 6 = .ok (.iload_n 1, 1) := by decide +kernel
theorem dX11_roots_7 : decode cX11_roots 7 = .ok (.invokevirtual 205, 3) := by decide +kernel
theorem dX11_roots_10 : decode cX11_roots 10 = .ok (.ifCond .eq 15, 3) := by decide +kernel
theorem dX11_roots_13 : decode cX11_roots 13 = .ok (.iload_n 2, 1) := by decide +kernel
theorem dX11_roots_14 : decode cX11_roots 14 = .ok (.i2l, 1) := by decide +kernel
theorem dX11_roots_15 : decode cX11_roots 15 = .ok (.lconst 1, 1) := by decide +kernel
theorem dX11_roots_16 : decode cX11_roots 16 = .ok (.ldc2_w 309, 3) := by decide +kernel
theorem dX11_roots_19 : decode cX11_roots 19 = .ok (.invokestatic 107, 3) := by decide +kernel
theorem dX11_roots_22 : decode cX11_roots 22 = .ok (.ifCond .ne 5, 3) := by decide +kernel
theorem dX11_roots_25 : decode cX11_roots 25 = .ok (.iconst (-1), 1) := by decide +kernel
theorem dX11_roots_26 : decode cX11_roots 26 = .ok (.ireturn, 1) := by decide +kernel
theorem dX11_roots_27 : decode cX11_roots 27 = .ok (.aload_n 0, 1) := by decide +kernel
theorem dX11_roots_28 : decode cX11_roots 28 = .ok (.getfield 104, 3) := by decide +kernel
theorem dX11_roots_31 : decode cX11_roots 31 = .ok (.bipush 6, 2) := by decide +kernel
theorem dX11_roots_33 : decode cX11_roots 33 = .ok (.if_icmp .le 6, 3) := by decide +kernel
theorem dX11_roots_36 : decode cX11_roots 36 = .ok (.bipush (-3), 2) := by decide +kernel
theorem dX11_roots_38 : decode cX11_roots 38 = .ok (.ireturn, 1) := by decide +kernel
theorem dX11_roots_39 : decode cX11_roots 39 = .ok (.aload_n 0, 1) := by decide +kernel
theorem dX11_roots_40 : decode cX11_roots 40 = .ok (.iconst 0, 1) := by decide +kernel
theorem dX11_roots_41 : decode cX11_roots 41 = .ok (.putfield 302, 3) := by decide +kernel
theorem dX11_roots_44 : decode cX11_roots 44 = .ok (.aload_n 0, 1) := by decide +kernel
theorem dX11_roots_45 : decode cX11_roots 45 = .ok (.iconst 0, 1) := by decide +kernel
theorem dX11_roots_46 : decode cX11_roots 46 = .ok (.iconst 0, 1) := by decide +kernel
theorem dX11_roots_47 : decode cX11_roots 47 = .ok (.invokevirtual 305, 3) := by decide +kernel
theorem dX11_roots_50 : decode cX11_roots 50 = .ok (.iconst 0, 1) := by decide +kernel
theorem dX11_roots_51 : decode cX11_roots 51 = .ok (.istore_n 3, 1) := by decide +kernel
theorem dX11_roots_52 : decode cX11_roots 52 = .ok (.aload_n 0, 1) := by decide +kernel
theorem dX11_roots_53 : decode cX11_roots 53 = .ok (.iconst 0, 1) := by decide +kernel
theorem dX11_roots_54 : decode cX11_roots 54 = .ok (.putfield 101, 3) := by decide +kernel
theorem dX11_roots_57 : decode cX11_roots 57 = .ok (.iconst 0, 1) := by decide +kernel
theorem dX11_roots_58 : decode cX11_roots 58 = .ok (.istore 4, 2) := by decide +kernel
theorem dX11_roots_60 : decode cX11_roots 60 = .ok (.iload 4, 2) := by decide +kernel
theorem dX11_roots_62 : decode cX11_roots 62 = .ok (.aload_n 0, 1) := by decide +kernel
theorem dX11_roots_63 : decode cX11_roots 63 = .ok (.getfield 302, 3) := by decide +kernel
theorem dX11_roots_66 : decode cX11_roots 66 = .ok (.if_icmp .ge 87, 3) := by decide +kernel
theorem dX11_roots_69 : decode cX11_roots 69 = .ok (.iconst 1, 1) := by decide +kernel
theorem dX11_roots_70 : decode cX11_roots 70 = .ok (.istore 5, 2) := by decide +kernel
theorem dX11_roots_72 : decode cX11_roots 72 = .ok (.iconst 0, 1) := by decide +kernel
theorem dX11_roots_73 : decode cX11_roots 73 = .ok (.istore 6, 2) := by decide +kernel
theorem dX11_roots_75 : decode cX11_roots 75 = .ok (.iload 6, 2) := by decide +kernel
theorem dX11_roots_77 : decode cX11_roots 77 = .ok (.aload_n 0, 1) := by decide +kernel
theorem dX11_roots_78 : decode cX11_roots 78 = .ok (.getfield 104, 3) := by decide +kernel
theorem dX11_roots_81 : decode cX11_roots 81 = .ok (.if_icmp .ge 45, 3) := by decide +kernel
theorem dX11_roots_84 : decode cX11_roots 84 = .ok (.iload 5, 2) := by decide +kernel
theorem dX11_roots_86 : decode cX11_roots 86 = .ok (.ifCond .eq 40, 3) := by decide +kernel
theorem dX11_roots_89 : decode cX11_roots 89 = .ok (.aload_n 0, 1) := by decide +kernel
theorem dX11_roots_90 : decode cX11_roots 90 = .ok (.iload 4, 2) := by decide +kernel
theorem dX11_roots_92 : decode cX11_roots 92 = .ok (.iload 6, 2) := by decide +kernel
theorem dX11_roots_94 : decode cX11_roots 94 = .ok (.iload_n 2, 1) := by decide +kernel
theorem dX11_roots_126 : decode cX11_roots 126 = .ok (.iload 5, 2) := by decide +kernel
theorem dX11_roots_128 : decode cX11_roots 128 = .ok (.ifCond .ne 6, 3) := by decide +kernel
theorem dX11_roots_131 : decode cX11_roots 131 = .ok (.goto 16, 3) := by decide +kernel
theorem dX11_roots_134 : decode cX11_roots 134 = .ok (.iload_n 3, 1) := by decide +kernel
theorem dX11_roots_135 : decode cX11_roots 135 = .ok (.ifCond .ne 9, 3) := by decide +kernel
theorem dX11_roots_138 : decode cX11_roots 138 = .ok (.aload_n 0, 1) := by decide +kernel
theorem dX11_roots_139 : decode cX11_roots 139 = .ok (.iload 4, 2) := by decide +kernel
theorem dX11_roots_141 : decode cX11_roots 141 = .ok (.invokevirtual 314, 3) := by decide +kernel
theorem dX11_roots_144 : decode cX11_roots 144 = .ok (.iinc 3 1, 3) := by decide +kernel
theorem dX11_roots_147 : decode cX11_roots 147 = .ok (.iinc 4 1, 3) := by decide +kernel
theorem dX11_roots_150 : decode cX11_roots 150 = .ok (.goto (-90), 3) := by decide +kernel
theorem dX11_roots_153 : decode cX11_roots 153 = .ok (.iload_n 3, 1) := by decide +kernel
theorem dX11_roots_154 : decode cX11_roots 154 = .ok (.ireturn, 1) := by decide +kernel
set_option maxRecDepth 20000 in
theorem ggX11_mends_X11_isDay : GoodIn wsX11_mends wsX11_isDay := goodIn_r _ [8, 9, 10, 11, 7, 12] (by decide +kernel) (by decide +kernel)
set_option maxRecDepth 20000 in
theorem gX11_mends_X11_isDay : GoodIn wsX11_mends (va_wsS RX11 236 yX11_isDay wsX11_isDay) := goodIn_app (goodIn_of _ (by decide +kernel)) ggX11_mends_X11_isDay
set_option maxRecDepth 20000 in
theorem ggX11_mends_X11_layOut : GoodIn wsX11_mends wsX11_layOut := goodIn_r _ [16, 2, 17, 18, 19, 20, 42, 43, 44, 45, 46, 47, 48, 49, 50, 51, 52, 53, 54, 55, 56, 57, 58, 59, 60, 61, 62, 63, 64, 65, 66, 67, 68, 69, 70, 71, 72, 73, 74, 75, 76, 77, 78, 79, 80, 81, 82, 83, 84, 85, 86, 87, 88, 89, 90, 91, 92, 93, 94, 95, 96] (by decide +kernel) (by decide +kernel)
set_option maxRecDepth 20000 in
theorem gX11_mends_X11_layOut : GoodIn wsX11_mends (wsV RX11 233 RX11 yX11_layOut wsX11_layOut) := goodIn_app (goodIn_of _ (by decide +kernel)) ggX11_mends_X11_layOut
set_option maxRecDepth 20000 in
theorem ggX11_mends_X11_tell : GoodIn wsX11_mends wsX11_tell := goodIn_r _ [28, 29, 4, 42, 43, 44, 45, 46, 47, 48, 49, 50, 51, 52, 53, 54, 55, 56, 57, 58, 59, 60, 61, 62, 63, 64, 65, 66, 67, 68, 69, 70, 71, 72, 73, 74, 75, 76, 77, 78, 79, 80, 81, 82, 83, 84, 85, 86, 87, 88, 89, 90, 91, 92, 93, 94, 95, 96] (by decide +kernel) (by decide +kernel)
set_option maxRecDepth 20000 in
theorem gX11_mends_X11_tell : GoodIn wsX11_mends (wsV RX11 243 RX11 yX11_tell wsX11_tell) := goodIn_app (goodIn_of _ (by decide +kernel)) ggX11_mends_X11_tell
set_option maxRecDepth 20000 in
theorem ggX11_mends_X11_findCycles : GoodIn wsX11_mends wsX11_findCycles := goodIn_r _ [37, 38, 2, 39, 40, 7, 41, 42, 43, 44, 45, 46, 47, 48, 49, 50, 51, 52, 53, 54, 55, 56, 57, 58, 59, 60, 61, 62, 63, 64, 65, 66, 67, 68, 69, 70, 71, 72, 73, 74, 75, 76, 77, 78, 79, 80, 81, 82, 83, 84, 85, 86, 87, 88, 89, 90, 91, 92, 93, 94, 95, 96] (by decide +kernel) (by decide +kernel)
set_option maxRecDepth 20000 in
theorem gX11_mends_X11_findCycles : GoodIn wsX11_mends (wsV RX11 298 RX11 yX11_findCycles wsX11_findCycles) := goodIn_app (goodIn_of _ (by decide +kernel)) ggX11_mends_X11_findCycles
theorem dX11_mends_0 : decode cX11_mends 0 = .ok (.aload_n 0, 1) := by decide +kernel
theorem dX11_mends_1 : decode cX11_mends 1 = .ok (.iconst 0, 1) := by decide +kernel
theorem dX11_mends_2 : decode cX11_mends 2 = .ok (.putfield 98, 3) := by decide +kernel
theorem dX11_mends_5 : decode cX11_mends 5 = .ok (.lload_n 1, 1) := by decide +kernel
theorem dX11_mends_6 : decode cX11_mends 6 = .ok (.invokestatic 236, 3) := by decide +kernel
theorem dX11_mends_9 : decode cX11_mends 9 = .ok (.ifCond .ne 5, 3) := by decide +kernel
theorem dX11_mends_12 : decode cX11_mends 12 = .ok (.iconst (-1), 1) := by decide +kernel
theorem dX11_mends_13 : decode cX11_mends 13 = .ok (.ireturn, 1) := by decide +kernel
theorem dX11_mends_14 : decode cX11_mends 14 = .ok (.aload_n 0, 1) := by decide +kernel
theorem dX11_mends_15 : decode cX11_mends 15 = .ok (.iconst 0, 1) := by decide +kernel
theorem dX11_mends_16 : decode cX11_mends 16 = .ok (.invokevirtual 233, 3) := by decide +kernel
theorem dX11_mends_19 : decode cX11_mends 19 = .ok (.iconst (-1), 1) := by decide +kernel
theorem dX11_mends_20 : decode cX11_mends 20 = .ok (.istore_n 3, 1) := by decide +kernel
theorem dX11_mends_21 : decode cX11_mends 21 = .ok (.aload_n 0, 1) := by decide +kernel
theorem dX11_mends_22 : decode cX11_mends 22 = .ok (.getfield 104, 3) := by decide +kernel
theorem dX11_mends_25 : decode cX11_mends 25 = .ok (.iconst 1, 1) := by decide +kernel
theorem dX11_mends_26 : decode cX11_mends 26 = .ok (.isub, 1) := by decide +kernel
theorem dX11_mends_27 : decode cX11_mends 27 = .ok (.istore 4, 2) := by decide +kernel
theorem dX11_mends_29 : decode cX11_mends 29 = .ok (.iload 4, 2) := by decide +kernel
theorem dX11_mends_31 : decode cX11_mends 31 = .ok (.ifCond .lt 42, 3) := by decide +kernel
theorem dX11_mends_34 : decode cX11_mends 34 = .ok (.aload_n 0, 1) := by decide +kernel
theorem dX11_mends_35 : decode cX11_mends 35 = .ok (.getfield 63, 3) := by decide +kernel
theorem dX11_mends_38 : decode cX11_mends 38 = .ok (.iload 4, 2) := by decide +kernel
theorem dX11_mends_40 : decode cX11_mends 40 = .ok (.aload_n 0, 1) := by decide +kernel
theorem dX11_mends_41 : decode cX11_mends 41 = .ok (.iload 4, 2) := by decide +kernel
theorem dX11_mends_43 : decode cX11_mends 43 = .ok (.lload_n 1, 1) := by decide +kernel
theorem dX11_mends_73 : decode cX11_mends 73 = .ok (.aload_n 0, 1) := by decide +kernel
theorem dX11_mends_74 : decode cX11_mends 74 = .ok (.iconst 0, 1) := by decide +kernel
theorem dX11_mends_75 : decode cX11_mends 75 = .ok (.putfield 101, 3) := by decide +kernel
theorem dX11_mends_78 : decode cX11_mends 78 = .ok (.iload_n 3, 1) := by decide +kernel
theorem dX11_mends_79 : decode cX11_mends 79 = .ok (.iconst (-1), 1) := by decide +kernel
theorem dX11_mends_80 : decode cX11_mends 80 = .ok (.if_icmp .eq 20, 3) := by decide +kernel
theorem dX11_mends_83 : decode cX11_mends 83 = .ok (.aload_n 0, 1) := by decide +kernel
theorem dX11_mends_84 : decode cX11_mends 84 = .ok (.iload_n 3, 1) := by decide +kernel
theorem dX11_mends_85 : decode cX11_mends 85 = .ok (.i2l, 1) := by decide +kernel
theorem dX11_mends_86 : decode cX11_mends 86 = .ok (.invokevirtual 243, 3) := by decide +kernel
theorem dX11_mends_89 : decode cX11_mends 89 = .ok (.aload_n 0, 1) := by decide +kernel
theorem dX11_mends_90 : decode cX11_mends 90 = .ok (.aload_n 0, 1) := by decide +kernel
theorem dX11_mends_91 : decode cX11_mends 91 = .ok (.iload_n 3, 1) := by decide +kernel
theorem dX11_mends_92 : decode cX11_mends 92 = .ok (.lload_n 1, 1) := by decide +kernel
theorem dX11_mends_100 : decode cX11_mends 100 = .ok (.aload_n 0, 1) := by decide +kernel
theorem dX11_mends_101 : decode cX11_mends 101 = .ok (.getfield 104, 3) := by decide +kernel
theorem dX11_mends_104 : decode cX11_mends 104 = .ok (.aload_n 0, 1) := by decide +kernel
theorem dX11_mends_105 : decode cX11_mends 105 = .ok (.aload_n 0, 1) := by decide +kernel
theorem dX11_mends_106 : decode cX11_mends 106 = .ok (.getfield 63, 3) := by decide +kernel
theorem dX11_mends_109 : decode cX11_mends 109 = .ok (.iconst 0, 1) := by decide +kernel
theorem dX11_mends_110 : decode cX11_mends 110 = .ok (.invokevirtual 298, 3) := by decide +kernel
theorem dX11_mends_113 : decode cX11_mends 113 = .ok (.isub, 1) := by decide +kernel
theorem dX11_mends_114 : decode cX11_mends 114 = .ok (.ireturn, 1) := by decide +kernel
set_option maxRecDepth 20000 in
theorem ggX11_isLate_X11_in : GoodIn wsX11_isLate wsX11_in := goodIn_r _ [5] (by decide +kernel) (by decide +kernel)
set_option maxRecDepth 20000 in
theorem gX11_isLate_X11_in : GoodIn wsX11_isLate (va_wsS RX11 107 yX11_in wsX11_in) := goodIn_app (goodIn_of _ (by decide +kernel)) ggX11_isLate_X11_in
theorem dX11_isLate_0 : decode cX11_isLate 0 = .ok (.iload_n 0, 1) := by decide +kernel
theorem dX11_isLate_1 : decode cX11_isLate 1 = .ok (.i2l, 1) := by decide +kernel
theorem dX11_isLate_2 : decode cX11_isLate 2 = .ok (.lconst 0, 1) := by decide +kernel
theorem dX11_isLate_3 : decode cX11_isLate 3 = .ok (.ldc2_w 324, 3) := by decide +kernel
theorem dX11_isLate_6 : decode cX11_isLate 6 = .ok (.invokestatic 107, 3) := by decide +kernel
theorem dX11_isLate_9 : decode cX11_isLate 9 = .ok (.ireturn, 1) := by decide +kernel
set_option maxRecDepth 20000 in
theorem ggX11_carries_X11_isLetter : GoodIn wsX11_carries wsX11_isLetter := goodIn_r _ [8, 9, 10, 11, 7, 12, 71, 72, 73, 74, 75, 76, 77, 78, 79, 80, 81, 82, 83, 84, 85, 86, 87, 88, 89, 90, 91, 92, 93, 94, 95, 96, 97, 98, 99, 100, 101, 102, 103, 104, 105, 106, 107, 108, 109, 110, 111, 112, 113, 114, 115, 116, 117, 118, 119, 120, 121, 122, 123, 124, 125] (by decide +kernel) (by decide +kernel)
set_option maxRecDepth 20000 in
theorem gX11_carries_X11_isLetter : GoodIn wsX11_carries (wsV RX11 263 RX11 yX11_isLetter wsX11_isLetter) := goodIn_app (goodIn_of _ (by decide +kernel)) ggX11_carries_X11_isLetter
set_option maxRecDepth 20000 in
theorem ggX11_carries_X11_isLate : GoodIn wsX11_carries wsX11_isLate := goodIn_r _ [15, 16, 10, 11, 7, 12] (by decide +kernel) (by decide +kernel)
set_option maxRecDepth 20000 in
theorem gX11_carries_X11_isLate : GoodIn wsX11_carries (va_wsS RX11 326 yX11_isLate wsX11_isLate) := goodIn_app (goodIn_of _ (by decide +kernel)) ggX11_carries_X11_isLate
set_option maxRecDepth 20000 in
theorem ggX11_carries_X11_layOut : GoodIn wsX11_carries wsX11_layOut := goodIn_r _ [20, 21, 22, 23, 24, 25, 71, 72, 73, 74, 75, 76, 77, 78, 79, 80, 81, 82, 83, 84, 85, 86, 87, 88, 89, 90, 91, 92, 93, 94, 95, 96, 97, 98, 99, 100, 101, 102, 103, 104, 105, 106, 107, 108, 109, 110, 111, 112, 113, 114, 115, 116, 117, 118, 119, 120, 121, 122, 123, 124, 125] (by decide +kernel) (by decide +kernel)
set_option maxRecDepth 20000 in
theorem gX11_carries_X11_layOut : GoodIn wsX11_carries (wsV RX11 233 RX11 yX11_layOut wsX11_layOut) := goodIn_app (goodIn_of _ (by decide +kernel)) ggX11_carries_X11_layOut
set_option maxRecDepth 20000 in
theorem ggX11_carries_X11_findFar : GoodIn wsX11_carries wsX11_findFar := goodIn_r _ [29, 30, 21, 31, 32, 33, 34, 35, 36, 37, 71, 72, 73, 74, 75, 76, 77, 78, 79, 80, 81, 82, 83, 84, 85, 86, 87, 88, 89, 90, 91, 92, 93, 94, 95, 96, 97, 98, 99, 100, 101, 102, 103, 104, 105, 106, 107, 108, 109, 110, 111, 112, 113, 114, 115, 116, 117, 118, 119, 120, 121, 122, 123, 124, 125] (by decide +kernel) (by decide +kernel)
set_option maxRecDepth 20000 in
theorem gX11_carries_X11_findFar : GoodIn wsX11_carries (wsV RX11 220 RX11 yX11_findFar wsX11_findFar) := goodIn_app (goodIn_of _ (by decide +kernel)) ggX11_carries_X11_findFar
theorem dX11_carries_0 : decode cX11_carries 0 = .ok (.aload_n 0, 1) := by decide +kernel
theorem dX11_carries_1 : decode cX11_carries 1 = .ok (.iconst 0, 1) := by decide +kernel
theorem dX11_carries_2 : decode cX11_carries 2 = .ok (.putfield 98, 3) := by decide +kernel
theorem dX11_carries_5 : decode cX11_carries 5 = .ok (.aload_n 0, 1) := by decide +kernel
theorem dX11_carries_6 : decode cX11_carries 6 = .ok (.iload_n 1, 1) := by decide +kernel
theorem dX11_carries_7 : decode cX11_carries 7 = .ok (.invokevirtual 263, 3) := by decide +kernel
theorem dX11_carries_10 : decode cX11_carries 10 = .ok (.ifCond .eq 10, 3) := by decide +kernel
theorem dX11_carries_13 : decode cX11_carries 13 = .ok (.iload_n 2, 1) := by decide +kernel
theorem dX11_carries_14 : decode cX11_carries 14 = .ok (.invokestatic 326, 3) := by decide +kernel
theorem dX11_carries_17 : decode cX11_carries 17 = .ok (.ifCond .ne 5, 3) := by decide +kernel
theorem dX11_carries_20 : decode cX11_carries 20 = .ok (.iconst (-1), 1) := by decide +kernel
theorem dX11_carries_21 : decode cX11_carries 21 = .ok (.ireturn, 1) := by decide +kernel
theorem dX11_carries_22 : decode cX11_carries 22 = .ok (.aload_n 0, 1) := by decide +kernel
theorem dX11_carries_23 : decode cX11_carries 23 = .ok (.iconst 0, 1) := by decide +kernel
theorem dX11_carries_24 : decode cX11_carries 24 = .ok (.invokevirtual 233, 3) := by decide +kernel
theorem dX11_carries_27 : decode cX11_carries 27 = .ok (.aload_n 0, 1) := by decide +kernel
theorem dX11_carries_28 : decode cX11_carries 28 = .ok (.invokevirtual 220, 3) := by decide +kernel
theorem dX11_carries_31 : decode cX11_carries 31 = .ok (.aload_n 0, 1) := by decide +kernel
theorem dX11_carries_32 : decode cX11_carries 32 = .ok (.iload_n 1, 1) := by decide +kernel
theorem dX11_carries_33 : decode cX11_carries 33 = .ok (.aload_n 0, 1) := by decide +kernel
theorem dX11_carries_34 : decode cX11_carries 34 = .ok (.getfield 197, 3) := by decide +kernel
theorem dX11_carries_37 : decode cX11_carries 37 = .ok (.iload_n 2, 1) := by decide +kernel
set_option maxRecDepth 20000 in
theorem ggX11_best_X11_isLetter : GoodIn wsX11_best wsX11_isLetter := goodIn_r _ [7, 8, 9, 10, 6, 11, 46, 47, 48, 49, 50, 51, 52, 53, 54, 55, 56, 57, 58, 59, 60, 61, 62, 63, 64, 65, 66, 67, 68, 69, 70, 71, 72, 73, 74, 75, 76, 77, 78, 79, 80, 81, 82, 83, 84, 85, 86, 87, 88, 89, 90, 91, 92, 93, 94, 95, 96, 97, 98, 99, 100] (by decide +kernel) (by decide +kernel)
set_option maxRecDepth 20000 in
theorem gX11_best_X11_isLetter : GoodIn wsX11_best (wsV RX11 263 RX11 yX11_isLetter wsX11_isLetter) := goodIn_app (goodIn_of _ (by decide +kernel)) ggX11_best_X11_isLetter
set_option maxRecDepth 20000 in
theorem ggX11_best_X11_layOut : GoodIn wsX11_best wsX11_layOut := goodIn_r _ [15, 16, 17, 18, 19, 20, 46, 47, 48, 49, 50, 51, 52, 53, 54, 55, 56, 57, 58, 59, 60, 61, 62, 63, 64, 65, 66, 67, 68, 69, 70, 71, 72, 73, 74, 75, 76, 77, 78, 79, 80, 81, 82, 83, 84, 85, 86, 87, 88, 89, 90, 91, 92, 93, 94, 95, 96, 97, 98, 99, 100] (by decide +kernel) (by decide +kernel)
set_option maxRecDepth 20000 in
theorem gX11_best_X11_layOut : GoodIn wsX11_best (wsV RX11 233 RX11 yX11_layOut wsX11_layOut) := goodIn_app (goodIn_of _ (by decide +kernel)) ggX11_best_X11_layOut
theorem dX11_best_0 : decode cX11_best 0 = .ok (.aload_n 0, 1) := by decide +kernel
theorem dX11_best_1 : decode cX11_best 1 = .ok (.iconst 0, 1) := by decide +kernel
theorem dX11_best_2 : decode cX11_best 2 = .ok (.putfield 98, 3) := by decide +kernel
theorem dX11_best_5 : decode cX11_best 5 = .ok (.aload_n 0, 1) := by decide +kernel
theorem dX11_best_6 : decode cX11_best 6 = .ok (.iload_n 1, 1) := by decide +kernel
theorem dX11_best_7 : decode cX11_best 7 = .ok (.invokevirtual 263, 3) := by decide +kernel
theorem dX11_best_10 : decode cX11_best 10 = .ok (.ifCond .ne 5, 3) := by decide +kernel
theorem dX11_best_13 : decode cX11_best 13 = .ok (.iconst (-1), 1) := by decide +kernel
theorem dX11_best_14 : decode cX11_best 14 = .ok (.ireturn, 1) := by decide +kernel
theorem dX11_best_15 : decode cX11_best 15 = .ok (.aload_n 0, 1) := by decide +kernel
theorem dX11_best_16 : decode cX11_best 16 = .ok (.iconst 0, 1) := by decide +kernel
theorem dX11_best_17 : decode cX11_best 17 = .ok (.invokevirtual 233, 3) := by decide +kernel
theorem dX11_best_20 : decode cX11_best 20 = .ok (.iconst 0, 1) := by decide +kernel
theorem dX11_best_21 : decode cX11_best 21 = .ok (.istore_n 2, 1) := by decide +kernel
theorem dX11_best_22 : decode cX11_best 22 = .ok (.iload_n 2, 1) := by decide +kernel
theorem dX11_best_23 : decode cX11_best 23 = .ok (.bipush 99, 2) := by decide +kernel
theorem dX11_best_25 : decode cX11_best 25 = .ok (.if_icmp .gt 29, 3) := by decide +kernel
theorem dX11_best_28 : decode cX11_best 28 = .ok (.aload_n 0, 1) := by decide +kernel
theorem dX11_best_29 : decode cX11_best 29 = .ok (.iload_n 1, 1) := by decide +kernel
theorem dX11_best_30 : decode cX11_best 30 = .ok (.aload_n 0, 1) := by decide +kernel
theorem dX11_best_31 : decode cX11_best 31 = .ok (.getfield 197, 3) := by decide +kernel
theorem dX11_best_34 : decode cX11_best 34 = .ok (.iload_n 2, 1) := by decide +kernel
theorem dX11_best_54 : decode cX11_best 54 = .ok (.bipush (-2), 2) := by decide +kernel
theorem dX11_best_56 : decode cX11_best 56 = .ok (.ireturn, 1) := by decide +kernel
set_option maxRecDepth 20000 in
theorem ggX11_days_X11_isLetter : GoodIn wsX11_days wsX11_isLetter := goodIn_r _ [10, 11, 12, 13, 9, 14, 58, 59, 60, 61, 62, 63, 64, 65, 66, 67, 68, 69, 70, 71, 72, 73, 74, 75, 76, 77, 78, 79, 80, 81, 82, 83, 84, 85, 86, 87, 88, 89, 90, 91, 92, 93, 94, 95, 96, 97, 98, 99, 100, 101, 102, 103, 104, 105, 106, 107, 108, 109, 110, 111, 112] (by decide +kernel) (by decide +kernel)
set_option maxRecDepth 20000 in
theorem gX11_days_X11_isLetter : GoodIn wsX11_days (wsV RX11 263 RX11 yX11_isLetter wsX11_isLetter) := goodIn_app (goodIn_of _ (by decide +kernel)) ggX11_days_X11_isLetter
set_option maxRecDepth 20000 in
theorem ggX11_days_X11_isLate : GoodIn wsX11_days wsX11_isLate := goodIn_r _ [17, 18, 12, 13, 9, 14] (by decide +kernel) (by decide +kernel)
set_option maxRecDepth 20000 in
theorem gX11_days_X11_isLate : GoodIn wsX11_days (va_wsS RX11 326 yX11_isLate wsX11_isLate) := goodIn_app (goodIn_of _ (by decide +kernel)) ggX11_days_X11_isLate
set_option maxRecDepth 20000 in
theorem ggX11_days_X11_in : GoodIn wsX11_days wsX11_in := goodIn_r _ [14] (by decide +kernel) (by decide +kernel)
set_option maxRecDepth 20000 in
theorem gX11_days_X11_in : GoodIn wsX11_days (va_wsS RX11 107 yX11_in wsX11_in) := goodIn_app (goodIn_of _ (by decide +kernel)) ggX11_days_X11_in
set_option maxRecDepth 20000 in
theorem ggX11_days_X11_layOut : GoodIn wsX11_days wsX11_layOut := goodIn_r _ [22, 23, 24, 25, 26, 27, 58, 59, 60, 61, 62, 63, 64, 65, 66, 67, 68, 69, 70, 71, 72, 73, 74, 75, 76, 77, 78, 79, 80, 81, 82, 83, 84, 85, 86, 87, 88, 89, 90, 91, 92, 93, 94, 95, 96, 97, 98, 99, 100, 101, 102, 103, 104, 105, 106, 107, 108, 109, 110, 111, 112] (by decide +kernel) (by decide +kernel)
set_option maxRecDepth 20000 in
theorem gX11_days_X11_layOut : GoodIn wsX11_days (wsV RX11 233 RX11 yX11_layOut wsX11_layOut) := goodIn_app (goodIn_of _ (by decide +kernel)) ggX11_days_X11_layOut
theorem dX11_days_0 : decode cX11_days 0 = .ok (.aload_n 0, 1) := by decide +kernel
theorem dX11_days_1 : decode cX11_days 1 = .ok (.iconst 0, 1) := by decide +kernel
theorem dX11_days_2 : decode cX11_days 2 = .ok (.putfield 98, 3) := by decide +kernel
theorem dX11_days_5 : decode cX11_days 5 = .ok (.aload_n 0, 1) := by decide +kernel
theorem dX11_days_6 : decode cX11_days 6 = .ok (.iload_n 1, 1) := by decide +kernel
theorem dX11_days_7 : decode cX11_days 7 = .ok (.invokevirtual 263, 3) := by decide +kernel
theorem dX11_days_10 : decode cX11_days 10 = .ok (.ifCond .eq 22, 3) := by decide +kernel
theorem dX11_days_13 : decode cX11_days 13 = .ok (.iload_n 2, 1) := by decide +kernel
theorem dX11_days_14 : decode cX11_days 14 = .ok (.invokestatic 326, 3) := by decide +kernel
theorem dX11_days_17 : decode cX11_days 17 = .ok (.ifCond .eq 15, 3) := by decide +kernel
theorem dX11_days_20 : decode cX11_days 20 = .ok (.iload_n 3, 1) := by decide +kernel
theorem dX11_days_21 : decode cX11_days 21 = .ok (.i2l, 1) := by decide +kernel
theorem dX11_days_22 : decode cX11_days 22 = .ok (.lconst 1, 1) := by decide +kernel
theorem dX11_days_23 : decode cX11_days 23 = .ok (.ldc2_w 336, 3) := by decide +kernel
theorem dX11_days_26 : decode cX11_days 26 = .ok (.invokestatic 107, 3) := by decide +kernel
theorem dX11_days_29 : decode cX11_days 29 = .ok (.ifCond .ne 5, 3) := by decide +kernel
