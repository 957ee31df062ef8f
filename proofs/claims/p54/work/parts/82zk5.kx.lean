theorem dk_X7_area_0 : decode cX7_area 0 = .ok (.iload_n 2, 1) := by decide +kernel
theorem dk_X7_area_1 : decode cX7_area 1 = .ok (.invokestatic 124, 3) := by decide +kernel
theorem dk_X7_area_4 : decode cX7_area 4 = .ok (.ifCond .eq 39, 3) := by decide +kernel
theorem dk_X7_area_7 : decode cX7_area 7 = .ok (.iload_n 3, 1) := by decide +kernel
theorem dk_X7_area_8 : decode cX7_area 8 = .ok (.iload 4, 2) := by decide +kernel
theorem dk_X7_area_10 : decode cX7_area 10 = .ok (.invokestatic 106, 3) := by decide +kernel
theorem dk_X7_area_13 : decode cX7_area 13 = .ok (.ifCond .eq 30, 3) := by decide +kernel
theorem dk_X7_area_16 : decode cX7_area 16 = .ok (.iload 5, 2) := by decide +kernel
theorem dk_X7_area_18 : decode cX7_area 18 = .ok (.iload 6, 2) := by decide +kernel
theorem dk_X7_area_20 : decode cX7_area 20 = .ok (.invokestatic 106, 3) := by decide +kernel
theorem dk_X7_area_23 : decode cX7_area 23 = .ok (.ifCond .eq 20, 3) := by decide +kernel
theorem dk_X7_area_26 : decode cX7_area 26 = .ok (.iload_n 3, 1) := by decide +kernel
theorem dk_X7_area_27 : decode cX7_area 27 = .ok (.iload 5, 2) := by decide +kernel
theorem dk_X7_area_29 : decode cX7_area 29 = .ok (.if_icmp .gt 14, 3) := by decide +kernel
theorem dk_X7_area_32 : decode cX7_area 32 = .ok (.iload 4, 2) := by decide +kernel
theorem dk_X7_area_34 : decode cX7_area 34 = .ok (.iload 6, 2) := by decide +kernel
theorem dk_X7_area_36 : decode cX7_area 36 = .ok (.if_icmp .gt 7, 3) := by decide +kernel
theorem dk_X7_area_39 : decode cX7_area 39 = .ok (.iconst 1, 1) := by decide +kernel
theorem dk_X7_area_40 : decode cX7_area 40 = .ok (.goto 4, 3) := by decide +kernel
theorem dk_X7_area_43 : decode cX7_area 43 = .ok (.iconst 0, 1) := by decide +kernel
theorem dk_X7_area_44 : decode cX7_area 44 = .ok (.istore 7, 2) := by decide +kernel
theorem dk_X7_area_46 : decode cX7_area 46 = .ok (.aload_n 0, 1) := by decide +kernel
theorem dk_X7_area_47 : decode cX7_area 47 = .ok (.aload_n 0, 1) := by decide +kernel
theorem dk_X7_area_48 : decode cX7_area 48 = .ok (.iload_n 1, 1) := by decide +kernel
theorem dk_X7_area_49 : decode cX7_area 49 = .ok (.invokevirtual 128, 3) := by decide +kernel
theorem dk_X7_area_52 : decode cX7_area 52 = .ok (.iconst 1, 1) := by decide +kernel
theorem dk_X7_area_53 : decode cX7_area 53 = .ok (.invokevirtual 110, 3) := by decide +kernel
theorem dk_X7_area_56 : decode cX7_area 56 = .ok (.ifCond .ne 55, 3) := by decide +kernel
theorem dk_X7_area_59 : decode cX7_area 59 = .ok (.aload_n 0, 1) := by decide +kernel
theorem dk_X7_area_60 : decode cX7_area 60 = .ok (.iload 7, 2) := by decide +kernel
theorem dk_X7_area_62 : decode cX7_area 62 = .ok (.ifCond .ne 7, 3) := by decide +kernel
theorem dk_X7_area_65 : decode cX7_area 65 = .ok (.iconst 1, 1) := by decide +kernel
theorem dk_X7_area_66 : decode cX7_area 66 = .ok (.goto 4, 3) := by decide +kernel
theorem dk_X7_area_69 : decode cX7_area 69 = .ok (.iconst 0, 1) := by decide +kernel
theorem dk_X7_area_70 : decode cX7_area 70 = .ok (.iconst 2, 1) := by decide +kernel
theorem dk_X7_area_71 : decode cX7_area 71 = .ok (.invokevirtual 110, 3) := by decide +kernel
theorem dk_X7_area_74 : decode cX7_area 74 = .ok (.ifCond .ne 37, 3) := by decide +kernel
theorem dk_X7_area_77 : decode cX7_area 77 = .ok (.aload_n 0, 1) := by decide +kernel
theorem dk_X7_area_78 : decode cX7_area 78 = .ok (.aload_n 0, 1) := by decide +kernel
theorem dk_X7_area_79 : decode cX7_area 79 = .ok (.getfield 11, 3) := by decide +kernel
theorem dk_X7_area_82 : decode cX7_area 82 = .ok (.iload_n 1, 1) := by decide +kernel
theorem dk_X7_area_83 : decode cX7_area 83 = .ok (.aaload, 1) := by decide +kernel
theorem dk_X7_area_84 : decode cX7_area 84 = .ok (.bipush 6, 2) := by decide +kernel
theorem dk_X7_area_86 : decode cX7_area 86 = .ok (.iaload, 1) := by decide +kernel
theorem dk_X7_area_87 : decode cX7_area 87 = .ok (.bipush 12, 2) := by decide +kernel
theorem dk_X7_area_89 : decode cX7_area 89 = .ok (.if_icmp .eq 10, 3) := by decide +kernel
theorem dk_X7_area_92 : decode cX7_area 92 = .ok (.aload_n 0, 1) := by decide +kernel
theorem dk_X7_area_93 : decode cX7_area 93 = .ok (.getfield 114, 3) := by decide +kernel
theorem dk_X7_area_96 : decode cX7_area 96 = .ok (.ifCond .eq 7, 3) := by decide +kernel
theorem dk_X7_area_99 : decode cX7_area 99 = .ok (.iconst 1, 1) := by decide +kernel
theorem dk_X7_area_100 : decode cX7_area 100 = .ok (.goto 4, 3) := by decide +kernel
theorem dk_X7_area_103 : decode cX7_area 103 = .ok (.iconst 0, 1) := by decide +kernel
theorem dk_X7_area_104 : decode cX7_area 104 = .ok (.iconst 3, 1) := by decide +kernel
theorem dk_X7_area_105 : decode cX7_area 105 = .ok (.invokevirtual 110, 3) := by decide +kernel
theorem dk_X7_area_108 : decode cX7_area 108 = .ok (.ifCond .eq 5, 3) := by decide +kernel
theorem dk_X7_area_111 : decode cX7_area 111 = .ok (.iconst 0, 1) := by decide +kernel
theorem dk_X7_area_112 : decode cX7_area 112 = .ok (.ireturn, 1) := by decide +kernel
theorem dk_X7_area_113 : decode cX7_area 113 = .ok (.iload 4, 2) := by decide +kernel
theorem dk_X7_area_115 : decode cX7_area 115 = .ok (.istore 8, 2) := by decide +kernel
theorem dk_X7_area_117 : decode cX7_area 117 = .ok (.iload 8, 2) := by decide +kernel
theorem dk_X7_area_119 : decode cX7_area 119 = .ok (.iload 6, 2) := by decide +kernel
theorem dk_X7_area_121 : decode cX7_area 121 = .ok (.if_icmp .gt 41, 3) := by decide +kernel
theorem dk_X7_area_124 : decode cX7_area 124 = .ok (.iload_n 3, 1) := by decide +kernel
theorem dk_X7_area_125 : decode cX7_area 125 = .ok (.istore 9, 2) := by decide +kernel
theorem dk_X7_area_127 : decode cX7_area 127 = .ok (.iload 9, 2) := by decide +kernel
theorem dk_X7_area_129 : decode cX7_area 129 = .ok (.iload 5, 2) := by decide +kernel
theorem dk_X7_area_131 : decode cX7_area 131 = .ok (.if_icmp .gt 25, 3) := by decide +kernel
theorem dk_X7_area_134 : decode cX7_area 134 = .ok (.aload_n 0, 1) := by decide +kernel
theorem dk_X7_area_135 : decode cX7_area 135 = .ok (.getfield 16, 3) := by decide +kernel
theorem dk_X7_area_138 : decode cX7_area 138 = .ok (.iload_n 1, 1) := by decide +kernel
theorem dk_X7_area_139 : decode cX7_area 139 = .ok (.aaload, 1) := by decide +kernel
theorem dk_X7_area_140 : decode cX7_area 140 = .ok (.iload 8, 2) := by decide +kernel
theorem dk_X7_area_142 : decode cX7_area 142 = .ok (.bipush 30, 2) := by decide +kernel
theorem dk_X7_area_144 : decode cX7_area 144 = .ok (.imul, 1) := by decide +kernel
theorem dk_X7_area_145 : decode cX7_area 145 = .ok (.iload 9, 2) := by decide +kernel
theorem dk_X7_area_147 : decode cX7_area 147 = .ok (.iadd, 1) := by decide +kernel
theorem dk_X7_area_148 : decode cX7_area 148 = .ok (.iload_n 2, 1) := by decide +kernel
theorem dk_X7_area_149 : decode cX7_area 149 = .ok (.castore, 1) := by decide +kernel
theorem dk_X7_area_150 : decode cX7_area 150 = .ok (.iinc 9 1, 3) := by decide +kernel
theorem dk_X7_area_153 : decode cX7_area 153 = .ok (.goto (-26), 3) := by decide +kernel
theorem dk_X7_area_156 : decode cX7_area 156 = .ok (.iinc 8 1, 3) := by decide +kernel
theorem dk_X7_area_159 : decode cX7_area 159 = .ok (.goto (-42), 3) := by decide +kernel
theorem dk_X7_area_162 : decode cX7_area 162 = .ok (.aload_n 0, 1) := by decide +kernel
theorem dk_X7_area_163 : decode cX7_area 163 = .ok (.getfield 11, 3) := by decide +kernel
theorem dk_X7_area_166 : decode cX7_area 166 = .ok (.iload_n 1, 1) := by decide +kernel
theorem dk_X7_area_167 : decode cX7_area 167 = .ok (.aaload, 1) := by decide +kernel
theorem dk_X7_area_168 : decode cX7_area 168 = .ok (.bipush 6, 2) := by decide +kernel
theorem dk_X7_area_170 : decode cX7_area 170 = .ok (.dup2, 1) := by decide +kernel
theorem dk_X7_area_171 : decode cX7_area 171 = .ok (.iaload, 1) := by decide +kernel
theorem dk_X7_area_172 : decode cX7_area 172 = .ok (.iconst 1, 1) := by decide +kernel
theorem dk_X7_area_173 : decode cX7_area 173 = .ok (.iadd, 1) := by decide +kernel
theorem dk_X7_area_174 : decode cX7_area 174 = .ok (.iastore, 1) := by decide +kernel
theorem dk_X7_area_175 : decode cX7_area 175 = .ok (.aload_n 0, 1) := by decide +kernel
theorem dk_X7_area_176 : decode cX7_area 176 = .ok (.getfield 11, 3) := by decide +kernel
theorem dk_X7_area_179 : decode cX7_area 179 = .ok (.iload_n 1, 1) := by decide +kernel
theorem dk_X7_area_180 : decode cX7_area 180 = .ok (.aaload, 1) := by decide +kernel
theorem dk_X7_area_181 : decode cX7_area 181 = .ok (.bipush 6, 2) := by decide +kernel
theorem dk_X7_area_183 : decode cX7_area 183 = .ok (.iaload, 1) := by decide +kernel
theorem dk_X7_area_184 : decode cX7_area 184 = .ok (.ireturn, 1) := by decide +kernel
theorem dk_X7_hole_0 : decode cX7_hole 0 = .ok (.iload_n 1, 1) := by decide +kernel
theorem dk_X7_hole_1 : decode cX7_hole 1 = .ok (.iconst 3, 1) := by decide +kernel
theorem dk_X7_hole_2 : decode cX7_hole 2 = .ok (.iconst 5, 1) := by decide +kernel
theorem dk_X7_hole_3 : decode cX7_hole 3 = .ok (.invokestatic 82, 3) := by decide +kernel
theorem dk_X7_hole_6 : decode cX7_hole 6 = .ok (.ifCond .eq 36, 3) := by decide +kernel
theorem dk_X7_hole_9 : decode cX7_hole 9 = .ok (.iload_n 2, 1) := by decide +kernel
theorem dk_X7_hole_10 : decode cX7_hole 10 = .ok (.iconst 1, 1) := by decide +kernel
theorem dk_X7_hole_11 : decode cX7_hole 11 = .ok (.bipush 9, 2) := by decide +kernel
theorem dk_X7_hole_13 : decode cX7_hole 13 = .ok (.invokestatic 82, 3) := by decide +kernel
theorem dk_X7_hole_16 : decode cX7_hole 16 = .ok (.ifCond .eq 26, 3) := by decide +kernel
theorem dk_X7_hole_19 : decode cX7_hole 19 = .ok (.iload_n 3, 1) := by decide +kernel
theorem dk_X7_hole_20 : decode cX7_hole 20 = .ok (.iload 4, 2) := by decide +kernel
theorem dk_X7_hole_22 : decode cX7_hole 22 = .ok (.invokestatic 106, 3) := by decide +kernel
theorem dk_X7_hole_25 : decode cX7_hole 25 = .ok (.ifCond .eq 17, 3) := by decide +kernel
theorem dk_X7_hole_28 : decode cX7_hole 28 = .ok (.iload 5, 2) := by decide +kernel
theorem dk_X7_hole_30 : decode cX7_hole 30 = .ok (.iload 6, 2) := by decide +kernel
theorem dk_X7_hole_32 : decode cX7_hole 32 = .ok (.invokestatic 106, 3) := by decide +kernel
theorem dk_X7_hole_35 : decode cX7_hole 35 = .ok (.ifCond .eq 7, 3) := by decide +kernel
theorem dk_X7_hole_38 : decode cX7_hole 38 = .ok (.iconst 1, 1) := by decide +kernel
theorem dk_X7_hole_39 : decode cX7_hole 39 = .ok (.goto 4, 3) := by decide +kernel
theorem dk_X7_hole_42 : decode cX7_hole 42 = .ok (.iconst 0, 1) := by decide +kernel
theorem dk_X7_hole_43 : decode cX7_hole 43 = .ok (.istore 7, 2) := by decide +kernel
theorem dk_X7_hole_45 : decode cX7_hole 45 = .ok (.iconst 0, 1) := by decide +kernel
theorem dk_X7_hole_46 : decode cX7_hole 46 = .ok (.istore 8, 2) := by decide +kernel
theorem dk_X7_hole_48 : decode cX7_hole 48 = .ok (.iconst 0, 1) := by decide +kernel
theorem dk_X7_hole_49 : decode cX7_hole 49 = .ok (.istore 9, 2) := by decide +kernel
theorem dk_X7_hole_51 : decode cX7_hole 51 = .ok (.iload 9, 2) := by decide +kernel
theorem dk_X7_hole_53 : decode cX7_hole 53 = .ok (.aload_n 0, 1) := by decide +kernel
theorem dk_X7_hole_54 : decode cX7_hole 54 = .ok (.getfield 86, 3) := by decide +kernel
theorem dk_X7_hole_57 : decode cX7_hole 57 = .ok (.if_icmp .ge 32, 3) := by decide +kernel
theorem dk_X7_hole_60 : decode cX7_hole 60 = .ok (.iload 8, 2) := by decide +kernel
theorem dk_X7_hole_62 : decode cX7_hole 62 = .ok (.aload_n 0, 1) := by decide +kernel
theorem dk_X7_hole_63 : decode cX7_hole 63 = .ok (.getfield 11, 3) := by decide +kernel
theorem dk_X7_hole_66 : decode cX7_hole 66 = .ok (.iload 9, 2) := by decide +kernel
theorem dk_X7_hole_68 : decode cX7_hole 68 = .ok (.aaload, 1) := by decide +kernel
theorem dk_X7_hole_69 : decode cX7_hole 69 = .ok (.iconst 1, 1) := by decide +kernel
theorem dk_X7_hole_70 : decode cX7_hole 70 = .ok (.iaload, 1) := by decide +kernel
theorem dk_X7_hole_71 : decode cX7_hole 71 = .ok (.iload_n 2, 1) := by decide +kernel
theorem dk_X7_hole_72 : decode cX7_hole 72 = .ok (.if_icmp .ne 7, 3) := by decide +kernel
theorem dk_X7_hole_75 : decode cX7_hole 75 = .ok (.iconst 1, 1) := by decide +kernel
theorem dk_X7_hole_76 : decode cX7_hole 76 = .ok (.goto 4, 3) := by decide +kernel
theorem dk_X7_hole_79 : decode cX7_hole 79 = .ok (.iconst 0, 1) := by decide +kernel
theorem dk_X7_hole_80 : decode cX7_hole 80 = .ok (.ior, 1) := by decide +kernel
theorem dk_X7_hole_81 : decode cX7_hole 81 = .ok (.istore 8, 2) := by decide +kernel
theorem dk_X7_hole_83 : decode cX7_hole 83 = .ok (.iinc 9 1, 3) := by decide +kernel
theorem dk_X7_hole_86 : decode cX7_hole 86 = .ok (.goto (-35), 3) := by decide +kernel
theorem dk_X7_hole_89 : decode cX7_hole 89 = .ok (.aload_n 0, 1) := by decide +kernel
theorem dk_X7_hole_90 : decode cX7_hole 90 = .ok (.iload 7, 2) := by decide +kernel
theorem dk_X7_hole_92 : decode cX7_hole 92 = .ok (.ifCond .eq 16, 3) := by decide +kernel
theorem dk_X7_hole_95 : decode cX7_hole 95 = .ok (.iload_n 3, 1) := by decide +kernel
theorem dk_X7_hole_96 : decode cX7_hole 96 = .ok (.iload 5, 2) := by decide +kernel
theorem dk_X7_hole_98 : decode cX7_hole 98 = .ok (.if_icmp .ne 14, 3) := by decide +kernel
theorem dk_X7_hole_101 : decode cX7_hole 101 = .ok (.iload 4, 2) := by decide +kernel
theorem dk_X7_hole_103 : decode cX7_hole 103 = .ok (.iload 6, 2) := by decide +kernel
theorem dk_X7_hole_105 : decode cX7_hole 105 = .ok (.if_icmp .ne 7, 3) := by decide +kernel
theorem dk_X7_hole_108 : decode cX7_hole 108 = .ok (.iconst 1, 1) := by decide +kernel
theorem dk_X7_hole_109 : decode cX7_hole 109 = .ok (.goto 4, 3) := by decide +kernel
theorem dk_X7_hole_112 : decode cX7_hole 112 = .ok (.iconst 0, 1) := by decide +kernel
theorem dk_X7_hole_113 : decode cX7_hole 113 = .ok (.iconst 1, 1) := by decide +kernel
theorem dk_X7_hole_114 : decode cX7_hole 114 = .ok (.invokevirtual 110, 3) := by decide +kernel
theorem dk_X7_hole_117 : decode cX7_hole 117 = .ok (.ifCond .ne 42, 3) := by decide +kernel
theorem dk_X7_hole_120 : decode cX7_hole 120 = .ok (.aload_n 0, 1) := by decide +kernel
theorem dk_X7_hole_121 : decode cX7_hole 121 = .ok (.aload_n 0, 1) := by decide +kernel
theorem dk_X7_hole_122 : decode cX7_hole 122 = .ok (.getfield 86, 3) := by decide +kernel
theorem dk_X7_hole_125 : decode cX7_hole 125 = .ok (.bipush 9, 2) := by decide +kernel
theorem dk_X7_hole_127 : decode cX7_hole 127 = .ok (.if_icmp .eq 10, 3) := by decide +kernel
theorem dk_X7_hole_130 : decode cX7_hole 130 = .ok (.aload_n 0, 1) := by decide +kernel
theorem dk_X7_hole_131 : decode cX7_hole 131 = .ok (.getfield 114, 3) := by decide +kernel
theorem dk_X7_hole_134 : decode cX7_hole 134 = .ok (.ifCond .eq 7, 3) := by decide +kernel
theorem dk_X7_hole_137 : decode cX7_hole 137 = .ok (.iconst 1, 1) := by decide +kernel
theorem dk_X7_hole_138 : decode cX7_hole 138 = .ok (.goto 4, 3) := by decide +kernel
theorem dk_X7_hole_141 : decode cX7_hole 141 = .ok (.iconst 0, 1) := by decide +kernel
theorem dk_X7_hole_142 : decode cX7_hole 142 = .ok (.iconst 2, 1) := by decide +kernel
theorem dk_X7_hole_143 : decode cX7_hole 143 = .ok (.invokevirtual 110, 3) := by decide +kernel
theorem dk_X7_hole_146 : decode cX7_hole 146 = .ok (.ifCond .ne 13, 3) := by decide +kernel
theorem dk_X7_hole_149 : decode cX7_hole 149 = .ok (.aload_n 0, 1) := by decide +kernel
theorem dk_X7_hole_150 : decode cX7_hole 150 = .ok (.iload 8, 2) := by decide +kernel
theorem dk_X7_hole_152 : decode cX7_hole 152 = .ok (.iconst 3, 1) := by decide +kernel
theorem dk_X7_hole_153 : decode cX7_hole 153 = .ok (.invokevirtual 110, 3) := by decide +kernel
theorem dk_X7_hole_156 : decode cX7_hole 156 = .ok (.ifCond .eq 5, 3) := by decide +kernel
theorem dk_X7_hole_159 : decode cX7_hole 159 = .ok (.iconst 0, 1) := by decide +kernel
theorem dk_X7_hole_160 : decode cX7_hole 160 = .ok (.ireturn, 1) := by decide +kernel
theorem dk_X7_hole_161 : decode cX7_hole 161 = .ok (.bipush 7, 2) := by decide +kernel
theorem dk_X7_hole_163 : decode cX7_hole 163 = .ok (.newarray .int, 2) := by decide +kernel
theorem dk_X7_hole_165 : decode cX7_hole 165 = .ok (.dup, 1) := by decide +kernel
theorem dk_X7_hole_166 : decode cX7_hole 166 = .ok (.iconst 0, 1) := by decide +kernel
theorem dk_X7_hole_167 : decode cX7_hole 167 = .ok (.iload_n 1, 1) := by decide +kernel
theorem dk_X7_hole_168 : decode cX7_hole 168 = .ok (.iastore, 1) := by decide +kernel
theorem dk_X7_hole_169 : decode cX7_hole 169 = .ok (.dup, 1) := by decide +kernel
theorem dk_X7_hole_170 : decode cX7_hole 170 = .ok (.iconst 1, 1) := by decide +kernel
theorem dk_X7_hole_171 : decode cX7_hole 171 = .ok (.iload_n 2, 1) := by decide +kernel
theorem dk_X7_hole_172 : decode cX7_hole 172 = .ok (.iastore, 1) := by decide +kernel
theorem dk_X7_hole_173 : decode cX7_hole 173 = .ok (.dup, 1) := by decide +kernel
theorem dk_X7_hole_174 : decode cX7_hole 174 = .ok (.iconst 2, 1) := by decide +kernel
theorem dk_X7_hole_175 : decode cX7_hole 175 = .ok (.iload_n 3, 1) := by decide +kernel
theorem dk_X7_hole_176 : decode cX7_hole 176 = .ok (.iastore, 1) := by decide +kernel
theorem dk_X7_hole_177 : decode cX7_hole 177 = .ok (.dup, 1) := by decide +kernel
theorem dk_X7_hole_178 : decode cX7_hole 178 = .ok (.iconst 3, 1) := by decide +kernel
theorem dk_X7_hole_179 : decode cX7_hole 179 = .ok (.iload 4, 2) := by decide +kernel
theorem dk_X7_hole_181 : decode cX7_hole 181 = .ok (.iastore, 1) := by decide +kernel
theorem dk_X7_hole_182 : decode cX7_hole 182 = .ok (.dup, 1) := by decide +kernel
theorem dk_X7_hole_183 : decode cX7_hole 183 = .ok (.iconst 4, 1) := by decide +kernel
theorem dk_X7_hole_184 : decode cX7_hole 184 = .ok (.iload 5, 2) := by decide +kernel
theorem dk_X7_hole_186 : decode cX7_hole 186 = .ok (.iastore, 1) := by decide +kernel
theorem dk_X7_hole_187 : decode cX7_hole 187 = .ok (.dup, 1) := by decide +kernel
theorem dk_X7_hole_188 : decode cX7_hole 188 = .ok (.iconst 5, 1) := by decide +kernel
theorem dk_X7_hole_189 : decode cX7_hole 189 = .ok (.iload 6, 2) := by decide +kernel
theorem dk_X7_hole_191 : decode cX7_hole 191 = .ok (.iastore, 1) := by decide +kernel
theorem dk_X7_hole_192 : decode cX7_hole 192 = .ok (.dup, 1) := by decide +kernel
theorem dk_X7_hole_193 : decode cX7_hole 193 = .ok (.bipush 6, 2) := by decide +kernel
theorem dk_X7_hole_195 : decode cX7_hole 195 = .ok (.iconst 0, 1) := by decide +kernel
theorem dk_X7_hole_196 : decode cX7_hole 196 = .ok (.iastore, 1) := by decide +kernel
theorem dk_X7_hole_197 : decode cX7_hole 197 = .ok (.astore 9, 2) := by decide +kernel
theorem dk_X7_hole_199 : decode cX7_hole 199 = .ok (.aload 9, 2) := by decide +kernel
theorem dk_X7_hole_201 : decode cX7_hole 201 = .ok (.iconst 0, 1) := by decide +kernel
theorem dk_X7_hole_202 : decode cX7_hole 202 = .ok (.aload_n 0, 1) := by decide +kernel
theorem dk_X7_hole_203 : decode cX7_hole 203 = .ok (.getfield 11, 3) := by decide +kernel
theorem dk_X7_hole_206 : decode cX7_hole 206 = .ok (.aload_n 0, 1) := by decide +kernel
theorem dk_X7_hole_207 : decode cX7_hole 207 = .ok (.getfield 86, 3) := by decide +kernel
theorem dk_X7_hole_210 : decode cX7_hole 210 = .ok (.aaload, 1) := by decide +kernel
theorem dk_X7_hole_211 : decode cX7_hole 211 = .ok (.iconst 0, 1) := by decide +kernel
theorem dk_X7_hole_212 : decode cX7_hole 212 = .ok (.aload 9, 2) := by decide +kernel
theorem dk_X7_hole_214 : decode cX7_hole 214 = .ok (.arraylength, 1) := by decide +kernel
theorem dk_X7_hole_215 : decode cX7_hole 215 = .ok (.invokestatic 118, 3) := by decide +kernel
theorem dk_X7_hole_218 : decode cX7_hole 218 = .ok (.iconst 0, 1) := by decide +kernel
theorem dk_X7_hole_219 : decode cX7_hole 219 = .ok (.istore 10, 2) := by decide +kernel
theorem dk_X7_hole_221 : decode cX7_hole 221 = .ok (.iload 10, 2) := by decide +kernel
theorem dk_X7_hole_223 : decode cX7_hole 223 = .ok (.sipush 600, 3) := by decide +kernel
theorem dk_X7_hole_226 : decode cX7_hole 226 = .ok (.if_icmp .ge 23, 3) := by decide +kernel
theorem dk_X7_hole_229 : decode cX7_hole 229 = .ok (.aload_n 0, 1) := by decide +kernel
theorem dk_X7_hole_230 : decode cX7_hole 230 = .ok (.getfield 16, 3) := by decide +kernel
theorem dk_X7_hole_233 : decode cX7_hole 233 = .ok (.aload_n 0, 1) := by decide +kernel
theorem dk_X7_hole_234 : decode cX7_hole 234 = .ok (.getfield 86, 3) := by decide +kernel
theorem dk_X7_hole_237 : decode cX7_hole 237 = .ok (.aaload, 1) := by decide +kernel
theorem dk_X7_hole_238 : decode cX7_hole 238 = .ok (.iload 10, 2) := by decide +kernel
theorem dk_X7_hole_240 : decode cX7_hole 240 = .ok (.bipush 46, 2) := by decide +kernel
theorem dk_X7_hole_242 : decode cX7_hole 242 = .ok (.castore, 1) := by decide +kernel
theorem dk_X7_hole_243 : decode cX7_hole 243 = .ok (.iinc 10 1, 3) := by decide +kernel
theorem dk_X7_hole_246 : decode cX7_hole 246 = .ok (.goto (-25), 3) := by decide +kernel
theorem dk_X7_hole_249 : decode cX7_hole 249 = .ok (.aload_n 0, 1) := by decide +kernel
theorem dk_X7_hole_250 : decode cX7_hole 250 = .ok (.dup, 1) := by decide +kernel
theorem dk_X7_hole_251 : decode cX7_hole 251 = .ok (.getfield 86, 3) := by decide +kernel
theorem dk_X7_hole_254 : decode cX7_hole 254 = .ok (.iconst 1, 1) := by decide +kernel
theorem dk_X7_hole_255 : decode cX7_hole 255 = .ok (.iadd, 1) := by decide +kernel
theorem dk_X7_hole_256 : decode cX7_hole 256 = .ok (.putfield 86, 3) := by decide +kernel
theorem dk_X7_hole_259 : decode cX7_hole 259 = .ok (.aload_n 0, 1) := by decide +kernel
theorem dk_X7_hole_260 : decode cX7_hole 260 = .ok (.getfield 86, 3) := by decide +kernel
theorem dk_X7_hole_263 : decode cX7_hole 263 = .ok (.iconst 1, 1) := by decide +kernel
theorem dk_X7_hole_264 : decode cX7_hole 264 = .ok (.isub, 1) := by decide +kernel
theorem dk_X7_hole_265 : decode cX7_hole 265 = .ok (.ireturn, 1) := by decide +kernel
theorem dk_X7_isKind_0 : decode cX7_isKind 0 = .ok (.iconst 0, 1) := by decide +kernel
theorem dk_X7_isKind_1 : decode cX7_isKind 1 = .ok (.istore_n 1, 1) := by decide +kernel
theorem dk_X7_isKind_2 : decode cX7_isKind 2 = .ok (.bipush 9, 2) := by decide +kernel
theorem dk_X7_isKind_4 : decode cX7_isKind 4 = .ok (.newarray .char, 2) := by decide +kernel
theorem dk_X7_isKind_6 : decode cX7_isKind 6 = .ok (.dup, 1) := by decide +kernel
theorem dk_X7_isKind_7 : decode cX7_isKind 7 = .ok (.iconst 0, 1) := by decide +kernel
theorem dk_X7_isKind_8 : decode cX7_isKind 8 = .ok (.bipush 46, 2) := by decide +kernel
theorem dk_X7_isKind_10 : decode cX7_isKind 10 = .ok (.castore, 1) := by decide +kernel
theorem dk_X7_isKind_11 : decode cX7_isKind 11 = .ok (.dup, 1) := by decide +kernel
theorem dk_X7_isKind_12 : decode cX7_isKind 12 = .ok (.iconst 1, 1) := by decide +kernel
theorem dk_X7_isKind_13 : decode cX7_isKind 13 = .ok (.bipush 103, 2) := by decide +kernel
theorem dk_X7_isKind_15 : decode cX7_isKind 15 = .ok (.castore, 1) := by decide +kernel
theorem dk_X7_isKind_16 : decode cX7_isKind 16 = .ok (.dup, 1) := by decide +kernel
theorem dk_X7_isKind_17 : decode cX7_isKind 17 = .ok (.iconst 2, 1) := by decide +kernel
theorem dk_X7_isKind_18 : decode cX7_isKind 18 = .ok (.bipush 98, 2) := by decide +kernel
theorem dk_X7_isKind_20 : decode cX7_isKind 20 = .ok (.castore, 1) := by decide +kernel
theorem dk_X7_isKind_21 : decode cX7_isKind 21 = .ok (.dup, 1) := by decide +kernel
theorem dk_X7_isKind_22 : decode cX7_isKind 22 = .ok (.iconst 3, 1) := by decide +kernel
theorem dk_X7_isKind_23 : decode cX7_isKind 23 = .ok (.bipush 100, 2) := by decide +kernel
theorem dk_X7_isKind_25 : decode cX7_isKind 25 = .ok (.castore, 1) := by decide +kernel
theorem dk_X7_isKind_26 : decode cX7_isKind 26 = .ok (.dup, 1) := by decide +kernel
theorem dk_X7_isKind_27 : decode cX7_isKind 27 = .ok (.iconst 4, 1) := by decide +kernel
theorem dk_X7_isKind_28 : decode cX7_isKind 28 = .ok (.bipush 121, 2) := by decide +kernel
theorem dk_X7_isKind_30 : decode cX7_isKind 30 = .ok (.castore, 1) := by decide +kernel
theorem dk_X7_isKind_31 : decode cX7_isKind 31 = .ok (.dup, 1) := by decide +kernel
theorem dk_X7_isKind_32 : decode cX7_isKind 32 = .ok (.iconst 5, 1) := by decide +kernel
theorem dk_X7_isKind_33 : decode cX7_isKind 33 = .ok (.bipush 114, 2) := by decide +kernel
theorem dk_X7_isKind_35 : decode cX7_isKind 35 = .ok (.castore, 1) := by decide +kernel
theorem dk_X7_isKind_36 : decode cX7_isKind 36 = .ok (.dup, 1) := by decide +kernel
theorem dk_X7_isKind_37 : decode cX7_isKind 37 = .ok (.bipush 6, 2) := by decide +kernel
theorem dk_X7_isKind_39 : decode cX7_isKind 39 = .ok (.bipush 119, 2) := by decide +kernel
theorem dk_X7_isKind_41 : decode cX7_isKind 41 = .ok (.castore, 1) := by decide +kernel
theorem dk_X7_isKind_42 : decode cX7_isKind 42 = .ok (.dup, 1) := by decide +kernel
theorem dk_X7_isKind_43 : decode cX7_isKind 43 = .ok (.bipush 7, 2) := by decide +kernel
theorem dk_X7_isKind_45 : decode cX7_isKind 45 = .ok (.bipush 112, 2) := by decide +kernel
theorem dk_X7_isKind_47 : decode cX7_isKind 47 = .ok (.castore, 1) := by decide +kernel
theorem dk_X7_isKind_48 : decode cX7_isKind 48 = .ok (.dup, 1) := by decide +kernel
theorem dk_X7_isKind_49 : decode cX7_isKind 49 = .ok (.bipush 8, 2) := by decide +kernel
theorem dk_X7_isKind_51 : decode cX7_isKind 51 = .ok (.bipush 111, 2) := by decide +kernel
theorem dk_X7_isKind_53 : decode cX7_isKind 53 = .ok (.castore, 1) := by decide +kernel
theorem dk_X7_isKind_54 : decode cX7_isKind 54 = .ok (.astore_n 2, 1) := by decide +kernel
theorem dk_X7_isKind_55 : decode cX7_isKind 55 = .ok (.aload_n 2, 1) := by decide +kernel
theorem dk_X7_isKind_56 : decode cX7_isKind 56 = .ok (.arraylength, 1) := by decide +kernel
theorem dk_X7_isKind_57 : decode cX7_isKind 57 = .ok (.istore_n 3, 1) := by decide +kernel
theorem dk_X7_isKind_58 : decode cX7_isKind 58 = .ok (.iconst 0, 1) := by decide +kernel
theorem dk_X7_isKind_59 : decode cX7_isKind 59 = .ok (.istore 4, 2) := by decide +kernel
theorem dk_X7_isKind_61 : decode cX7_isKind 61 = .ok (.iload 4, 2) := by decide +kernel
theorem dk_X7_isKind_63 : decode cX7_isKind 63 = .ok (.iload_n 3, 1) := by decide +kernel
theorem dk_X7_isKind_64 : decode cX7_isKind 64 = .ok (.if_icmp .ge 29, 3) := by decide +kernel
theorem dk_X7_isKind_67 : decode cX7_isKind 67 = .ok (.aload_n 2, 1) := by decide +kernel
theorem dk_X7_isKind_68 : decode cX7_isKind 68 = .ok (.iload 4, 2) := by decide +kernel
theorem dk_X7_isKind_70 : decode cX7_isKind 70 = .ok (.caload, 1) := by decide +kernel
theorem dk_X7_isKind_71 : decode cX7_isKind 71 = .ok (.istore 5, 2) := by decide +kernel
theorem dk_X7_isKind_73 : decode cX7_isKind 73 = .ok (.iload_n 1, 1) := by decide +kernel
theorem dk_X7_isKind_74 : decode cX7_isKind 74 = .ok (.iload 5, 2) := by decide +kernel
theorem dk_X7_isKind_76 : decode cX7_isKind 76 = .ok (.iload_n 0, 1) := by decide +kernel
theorem dk_X7_isKind_77 : decode cX7_isKind 77 = .ok (.if_icmp .ne 7, 3) := by decide +kernel
theorem dk_X7_isKind_80 : decode cX7_isKind 80 = .ok (.iconst 1, 1) := by decide +kernel
theorem dk_X7_isKind_81 : decode cX7_isKind 81 = .ok (.goto 4, 3) := by decide +kernel
theorem dk_X7_isKind_84 : decode cX7_isKind 84 = .ok (.iconst 0, 1) := by decide +kernel
theorem dk_X7_isKind_85 : decode cX7_isKind 85 = .ok (.ior, 1) := by decide +kernel
theorem dk_X7_isKind_86 : decode cX7_isKind 86 = .ok (.istore_n 1, 1) := by decide +kernel
theorem dk_X7_isKind_87 : decode cX7_isKind 87 = .ok (.iinc 4 1, 3) := by decide +kernel
theorem dk_X7_isKind_90 : decode cX7_isKind 90 = .ok (.goto (-29), 3) := by decide +kernel
theorem dk_X7_isKind_93 : decode cX7_isKind 93 = .ok (.iload_n 1, 1) := by decide +kernel
theorem dk_X7_isKind_94 : decode cX7_isKind 94 = .ok (.ireturn, 1) := by decide +kernel
theorem dk_X7_player_0 : decode cX7_player 0 = .ok (.aload_n 0, 1) := by decide +kernel
theorem dk_X7_player_1 : decode cX7_player 1 = .ok (.aload_n 0, 1) := by decide +kernel
theorem dk_X7_player_2 : decode cX7_player 2 = .ok (.getfield 89, 3) := by decide +kernel
theorem dk_X7_player_5 : decode cX7_player 5 = .ok (.bipush 6, 2) := by decide +kernel
theorem dk_X7_player_7 : decode cX7_player 7 = .ok (.if_icmp .eq 10, 3) := by decide +kernel
theorem dk_X7_player_10 : decode cX7_player 10 = .ok (.aload_n 0, 1) := by decide +kernel
theorem dk_X7_player_11 : decode cX7_player 11 = .ok (.getfield 114, 3) := by decide +kernel
theorem dk_X7_player_14 : decode cX7_player 14 = .ok (.ifCond .eq 7, 3) := by decide +kernel
theorem dk_X7_player_17 : decode cX7_player 17 = .ok (.iconst 1, 1) := by decide +kernel
theorem dk_X7_player_18 : decode cX7_player 18 = .ok (.goto 4, 3) := by decide +kernel
theorem dk_X7_player_21 : decode cX7_player 21 = .ok (.iconst 0, 1) := by decide +kernel
theorem dk_X7_player_22 : decode cX7_player 22 = .ok (.iconst 1, 1) := by decide +kernel
theorem dk_X7_player_23 : decode cX7_player 23 = .ok (.invokevirtual 110, 3) := by decide +kernel
theorem dk_X7_player_26 : decode cX7_player 26 = .ok (.ifCond .eq 5, 3) := by decide +kernel
theorem dk_X7_player_29 : decode cX7_player 29 = .ok (.iconst 0, 1) := by decide +kernel
theorem dk_X7_player_30 : decode cX7_player 30 = .ok (.ireturn, 1) := by decide +kernel
theorem dk_X7_player_31 : decode cX7_player 31 = .ok (.aload_n 0, 1) := by decide +kernel
theorem dk_X7_player_32 : decode cX7_player 32 = .ok (.dup, 1) := by decide +kernel
theorem dk_X7_player_33 : decode cX7_player 33 = .ok (.getfield 89, 3) := by decide +kernel
theorem dk_X7_player_36 : decode cX7_player 36 = .ok (.iconst 1, 1) := by decide +kernel
theorem dk_X7_player_37 : decode cX7_player 37 = .ok (.iadd, 1) := by decide +kernel
theorem dk_X7_player_38 : decode cX7_player 38 = .ok (.putfield 89, 3) := by decide +kernel
theorem dk_X7_player_41 : decode cX7_player 41 = .ok (.aload_n 0, 1) := by decide +kernel
theorem dk_X7_player_42 : decode cX7_player 42 = .ok (.getfield 89, 3) := by decide +kernel
theorem dk_X7_player_45 : decode cX7_player 45 = .ok (.iconst 1, 1) := by decide +kernel
theorem dk_X7_player_46 : decode cX7_player 46 = .ok (.isub, 1) := by decide +kernel
theorem dk_X7_player_47 : decode cX7_player 47 = .ok (.ireturn, 1) := by decide +kernel
set_option maxHeartbeats 4000000 in
theorem kx_X7_isKind {l : Launch} (hl9 : l.stackTraces = false) (D : va_G) {tys : List (ClassId × FieldType)} {w : va_W} {sz : Nat} (hD0 : va_D (va_A w sz) w) {a1 : Int32} {cX : ClassId} (ht : tys[1]? = some (cX, .char)) : kx_C l yX7_isKind cX7_isKind 6 (some .boolean) 0 1 9 0 [.int a1] D tys w sz (fun res w1 => ((res = some (.int 1) ∧ kx_kd a1) ∨ (res = some (.int 0) ∧ ¬ kx_kd a1)) ∧ ∃ (r9 : Nat) (g : Nat → Int32), w1.length = w.length + 1 ∧ (∀ j, j < w.length → w1[j]? = w[j]?) ∧ w1[w.length]? = some (r9, .inl (cX, 9, .inl g)) ∧ ∀ j, j < 9 → g j = kx_lit j) (fun _ => False) := by
  refine vx_ofW (cc := cX7_isKind) (maxL := 6) (ret := (some .boolean)) (by decide +kernel) rfl ?_
  intro p e s m args below meth c s₁ B9 hml hne hv
  obtain ⟨rfl, hsz, hP, hK, hT⟩ := hv
  subst hsz
  have hx := B9.exec
  have hb := B9.bytes
  have hr := B9.returns
  have hlocks := B9.notSynchronized
  have hts0 := atoms_spec (ws := Cond.code yX7_isKind cX7_isKind 6 (some .boolean) :: en_cw) B9.pre
  have hts : ∀ z ∈ en_cw, z.before _ s = true := fun z hz => hts0 z (List.mem_cons_of_mem _ hz)
  have hown : s.vm.findClass RX7 = some m.cls := findClass_of_methodNamed B9.named
  have G : kx_G p s m ([.int a1] : List Value).toArray c cX7_isKind RX7 D tys (va_A w s.heap.size) := ⟨hx, hb, hts, hown, hK, hT, fun q h => Or.inr h⟩
  have L : kx_H D (va_A w s.heap.size) s w s.heap [] := ⟨hP, ⟨hD0.1, fun j z hz => Or.inl ⟨j, z.2, hz⟩⟩, va_S.rf⟩
  have hl := lv_entry ([.int a1] : List Value) (n := 6) (Nat.le_of_ble_eq_true rfl)
  rw [lg_entry_eq]
  generalize (lg_sl ([.int a1] : List Value) ++ List.replicate (6 - (lg_sl ([.int a1] : List Value)).length) Slot.unset).toArray = ls at hl ⊢
  have hl : lv_has ls 6 [(0, .int a1)] := hl
  refine lv_iconst (v := 0) hx hb dk_X7_isKind_0 (by decide) ?_
  refine lv_istore_n (lv' := [(1, .int 0), (0, .int a1)]) hx hb dk_X7_isKind_1 rfl hl (by decide) rfl (fun ls hl => ?_)
  refine lv_bipush (v := 9) hx hb dk_X7_isKind_2 (by decide) ?_
  refine kx_newC G L cw147 ht (Nat.le_of_ble_eq_true rfl) (Nat.le_of_ble_eq_true rfl) dk_X7_isKind_4 (fun r9 w0 H g0 n0 o0 L => ?_)
  refine lv_dup hx hb dk_X7_isKind_6 rfl ?_
  refine lv_iconst (v := 0) hx hb dk_X7_isKind_7 (by decide) ?_
  refine lv_bipush (v := 46) hx hb dk_X7_isKind_8 (by decide) ?_
  refine kx_cast (k := 0) G L g0 ht (by decide) (by decide) (by decide) (by decide) dk_X7_isKind_10 (fun w1 H locs e1 m1 p1 L => ?_)
  have n1 : w1.length = w.length + 1 := m1.trans n0
  have o1 : ∀ j, j < w.length → w1[j]? = w[j]? := fun j hj => (p1 j (by omega)).trans (o0 j hj)
  refine lv_dup hx hb dk_X7_isKind_11 rfl ?_
  refine lv_iconst (v := 1) hx hb dk_X7_isKind_12 (by decide) ?_
  refine lv_bipush (v := 103) hx hb dk_X7_isKind_13 (by decide) ?_
  refine kx_cast (k := 1) G L e1 ht (by decide) (by decide) (by decide) (by decide) dk_X7_isKind_15 (fun w2 H locs e2 m2 p2 L => ?_)
  have n2 : w2.length = w.length + 1 := m2.trans n1
  have o2 : ∀ j, j < w.length → w2[j]? = w[j]? := fun j hj => (p2 j (by omega)).trans (o1 j hj)
  refine lv_dup hx hb dk_X7_isKind_16 rfl ?_
  refine lv_iconst (v := 2) hx hb dk_X7_isKind_17 (by decide) ?_
  refine lv_bipush (v := 98) hx hb dk_X7_isKind_18 (by decide) ?_
  refine kx_cast (k := 2) G L e2 ht (by decide) (by decide) (by decide) (by decide) dk_X7_isKind_20 (fun w3 H locs e3 m3 p3 L => ?_)
  have n3 : w3.length = w.length + 1 := m3.trans n2
  have o3 : ∀ j, j < w.length → w3[j]? = w[j]? := fun j hj => (p3 j (by omega)).trans (o2 j hj)
  refine lv_dup hx hb dk_X7_isKind_21 rfl ?_
  refine lv_iconst (v := 3) hx hb dk_X7_isKind_22 (by decide) ?_
  refine lv_bipush (v := 100) hx hb dk_X7_isKind_23 (by decide) ?_
  refine kx_cast (k := 3) G L e3 ht (by decide) (by decide) (by decide) (by decide) dk_X7_isKind_25 (fun w4 H locs e4 m4 p4 L => ?_)
  have n4 : w4.length = w.length + 1 := m4.trans n3
  have o4 : ∀ j, j < w.length → w4[j]? = w[j]? := fun j hj => (p4 j (by omega)).trans (o3 j hj)
  refine lv_dup hx hb dk_X7_isKind_26 rfl ?_
  refine lv_iconst (v := 4) hx hb dk_X7_isKind_27 (by decide) ?_
  refine lv_bipush (v := 121) hx hb dk_X7_isKind_28 (by decide) ?_
  refine kx_cast (k := 4) G L e4 ht (by decide) (by decide) (by decide) (by decide) dk_X7_isKind_30 (fun w5 H locs e5 m5 p5 L => ?_)
  have n5 : w5.length = w.length + 1 := m5.trans n4
  have o5 : ∀ j, j < w.length → w5[j]? = w[j]? := fun j hj => (p5 j (by omega)).trans (o4 j hj)
  refine lv_dup hx hb dk_X7_isKind_31 rfl ?_
  refine lv_iconst (v := 5) hx hb dk_X7_isKind_32 (by decide) ?_
  refine lv_bipush (v := 114) hx hb dk_X7_isKind_33 (by decide) ?_
  refine kx_cast (k := 5) G L e5 ht (by decide) (by decide) (by decide) (by decide) dk_X7_isKind_35 (fun w6 H locs e6 m6 p6 L => ?_)
  have n6 : w6.length = w.length + 1 := m6.trans n5
  have o6 : ∀ j, j < w.length → w6[j]? = w[j]? := fun j hj => (p6 j (by omega)).trans (o5 j hj)
  refine lv_dup hx hb dk_X7_isKind_36 rfl ?_
  refine lv_bipush (v := 6) hx hb dk_X7_isKind_37 (by decide) ?_
  refine lv_bipush (v := 119) hx hb dk_X7_isKind_39 (by decide) ?_
  refine kx_cast (k := 6) G L e6 ht (by decide) (by decide) (by decide) (by decide) dk_X7_isKind_41 (fun w7 H locs e7 m7 p7 L => ?_)
  have n7 : w7.length = w.length + 1 := m7.trans n6
  have o7 : ∀ j, j < w.length → w7[j]? = w[j]? := fun j hj => (p7 j (by omega)).trans (o6 j hj)
  refine lv_dup hx hb dk_X7_isKind_42 rfl ?_
  refine lv_bipush (v := 7) hx hb dk_X7_isKind_43 (by decide) ?_
  refine lv_bipush (v := 112) hx hb dk_X7_isKind_45 (by decide) ?_
  refine kx_cast (k := 7) G L e7 ht (by decide) (by decide) (by decide) (by decide) dk_X7_isKind_47 (fun w8 H locs e8 m8 p8 L => ?_)
  have n8 : w8.length = w.length + 1 := m8.trans n7
  have o8 : ∀ j, j < w.length → w8[j]? = w[j]? := fun j hj => (p8 j (by omega)).trans (o7 j hj)
  refine lv_dup hx hb dk_X7_isKind_48 rfl ?_
  refine lv_bipush (v := 8) hx hb dk_X7_isKind_49 (by decide) ?_
  refine lv_bipush (v := 111) hx hb dk_X7_isKind_51 (by decide) ?_
  refine kx_cast (k := 8) G L e8 ht (by decide) (by decide) (by decide) (by decide) dk_X7_isKind_53 (fun w9 H locs e9 m9 p9 L => ?_)
  have n9 : w9.length = w.length + 1 := m9.trans n8
  have o9 : ∀ j, j < w.length → w9[j]? = w[j]? := fun j hj => (p9 j (by omega)).trans (o8 j hj)
  obtain ⟨g, eg⟩ : ∃ g, g = (upd (upd (upd (upd (upd (upd (upd (upd (upd (fun _ => (0 : Int32)) 0 46) 1 103) 2 98) 3 100) 4 121) 5 114) 6 119) 7 112) 8 111) := ⟨_, rfl⟩
  rw [← eg] at e9
  have hg : ∀ j, j < 9 → g j = kx_lit j := fun j hj => by rw [eg]; exact match j, hj with | 0, _ => rfl | 1, _ => rfl | 2, _ => rfl | 3, _ => rfl | 4, _ => rfl | 5, _ => rfl | 6, _ => rfl | 7, _ => rfl | 8, _ => rfl | n + 9, h => absurd h (by omega)
  clear eg
  refine lv_astore_n (lv' := [(2, .ref r9), (1, .int 0), (0, .int a1)]) hx hb dk_X7_isKind_54 rfl hl (by decide) rfl (fun ls hl => ?_)
  refine lv_aload_n hx hb dk_X7_isKind_55 rfl (lv_at hl 0 rfl) ?_
  refine va_alen hx hb hK L.1 w.length 1 e9 ht (v := 9) rfl dk_X7_isKind_56 ?_
  refine lv_istore_n (lv' := [(3, .int 9), (2, .ref r9), (1, .int 0), (0, .int a1)]) hx hb dk_X7_isKind_57 rfl hl (by decide) rfl (fun ls hl => ?_)
  refine lv_iconst (v := 0) hx hb dk_X7_isKind_58 (by decide) ?_
  refine lv_istore (lv' := [(4, .int 0), (3, .int 9), (2, .ref r9), (1, .int 0), (0, .int a1)]) hx hb dk_X7_isKind_59 hl (by decide) rfl (fun ls hl => ?_)
  have loop : ∀ (d k : Nat), k + d = 9 → ∀ (v : Int32), ((v = 1 ∧ ∃ j, j < k ∧ kx_lit j = a1) ∨ (v = 0 ∧ ∀ j, j < k → ¬ kx_lit j = a1)) → ∀ (ls : Array Slot), lv_has ls 6 [(4, .int (nI k)), (3, .int 9), (1, .int v), (2, .ref r9), (0, .int a1)] → W p l e (headSpec (Cond.code yX7_isKind cX7_isKind 6 (some .boolean) :: en_cw) (en_rm 0 (1, 9))).room s m ([.int a1] : List Value).toArray below meth c H locs (1) (9) (vx_MQ below (kx_Q 0 D (fun res w1 => ((res = some (.int 1) ∧ kx_kd a1) ∨ (res = some (.int 0) ∧ ¬ kx_kd a1)) ∧ ∃ (r9 : Nat) (g : Nat → Int32), w1.length = w.length + 1 ∧ (∀ j, j < w.length → w1[j]? = w[j]?) ∧ w1[w.length]? = some (r9, .inl (cX, 9, .inl g)) ∧ ∀ j, j < 9 → g j = kx_lit j) (va_A w s.heap.size)) (kx_XC D w (fun _ => False) (va_A w s.heap.size)) ([.int a1] : List Value).toArray s 1 9 (va_A w s.heap.size)) (F0 m 61 ls []) := by
    intro d
    induction d with
    | zero =>
      intro k hk v hv ls hl
      have e9 : k = 9 := by omega
      subst e9
      rcases hv with ⟨rfl, c0⟩ | ⟨rfl, c0⟩
      · skip
        refine lv_iload hx hb dk_X7_isKind_61 (lv_at hl 0 rfl) ?_
        refine lv_iload_n hx hb dk_X7_isKind_63 rfl (lv_at hl 1 rfl) ?_
        refine lv_icmp_ge (tgt := 93) hx hb dk_X7_isKind_64 (by decide) (fun _ => ?_) (fun c9 => absurd (by decide) c9)
        refine lv_iload_n hx hb dk_X7_isKind_93 rfl (lv_at hl 2 rfl) ?_
        exact vx_ret (W.widen (Nat.le_of_ble_eq_true rfl) (Nat.le_of_ble_eq_true rfl) (W.zret (v := 1) (ty := .boolean) hx hb hr (by decide) (fun T9 hT9 _ => ⟨⟨1, w9, rfl, ⟨Or.inl ⟨rfl, kx_lit_kd.mp c0⟩, r9, g, n9, o9, e9, hg⟩, by rw [hT9]; exact L.1, L.2.1⟩, L.2.2.F hT9⟩) L.2.2.2.2 dk_X7_isKind_94 hlocks))
      · skip
        refine lv_iload hx hb dk_X7_isKind_61 (lv_at hl 0 rfl) ?_
        refine lv_iload_n hx hb dk_X7_isKind_63 rfl (lv_at hl 1 rfl) ?_
        refine lv_icmp_ge (tgt := 93) hx hb dk_X7_isKind_64 (by decide) (fun _ => ?_) (fun c9 => absurd (by decide) c9)
        refine lv_iload_n hx hb dk_X7_isKind_93 rfl (lv_at hl 2 rfl) ?_
        exact vx_ret (W.widen (Nat.le_of_ble_eq_true rfl) (Nat.le_of_ble_eq_true rfl) (W.zret (v := 0) (ty := .boolean) hx hb hr (by decide) (fun T9 hT9 _ => ⟨⟨0, w9, rfl, ⟨Or.inr ⟨rfl, fun h => by obtain ⟨j, h1, h2⟩ := kx_lit_kd.mpr h; exact c0 j h1 h2⟩, r9, g, n9, o9, e9, hg⟩, by rw [hT9]; exact L.1, L.2.1⟩, L.2.2.F hT9⟩) L.2.2.2.2 dk_X7_isKind_94 hlocks))
    | succ d ih =>
      intro k hk v hv ls hl
      refine lv_iload hx hb dk_X7_isKind_61 (lv_at hl 0 rfl) ?_
      refine lv_iload_n hx hb dk_X7_isKind_63 rfl (lv_at hl 1 rfl) ?_
      refine lv_icmp_ge (tgt := 93) hx hb dk_X7_isKind_64 (by decide) (fun c9 => absurd c9 (nI_ge (a := k) (b := 9) (by omega) (by omega))) (fun _ => ?_)
      refine lv_aload_n hx hb dk_X7_isKind_67 rfl (lv_at hl 3 rfl) ?_
      refine lv_iload hx hb dk_X7_isKind_68 (lv_at hl 0 rfl) ?_
      refine kx_cald G L e9 ht (show k < 9 by omega) (by decide) dk_X7_isKind_70 ?_
      refine lv_istore (lv' := [(5, .int (g k)), (4, .int (nI k)), (3, .int 9), (1, .int v), (2, .ref r9), (0, .int a1)]) hx hb dk_X7_isKind_71 hl (by decide) rfl (fun ls hl => ?_)
      refine lv_iload_n hx hb dk_X7_isKind_73 rfl (lv_at hl 3 rfl) ?_
      refine lv_iload hx hb dk_X7_isKind_74 (lv_at hl 0 rfl) ?_
      refine lv_iload_n hx hb dk_X7_isKind_76 rfl (lv_at hl 5 rfl) ?_
      have hgk := hg k (by omega)
      refine lv_icmp_ne (tgt := 84) hx hb dk_X7_isKind_77 (by decide) (fun c10 => ?_) (fun c10 => ?_)
      · skip
        have tc10 : ¬ ((g k) : Int32).toInt = (a1 : Int32).toInt := fun h => c10 (Int32.toInt_inj.mp h)
        refine lv_iconst (v := 0) hx hb dk_X7_isKind_84 (by decide) ?_
        rcases hv with ⟨rfl, c0⟩ | ⟨rfl, c0⟩
        · skip
          refine lv_ior hx hb dk_X7_isKind_85 ?_
          refine lv_topi (fun y11 ey11 => ?_)
          obtain rfl : y11 = 1 := ey11.trans (by decide)
          refine lv_istore_n (lv' := [(1, .int 1), (5, .int (g k)), (4, .int (nI k)), (3, .int 9), (2, .ref r9), (0, .int a1)]) hx hb dk_X7_isKind_86 rfl hl (by decide) rfl (fun ls hl => ?_)
          refine lv_iinc (v := (nI (k + 1))) (lv' := [(4, .int (nI (k + 1))), (1, .int 1), (5, .int (g k)), (3, .int 9), (2, .ref r9), (0, .int a1)]) hx hb dk_X7_isKind_87 hl (k := 2) rfl (kx_inc (by omega)) (by decide) rfl (fun ls hl => ?_)
          refine lv_goto (tgt := 61) hx hb dk_X7_isKind_90 (by decide) ?_
          exact ih (k + 1) (by omega) _ (Or.inl ⟨rfl, by obtain ⟨j, h1, h2⟩ := c0; exact ⟨j, by omega, h2⟩⟩) ls (lv_sub hl [0, 3, 1, 4, 5] rfl)
        · skip
          refine lv_ior hx hb dk_X7_isKind_85 ?_
          refine lv_topi (fun y12 ey12 => ?_)
          obtain rfl : y12 = 0 := ey12.trans (by decide)
          refine lv_istore_n (lv' := [(1, .int 0), (5, .int (g k)), (4, .int (nI k)), (3, .int 9), (2, .ref r9), (0, .int a1)]) hx hb dk_X7_isKind_86 rfl hl (by decide) rfl (fun ls hl => ?_)
          refine lv_iinc (v := (nI (k + 1))) (lv' := [(4, .int (nI (k + 1))), (1, .int 0), (5, .int (g k)), (3, .int 9), (2, .ref r9), (0, .int a1)]) hx hb dk_X7_isKind_87 hl (k := 2) rfl (kx_inc (by omega)) (by decide) rfl (fun ls hl => ?_)
          refine lv_goto (tgt := 61) hx hb dk_X7_isKind_90 (by decide) ?_
          exact ih (k + 1) (by omega) _ (Or.inr ⟨rfl, fun j h => by rcases Nat.lt_or_ge j k with h1 | h1; exact c0 j h1; rw [show j = k by omega, ← hgk]; exact c10⟩) ls (lv_sub hl [0, 3, 1, 4, 5] rfl)
      · skip
        have tc10 : ((g k) : Int32).toInt = (a1 : Int32).toInt := by rw [c10]
        refine lv_iconst (v := 1) hx hb dk_X7_isKind_80 (by decide) ?_
        refine lv_goto (tgt := 85) hx hb dk_X7_isKind_81 (by decide) ?_
        rcases hv with ⟨rfl, c0⟩ | ⟨rfl, c0⟩
        · skip
          refine lv_ior hx hb dk_X7_isKind_85 ?_
          refine lv_topi (fun y13 ey13 => ?_)
          obtain rfl : y13 = 1 := ey13.trans (by decide)
          refine lv_istore_n (lv' := [(1, .int 1), (5, .int (g k)), (4, .int (nI k)), (3, .int 9), (2, .ref r9), (0, .int a1)]) hx hb dk_X7_isKind_86 rfl hl (by decide) rfl (fun ls hl => ?_)
          refine lv_iinc (v := (nI (k + 1))) (lv' := [(4, .int (nI (k + 1))), (1, .int 1), (5, .int (g k)), (3, .int 9), (2, .ref r9), (0, .int a1)]) hx hb dk_X7_isKind_87 hl (k := 2) rfl (kx_inc (by omega)) (by decide) rfl (fun ls hl => ?_)
          refine lv_goto (tgt := 61) hx hb dk_X7_isKind_90 (by decide) ?_
          exact ih (k + 1) (by omega) _ (Or.inl ⟨rfl, k, by omega, by rw [← hgk]; exact c10⟩) ls (lv_sub hl [0, 3, 1, 4, 5] rfl)
        · skip
          refine lv_ior hx hb dk_X7_isKind_85 ?_
          refine lv_topi (fun y14 ey14 => ?_)
          obtain rfl : y14 = 1 := ey14.trans (by decide)
          refine lv_istore_n (lv' := [(1, .int 1), (5, .int (g k)), (4, .int (nI k)), (3, .int 9), (2, .ref r9), (0, .int a1)]) hx hb dk_X7_isKind_86 rfl hl (by decide) rfl (fun ls hl => ?_)
          refine lv_iinc (v := (nI (k + 1))) (lv' := [(4, .int (nI (k + 1))), (1, .int 1), (5, .int (g k)), (3, .int 9), (2, .ref r9), (0, .int a1)]) hx hb dk_X7_isKind_87 hl (k := 2) rfl (kx_inc (by omega)) (by decide) rfl (fun ls hl => ?_)
          refine lv_goto (tgt := 61) hx hb dk_X7_isKind_90 (by decide) ?_
          exact ih (k + 1) (by omega) _ (Or.inl ⟨rfl, k, by omega, by rw [← hgk]; exact c10⟩) ls (lv_sub hl [0, 3, 1, 4, 5] rfl)
  exact loop 9 0 (by omega) 0 (Or.inr ⟨rfl, fun j h => absurd h (Nat.not_lt_zero j)⟩) ls (lv_sub hl [0, 1, 3, 2, 4] rfl)
set_option maxHeartbeats 4000000 in
theorem kx_X7_player {l : Launch} (hl9 : l.stackTraces = false) (D : va_G) {tys : List (ClassId × FieldType)} {sh : en_H} {w : va_W} {sz : Nat} (hD0 : va_D (va_A w sz) w) {fs : List Value} {hc pc : Nat} {bg : Int32} {rr mk : Nat → Nat → Int32} (hM : kx_M tys sh w fs hc pc bg rr mk) : kx_C l yX7_player cX7_player 1 (some .int) 1 0 0 0 [.ref (sh.2 0)] D tys w sz (fun res w1 => (res = some (.int 0) ∧ ∃ (fs1 : List Value) (t : Int32), kx_T sh w w1 fs fs1 t ∧ t = 1 ∧ ¬ (bg = 0 ∧ pc < 6)) ∨ (res = some (.int (nI pc)) ∧ bg = 0 ∧ pc < 6 ∧ ∃ fs1 : List Value, kx_M tys sh w1 fs1 hc (pc + 1) bg rr mk ∧ fs1[30]? = some (.int 0) ∧ (∀ j, j ≠ 17 → j ≠ 30 → fs1[j]? = fs[j]?) ∧ w1.length = w.length ∧ ∀ j, j ≠ 0 → w1[j]? = w[j]?)) (fun _ => False) := by
  refine vx_ofW (cc := cX7_player) (maxL := 1) (ret := (some .int)) (by decide +kernel) rfl ?_
  intro p e s m args below meth c s₁ B9 hml hne hv
  obtain ⟨rfl, hsz, hP, hK, hT⟩ := hv
  subst hsz
  have hx := B9.exec
  have hb := B9.bytes
  have hr := B9.returns
  have hlocks := B9.notSynchronized
  have hts0 := atoms_spec (ws := Cond.code yX7_player cX7_player 1 (some .int) :: en_cw) B9.pre
  have hts : ∀ z ∈ en_cw, z.before _ s = true := fun z hz => hts0 z (List.mem_cons_of_mem _ hz)
  have hown : s.vm.findClass RX7 = some m.cls := findClass_of_methodNamed B9.named
  have G : kx_G p s m ([.ref (sh.2 0)] : List Value).toArray c cX7_player RX7 D tys (va_A w s.heap.size) := ⟨hx, hb, hts, hown, hK, hT, fun q h => Or.inr h⟩
  have L : kx_H D (va_A w s.heap.size) s w s.heap [] := ⟨hP, ⟨hD0.1, fun j z hz => Or.inl ⟨j, z.2, hz⟩⟩, va_S.rf⟩
  have hl := lv_entry ([.ref (sh.2 0)] : List Value) (n := 1) (Nat.le_of_ble_eq_true rfl)
  rw [lg_entry_eq]
  generalize (lg_sl ([.ref (sh.2 0)] : List Value) ++ List.replicate (1 - (lg_sl ([.ref (sh.2 0)] : List Value)).length) Slot.unset).toArray = ls at hl ⊢
  have hl : lv_has ls 1 [(0, .ref (sh.2 0))] := hl
  have fM := hM.1
  have pc6 : pc ≤ 6 := fM.2.2.2.2.2.2.2.2.1
  refine lv_aload_n hx hb dk_X7_player_0 rfl (lv_at hl 0 rfl) ?_
  refine lv_aload_n hx hb dk_X7_player_1 rfl (lv_at hl 0 rfl) ?_
  refine kx_get (v := .int (nI pc)) G L (en_FTX7_ok (89, 13, 17) (by decide)) fM.1 fM.2.2.2.2.2.1 dk_X7_player_2 ?_
  refine lv_bipush (v := 6) hx hb dk_X7_player_5 (by decide) ?_
  have k2 : (nI pc).toInt = (((pc) : Nat) : Int) := kx_nI (by omega)
  have k3 : (6 : Int32).toInt = 6 := by decide
  refine lv_icmp_eq (tgt := 17) hx hb dk_X7_player_7 (by decide) (fun c1 => ?_) (fun c1 => ?_)
  · skip
    have tc1 : ((nI pc) : Int32).toInt = (6 : Int32).toInt := by rw [c1]
    refine lv_iconst (v := 1) hx hb dk_X7_player_17 (by decide) ?_
    refine lv_goto (tgt := 22) hx hb dk_X7_player_18 (by decide) ?_
    refine lv_iconst (v := 1) hx hb dk_X7_player_22 (by decide) ?_
    refine kx_cV (As := [.int 1, .int 1]) (rest := []) (q := 0) (ci := 13) G L (kx_X7_isThrown hl9 D (kx_D1 L) fM.1 (by rw [fM.2.1]; decide) (Or.inr rfl)) gc_RX7_110v fM.1 rfl rfl rfl (hml.trans hl.1.symm) ⟨Nat.le_of_ble_eq_true rfl, Nat.le_of_ble_eq_true rfl⟩ ⟨Nat.le_of_ble_eq_true rfl, Nat.le_of_ble_eq_true rfl⟩ (Nat.le_of_ble_eq_true rfl) dk_X7_player_23 (fun _ _ _ _ _ h9 => h9.elim) (fun res w4 H locs hrv hq4 L => ?_)
    obtain ⟨rfl, fs4, t4, hT4, h04, h14⟩ := hq4
    have et4 : t4 = 1 := h14 rfl
    rw [et4] at hT4
    have hTa := hT4
    have hMa := hM.t hTa
    have fa := hMa.1
    refine lv_if_eq (tgt := 31) hx hb dk_X7_player_26 (by decide) (fun c9 => absurd c9 (by decide)) (fun _ => ?_)
    refine lv_iconst (v := 0) hx hb dk_X7_player_29 (by decide) ?_
    exact vx_ret (W.widen (Nat.le_of_ble_eq_true rfl) (Nat.le_of_ble_eq_true rfl) (W.iret (v := 0) hx hb hr (fun T9 hT9 _ => ⟨⟨0, w4, rfl, Or.inl ⟨rfl, _, _, hTa, rfl, fun h => by have h2 := h.2; omega⟩, by rw [hT9]; exact L.1, L.2.1⟩, L.2.2.F hT9⟩) L.2.2.2.2 dk_X7_player_30 hlocks))
  · skip
    have tc1 : ¬ ((nI pc) : Int32).toInt = (6 : Int32).toInt := fun h => c1 (Int32.toInt_inj.mp h)
    refine lv_aload_n hx hb dk_X7_player_10 rfl (lv_at hl 0 rfl) ?_
    refine kx_get (v := .int bg) G L (en_FTX7_ok (114, 13, 21) (by decide)) fM.1 fM.2.2.2.2.2.2.1 dk_X7_player_11 ?_
    have k6 : (0 : Int32).toInt = 0 := by decide
    refine lv_if_eq (tgt := 21) hx hb dk_X7_player_14 (by decide) (fun c5 => ?_) (fun c5 => ?_)
    · skip
      have tc5 : (bg : Int32).toInt = (0 : Int32).toInt := by rw [c5]
      have hbg : bg = 0 := c5
      have hlt : pc < 6 := by omega
      refine lv_iconst (v := 0) hx hb dk_X7_player_21 (by decide) ?_
      refine lv_iconst (v := 1) hx hb dk_X7_player_22 (by decide) ?_
      refine kx_cV (As := [.int 0, .int 1]) (rest := []) (q := 0) (ci := 13) G L (kx_X7_isThrown hl9 D (kx_D1 L) fM.1 (by rw [fM.2.1]; decide) (Or.inl rfl)) gc_RX7_110v fM.1 rfl rfl rfl (hml.trans hl.1.symm) ⟨Nat.le_of_ble_eq_true rfl, Nat.le_of_ble_eq_true rfl⟩ ⟨Nat.le_of_ble_eq_true rfl, Nat.le_of_ble_eq_true rfl⟩ (Nat.le_of_ble_eq_true rfl) dk_X7_player_23 (fun _ _ _ _ _ h9 => h9.elim) (fun res w7 H locs hrv hq7 L => ?_)
      obtain ⟨rfl, fs7, t7, hT7, h07, h17⟩ := hq7
      have et7 : t7 = 0 := h07 rfl
      rw [et7] at hT7
      have hTb := hT7
      have hMb := hM.t hTb
      have fb := hMb.1
      refine lv_if_eq (tgt := 31) hx hb dk_X7_player_26 (by decide) (fun _ => ?_) (fun c9 => absurd (by decide) c9)
      refine lv_aload_n hx hb dk_X7_player_31 rfl (lv_at hl 0 rfl) ?_
      refine lv_dup hx hb dk_X7_player_32 rfl ?_
      refine kx_get (v := .int (nI pc)) G L (en_FTX7_ok (89, 13, 17) (by decide)) fb.1 fb.2.2.2.2.2.1 dk_X7_player_33 ?_
      refine lv_iconst (v := 1) hx hb dk_X7_player_36 (by decide) ?_
      refine lv_iadd hx hb dk_X7_player_37 ?_
      refine lv_topi (fun y8 ey8 => ?_)
      obtain rfl : y8 = (nI (pc + 1)) := ey8.trans (kx_inc (by omega))
      refine kx_put (x := (nI (pc + 1))) G L (en_PTX7_ok (89, 13, 17, 0) (by decide)) fb.1 (by rw [fb.2.1]; decide) (en_lo _) (en_hi _) dk_X7_player_38 (fun w9 H locs e9 n9 o9 L => ?_)
      have lfz := fb.2.1
      have g17 := List.getElem?_set_self (l := fs7) (i := 17) (a := Value.int (nI (pc + 1))) (by rw [lfz]; decide)
      have gf : ∀ j, j ≠ 17 → (fs7.set 17 (.int (nI (pc + 1))))[j]? = fs7[j]? := fun j hj => List.getElem?_set_ne (Ne.symm hj)
      refine lv_aload_n hx hb dk_X7_player_41 rfl (lv_at hl 0 rfl) ?_
      refine kx_get (v := .int (nI (pc + 1))) G L (en_FTX7_ok (89, 13, 17) (by decide)) e9 g17 dk_X7_player_42 ?_
      refine lv_iconst (v := 1) hx hb dk_X7_player_45 (by decide) ?_
      refine lv_isub hx hb dk_X7_player_46 ?_
      refine lv_topi (fun y10 ey10 => ?_)
      obtain rfl : y10 = (nI pc) := ey10.trans (kx_dec (by omega))
      exact vx_ret (W.widen (Nat.le_of_ble_eq_true rfl) (Nat.le_of_ble_eq_true rfl) (W.iret (v := (nI pc)) hx hb hr (fun T9 hT9 _ => ⟨⟨(nI pc), w9, rfl, Or.inr ⟨rfl, hbg, hlt, _, kx_M.player hMb hlt e9 List.length_set o9 (fun j h1 h2 => gf j h1) g17, (gf 30 (by decide)).trans hTb.2.2.1, fun j h1 h2 => (gf j h1).trans (hTb.2.2.2.1 j h2), n9.trans hTb.2.2.2.2.1, fun j hj => (o9 j hj).trans (hTb.2.2.2.2.2 j hj)⟩, by rw [hT9]; exact L.1, L.2.1⟩, L.2.2.F hT9⟩) L.2.2.2.2 dk_X7_player_47 hlocks))
    · skip
      have tc5 : ¬ (bg : Int32).toInt = (0 : Int32).toInt := fun h => c5 (Int32.toInt_inj.mp h)
      refine lv_iconst (v := 1) hx hb dk_X7_player_17 (by decide) ?_
      refine lv_goto (tgt := 22) hx hb dk_X7_player_18 (by decide) ?_
      refine lv_iconst (v := 1) hx hb dk_X7_player_22 (by decide) ?_
      refine kx_cV (As := [.int 1, .int 1]) (rest := []) (q := 0) (ci := 13) G L (kx_X7_isThrown hl9 D (kx_D1 L) fM.1 (by rw [fM.2.1]; decide) (Or.inr rfl)) gc_RX7_110v fM.1 rfl rfl rfl (hml.trans hl.1.symm) ⟨Nat.le_of_ble_eq_true rfl, Nat.le_of_ble_eq_true rfl⟩ ⟨Nat.le_of_ble_eq_true rfl, Nat.le_of_ble_eq_true rfl⟩ (Nat.le_of_ble_eq_true rfl) dk_X7_player_23 (fun _ _ _ _ _ h9 => h9.elim) (fun res w11 H locs hrv hq11 L => ?_)
      obtain ⟨rfl, fs11, t11, hT11, h011, h111⟩ := hq11
      have et11 : t11 = 1 := h111 rfl
      rw [et11] at hT11
      have hTa := hT11
      have hMa := hM.t hTa
      have fa := hMa.1
      refine lv_if_eq (tgt := 31) hx hb dk_X7_player_26 (by decide) (fun c9 => absurd c9 (by decide)) (fun _ => ?_)
      refine lv_iconst (v := 0) hx hb dk_X7_player_29 (by decide) ?_
      exact vx_ret (W.widen (Nat.le_of_ble_eq_true rfl) (Nat.le_of_ble_eq_true rfl) (W.iret (v := 0) hx hb hr (fun T9 hT9 _ => ⟨⟨0, w11, rfl, Or.inl ⟨rfl, _, _, hTa, rfl, fun h => c5 h.1⟩, by rw [hT9]; exact L.1, L.2.1⟩, L.2.2.F hT9⟩) L.2.2.2.2 dk_X7_player_30 hlocks))
set_option maxHeartbeats 4000000 in
theorem kx_X7_hole {l : Launch} (hl9 : l.stackTraces = false) (D : va_G) {tys : List (ClassId × FieldType)} {sh : en_H} {w : va_W} {sz : Nat} (hD0 : va_D (va_A w sz) w) {fs : List Value} {hc pc : Nat} {bg : Int32} {rr mk : Nat → Nat → Int32} {a1 a2 a3 a4 a5 a6 : Int32} (hM : kx_M tys sh w fs hc pc bg rr mk) : kx_C l yX7_hole cX7_hole 11 (some .int) 2 1 7 0 [.ref (sh.2 0), .int a1, .int a2, .int a3, .int a4, .int a5, .int a6] D tys w sz (fun res w1 => (res = some (.int 0) ∧ ∃ (fs1 : List Value) (t : Int32), kx_T sh w w1 fs fs1 t ∧ ((t = 1 ∧ ¬ kx_hg a1 a2 a3 a4 a5 a6) ∨ (t = 2 ∧ kx_hg a1 a2 a3 a4 a5 a6 ∧ ¬ (bg = 0 ∧ hc < 9)) ∨ (t = 3 ∧ kx_hg a1 a2 a3 a4 a5 a6 ∧ (bg = 0 ∧ hc < 9) ∧ ∃ j, j < hc ∧ rr j 1 = a2))) ∨ (res = some (.int (nI hc)) ∧ kx_hg a1 a2 a3 a4 a5 a6 ∧ bg = 0 ∧ hc < 9 ∧ (∀ j, j < hc → ¬ rr j 1 = a2) ∧ ∃ (fs1 : List Value) (r9 : Nat) (cI : ClassId) (g9 : Nat → Int32), kx_M tys sh w1 fs1 (hc + 1) pc bg (kx_rw rr hc (kx_row a1 a2 a3 a4 a5 a6)) (kx_rw mk hc fun _ => 46) ∧ fs1[30]? = some (.int 0) ∧ (∀ j, j ≠ 16 → j ≠ 30 → fs1[j]? = fs[j]?) ∧ w1.length = w.length + 1 ∧ tys[0]? = some (cI, .int) ∧ w1[w.length]? = some (r9, .inl (cI, 7, .inl g9)) ∧ ∀ j, j < w.length → j ≠ 0 → j ≠ 2 + hc → j ≠ 28 + hc → w1[j]? = w[j]?)) (fun _ => False) := by
  refine vx_ofW (cc := cX7_hole) (maxL := 11) (ret := (some .int)) (by decide +kernel) rfl ?_
  intro p e s m args below meth c s₁ B9 hml hne hv
  obtain ⟨rfl, hsz, hP, hK, hT⟩ := hv
  subst hsz
  have hx := B9.exec
  have hb := B9.bytes
  have hr := B9.returns
  have hlocks := B9.notSynchronized
  have hts0 := atoms_spec (ws := Cond.code yX7_hole cX7_hole 11 (some .int) :: en_cw) B9.pre
  have hts : ∀ z ∈ en_cw, z.before _ s = true := fun z hz => hts0 z (List.mem_cons_of_mem _ hz)
  have hown : s.vm.findClass RX7 = some m.cls := findClass_of_methodNamed B9.named
  have G : kx_G p s m ([.ref (sh.2 0), .int a1, .int a2, .int a3, .int a4, .int a5, .int a6] : List Value).toArray c cX7_hole RX7 D tys (va_A w s.heap.size) := ⟨hx, hb, hts, hown, hK, hT, fun q h => Or.inr h⟩
  have L : kx_H D (va_A w s.heap.size) s w s.heap [] := ⟨hP, ⟨hD0.1, fun j z hz => Or.inl ⟨j, z.2, hz⟩⟩, va_S.rf⟩
  have hl := lv_entry ([.ref (sh.2 0), .int a1, .int a2, .int a3, .int a4, .int a5, .int a6] : List Value) (n := 11) (Nat.le_of_ble_eq_true rfl)
  rw [lg_entry_eq]
  generalize (lg_sl ([.ref (sh.2 0), .int a1, .int a2, .int a3, .int a4, .int a5, .int a6] : List Value) ++ List.replicate (11 - (lg_sl ([.ref (sh.2 0), .int a1, .int a2, .int a3, .int a4, .int a5, .int a6] : List Value)).length) Slot.unset).toArray = ls at hl ⊢
  have hl : lv_has ls 11 [(0, .ref (sh.2 0)), (1, .int a1), (2, .int a2), (3, .int a3), (4, .int a4), (5, .int a5), (6, .int a6)] := hl
  have fM := hM.1
  have hc9 : hc ≤ 9 := fM.2.2.2.2.2.2.2.1
  obtain ⟨cR, fC, ht5, hw1, hf1⟩ := hM.2.1
  obtain ⟨cR2, fK, ht6, hw27, hf27⟩ := hM.2.2.1
  have hwl : 37 ≤ w.length := by obtain ⟨cX, g, -, h9, -⟩ := hM.2.2.2.2 8 (by decide); exact (List.getElem?_eq_some_iff.mp h9).1
  obtain ⟨cI, htI⟩ : ∃ cI, tys[0]? = some (cI, .int) := by obtain ⟨cI, g, h9, -⟩ := hM.2.2.2.1 0 (by decide); exact ⟨cI, h9⟩
  have S161 : ∀ (wz : va_W) (fz : List Value) (H : Heap) (locs : List Loc), kx_T sh w wz fs fz 0 → kx_hg a1 a2 a3 a4 a5 a6 → bg = 0 → hc < 9 → (∀ j, j < hc → ¬ rr j 1 = a2) → kx_H D (va_A w s.heap.size) s wz H locs → ∀ (ls : Array Slot), lv_has ls 11 [(0, .ref (sh.2 0)), (1, .int a1), (2, .int a2), (3, .int a3), (4, .int a4), (5, .int a5), (6, .int a6)] → W p l e (headSpec (Cond.code yX7_hole cX7_hole 11 (some .int) :: en_cw) (en_rm 2 (1, 7))).room s m ([.ref (sh.2 0), .int a1, .int a2, .int a3, .int a4, .int a5, .int a6] : List Value).toArray below meth c H locs (0) (0) (vx_MQ below (kx_Q 0 D (fun res w1 => (res = some (.int 0) ∧ ∃ (fs1 : List Value) (t : Int32), kx_T sh w w1 fs fs1 t ∧ ((t = 1 ∧ ¬ kx_hg a1 a2 a3 a4 a5 a6) ∨ (t = 2 ∧ kx_hg a1 a2 a3 a4 a5 a6 ∧ ¬ (bg = 0 ∧ hc < 9)) ∨ (t = 3 ∧ kx_hg a1 a2 a3 a4 a5 a6 ∧ (bg = 0 ∧ hc < 9) ∧ ∃ j, j < hc ∧ rr j 1 = a2))) ∨ (res = some (.int (nI hc)) ∧ kx_hg a1 a2 a3 a4 a5 a6 ∧ bg = 0 ∧ hc < 9 ∧ (∀ j, j < hc → ¬ rr j 1 = a2) ∧ ∃ (fs1 : List Value) (r9 : Nat) (cI : ClassId) (g9 : Nat → Int32), kx_M tys sh w1 fs1 (hc + 1) pc bg (kx_rw rr hc (kx_row a1 a2 a3 a4 a5 a6)) (kx_rw mk hc fun _ => 46) ∧ fs1[30]? = some (.int 0) ∧ (∀ j, j ≠ 16 → j ≠ 30 → fs1[j]? = fs[j]?) ∧ w1.length = w.length + 1 ∧ tys[0]? = some (cI, .int) ∧ w1[w.length]? = some (r9, .inl (cI, 7, .inl g9)) ∧ ∀ j, j < w.length → j ≠ 0 → j ≠ 2 + hc → j ≠ 28 + hc → w1[j]? = w[j]?)) (va_A w s.heap.size)) (kx_XC D w (fun _ => False) (va_A w s.heap.size)) ([.ref (sh.2 0), .int a1, .int a2, .int a3, .int a4, .int a5, .int a6] : List Value).toArray s 1 7 (va_A w s.heap.size)) (F0 m 161 ls []) := by
    intro wz fz H locs hTz hgood hbg hlt hno L ls hl
    have lfz : fz.length = 31 := hTz.2.1.trans fM.2.1
    have hMz := hM.t hTz
    have fzz := hMz.1
    refine lv_bipush (v := 7) hx hb dk_X7_hole_161 (by decide) ?_
    refine kx_newI G L cw256 htI (Nat.le_of_ble_eq_true rfl) (Nat.le_of_ble_eq_true rfl) dk_X7_hole_163 (fun r9 w0 H g0 n0 o0 L => ?_)
    have n9 : w0.length = w.length + 1 := n0.trans (by rw [hTz.2.2.2.2.1])
    have o9 : ∀ j, j < w.length → j ≠ 0 → w0[j]? = w[j]? := fun j hj h0 => (o0 j (by rw [hTz.2.2.2.2.1]; exact hj)).trans (hTz.2.2.2.2.2 j h0)
    have z9 : w0[0]? = some (sh.2 0, .inr (13, fz)) := (o0 0 (by rw [hTz.2.2.2.2.1]; omega)).trans hTz.1
    rw [hTz.2.2.2.2.1] at g0
    refine lv_dup hx hb dk_X7_hole_165 rfl ?_
    refine lv_iconst (v := 0) hx hb dk_X7_hole_166 (by decide) ?_
    refine lv_iload_n hx hb dk_X7_hole_167 rfl (lv_at hl 1 rfl) ?_
    refine kx_iast (k := 0) G L g0 htI (by decide) (by decide) dk_X7_hole_168 (fun w1 H locs e1 n1 p1 L => ?_)
    have n19 : w1.length = w.length + 1 := n1.trans n9
    have o1 : ∀ j, j < w.length → j ≠ 0 → w1[j]? = w[j]? := fun j hj h0 => (p1 j (by omega)).trans (o9 j hj h0)
    have z1 : w1[0]? = some (sh.2 0, .inr (13, fz)) := (p1 0 (by omega)).trans z9
    refine lv_dup hx hb dk_X7_hole_169 rfl ?_
    refine lv_iconst (v := 1) hx hb dk_X7_hole_170 (by decide) ?_
    refine lv_iload_n hx hb dk_X7_hole_171 rfl (lv_at hl 2 rfl) ?_
    refine kx_iast (k := 1) G L e1 htI (by decide) (by decide) dk_X7_hole_172 (fun w2 H locs e2 n2 p2 L => ?_)
    have n29 : w2.length = w.length + 1 := n2.trans n19
    have o2 : ∀ j, j < w.length → j ≠ 0 → w2[j]? = w[j]? := fun j hj h0 => (p2 j (by omega)).trans (o1 j hj h0)
    have z2 : w2[0]? = some (sh.2 0, .inr (13, fz)) := (p2 0 (by omega)).trans z1
    refine lv_dup hx hb dk_X7_hole_173 rfl ?_
    refine lv_iconst (v := 2) hx hb dk_X7_hole_174 (by decide) ?_
    refine lv_iload_n hx hb dk_X7_hole_175 rfl (lv_at hl 3 rfl) ?_
    refine kx_iast (k := 2) G L e2 htI (by decide) (by decide) dk_X7_hole_176 (fun w3 H locs e3 n3 p3 L => ?_)
    have n39 : w3.length = w.length + 1 := n3.trans n29
    have o3 : ∀ j, j < w.length → j ≠ 0 → w3[j]? = w[j]? := fun j hj h0 => (p3 j (by omega)).trans (o2 j hj h0)
    have z3 : w3[0]? = some (sh.2 0, .inr (13, fz)) := (p3 0 (by omega)).trans z2
    refine lv_dup hx hb dk_X7_hole_177 rfl ?_
    refine lv_iconst (v := 3) hx hb dk_X7_hole_178 (by decide) ?_
    refine lv_iload hx hb dk_X7_hole_179 (lv_at hl 4 rfl) ?_
    refine kx_iast (k := 3) G L e3 htI (by decide) (by decide) dk_X7_hole_181 (fun w4 H locs e4 n4 p4 L => ?_)
    have n49 : w4.length = w.length + 1 := n4.trans n39
    have o4 : ∀ j, j < w.length → j ≠ 0 → w4[j]? = w[j]? := fun j hj h0 => (p4 j (by omega)).trans (o3 j hj h0)
    have z4 : w4[0]? = some (sh.2 0, .inr (13, fz)) := (p4 0 (by omega)).trans z3
    refine lv_dup hx hb dk_X7_hole_182 rfl ?_
    refine lv_iconst (v := 4) hx hb dk_X7_hole_183 (by decide) ?_
    refine lv_iload hx hb dk_X7_hole_184 (lv_at hl 5 rfl) ?_
    refine kx_iast (k := 4) G L e4 htI (by decide) (by decide) dk_X7_hole_186 (fun w5 H locs e5 n5 p5 L => ?_)
    have n59 : w5.length = w.length + 1 := n5.trans n49
    have o5 : ∀ j, j < w.length → j ≠ 0 → w5[j]? = w[j]? := fun j hj h0 => (p5 j (by omega)).trans (o4 j hj h0)
    have z5 : w5[0]? = some (sh.2 0, .inr (13, fz)) := (p5 0 (by omega)).trans z4
    refine lv_dup hx hb dk_X7_hole_187 rfl ?_
    refine lv_iconst (v := 5) hx hb dk_X7_hole_188 (by decide) ?_
    refine lv_iload hx hb dk_X7_hole_189 (lv_at hl 6 rfl) ?_
    refine kx_iast (k := 5) G L e5 htI (by decide) (by decide) dk_X7_hole_191 (fun w6 H locs e6 n6 p6 L => ?_)
    have n69 : w6.length = w.length + 1 := n6.trans n59
    have o6 : ∀ j, j < w.length → j ≠ 0 → w6[j]? = w[j]? := fun j hj h0 => (p6 j (by omega)).trans (o5 j hj h0)
    have z6 : w6[0]? = some (sh.2 0, .inr (13, fz)) := (p6 0 (by omega)).trans z5
    refine lv_dup hx hb dk_X7_hole_192 rfl ?_
    refine lv_bipush (v := 6) hx hb dk_X7_hole_193 (by decide) ?_
    refine lv_iconst (v := 0) hx hb dk_X7_hole_195 (by decide) ?_
    refine kx_iast (k := 6) G L e6 htI (by decide) (by decide) dk_X7_hole_196 (fun w7 H locs e7 n7 p7 L => ?_)
    have n79 : w7.length = w.length + 1 := n7.trans n69
    have o7 : ∀ j, j < w.length → j ≠ 0 → w7[j]? = w[j]? := fun j hj h0 => (p7 j (by omega)).trans (o6 j hj h0)
    have z7 : w7[0]? = some (sh.2 0, .inr (13, fz)) := (p7 0 (by omega)).trans z6
    obtain ⟨g, eg⟩ : ∃ g, g = (upd (upd (upd (upd (upd (upd (upd (fun _ => (0 : Int32)) 0 a1) 1 a2) 2 a3) 3 a4) 4 a5) 5 a6) 6 0) := ⟨_, rfl⟩
    rw [← eg] at e7
    have hg : ∀ j, j < 7 → g j = kx_row a1 a2 a3 a4 a5 a6 j := fun j hj => by rw [eg]; exact match j, hj with | 0, _ => rfl | 1, _ => rfl | 2, _ => rfl | 3, _ => rfl | 4, _ => rfl | 5, _ => rfl | 6, _ => rfl | n + 7, h => absurd h (by omega)
    clear eg
    refine lv_astore (lv' := [(9, .ref r9), (0, .ref (sh.2 0)), (1, .int a1), (2, .int a2), (3, .int a3), (4, .int a4), (5, .int a5), (6, .int a6)]) hx hb dk_X7_hole_197 hl (by decide) rfl (fun ls hl => ?_)
    refine lv_aload hx hb dk_X7_hole_199 (lv_at hl 0 rfl) ?_
    refine lv_iconst (v := 0) hx hb dk_X7_hole_201 (by decide) ?_
    refine lv_aload_n hx hb dk_X7_hole_202 rfl (lv_at hl 1 rfl) ?_
    refine kx_get (v := .ref (sh.2 1)) G L (en_FTX7_ok (11, 13, 0) (by decide)) z7 fzz.2.2.1 dk_X7_hole_203 ?_
    refine lv_aload_n hx hb dk_X7_hole_206 rfl (lv_at hl 1 rfl) ?_
    refine kx_get (v := .int (nI hc)) G L (en_FTX7_ok (86, 13, 16) (by decide)) z7 fzz.2.2.2.2.1 dk_X7_hole_207 ?_
    refine kx_aaldA G L ((o7 1 (by omega) (by decide)).trans hw1) ht5 hlt (by decide) (hf1 hc hlt) dk_X7_hole_210 ?_
    refine lv_iconst (v := 0) hx hb dk_X7_hole_211 (by decide) ?_
    refine lv_aload hx hb dk_X7_hole_212 (lv_at hl 0 rfl) ?_
    refine va_alen hx hb hK L.1 w.length 0 e7 htI (v := 7) rfl dk_X7_hole_214 ?_
    obtain ⟨cI8, gr, x1, hwr, x3⟩ := hM.2.2.2.1 hc hlt
    have ec8 : cI8 = cI := (Prod.mk.inj (Option.some.inj (x1.symm.trans htI))).1
    subst ec8
    refine kx_copy (t0 := 0) G L (hml.trans hl.1.symm) (en_ACX7_ok 118 (by decide)) e7 ((o7 _ (by omega) (by omega)).trans hwr) htI (Nat.le_of_ble_eq_true rfl) (Nat.le_of_ble_eq_true rfl) dk_X7_hole_215 (fun w8 H locs g1 e8 h7 n8 p8 L => ?_)
    have n89 : w8.length = w.length + 1 := n8.trans n79
    have hg1 : ∀ j, j < 7 → g1 j = kx_row a1 a2 a3 a4 a5 a6 j := fun j hj => (h7 j hj).trans (hg j hj)
    have row8 : w8[w.length]? = _ := (p8 _ (by omega)).trans e7
    have o8 : ∀ j, j < w.length → j ≠ 0 → j ≠ 2 + hc → w8[j]? = w[j]? := fun j hj h0 h2 => (p8 j h2).trans (o7 j hj h0)
    have z8 : w8[0]? = some (sh.2 0, .inr (13, fz)) := (p8 0 (by omega)).trans z7
    refine lv_iconst (v := 0) hx hb dk_X7_hole_218 (by decide) ?_
    refine lv_istore (lv' := [(10, .int 0), (9, .ref r9), (0, .ref (sh.2 0)), (1, .int a1), (2, .int a2), (3, .int a3), (4, .int a4), (5, .int a5), (6, .int a6)]) hx hb dk_X7_hole_219 hl (by decide) rfl (fun ls hl => ?_)
    obtain ⟨cX, gk, htX, hwk, hk9⟩ := hM.2.2.2.2 hc hlt
    have loop : ∀ (d k : Nat), k + d = 600 → ∀ (wk : va_W) (H : Heap) (locs : List Loc) (gq : Nat → Int32), wk[0]? = some (sh.2 0, .inr (13, fz)) → wk[2 + hc]? = some (sh.2 (2 + hc), .inl (cI8, 7, .inl g1)) → wk[28 + hc]? = some (sh.2 (28 + hc), .inl (cX, 600, .inl gq)) → (∀ i, i < k → gq i = 46) → wk.length = w.length + 1 → wk[w.length]? = some (r9, .inl (cI8, 7, .inl g)) → (∀ j, j < w.length → j ≠ 0 → j ≠ 2 + hc → j ≠ 28 + hc → wk[j]? = w[j]?) → kx_H D (va_A w s.heap.size) s wk H locs → ∀ (ls : Array Slot), lv_has ls 11 [(10, .int (nI k)), (0, .ref (sh.2 0)), (1, .int a1), (2, .int a2), (3, .int a3), (4, .int a4), (5, .int a5), (6, .int a6)] → W p l e (headSpec (Cond.code yX7_hole cX7_hole 11 (some .int) :: en_cw) (en_rm 2 (1, 7))).room s m ([.ref (sh.2 0), .int a1, .int a2, .int a3, .int a4, .int a5, .int a6] : List Value).toArray below meth c H locs (1) (7) (vx_MQ below (kx_Q 0 D (fun res w1 => (res = some (.int 0) ∧ ∃ (fs1 : List Value) (t : Int32), kx_T sh w w1 fs fs1 t ∧ ((t = 1 ∧ ¬ kx_hg a1 a2 a3 a4 a5 a6) ∨ (t = 2 ∧ kx_hg a1 a2 a3 a4 a5 a6 ∧ ¬ (bg = 0 ∧ hc < 9)) ∨ (t = 3 ∧ kx_hg a1 a2 a3 a4 a5 a6 ∧ (bg = 0 ∧ hc < 9) ∧ ∃ j, j < hc ∧ rr j 1 = a2))) ∨ (res = some (.int (nI hc)) ∧ kx_hg a1 a2 a3 a4 a5 a6 ∧ bg = 0 ∧ hc < 9 ∧ (∀ j, j < hc → ¬ rr j 1 = a2) ∧ ∃ (fs1 : List Value) (r9 : Nat) (cI : ClassId) (g9 : Nat → Int32), kx_M tys sh w1 fs1 (hc + 1) pc bg (kx_rw rr hc (kx_row a1 a2 a3 a4 a5 a6)) (kx_rw mk hc fun _ => 46) ∧ fs1[30]? = some (.int 0) ∧ (∀ j, j ≠ 16 → j ≠ 30 → fs1[j]? = fs[j]?) ∧ w1.length = w.length + 1 ∧ tys[0]? = some (cI, .int) ∧ w1[w.length]? = some (r9, .inl (cI, 7, .inl g9)) ∧ ∀ j, j < w.length → j ≠ 0 → j ≠ 2 + hc → j ≠ 28 + hc → w1[j]? = w[j]?)) (va_A w s.heap.size)) (kx_XC D w (fun _ => False) (va_A w s.heap.size)) ([.ref (sh.2 0), .int a1, .int a2, .int a3, .int a4, .int a5, .int a6] : List Value).toArray s 1 7 (va_A w s.heap.size)) (F0 m 221 ls []) := by
      intro d
      induction d with
      | zero =>
        intro k hk wk H locs gq f0 f2 f28 fq fn fr fo L ls hl
        refine lv_iload hx hb dk_X7_hole_221 (lv_at hl 0 rfl) ?_
        refine lv_sipush (v := 600) hx hb dk_X7_hole_223 (by decide) ?_
        have e9 : k = 600 := by omega
        subst e9
        refine lv_icmp_ge (tgt := 249) hx hb dk_X7_hole_226 (by decide) (fun _ => ?_) (fun c9 => absurd (by decide) c9)
        refine lv_aload_n hx hb dk_X7_hole_249 rfl (lv_at hl 1 rfl) ?_
        refine lv_dup hx hb dk_X7_hole_250 rfl ?_
        refine kx_get (v := .int (nI hc)) G L (en_FTX7_ok (86, 13, 16) (by decide)) f0 fzz.2.2.2.2.1 dk_X7_hole_251 ?_
        refine lv_iconst (v := 1) hx hb dk_X7_hole_254 (by decide) ?_
        refine lv_iadd hx hb dk_X7_hole_255 ?_
        refine lv_topi (fun y9 ey9 => ?_)
        obtain rfl : y9 = (nI (hc + 1)) := ey9.trans (kx_inc (by omega))
        refine kx_put (x := (nI (hc + 1))) G L (en_PTX7_ok (86, 13, 16, 0) (by decide)) f0 (by rw [lfz]; decide) (en_lo _) (en_hi _) dk_X7_hole_256 (fun w10 H locs e10 n10 o10 L => ?_)
        have q16 : (fz.set 16 (.int (nI (hc + 1))))[16]? = some (.int (nI (hc + 1))) := List.getElem?_set_self (by rw [lfz]; decide)
        have qf : ∀ j, j ≠ 16 → (fz.set 16 (.int (nI (hc + 1))))[j]? = fz[j]? := fun j hj => List.getElem?_set_ne (Ne.symm hj)
        refine lv_aload_n hx hb dk_X7_hole_259 rfl (lv_at hl 1 rfl) ?_
        refine kx_get (v := .int (nI (hc + 1))) G L (en_FTX7_ok (86, 13, 16) (by decide)) e10 q16 dk_X7_hole_260 ?_
        refine lv_iconst (v := 1) hx hb dk_X7_hole_263 (by decide) ?_
        refine lv_isub hx hb dk_X7_hole_264 ?_
        refine lv_topi (fun y11 ey11 => ?_)
        obtain rfl : y11 = (nI hc) := ey11.trans (kx_dec (by omega))
        have hot : ∀ j, j < w.length → j ≠ 0 → j ≠ 2 + hc → j ≠ 28 + hc → w10[j]? = w[j]? := fun j h1 h2 h3 h4 => (o10 j h2).trans (fo j h1 h2 h3 h4)
        have gff : ∀ j, j ≠ 16 → j ≠ 30 → (fz.set 16 (.int (nI (hc + 1))))[j]? = fs[j]? := fun j h1 h2 => (qf j h1).trans (hTz.2.2.2.1 j h2)
        exact vx_ret (W.widen (Nat.le_of_ble_eq_true rfl) (Nat.le_of_ble_eq_true rfl) (W.iret (v := (nI hc)) hx hb hr (fun T9 hT9 _ => ⟨⟨(nI hc), w10, rfl, Or.inr ⟨rfl, hgood, hbg, hlt, hno, _, r9, cI8, g, kx_M.hole hM hlt htI htX e10 (List.length_set.trans hTz.2.1) ((o10 _ (by omega)).trans f2) hg1 ((o10 _ (by omega)).trans f28) (fun i hi => fq i hi) hot gff q16, (qf 30 (by decide)).trans hTz.2.2.1, gff, n10.trans fn, htI, (o10 _ (by omega)).trans fr, hot⟩, by rw [hT9]; exact L.1, L.2.1⟩, L.2.2.F hT9⟩) L.2.2.2.2 dk_X7_hole_265 hlocks))
      | succ d ih =>
        intro k hk wk H locs gq f0 f2 f28 fq fn fr fo L ls hl
        refine lv_iload hx hb dk_X7_hole_221 (lv_at hl 0 rfl) ?_
        refine lv_sipush (v := 600) hx hb dk_X7_hole_223 (by decide) ?_
        refine lv_icmp_ge (tgt := 249) hx hb dk_X7_hole_226 (by decide) (fun c9 => absurd c9 (nI_ge (a := k) (b := 600) (by omega) (by omega))) (fun _ => ?_)
        refine lv_aload_n hx hb dk_X7_hole_229 rfl (lv_at hl 1 rfl) ?_
        refine kx_get (v := .ref (sh.2 27)) G L (en_FTX7_ok (16, 13, 1) (by decide)) f0 fzz.2.2.2.1 dk_X7_hole_230 ?_
        refine lv_aload_n hx hb dk_X7_hole_233 rfl (lv_at hl 1 rfl) ?_
        refine kx_get (v := .int (nI hc)) G L (en_FTX7_ok (86, 13, 16) (by decide)) f0 fzz.2.2.2.2.1 dk_X7_hole_234 ?_
        refine kx_aaldA G L ((fo 27 (by omega) (by decide) (by omega) (by omega)).trans hw27) ht6 hlt (by decide) (hf27 hc hlt) dk_X7_hole_237 ?_
        refine lv_iload hx hb dk_X7_hole_238 (lv_at hl 0 rfl) ?_
        refine lv_bipush (v := 46) hx hb dk_X7_hole_240 (by decide) ?_
        refine kx_cast G L f28 htX (show k < 600 by omega) (by decide) (by decide) (by decide) dk_X7_hole_242 (fun w12 H locs e12 n12 p12 L => ?_)
        refine lv_iinc (v := (nI (k + 1))) (lv' := [(10, .int (nI (k + 1))), (0, .ref (sh.2 0)), (1, .int a1), (2, .int a2), (3, .int a3), (4, .int a4), (5, .int a5), (6, .int a6)]) hx hb dk_X7_hole_243 hl (k := 0) rfl (kx_inc (by omega)) (by decide) rfl (fun ls hl => ?_)
        refine lv_goto (tgt := 221) hx hb dk_X7_hole_246 (by decide) ?_
        exact ih (k + 1) (by omega) w12 H locs _ ((p12 0 (by omega)).trans f0) ((p12 _ (by omega)).trans f2) e12 (fun i hi => by unfold upd; by_cases h9 : i = k; rw [if_pos h9]; rw [if_neg h9]; exact fq i (by omega)) (n12.trans fn) ((p12 _ (by omega)).trans fr) (fun j h1 h2 h3 h4 => (p12 j h4).trans (fo j h1 h2 h3 h4)) L ls (lv_sub hl [0, 1, 2, 3, 4, 5, 6, 7] rfl)
    exact loop 600 0 (by omega) w8 H locs gk z8 e8 ((o8 _ (by omega) (by omega) (by omega)).trans hwk) (fun i h => absurd h (Nat.not_lt_zero i)) n89 row8 (fun j h1 h2 h3 h4 => o8 j h1 h2 h3) L ls (lv_sub hl [0, 2, 3, 4, 5, 6, 7, 8] rfl)
  have S120 : ∀ (wz : va_W) (fz : List Value) (H : Heap) (locs : List Loc) (u : Int32), kx_T sh w wz fs fz 0 → kx_hg a1 a2 a3 a4 a5 a6 → ((u = 1 ∧ ∃ j, j < hc ∧ rr j 1 = a2) ∨ (u = 0 ∧ ∀ j, j < hc → ¬ rr j 1 = a2)) → kx_H D (va_A w s.heap.size) s wz H locs → ∀ (ls : Array Slot), lv_has ls 11 [(8, .int u), (0, .ref (sh.2 0)), (1, .int a1), (2, .int a2), (3, .int a3), (4, .int a4), (5, .int a5), (6, .int a6)] → W p l e (headSpec (Cond.code yX7_hole cX7_hole 11 (some .int) :: en_cw) (en_rm 2 (1, 7))).room s m ([.ref (sh.2 0), .int a1, .int a2, .int a3, .int a4, .int a5, .int a6] : List Value).toArray below meth c H locs (0) (0) (vx_MQ below (kx_Q 0 D (fun res w1 => (res = some (.int 0) ∧ ∃ (fs1 : List Value) (t : Int32), kx_T sh w w1 fs fs1 t ∧ ((t = 1 ∧ ¬ kx_hg a1 a2 a3 a4 a5 a6) ∨ (t = 2 ∧ kx_hg a1 a2 a3 a4 a5 a6 ∧ ¬ (bg = 0 ∧ hc < 9)) ∨ (t = 3 ∧ kx_hg a1 a2 a3 a4 a5 a6 ∧ (bg = 0 ∧ hc < 9) ∧ ∃ j, j < hc ∧ rr j 1 = a2))) ∨ (res = some (.int (nI hc)) ∧ kx_hg a1 a2 a3 a4 a5 a6 ∧ bg = 0 ∧ hc < 9 ∧ (∀ j, j < hc → ¬ rr j 1 = a2) ∧ ∃ (fs1 : List Value) (r9 : Nat) (cI : ClassId) (g9 : Nat → Int32), kx_M tys sh w1 fs1 (hc + 1) pc bg (kx_rw rr hc (kx_row a1 a2 a3 a4 a5 a6)) (kx_rw mk hc fun _ => 46) ∧ fs1[30]? = some (.int 0) ∧ (∀ j, j ≠ 16 → j ≠ 30 → fs1[j]? = fs[j]?) ∧ w1.length = w.length + 1 ∧ tys[0]? = some (cI, .int) ∧ w1[w.length]? = some (r9, .inl (cI, 7, .inl g9)) ∧ ∀ j, j < w.length → j ≠ 0 → j ≠ 2 + hc → j ≠ 28 + hc → w1[j]? = w[j]?)) (va_A w s.heap.size)) (kx_XC D w (fun _ => False) (va_A w s.heap.size)) ([.ref (sh.2 0), .int a1, .int a2, .int a3, .int a4, .int a5, .int a6] : List Value).toArray s 1 7 (va_A w s.heap.size)) (F0 m 120 ls []) := by
    intro wz fz H locs u hTz hgood hu L ls hl
    have hMz := hM.t hTz
    have fzz := hMz.1
    refine lv_aload_n hx hb dk_X7_hole_120 rfl (lv_at hl 1 rfl) ?_
    refine lv_aload_n hx hb dk_X7_hole_121 rfl (lv_at hl 1 rfl) ?_
    refine kx_get (v := .int (nI hc)) G L (en_FTX7_ok (86, 13, 16) (by decide)) fzz.1 fzz.2.2.2.2.1 dk_X7_hole_122 ?_
    refine lv_bipush (v := 9) hx hb dk_X7_hole_125 (by decide) ?_
    have k14 : (nI hc).toInt = (((hc) : Nat) : Int) := kx_nI (by omega)
    have k15 : (9 : Int32).toInt = 9 := by decide
    refine lv_icmp_eq (tgt := 137) hx hb dk_X7_hole_127 (by decide) (fun c13 => ?_) (fun c13 => ?_)
    · skip
      have tc13 : ((nI hc) : Int32).toInt = (9 : Int32).toInt := by rw [c13]
      refine lv_iconst (v := 1) hx hb dk_X7_hole_137 (by decide) ?_
      refine lv_goto (tgt := 142) hx hb dk_X7_hole_138 (by decide) ?_
      refine lv_iconst (v := 2) hx hb dk_X7_hole_142 (by decide) ?_
      refine kx_cV (As := [.int 1, .int 2]) (rest := []) (q := 0) (ci := 13) G L (kx_X7_isThrown hl9 D (kx_D1 L) fzz.1 (by rw [fzz.2.1]; decide) (Or.inr rfl)) gc_RX7_110v fzz.1 rfl rfl rfl (hml.trans hl.1.symm) ⟨Nat.le_of_ble_eq_true rfl, Nat.le_of_ble_eq_true rfl⟩ ⟨Nat.le_of_ble_eq_true rfl, Nat.le_of_ble_eq_true rfl⟩ (Nat.le_of_ble_eq_true rfl) dk_X7_hole_143 (fun _ _ _ _ _ h9 => h9.elim) (fun res w16 H locs hrv hq16 L => ?_)
      obtain ⟨rfl, fs16, t16, hT16, h016, h116⟩ := hq16
      have et16 : t16 = 2 := h116 rfl
      rw [et16] at hT16
      have hTa := hTz.tr hT16
      have hMa := hM.t hTa
      have fa := hMa.1
      refine lv_if_ne (tgt := 159) hx hb dk_X7_hole_146 (by decide) (fun _ => ?_) (fun c9 => absurd c9 (by decide))
      refine lv_iconst (v := 0) hx hb dk_X7_hole_159 (by decide) ?_
      exact vx_ret (W.widen (Nat.le_of_ble_eq_true rfl) (Nat.le_of_ble_eq_true rfl) (W.iret (v := 0) hx hb hr (fun T9 hT9 _ => ⟨⟨0, w16, rfl, Or.inl ⟨rfl, _, _, hTa, Or.inr (Or.inl ⟨rfl, hgood, fun h => by have h2 := h.2; omega⟩)⟩, by rw [hT9]; exact L.1, L.2.1⟩, L.2.2.F hT9⟩) L.2.2.2.2 dk_X7_hole_160 hlocks))
    · skip
      have tc13 : ¬ ((nI hc) : Int32).toInt = (9 : Int32).toInt := fun h => c13 (Int32.toInt_inj.mp h)
      refine lv_aload_n hx hb dk_X7_hole_130 rfl (lv_at hl 1 rfl) ?_
      refine kx_get (v := .int bg) G L (en_FTX7_ok (114, 13, 21) (by decide)) fzz.1 fzz.2.2.2.2.2.2.1 dk_X7_hole_131 ?_
      have k18 : (0 : Int32).toInt = 0 := by decide
      refine lv_if_eq (tgt := 141) hx hb dk_X7_hole_134 (by decide) (fun c17 => ?_) (fun c17 => ?_)
      · skip
        have tc17 : (bg : Int32).toInt = (0 : Int32).toInt := by rw [c17]
        have hbg : bg = 0 := c17
        have hlt : hc < 9 := by omega
        refine lv_iconst (v := 0) hx hb dk_X7_hole_141 (by decide) ?_
        refine lv_iconst (v := 2) hx hb dk_X7_hole_142 (by decide) ?_
        refine kx_cV (As := [.int 0, .int 2]) (rest := []) (q := 0) (ci := 13) G L (kx_X7_isThrown hl9 D (kx_D1 L) fzz.1 (by rw [fzz.2.1]; decide) (Or.inl rfl)) gc_RX7_110v fzz.1 rfl rfl rfl (hml.trans hl.1.symm) ⟨Nat.le_of_ble_eq_true rfl, Nat.le_of_ble_eq_true rfl⟩ ⟨Nat.le_of_ble_eq_true rfl, Nat.le_of_ble_eq_true rfl⟩ (Nat.le_of_ble_eq_true rfl) dk_X7_hole_143 (fun _ _ _ _ _ h9 => h9.elim) (fun res w19 H locs hrv hq19 L => ?_)
        obtain ⟨rfl, fs19, t19, hT19, h019, h119⟩ := hq19
        have et19 : t19 = 0 := h019 rfl
        rw [et19] at hT19
        have hTb := hTz.tr hT19
        have hMb := hM.t hTb
        have fb := hMb.1
        refine lv_if_ne (tgt := 159) hx hb dk_X7_hole_146 (by decide) (fun c9 => absurd (by decide) c9) (fun _ => ?_)
        refine lv_aload_n hx hb dk_X7_hole_149 rfl (lv_at hl 1 rfl) ?_
        refine lv_iload hx hb dk_X7_hole_150 (lv_at hl 0 rfl) ?_
        refine lv_iconst (v := 3) hx hb dk_X7_hole_152 (by decide) ?_
        rcases hu with ⟨rfl, c0⟩ | ⟨rfl, c0⟩
        · skip
          refine kx_cV (As := [.int 1, .int 3]) (rest := []) (q := 0) (ci := 13) G L (kx_X7_isThrown hl9 D (kx_D1 L) fb.1 (by rw [fb.2.1]; decide) (Or.inr rfl)) gc_RX7_110v fb.1 rfl rfl rfl (hml.trans hl.1.symm) ⟨Nat.le_of_ble_eq_true rfl, Nat.le_of_ble_eq_true rfl⟩ ⟨Nat.le_of_ble_eq_true rfl, Nat.le_of_ble_eq_true rfl⟩ (Nat.le_of_ble_eq_true rfl) dk_X7_hole_153 (fun _ _ _ _ _ h9 => h9.elim) (fun res w20 H locs hrv hq20 L => ?_)
          obtain ⟨rfl, fs20, t20, hT20, h020, h120⟩ := hq20
          have et20 : t20 = 3 := h120 rfl
          rw [et20] at hT20
          have hTc := hTb.tr hT20
          have hMc := hM.t hTc
          have fc := hMc.1
          refine lv_if_eq (tgt := 161) hx hb dk_X7_hole_156 (by decide) (fun c9 => absurd c9 (by decide)) (fun _ => ?_)
          refine lv_iconst (v := 0) hx hb dk_X7_hole_159 (by decide) ?_
          exact vx_ret (W.widen (Nat.le_of_ble_eq_true rfl) (Nat.le_of_ble_eq_true rfl) (W.iret (v := 0) hx hb hr (fun T9 hT9 _ => ⟨⟨0, w20, rfl, Or.inl ⟨rfl, _, _, hTc, Or.inr (Or.inr ⟨rfl, hgood, ⟨hbg, hlt⟩, c0⟩)⟩, by rw [hT9]; exact L.1, L.2.1⟩, L.2.2.F hT9⟩) L.2.2.2.2 dk_X7_hole_160 hlocks))
        · skip
          refine kx_cV (As := [.int 0, .int 3]) (rest := []) (q := 0) (ci := 13) G L (kx_X7_isThrown hl9 D (kx_D1 L) fb.1 (by rw [fb.2.1]; decide) (Or.inl rfl)) gc_RX7_110v fb.1 rfl rfl rfl (hml.trans hl.1.symm) ⟨Nat.le_of_ble_eq_true rfl, Nat.le_of_ble_eq_true rfl⟩ ⟨Nat.le_of_ble_eq_true rfl, Nat.le_of_ble_eq_true rfl⟩ (Nat.le_of_ble_eq_true rfl) dk_X7_hole_153 (fun _ _ _ _ _ h9 => h9.elim) (fun res w21 H locs hrv hq21 L => ?_)
          obtain ⟨rfl, fs21, t21, hT21, h021, h121⟩ := hq21
          have et21 : t21 = 0 := h021 rfl
          rw [et21] at hT21
          have hTc := hTb.tr hT21
          have hMc := hM.t hTc
          have fc := hMc.1
          refine lv_if_eq (tgt := 161) hx hb dk_X7_hole_156 (by decide) (fun _ => ?_) (fun c9 => absurd (by decide) c9)
          exact S161 _ _ _ _ hTc hgood hbg hlt c0 L ls (lv_sub hl [1, 2, 3, 4, 5, 6, 7] rfl)
      · skip
        have tc17 : ¬ (bg : Int32).toInt = (0 : Int32).toInt := fun h => c17 (Int32.toInt_inj.mp h)
        refine lv_iconst (v := 1) hx hb dk_X7_hole_137 (by decide) ?_
        refine lv_goto (tgt := 142) hx hb dk_X7_hole_138 (by decide) ?_
        refine lv_iconst (v := 2) hx hb dk_X7_hole_142 (by decide) ?_
        refine kx_cV (As := [.int 1, .int 2]) (rest := []) (q := 0) (ci := 13) G L (kx_X7_isThrown hl9 D (kx_D1 L) fzz.1 (by rw [fzz.2.1]; decide) (Or.inr rfl)) gc_RX7_110v fzz.1 rfl rfl rfl (hml.trans hl.1.symm) ⟨Nat.le_of_ble_eq_true rfl, Nat.le_of_ble_eq_true rfl⟩ ⟨Nat.le_of_ble_eq_true rfl, Nat.le_of_ble_eq_true rfl⟩ (Nat.le_of_ble_eq_true rfl) dk_X7_hole_143 (fun _ _ _ _ _ h9 => h9.elim) (fun res w22 H locs hrv hq22 L => ?_)
        obtain ⟨rfl, fs22, t22, hT22, h022, h122⟩ := hq22
        have et22 : t22 = 2 := h122 rfl
        rw [et22] at hT22
        have hTa := hTz.tr hT22
        have hMa := hM.t hTa
        have fa := hMa.1
        refine lv_if_ne (tgt := 159) hx hb dk_X7_hole_146 (by decide) (fun _ => ?_) (fun c9 => absurd c9 (by decide))
        refine lv_iconst (v := 0) hx hb dk_X7_hole_159 (by decide) ?_
        exact vx_ret (W.widen (Nat.le_of_ble_eq_true rfl) (Nat.le_of_ble_eq_true rfl) (W.iret (v := 0) hx hb hr (fun T9 hT9 _ => ⟨⟨0, w22, rfl, Or.inl ⟨rfl, _, _, hTa, Or.inr (Or.inl ⟨rfl, hgood, fun h => c17 h.1⟩)⟩, by rw [hT9]; exact L.1, L.2.1⟩, L.2.2.F hT9⟩) L.2.2.2.2 dk_X7_hole_160 hlocks))
  have S89 : ∀ (H : Heap) (locs : List Loc) (u v : Int32), ((u = 1 ∧ ∃ j, j < hc ∧ rr j 1 = a2) ∨ (u = 0 ∧ ∀ j, j < hc → ¬ rr j 1 = a2)) → ((v = 1 ∧ ((3 ≤ a1.toInt ∧ a1.toInt ≤ 5) ∧ (1 ≤ a2.toInt ∧ a2.toInt ≤ 9) ∧ en_ce a3 a4 ∧ en_ce a5 a6)) ∨ (v = 0 ∧ ¬ ((3 ≤ a1.toInt ∧ a1.toInt ≤ 5) ∧ (1 ≤ a2.toInt ∧ a2.toInt ≤ 9) ∧ en_ce a3 a4 ∧ en_ce a5 a6))) → kx_H D (va_A w s.heap.size) s w H locs → ∀ (ls : Array Slot), lv_has ls 11 [(8, .int u), (7, .int v), (0, .ref (sh.2 0)), (1, .int a1), (2, .int a2), (3, .int a3), (4, .int a4), (5, .int a5), (6, .int a6)] → W p l e (headSpec (Cond.code yX7_hole cX7_hole 11 (some .int) :: en_cw) (en_rm 2 (1, 7))).room s m ([.ref (sh.2 0), .int a1, .int a2, .int a3, .int a4, .int a5, .int a6] : List Value).toArray below meth c H locs (0) (0) (vx_MQ below (kx_Q 0 D (fun res w1 => (res = some (.int 0) ∧ ∃ (fs1 : List Value) (t : Int32), kx_T sh w w1 fs fs1 t ∧ ((t = 1 ∧ ¬ kx_hg a1 a2 a3 a4 a5 a6) ∨ (t = 2 ∧ kx_hg a1 a2 a3 a4 a5 a6 ∧ ¬ (bg = 0 ∧ hc < 9)) ∨ (t = 3 ∧ kx_hg a1 a2 a3 a4 a5 a6 ∧ (bg = 0 ∧ hc < 9) ∧ ∃ j, j < hc ∧ rr j 1 = a2))) ∨ (res = some (.int (nI hc)) ∧ kx_hg a1 a2 a3 a4 a5 a6 ∧ bg = 0 ∧ hc < 9 ∧ (∀ j, j < hc → ¬ rr j 1 = a2) ∧ ∃ (fs1 : List Value) (r9 : Nat) (cI : ClassId) (g9 : Nat → Int32), kx_M tys sh w1 fs1 (hc + 1) pc bg (kx_rw rr hc (kx_row a1 a2 a3 a4 a5 a6)) (kx_rw mk hc fun _ => 46) ∧ fs1[30]? = some (.int 0) ∧ (∀ j, j ≠ 16 → j ≠ 30 → fs1[j]? = fs[j]?) ∧ w1.length = w.length + 1 ∧ tys[0]? = some (cI, .int) ∧ w1[w.length]? = some (r9, .inl (cI, 7, .inl g9)) ∧ ∀ j, j < w.length → j ≠ 0 → j ≠ 2 + hc → j ≠ 28 + hc → w1[j]? = w[j]?)) (va_A w s.heap.size)) (kx_XC D w (fun _ => False) (va_A w s.heap.size)) ([.ref (sh.2 0), .int a1, .int a2, .int a3, .int a4, .int a5, .int a6] : List Value).toArray s 1 7 (va_A w s.heap.size)) (F0 m 89 ls []) := by
    intro H locs u v hu hv L ls hl
    rcases hv with ⟨rfl, hrg⟩ | ⟨rfl, hrg⟩
    · skip
      refine lv_aload_n hx hb dk_X7_hole_89 rfl (lv_at hl 2 rfl) ?_
      refine lv_iload hx hb dk_X7_hole_90 (lv_at hl 1 rfl) ?_
      refine lv_if_eq (tgt := 108) hx hb dk_X7_hole_92 (by decide) (fun c9 => absurd c9 (by decide)) (fun _ => ?_)
      refine lv_iload_n hx hb dk_X7_hole_95 rfl (lv_at hl 5 rfl) ?_
      refine lv_iload hx hb dk_X7_hole_96 (lv_at hl 7 rfl) ?_
      refine lv_icmp_ne (tgt := 112) hx hb dk_X7_hole_98 (by decide) (fun c23 => ?_) (fun c23 => ?_)
      · skip
        have tc23 : ¬ (a3 : Int32).toInt = (a5 : Int32).toInt := fun h => c23 (Int32.toInt_inj.mp h)
        refine lv_iconst (v := 0) hx hb dk_X7_hole_112 (by decide) ?_
        refine lv_iconst (v := 1) hx hb dk_X7_hole_113 (by decide) ?_
        refine kx_cV (As := [.int 0, .int 1]) (rest := []) (q := 0) (ci := 13) G L (kx_X7_isThrown hl9 D (kx_D1 L) fM.1 (by rw [fM.2.1]; decide) (Or.inl rfl)) gc_RX7_110v fM.1 rfl rfl rfl (hml.trans hl.1.symm) ⟨Nat.le_of_ble_eq_true rfl, Nat.le_of_ble_eq_true rfl⟩ ⟨Nat.le_of_ble_eq_true rfl, Nat.le_of_ble_eq_true rfl⟩ (Nat.le_of_ble_eq_true rfl) dk_X7_hole_114 (fun _ _ _ _ _ h9 => h9.elim) (fun res w24 H locs hrv hq24 L => ?_)
        obtain ⟨rfl, fs24, t24, hT24, h024, h124⟩ := hq24
        have et24 : t24 = 0 := h024 rfl
        rw [et24] at hT24
        have hTb := hT24
        have hMb := hM.t hTb
        have fb := hMb.1
        refine lv_if_ne (tgt := 159) hx hb dk_X7_hole_117 (by decide) (fun c9 => absurd (by decide) c9) (fun _ => ?_)
        exact S120 _ _ _ _ u hTb ⟨hrg.1, hrg.2.1, hrg.2.2.1, hrg.2.2.2, fun h => c23 h.1⟩ hu L ls (lv_sub hl [0, 2, 3, 4, 5, 6, 7, 8] rfl)
      · skip
        have tc23 : (a3 : Int32).toInt = (a5 : Int32).toInt := by rw [c23]
        refine lv_iload hx hb dk_X7_hole_101 (lv_at hl 6 rfl) ?_
        refine lv_iload hx hb dk_X7_hole_103 (lv_at hl 8 rfl) ?_
        refine lv_icmp_ne (tgt := 112) hx hb dk_X7_hole_105 (by decide) (fun c25 => ?_) (fun c25 => ?_)
        · skip
          have tc25 : ¬ (a4 : Int32).toInt = (a6 : Int32).toInt := fun h => c25 (Int32.toInt_inj.mp h)
          refine lv_iconst (v := 0) hx hb dk_X7_hole_112 (by decide) ?_
          refine lv_iconst (v := 1) hx hb dk_X7_hole_113 (by decide) ?_
          refine kx_cV (As := [.int 0, .int 1]) (rest := []) (q := 0) (ci := 13) G L (kx_X7_isThrown hl9 D (kx_D1 L) fM.1 (by rw [fM.2.1]; decide) (Or.inl rfl)) gc_RX7_110v fM.1 rfl rfl rfl (hml.trans hl.1.symm) ⟨Nat.le_of_ble_eq_true rfl, Nat.le_of_ble_eq_true rfl⟩ ⟨Nat.le_of_ble_eq_true rfl, Nat.le_of_ble_eq_true rfl⟩ (Nat.le_of_ble_eq_true rfl) dk_X7_hole_114 (fun _ _ _ _ _ h9 => h9.elim) (fun res w26 H locs hrv hq26 L => ?_)
          obtain ⟨rfl, fs26, t26, hT26, h026, h126⟩ := hq26
          have et26 : t26 = 0 := h026 rfl
          rw [et26] at hT26
          have hTb := hT26
          have hMb := hM.t hTb
          have fb := hMb.1
          refine lv_if_ne (tgt := 159) hx hb dk_X7_hole_117 (by decide) (fun c9 => absurd (by decide) c9) (fun _ => ?_)
          exact S120 _ _ _ _ u hTb ⟨hrg.1, hrg.2.1, hrg.2.2.1, hrg.2.2.2, fun h => c25 h.2⟩ hu L ls (lv_sub hl [0, 2, 3, 4, 5, 6, 7, 8] rfl)
        · skip
          have tc25 : (a4 : Int32).toInt = (a6 : Int32).toInt := by rw [c25]
          refine lv_iconst (v := 1) hx hb dk_X7_hole_108 (by decide) ?_
          refine lv_goto (tgt := 113) hx hb dk_X7_hole_109 (by decide) ?_
          refine lv_iconst (v := 1) hx hb dk_X7_hole_113 (by decide) ?_
          refine kx_cV (As := [.int 1, .int 1]) (rest := []) (q := 0) (ci := 13) G L (kx_X7_isThrown hl9 D (kx_D1 L) fM.1 (by rw [fM.2.1]; decide) (Or.inr rfl)) gc_RX7_110v fM.1 rfl rfl rfl (hml.trans hl.1.symm) ⟨Nat.le_of_ble_eq_true rfl, Nat.le_of_ble_eq_true rfl⟩ ⟨Nat.le_of_ble_eq_true rfl, Nat.le_of_ble_eq_true rfl⟩ (Nat.le_of_ble_eq_true rfl) dk_X7_hole_114 (fun _ _ _ _ _ h9 => h9.elim) (fun res w27 H locs hrv hq27 L => ?_)
          obtain ⟨rfl, fs27, t27, hT27, h027, h127⟩ := hq27
          have et27 : t27 = 1 := h127 rfl
          rw [et27] at hT27
          have hTa := hT27
          have hMa := hM.t hTa
          have fa := hMa.1
          refine lv_if_ne (tgt := 159) hx hb dk_X7_hole_117 (by decide) (fun _ => ?_) (fun c9 => absurd c9 (by decide))
          refine lv_iconst (v := 0) hx hb dk_X7_hole_159 (by decide) ?_
          exact vx_ret (W.widen (Nat.le_of_ble_eq_true rfl) (Nat.le_of_ble_eq_true rfl) (W.iret (v := 0) hx hb hr (fun T9 hT9 _ => ⟨⟨0, w27, rfl, Or.inl ⟨rfl, _, _, hTa, Or.inl ⟨rfl, fun h => h.2.2.2.2 ⟨c23, c25⟩⟩⟩, by rw [hT9]; exact L.1, L.2.1⟩, L.2.2.F hT9⟩) L.2.2.2.2 dk_X7_hole_160 hlocks))
    · skip
      refine lv_aload_n hx hb dk_X7_hole_89 rfl (lv_at hl 2 rfl) ?_
      refine lv_iload hx hb dk_X7_hole_90 (lv_at hl 1 rfl) ?_
      refine lv_if_eq (tgt := 108) hx hb dk_X7_hole_92 (by decide) (fun _ => ?_) (fun c9 => absurd (by decide) c9)
      refine lv_iconst (v := 1) hx hb dk_X7_hole_108 (by decide) ?_
      refine lv_goto (tgt := 113) hx hb dk_X7_hole_109 (by decide) ?_
      refine lv_iconst (v := 1) hx hb dk_X7_hole_113 (by decide) ?_
      refine kx_cV (As := [.int 1, .int 1]) (rest := []) (q := 0) (ci := 13) G L (kx_X7_isThrown hl9 D (kx_D1 L) fM.1 (by rw [fM.2.1]; decide) (Or.inr rfl)) gc_RX7_110v fM.1 rfl rfl rfl (hml.trans hl.1.symm) ⟨Nat.le_of_ble_eq_true rfl, Nat.le_of_ble_eq_true rfl⟩ ⟨Nat.le_of_ble_eq_true rfl, Nat.le_of_ble_eq_true rfl⟩ (Nat.le_of_ble_eq_true rfl) dk_X7_hole_114 (fun _ _ _ _ _ h9 => h9.elim) (fun res w28 H locs hrv hq28 L => ?_)
      obtain ⟨rfl, fs28, t28, hT28, h028, h128⟩ := hq28
      have et28 : t28 = 1 := h128 rfl
      rw [et28] at hT28
      have hTa := hT28
      have hMa := hM.t hTa
      have fa := hMa.1
      refine lv_if_ne (tgt := 159) hx hb dk_X7_hole_117 (by decide) (fun _ => ?_) (fun c9 => absurd c9 (by decide))
      refine lv_iconst (v := 0) hx hb dk_X7_hole_159 (by decide) ?_
      exact vx_ret (W.widen (Nat.le_of_ble_eq_true rfl) (Nat.le_of_ble_eq_true rfl) (W.iret (v := 0) hx hb hr (fun T9 hT9 _ => ⟨⟨0, w28, rfl, Or.inl ⟨rfl, _, _, hTa, Or.inl ⟨rfl, fun h => hrg ⟨h.1, h.2.1, h.2.2.1, h.2.2.2.1⟩⟩⟩, by rw [hT9]; exact L.1, L.2.1⟩, L.2.2.F hT9⟩) L.2.2.2.2 dk_X7_hole_160 hlocks))
  have loop : ∀ (d k : Nat), k + d = hc → ∀ (H : Heap) (locs : List Loc) (u v : Int32), ((u = 1 ∧ ∃ j, j < k ∧ rr j 1 = a2) ∨ (u = 0 ∧ ∀ j, j < k → ¬ rr j 1 = a2)) → ((v = 1 ∧ ((3 ≤ a1.toInt ∧ a1.toInt ≤ 5) ∧ (1 ≤ a2.toInt ∧ a2.toInt ≤ 9) ∧ en_ce a3 a4 ∧ en_ce a5 a6)) ∨ (v = 0 ∧ ¬ ((3 ≤ a1.toInt ∧ a1.toInt ≤ 5) ∧ (1 ≤ a2.toInt ∧ a2.toInt ≤ 9) ∧ en_ce a3 a4 ∧ en_ce a5 a6))) → kx_H D (va_A w s.heap.size) s w H locs → ∀ (ls : Array Slot), lv_has ls 11 [(9, .int (nI k)), (8, .int u), (7, .int v), (0, .ref (sh.2 0)), (1, .int a1), (2, .int a2), (3, .int a3), (4, .int a4), (5, .int a5), (6, .int a6)] → W p l e (headSpec (Cond.code yX7_hole cX7_hole 11 (some .int) :: en_cw) (en_rm 2 (1, 7))).room s m ([.ref (sh.2 0), .int a1, .int a2, .int a3, .int a4, .int a5, .int a6] : List Value).toArray below meth c H locs (0) (0) (vx_MQ below (kx_Q 0 D (fun res w1 => (res = some (.int 0) ∧ ∃ (fs1 : List Value) (t : Int32), kx_T sh w w1 fs fs1 t ∧ ((t = 1 ∧ ¬ kx_hg a1 a2 a3 a4 a5 a6) ∨ (t = 2 ∧ kx_hg a1 a2 a3 a4 a5 a6 ∧ ¬ (bg = 0 ∧ hc < 9)) ∨ (t = 3 ∧ kx_hg a1 a2 a3 a4 a5 a6 ∧ (bg = 0 ∧ hc < 9) ∧ ∃ j, j < hc ∧ rr j 1 = a2))) ∨ (res = some (.int (nI hc)) ∧ kx_hg a1 a2 a3 a4 a5 a6 ∧ bg = 0 ∧ hc < 9 ∧ (∀ j, j < hc → ¬ rr j 1 = a2) ∧ ∃ (fs1 : List Value) (r9 : Nat) (cI : ClassId) (g9 : Nat → Int32), kx_M tys sh w1 fs1 (hc + 1) pc bg (kx_rw rr hc (kx_row a1 a2 a3 a4 a5 a6)) (kx_rw mk hc fun _ => 46) ∧ fs1[30]? = some (.int 0) ∧ (∀ j, j ≠ 16 → j ≠ 30 → fs1[j]? = fs[j]?) ∧ w1.length = w.length + 1 ∧ tys[0]? = some (cI, .int) ∧ w1[w.length]? = some (r9, .inl (cI, 7, .inl g9)) ∧ ∀ j, j < w.length → j ≠ 0 → j ≠ 2 + hc → j ≠ 28 + hc → w1[j]? = w[j]?)) (va_A w s.heap.size)) (kx_XC D w (fun _ => False) (va_A w s.heap.size)) ([.ref (sh.2 0), .int a1, .int a2, .int a3, .int a4, .int a5, .int a6] : List Value).toArray s 1 7 (va_A w s.heap.size)) (F0 m 51 ls []) := by
    intro d
    induction d with
    | zero =>
      intro k hk H locs u v hu hv L ls hl
      refine lv_iload hx hb dk_X7_hole_51 (lv_at hl 0 rfl) ?_
      refine lv_aload_n hx hb dk_X7_hole_53 rfl (lv_at hl 3 rfl) ?_
      refine kx_get (v := .int (nI hc)) G L (en_FTX7_ok (86, 13, 16) (by decide)) fM.1 fM.2.2.2.2.1 dk_X7_hole_54 ?_
      have e9 : k = hc := by omega
      subst e9
      refine lv_icmp_ge (tgt := 89) hx hb dk_X7_hole_57 (by decide) (fun _ => ?_) (fun c9 => absurd (nI_le (Nat.le_refl k) (by omega)) c9)
      exact S89 H locs u v hu hv L ls (lv_sub hl [1, 2, 3, 4, 5, 6, 7, 8, 9] rfl)
    | succ d ih =>
      intro k hk H locs u v hu hv L ls hl
      refine lv_iload hx hb dk_X7_hole_51 (lv_at hl 0 rfl) ?_
      refine lv_aload_n hx hb dk_X7_hole_53 rfl (lv_at hl 3 rfl) ?_
      refine kx_get (v := .int (nI hc)) G L (en_FTX7_ok (86, 13, 16) (by decide)) fM.1 fM.2.2.2.2.1 dk_X7_hole_54 ?_
      refine lv_icmp_ge (tgt := 89) hx hb dk_X7_hole_57 (by decide) (fun c9 => absurd c9 (nI_ge (a := k) (b := hc) (by omega) (by omega))) (fun _ => ?_)
      refine lv_iload hx hb dk_X7_hole_60 (lv_at hl 1 rfl) ?_
      refine lv_aload_n hx hb dk_X7_hole_62 rfl (lv_at hl 3 rfl) ?_
      refine kx_get (v := .ref (sh.2 1)) G L (en_FTX7_ok (11, 13, 0) (by decide)) fM.1 fM.2.2.1 dk_X7_hole_63 ?_
      refine lv_iload hx hb dk_X7_hole_66 (lv_at hl 0 rfl) ?_
      refine kx_aaldA G L hw1 ht5 (show k < 9 by omega) (by decide) (hf1 k (by omega)) dk_X7_hole_68 ?_
      refine lv_iconst (v := 1) hx hb dk_X7_hole_69 (by decide) ?_
      obtain ⟨cI8, gr, x1, hwr, x3⟩ := hM.2.2.2.1 k (by omega)
      refine kx_iald (k := 1) G L hwr x1 (by decide) (by decide) dk_X7_hole_70 ?_
      have hgk := x3 1 (by decide)
      refine lv_iload_n hx hb dk_X7_hole_71 rfl (lv_at hl 5 rfl) ?_
      refine lv_icmp_ne (tgt := 79) hx hb dk_X7_hole_72 (by decide) (fun c29 => ?_) (fun c29 => ?_)
      · skip
        have tc29 : ¬ ((gr 1) : Int32).toInt = (a2 : Int32).toInt := fun h => c29 (Int32.toInt_inj.mp h)
        refine lv_iconst (v := 0) hx hb dk_X7_hole_79 (by decide) ?_
        rcases hu with ⟨rfl, c0⟩ | ⟨rfl, c0⟩
        · skip
          refine lv_ior hx hb dk_X7_hole_80 ?_
          refine lv_topi (fun y30 ey30 => ?_)
          obtain rfl : y30 = 1 := ey30.trans (by decide)
          refine lv_istore (lv' := [(8, .int 1), (9, .int (nI k)), (7, .int v), (0, .ref (sh.2 0)), (1, .int a1), (2, .int a2), (3, .int a3), (4, .int a4), (5, .int a5), (6, .int a6)]) hx hb dk_X7_hole_81 hl (by decide) rfl (fun ls hl => ?_)
          refine lv_iinc (v := (nI (k + 1))) (lv' := [(9, .int (nI (k + 1))), (8, .int 1), (7, .int v), (0, .ref (sh.2 0)), (1, .int a1), (2, .int a2), (3, .int a3), (4, .int a4), (5, .int a5), (6, .int a6)]) hx hb dk_X7_hole_83 hl (k := 1) rfl (kx_inc (by omega)) (by decide) rfl (fun ls hl => ?_)
          refine lv_goto (tgt := 51) hx hb dk_X7_hole_86 (by decide) ?_
          exact ih (k + 1) (by omega) H locs _ v (Or.inl ⟨rfl, by obtain ⟨j, h1, h2⟩ := c0; exact ⟨j, by omega, h2⟩⟩) hv L ls (lv_sub hl [0, 1, 2, 3, 4, 5, 6, 7, 8, 9] rfl)
        · skip
          refine lv_ior hx hb dk_X7_hole_80 ?_
          refine lv_topi (fun y31 ey31 => ?_)
          obtain rfl : y31 = 0 := ey31.trans (by decide)
          refine lv_istore (lv' := [(8, .int 0), (9, .int (nI k)), (7, .int v), (0, .ref (sh.2 0)), (1, .int a1), (2, .int a2), (3, .int a3), (4, .int a4), (5, .int a5), (6, .int a6)]) hx hb dk_X7_hole_81 hl (by decide) rfl (fun ls hl => ?_)
          refine lv_iinc (v := (nI (k + 1))) (lv' := [(9, .int (nI (k + 1))), (8, .int 0), (7, .int v), (0, .ref (sh.2 0)), (1, .int a1), (2, .int a2), (3, .int a3), (4, .int a4), (5, .int a5), (6, .int a6)]) hx hb dk_X7_hole_83 hl (k := 1) rfl (kx_inc (by omega)) (by decide) rfl (fun ls hl => ?_)
          refine lv_goto (tgt := 51) hx hb dk_X7_hole_86 (by decide) ?_
          exact ih (k + 1) (by omega) H locs _ v (Or.inr ⟨rfl, fun j h => by rcases Nat.lt_or_ge j k with h1 | h1; exact c0 j h1; rw [show j = k by omega, ← hgk]; exact c29⟩) hv L ls (lv_sub hl [0, 1, 2, 3, 4, 5, 6, 7, 8, 9] rfl)
      · skip
        have tc29 : ((gr 1) : Int32).toInt = (a2 : Int32).toInt := by rw [c29]
        refine lv_iconst (v := 1) hx hb dk_X7_hole_75 (by decide) ?_
        refine lv_goto (tgt := 80) hx hb dk_X7_hole_76 (by decide) ?_
        rcases hu with ⟨rfl, c0⟩ | ⟨rfl, c0⟩
        · skip
          refine lv_ior hx hb dk_X7_hole_80 ?_
          refine lv_topi (fun y32 ey32 => ?_)
          obtain rfl : y32 = 1 := ey32.trans (by decide)
          refine lv_istore (lv' := [(8, .int 1), (9, .int (nI k)), (7, .int v), (0, .ref (sh.2 0)), (1, .int a1), (2, .int a2), (3, .int a3), (4, .int a4), (5, .int a5), (6, .int a6)]) hx hb dk_X7_hole_81 hl (by decide) rfl (fun ls hl => ?_)
          refine lv_iinc (v := (nI (k + 1))) (lv' := [(9, .int (nI (k + 1))), (8, .int 1), (7, .int v), (0, .ref (sh.2 0)), (1, .int a1), (2, .int a2), (3, .int a3), (4, .int a4), (5, .int a5), (6, .int a6)]) hx hb dk_X7_hole_83 hl (k := 1) rfl (kx_inc (by omega)) (by decide) rfl (fun ls hl => ?_)
          refine lv_goto (tgt := 51) hx hb dk_X7_hole_86 (by decide) ?_
          exact ih (k + 1) (by omega) H locs _ v (Or.inl ⟨rfl, k, by omega, by rw [← hgk]; exact c29⟩) hv L ls (lv_sub hl [0, 1, 2, 3, 4, 5, 6, 7, 8, 9] rfl)
        · skip
          refine lv_ior hx hb dk_X7_hole_80 ?_
          refine lv_topi (fun y33 ey33 => ?_)
          obtain rfl : y33 = 1 := ey33.trans (by decide)
          refine lv_istore (lv' := [(8, .int 1), (9, .int (nI k)), (7, .int v), (0, .ref (sh.2 0)), (1, .int a1), (2, .int a2), (3, .int a3), (4, .int a4), (5, .int a5), (6, .int a6)]) hx hb dk_X7_hole_81 hl (by decide) rfl (fun ls hl => ?_)
          refine lv_iinc (v := (nI (k + 1))) (lv' := [(9, .int (nI (k + 1))), (8, .int 1), (7, .int v), (0, .ref (sh.2 0)), (1, .int a1), (2, .int a2), (3, .int a3), (4, .int a4), (5, .int a5), (6, .int a6)]) hx hb dk_X7_hole_83 hl (k := 1) rfl (kx_inc (by omega)) (by decide) rfl (fun ls hl => ?_)
          refine lv_goto (tgt := 51) hx hb dk_X7_hole_86 (by decide) ?_
          exact ih (k + 1) (by omega) H locs _ v (Or.inl ⟨rfl, k, by omega, by rw [← hgk]; exact c29⟩) hv L ls (lv_sub hl [0, 1, 2, 3, 4, 5, 6, 7, 8, 9] rfl)
  have S43 : ∀ (H : Heap) (locs : List Loc) (v : Int32), ((v = 1 ∧ ((3 ≤ a1.toInt ∧ a1.toInt ≤ 5) ∧ (1 ≤ a2.toInt ∧ a2.toInt ≤ 9) ∧ en_ce a3 a4 ∧ en_ce a5 a6)) ∨ (v = 0 ∧ ¬ ((3 ≤ a1.toInt ∧ a1.toInt ≤ 5) ∧ (1 ≤ a2.toInt ∧ a2.toInt ≤ 9) ∧ en_ce a3 a4 ∧ en_ce a5 a6))) → kx_H D (va_A w s.heap.size) s w H locs → ∀ (ls : Array Slot), lv_has ls 11 [(0, .ref (sh.2 0)), (1, .int a1), (2, .int a2), (3, .int a3), (4, .int a4), (5, .int a5), (6, .int a6)] → W p l e (headSpec (Cond.code yX7_hole cX7_hole 11 (some .int) :: en_cw) (en_rm 2 (1, 7))).room s m ([.ref (sh.2 0), .int a1, .int a2, .int a3, .int a4, .int a5, .int a6] : List Value).toArray below meth c H locs (0) (0) (vx_MQ below (kx_Q 0 D (fun res w1 => (res = some (.int 0) ∧ ∃ (fs1 : List Value) (t : Int32), kx_T sh w w1 fs fs1 t ∧ ((t = 1 ∧ ¬ kx_hg a1 a2 a3 a4 a5 a6) ∨ (t = 2 ∧ kx_hg a1 a2 a3 a4 a5 a6 ∧ ¬ (bg = 0 ∧ hc < 9)) ∨ (t = 3 ∧ kx_hg a1 a2 a3 a4 a5 a6 ∧ (bg = 0 ∧ hc < 9) ∧ ∃ j, j < hc ∧ rr j 1 = a2))) ∨ (res = some (.int (nI hc)) ∧ kx_hg a1 a2 a3 a4 a5 a6 ∧ bg = 0 ∧ hc < 9 ∧ (∀ j, j < hc → ¬ rr j 1 = a2) ∧ ∃ (fs1 : List Value) (r9 : Nat) (cI : ClassId) (g9 : Nat → Int32), kx_M tys sh w1 fs1 (hc + 1) pc bg (kx_rw rr hc (kx_row a1 a2 a3 a4 a5 a6)) (kx_rw mk hc fun _ => 46) ∧ fs1[30]? = some (.int 0) ∧ (∀ j, j ≠ 16 → j ≠ 30 → fs1[j]? = fs[j]?) ∧ w1.length = w.length + 1 ∧ tys[0]? = some (cI, .int) ∧ w1[w.length]? = some (r9, .inl (cI, 7, .inl g9)) ∧ ∀ j, j < w.length → j ≠ 0 → j ≠ 2 + hc → j ≠ 28 + hc → w1[j]? = w[j]?)) (va_A w s.heap.size)) (kx_XC D w (fun _ => False) (va_A w s.heap.size)) ([.ref (sh.2 0), .int a1, .int a2, .int a3, .int a4, .int a5, .int a6] : List Value).toArray s 1 7 (va_A w s.heap.size)) (F0 m 43 ls [.int v]) := by
    intro H locs v hv L ls hl
    refine lv_istore (lv' := [(7, .int v), (0, .ref (sh.2 0)), (1, .int a1), (2, .int a2), (3, .int a3), (4, .int a4), (5, .int a5), (6, .int a6)]) hx hb dk_X7_hole_43 hl (by decide) rfl (fun ls hl => ?_)
    refine lv_iconst (v := 0) hx hb dk_X7_hole_45 (by decide) ?_
    refine lv_istore (lv' := [(8, .int 0), (7, .int v), (0, .ref (sh.2 0)), (1, .int a1), (2, .int a2), (3, .int a3), (4, .int a4), (5, .int a5), (6, .int a6)]) hx hb dk_X7_hole_46 hl (by decide) rfl (fun ls hl => ?_)
    refine lv_iconst (v := 0) hx hb dk_X7_hole_48 (by decide) ?_
    refine lv_istore (lv' := [(9, .int 0), (8, .int 0), (7, .int v), (0, .ref (sh.2 0)), (1, .int a1), (2, .int a2), (3, .int a3), (4, .int a4), (5, .int a5), (6, .int a6)]) hx hb dk_X7_hole_49 hl (by decide) rfl (fun ls hl => ?_)
    exact loop hc 0 (by omega) H locs 0 v (Or.inr ⟨rfl, fun j h => absurd h (Nat.not_lt_zero j)⟩) hv L ls (lv_sub hl [0, 1, 2, 3, 4, 5, 6, 7, 8, 9] rfl)
  have k34 : (0 : Int32).toInt = 0 := by decide
  have k35 : (1 : Int32).toInt = 1 := by decide
  have k36 : (3 : Int32).toInt = 3 := by decide
  have k37 : (5 : Int32).toInt = 5 := by decide
  have k38 : (9 : Int32).toInt = 9 := by decide
  refine lv_iload_n hx hb dk_X7_hole_0 rfl (lv_at hl 1 rfl) ?_
  refine lv_iconst (v := 3) hx hb dk_X7_hole_1 (by decide) ?_
  refine lv_iconst (v := 5) hx hb dk_X7_hole_2 (by decide) ?_
  refine kx_cS (As := [.int a1, .int 3, .int 5]) (rest := []) G L (kx_X7_isIn hl9 D (kx_D1 L)) gc_RX7_82s rfl (hml.trans hl.1.symm) ⟨Nat.le_of_ble_eq_true rfl, Nat.le_of_ble_eq_true rfl⟩ ⟨Nat.le_of_ble_eq_true rfl, Nat.le_of_ble_eq_true rfl⟩ (Nat.le_of_ble_eq_true rfl) dk_X7_hole_3 (fun _ _ _ _ _ h9 => h9.elim) (fun res w39 H locs hrv hq39 L => ?_)
  obtain ⟨ew39, hq39⟩ := hq39
  have ew39 := ew39.symm
  subst ew39
  rcases hq39 with ⟨rfl, c1⟩ | ⟨rfl, c1⟩
  · skip
    refine lv_if_eq (tgt := 42) hx hb dk_X7_hole_6 (by decide) (fun c9 => absurd c9 (by decide)) (fun _ => ?_)
    refine lv_iload_n hx hb dk_X7_hole_9 rfl (lv_at hl 2 rfl) ?_
    refine lv_iconst (v := 1) hx hb dk_X7_hole_10 (by decide) ?_
    refine lv_bipush (v := 9) hx hb dk_X7_hole_11 (by decide) ?_
    refine kx_cS (As := [.int a2, .int 1, .int 9]) (rest := []) G L (kx_X7_isIn hl9 D (kx_D1 L)) gc_RX7_82s rfl (hml.trans hl.1.symm) ⟨Nat.le_of_ble_eq_true rfl, Nat.le_of_ble_eq_true rfl⟩ ⟨Nat.le_of_ble_eq_true rfl, Nat.le_of_ble_eq_true rfl⟩ (Nat.le_of_ble_eq_true rfl) dk_X7_hole_13 (fun _ _ _ _ _ h9 => h9.elim) (fun res w40 H locs hrv hq40 L => ?_)
    obtain ⟨ew40, hq40⟩ := hq40
    have ew40 := ew40.symm
    subst ew40
    rcases hq40 with ⟨rfl, c2⟩ | ⟨rfl, c2⟩
    · skip
      refine lv_if_eq (tgt := 42) hx hb dk_X7_hole_16 (by decide) (fun c9 => absurd c9 (by decide)) (fun _ => ?_)
      refine lv_iload_n hx hb dk_X7_hole_19 rfl (lv_at hl 3 rfl) ?_
      refine lv_iload hx hb dk_X7_hole_20 (lv_at hl 4 rfl) ?_
      refine kx_cS (As := [.int a3, .int a4]) (rest := []) G L (kx_X7_isCell hl9 D (kx_D1 L)) gc_RX7_106s rfl (hml.trans hl.1.symm) ⟨Nat.le_of_ble_eq_true rfl, Nat.le_of_ble_eq_true rfl⟩ ⟨Nat.le_of_ble_eq_true rfl, Nat.le_of_ble_eq_true rfl⟩ (Nat.le_of_ble_eq_true rfl) dk_X7_hole_22 (fun _ _ _ _ _ h9 => h9.elim) (fun res w41 H locs hrv hq41 L => ?_)
      obtain ⟨ew41, hq41⟩ := hq41
      have ew41 := ew41.symm
      subst ew41
      rcases hq41 with ⟨rfl, c3⟩ | ⟨rfl, c3⟩
      · skip
        refine lv_if_eq (tgt := 42) hx hb dk_X7_hole_25 (by decide) (fun c9 => absurd c9 (by decide)) (fun _ => ?_)
        refine lv_iload hx hb dk_X7_hole_28 (lv_at hl 5 rfl) ?_
        refine lv_iload hx hb dk_X7_hole_30 (lv_at hl 6 rfl) ?_
        refine kx_cS (As := [.int a5, .int a6]) (rest := []) G L (kx_X7_isCell hl9 D (kx_D1 L)) gc_RX7_106s rfl (hml.trans hl.1.symm) ⟨Nat.le_of_ble_eq_true rfl, Nat.le_of_ble_eq_true rfl⟩ ⟨Nat.le_of_ble_eq_true rfl, Nat.le_of_ble_eq_true rfl⟩ (Nat.le_of_ble_eq_true rfl) dk_X7_hole_32 (fun _ _ _ _ _ h9 => h9.elim) (fun res w42 H locs hrv hq42 L => ?_)
        obtain ⟨ew42, hq42⟩ := hq42
        have ew42 := ew42.symm
        subst ew42
        rcases hq42 with ⟨rfl, c4⟩ | ⟨rfl, c4⟩
        · skip
          refine lv_if_eq (tgt := 42) hx hb dk_X7_hole_35 (by decide) (fun c9 => absurd c9 (by decide)) (fun _ => ?_)
          refine lv_iconst (v := 1) hx hb dk_X7_hole_38 (by decide) ?_
          refine lv_goto (tgt := 43) hx hb dk_X7_hole_39 (by decide) ?_
          exact S43 _ _ 1 (Or.inl ⟨rfl, ⟨by omega, by omega⟩, ⟨by omega, by omega⟩, c3, c4⟩) L ls (lv_sub hl [0, 1, 2, 3, 4, 5, 6] rfl)
        · skip
          refine lv_if_eq (tgt := 42) hx hb dk_X7_hole_35 (by decide) (fun _ => ?_) (fun c9 => absurd (by decide) c9)
          refine lv_iconst (v := 0) hx hb dk_X7_hole_42 (by decide) ?_
          exact S43 _ _ 0 (Or.inr ⟨rfl, fun h => by obtain ⟨h1, h2, h3, h4⟩ := h; exact c4 h4⟩) L ls (lv_sub hl [0, 1, 2, 3, 4, 5, 6] rfl)
      · skip
        refine lv_if_eq (tgt := 42) hx hb dk_X7_hole_25 (by decide) (fun _ => ?_) (fun c9 => absurd (by decide) c9)
        refine lv_iconst (v := 0) hx hb dk_X7_hole_42 (by decide) ?_
        exact S43 _ _ 0 (Or.inr ⟨rfl, fun h => by obtain ⟨h1, h2, h3, h4⟩ := h; exact c3 h3⟩) L ls (lv_sub hl [0, 1, 2, 3, 4, 5, 6] rfl)
    · skip
      refine lv_if_eq (tgt := 42) hx hb dk_X7_hole_16 (by decide) (fun _ => ?_) (fun c9 => absurd (by decide) c9)
      refine lv_iconst (v := 0) hx hb dk_X7_hole_42 (by decide) ?_
      exact S43 _ _ 0 (Or.inr ⟨rfl, fun h => by obtain ⟨h1, h2, h3, h4⟩ := h; omega⟩) L ls (lv_sub hl [0, 1, 2, 3, 4, 5, 6] rfl)
  · skip
    refine lv_if_eq (tgt := 42) hx hb dk_X7_hole_6 (by decide) (fun _ => ?_) (fun c9 => absurd (by decide) c9)
    refine lv_iconst (v := 0) hx hb dk_X7_hole_42 (by decide) ?_
    exact S43 _ _ 0 (Or.inr ⟨rfl, fun h => by obtain ⟨h1, h2, h3, h4⟩ := h; omega⟩) L ls (lv_sub hl [0, 1, 2, 3, 4, 5, 6] rfl)
set_option maxHeartbeats 4000000 in
theorem kx_X7_area {l : Launch} (hl9 : l.stackTraces = false) (D : va_G) {tys : List (ClassId × FieldType)} {sh : en_H} {w : va_W} {sz : Nat} (hD0 : va_D (va_A w sz) w) {fs : List Value} {hc pc : Nat} {bg : Int32} {rr mk : Nat → Nat → Int32} {a1 a2 a3 a4 a5 a6 : Int32} (hM : kx_M tys sh w fs hc pc bg rr mk) (hk1 : 0 ≤ a2.toInt) (hk2 : a2.toInt ≤ 65535) : kx_C l yX7_area cX7_area 10 (some .int) 2 1 9 0 [.ref (sh.2 0), .int a1, .int a2, .int a3, .int a4, .int a5, .int a6] D tys w sz (fun res w1 => (res = some (.int 0) ∧ (∃ (r9 : Nat) (cX : ClassId) (g9 : Nat → Int32), w1.length = w.length + 1 ∧ tys[1]? = some (cX, .char) ∧ w1[w.length]? = some (r9, .inl (cX, 9, .inl g9)) ∧ (∀ j, j < 9 → g9 j = kx_lit j)) ∧ ∃ (fs1 : List Value) (t : Int32), (w1[0]? = some (sh.2 0, .inr (13, fs1)) ∧ fs1.length = fs.length ∧ fs1[30]? = some (.int t) ∧ (∀ j, j ≠ 30 → fs1[j]? = fs[j]?) ∧ ∀ j, j < w.length → j ≠ 0 → w1[j]? = w[j]?) ∧ ((t = 1 ∧ ¬ (0 ≤ a1.toInt ∧ a1.toInt < (hc : Int))) ∨ (t = 2 ∧ (0 ≤ a1.toInt ∧ a1.toInt < (hc : Int)) ∧ ¬ kx_ag a2 a3 a4 a5 a6) ∨ (t = 3 ∧ (0 ≤ a1.toInt ∧ a1.toInt < (hc : Int)) ∧ kx_ag a2 a3 a4 a5 a6 ∧ ¬ (bg = 0 ∧ ¬ rr a1.toInt.toNat 6 = 12)))) ∨ (res = some (.int (rr a1.toInt.toNat 6 + 1)) ∧ (∃ (r9 : Nat) (cX : ClassId) (g9 : Nat → Int32), w1.length = w.length + 1 ∧ tys[1]? = some (cX, .char) ∧ w1[w.length]? = some (r9, .inl (cX, 9, .inl g9)) ∧ (∀ j, j < 9 → g9 j = kx_lit j)) ∧ (0 ≤ a1.toInt ∧ a1.toInt < (hc : Int)) ∧ kx_ag a2 a3 a4 a5 a6 ∧ (bg = 0 ∧ ¬ rr a1.toInt.toNat 6 = 12) ∧ ∃ fs1 : List Value, kx_M tys sh w1 fs1 hc pc bg (kx_ra rr a1.toInt.toNat) (kx_ck mk a1.toInt.toNat a2 a3 a4 a5 a6) ∧ fs1[30]? = some (.int 0) ∧ (∀ j, j ≠ 30 → fs1[j]? = fs[j]?) ∧ ∀ j, j < w.length → j ≠ 0 → j ≠ 2 + a1.toInt.toNat → j ≠ 28 + a1.toInt.toNat → w1[j]? = w[j]?)) (fun _ => False) := by
  refine vx_ofW (cc := cX7_area) (maxL := 10) (ret := (some .int)) (by decide +kernel) rfl ?_
  intro p e s m args below meth c s₁ B9 hml hne hv
  obtain ⟨rfl, hsz, hP, hK, hT⟩ := hv
  subst hsz
  have hx := B9.exec
  have hb := B9.bytes
  have hr := B9.returns
  have hlocks := B9.notSynchronized
  have hts0 := atoms_spec (ws := Cond.code yX7_area cX7_area 10 (some .int) :: en_cw) B9.pre
  have hts : ∀ z ∈ en_cw, z.before _ s = true := fun z hz => hts0 z (List.mem_cons_of_mem _ hz)
  have hown : s.vm.findClass RX7 = some m.cls := findClass_of_methodNamed B9.named
  have G : kx_G p s m ([.ref (sh.2 0), .int a1, .int a2, .int a3, .int a4, .int a5, .int a6] : List Value).toArray c cX7_area RX7 D tys (va_A w s.heap.size) := ⟨hx, hb, hts, hown, hK, hT, fun q h => Or.inr h⟩
  have L : kx_H D (va_A w s.heap.size) s w s.heap [] := ⟨hP, ⟨hD0.1, fun j z hz => Or.inl ⟨j, z.2, hz⟩⟩, va_S.rf⟩
  have hl := lv_entry ([.ref (sh.2 0), .int a1, .int a2, .int a3, .int a4, .int a5, .int a6] : List Value) (n := 10) (Nat.le_of_ble_eq_true rfl)
  rw [lg_entry_eq]
  generalize (lg_sl ([.ref (sh.2 0), .int a1, .int a2, .int a3, .int a4, .int a5, .int a6] : List Value) ++ List.replicate (10 - (lg_sl ([.ref (sh.2 0), .int a1, .int a2, .int a3, .int a4, .int a5, .int a6] : List Value)).length) Slot.unset).toArray = ls at hl ⊢
  have hl : lv_has ls 10 [(0, .ref (sh.2 0)), (1, .int a1), (2, .int a2), (3, .int a3), (4, .int a4), (5, .int a5), (6, .int a6)] := hl
  obtain ⟨cX, htX⟩ : ∃ cX, tys[1]? = some (cX, .char) := by obtain ⟨cX, g, h9, -⟩ := hM.2.2.2.2 0 (by decide); exact ⟨cX, h9⟩
  have hwl : 37 ≤ w.length := by obtain ⟨cX, g, -, h9, -⟩ := hM.2.2.2.2 8 (by decide); exact (List.getElem?_eq_some_iff.mp h9).1
  refine lv_iload_n hx hb dk_X7_area_0 rfl (lv_at hl 2 rfl) ?_
  refine kx_cS (As := [.int a2]) (rest := []) G L (kx_X7_isKind hl9 D (kx_D1 L) htX) gc_RX7_124s rfl (hml.trans hl.1.symm) ⟨Nat.le_of_ble_eq_true rfl, Nat.le_of_ble_eq_true rfl⟩ ⟨Nat.le_of_ble_eq_true rfl, Nat.le_of_ble_eq_true rfl⟩ (Nat.le_of_ble_eq_true rfl) dk_X7_area_1 (fun _ _ _ _ _ h9 => h9.elim) (fun res w1 H locs hrv hq1 L => ?_)
  obtain ⟨hK9, r9, g9, nk, ok, rk, hg9⟩ := hq1
  have hMk : kx_M tys sh w1 fs hc pc bg rr mk := hM.of (fun j hj => ok j (by omega))
  have fk := hMk.1
  have hc9 : hc ≤ 9 := fk.2.2.2.2.2.2.2.1
  obtain ⟨cR, fC, ht5, hw1, hf1⟩ := hMk.2.1
  obtain ⟨cR2, fK, ht6, hw27, hf27⟩ := hMk.2.2.1
  have S113 : ∀ (wz : va_W) (fz : List Value) (H : Heap) (locs : List Loc), kx_T sh w1 wz fs fz 0 → (0 ≤ a1.toInt ∧ a1.toInt < (hc : Int)) → kx_ag a2 a3 a4 a5 a6 → (bg = 0 ∧ ¬ rr a1.toInt.toNat 6 = 12) → kx_H D (va_A w s.heap.size) s wz H locs → ∀ (ls : Array Slot), lv_has ls 10 [(0, .ref (sh.2 0)), (1, .int a1), (2, .int a2), (3, .int a3), (4, .int a4), (5, .int a5), (6, .int a6)] → W p l e (headSpec (Cond.code yX7_area cX7_area 10 (some .int) :: en_cw) (en_rm 2 (1, 9))).room s m ([.ref (sh.2 0), .int a1, .int a2, .int a3, .int a4, .int a5, .int a6] : List Value).toArray below meth c H locs (1) (9) (vx_MQ below (kx_Q 0 D (fun res w1 => (res = some (.int 0) ∧ (∃ (r9 : Nat) (cX : ClassId) (g9 : Nat → Int32), w1.length = w.length + 1 ∧ tys[1]? = some (cX, .char) ∧ w1[w.length]? = some (r9, .inl (cX, 9, .inl g9)) ∧ (∀ j, j < 9 → g9 j = kx_lit j)) ∧ ∃ (fs1 : List Value) (t : Int32), (w1[0]? = some (sh.2 0, .inr (13, fs1)) ∧ fs1.length = fs.length ∧ fs1[30]? = some (.int t) ∧ (∀ j, j ≠ 30 → fs1[j]? = fs[j]?) ∧ ∀ j, j < w.length → j ≠ 0 → w1[j]? = w[j]?) ∧ ((t = 1 ∧ ¬ (0 ≤ a1.toInt ∧ a1.toInt < (hc : Int))) ∨ (t = 2 ∧ (0 ≤ a1.toInt ∧ a1.toInt < (hc : Int)) ∧ ¬ kx_ag a2 a3 a4 a5 a6) ∨ (t = 3 ∧ (0 ≤ a1.toInt ∧ a1.toInt < (hc : Int)) ∧ kx_ag a2 a3 a4 a5 a6 ∧ ¬ (bg = 0 ∧ ¬ rr a1.toInt.toNat 6 = 12)))) ∨ (res = some (.int (rr a1.toInt.toNat 6 + 1)) ∧ (∃ (r9 : Nat) (cX : ClassId) (g9 : Nat → Int32), w1.length = w.length + 1 ∧ tys[1]? = some (cX, .char) ∧ w1[w.length]? = some (r9, .inl (cX, 9, .inl g9)) ∧ (∀ j, j < 9 → g9 j = kx_lit j)) ∧ (0 ≤ a1.toInt ∧ a1.toInt < (hc : Int)) ∧ kx_ag a2 a3 a4 a5 a6 ∧ (bg = 0 ∧ ¬ rr a1.toInt.toNat 6 = 12) ∧ ∃ fs1 : List Value, kx_M tys sh w1 fs1 hc pc bg (kx_ra rr a1.toInt.toNat) (kx_ck mk a1.toInt.toNat a2 a3 a4 a5 a6) ∧ fs1[30]? = some (.int 0) ∧ (∀ j, j ≠ 30 → fs1[j]? = fs[j]?) ∧ ∀ j, j < w.length → j ≠ 0 → j ≠ 2 + a1.toInt.toNat → j ≠ 28 + a1.toInt.toNat → w1[j]? = w[j]?)) (va_A w s.heap.size)) (kx_XC D w (fun _ => False) (va_A w s.heap.size)) ([.ref (sh.2 0), .int a1, .int a2, .int a3, .int a4, .int a5, .int a6] : List Value).toArray s 1 9 (va_A w s.heap.size)) (F0 m 113 ls []) := by
    intro wz fz H locs hTz hin hgood hfree L ls hl
    obtain ⟨h, eh⟩ : ∃ h : Nat, h = a1.toInt.toNat := ⟨_, rfl⟩
    have hh : h < 9 := by have := hin.1; have := hin.2; omega
    have ea : a1 = nI h := by rw [eh]; exact kx_cN hin.1
    rw [← eh] at hfree
    obtain ⟨g1, g2, g3, g4, g5⟩ := id hgood
    obtain ⟨u1, u2, u3, u4⟩ := id g2
    obtain ⟨v1, v2, v3, v4⟩ := id g3
    obtain ⟨lx, elx⟩ : ∃ q : Nat, q = a3.toInt.toNat := ⟨_, rfl⟩
    have ea3 : a3 = nI lx := by rw [elx]; exact kx_cN u1
    obtain ⟨lo, elo⟩ : ∃ q : Nat, q = a4.toInt.toNat := ⟨_, rfl⟩
    have ea4 : a4 = nI lo := by rw [elo]; exact kx_cN u3
    obtain ⟨r, er⟩ : ∃ q : Nat, q = a5.toInt.toNat := ⟨_, rfl⟩
    have ea5 : a5 = nI r := by rw [er]; exact kx_cN v1
    obtain ⟨hi, ehi⟩ : ∃ q : Nat, q = a6.toInt.toNat := ⟨_, rfl⟩
    have ea6 : a6 = nI hi := by rw [ehi]; exact kx_cN v3
    obtain ⟨cX8, gk, htX8, hwk, hk9⟩ := hMk.2.2.2.2 h hh
    have hob : ∀ j, j ≠ 0 → wz[j]? = w1[j]? := hTz.2.2.2.2.2
    have inner : ∀ (d x y : Nat), x + d = r + 1 → lx ≤ x → lo ≤ y → y ≤ hi → (∀ (wq : va_W) (H : Heap) (locs : List Loc) (gq : Nat → Int32), wq[28 + h]? = some (sh.2 (28 + h), .inl (cX8, 600, .inl gq)) → wq.length = w1.length → (∀ j, j ≠ 28 + h → wq[j]? = wz[j]?) → (∀ i, i < 600 → gq i = kx_pp (mk h) a2 lx lo r y (r + 1) i) → kx_H D (va_A w s.heap.size) s wq H locs → ∀ (ls : Array Slot), lv_has ls 10 [(8, .int (nI y)), (0, .ref (sh.2 0)), (1, .int a1), (2, .int a2), (3, .int a3), (4, .int a4), (5, .int a5), (6, .int a6)] → W p l e (headSpec (Cond.code yX7_area cX7_area 10 (some .int) :: en_cw) (en_rm 2 (1, 9))).room s m ([.ref (sh.2 0), .int a1, .int a2, .int a3, .int a4, .int a5, .int a6] : List Value).toArray below meth c H locs (1) (9) (vx_MQ below (kx_Q 0 D (fun res w1 => (res = some (.int 0) ∧ (∃ (r9 : Nat) (cX : ClassId) (g9 : Nat → Int32), w1.length = w.length + 1 ∧ tys[1]? = some (cX, .char) ∧ w1[w.length]? = some (r9, .inl (cX, 9, .inl g9)) ∧ (∀ j, j < 9 → g9 j = kx_lit j)) ∧ ∃ (fs1 : List Value) (t : Int32), (w1[0]? = some (sh.2 0, .inr (13, fs1)) ∧ fs1.length = fs.length ∧ fs1[30]? = some (.int t) ∧ (∀ j, j ≠ 30 → fs1[j]? = fs[j]?) ∧ ∀ j, j < w.length → j ≠ 0 → w1[j]? = w[j]?) ∧ ((t = 1 ∧ ¬ (0 ≤ a1.toInt ∧ a1.toInt < (hc : Int))) ∨ (t = 2 ∧ (0 ≤ a1.toInt ∧ a1.toInt < (hc : Int)) ∧ ¬ kx_ag a2 a3 a4 a5 a6) ∨ (t = 3 ∧ (0 ≤ a1.toInt ∧ a1.toInt < (hc : Int)) ∧ kx_ag a2 a3 a4 a5 a6 ∧ ¬ (bg = 0 ∧ ¬ rr a1.toInt.toNat 6 = 12)))) ∨ (res = some (.int (rr a1.toInt.toNat 6 + 1)) ∧ (∃ (r9 : Nat) (cX : ClassId) (g9 : Nat → Int32), w1.length = w.length + 1 ∧ tys[1]? = some (cX, .char) ∧ w1[w.length]? = some (r9, .inl (cX, 9, .inl g9)) ∧ (∀ j, j < 9 → g9 j = kx_lit j)) ∧ (0 ≤ a1.toInt ∧ a1.toInt < (hc : Int)) ∧ kx_ag a2 a3 a4 a5 a6 ∧ (bg = 0 ∧ ¬ rr a1.toInt.toNat 6 = 12) ∧ ∃ fs1 : List Value, kx_M tys sh w1 fs1 hc pc bg (kx_ra rr a1.toInt.toNat) (kx_ck mk a1.toInt.toNat a2 a3 a4 a5 a6) ∧ fs1[30]? = some (.int 0) ∧ (∀ j, j ≠ 30 → fs1[j]? = fs[j]?) ∧ ∀ j, j < w.length → j ≠ 0 → j ≠ 2 + a1.toInt.toNat → j ≠ 28 + a1.toInt.toNat → w1[j]? = w[j]?)) (va_A w s.heap.size)) (kx_XC D w (fun _ => False) (va_A w s.heap.size)) ([.ref (sh.2 0), .int a1, .int a2, .int a3, .int a4, .int a5, .int a6] : List Value).toArray s 1 9 (va_A w s.heap.size)) (F0 m 156 ls [])) → ∀ (wq : va_W) (H : Heap) (locs : List Loc) (gq : Nat → Int32), wq[28 + h]? = some (sh.2 (28 + h), .inl (cX8, 600, .inl gq)) → wq.length = w1.length → (∀ j, j ≠ 28 + h → wq[j]? = wz[j]?) → (∀ i, i < 600 → gq i = kx_pp (mk h) a2 lx lo r y x i) → kx_H D (va_A w s.heap.size) s wq H locs → ∀ (ls : Array Slot), lv_has ls 10 [(9, .int (nI x)), (8, .int (nI y)), (0, .ref (sh.2 0)), (1, .int a1), (2, .int a2), (3, .int a3), (4, .int a4), (5, .int a5), (6, .int a6)] → W p l e (headSpec (Cond.code yX7_area cX7_area 10 (some .int) :: en_cw) (en_rm 2 (1, 9))).room s m ([.ref (sh.2 0), .int a1, .int a2, .int a3, .int a4, .int a5, .int a6] : List Value).toArray below meth c H locs (1) (9) (vx_MQ below (kx_Q 0 D (fun res w1 => (res = some (.int 0) ∧ (∃ (r9 : Nat) (cX : ClassId) (g9 : Nat → Int32), w1.length = w.length + 1 ∧ tys[1]? = some (cX, .char) ∧ w1[w.length]? = some (r9, .inl (cX, 9, .inl g9)) ∧ (∀ j, j < 9 → g9 j = kx_lit j)) ∧ ∃ (fs1 : List Value) (t : Int32), (w1[0]? = some (sh.2 0, .inr (13, fs1)) ∧ fs1.length = fs.length ∧ fs1[30]? = some (.int t) ∧ (∀ j, j ≠ 30 → fs1[j]? = fs[j]?) ∧ ∀ j, j < w.length → j ≠ 0 → w1[j]? = w[j]?) ∧ ((t = 1 ∧ ¬ (0 ≤ a1.toInt ∧ a1.toInt < (hc : Int))) ∨ (t = 2 ∧ (0 ≤ a1.toInt ∧ a1.toInt < (hc : Int)) ∧ ¬ kx_ag a2 a3 a4 a5 a6) ∨ (t = 3 ∧ (0 ≤ a1.toInt ∧ a1.toInt < (hc : Int)) ∧ kx_ag a2 a3 a4 a5 a6 ∧ ¬ (bg = 0 ∧ ¬ rr a1.toInt.toNat 6 = 12)))) ∨ (res = some (.int (rr a1.toInt.toNat 6 + 1)) ∧ (∃ (r9 : Nat) (cX : ClassId) (g9 : Nat → Int32), w1.length = w.length + 1 ∧ tys[1]? = some (cX, .char) ∧ w1[w.length]? = some (r9, .inl (cX, 9, .inl g9)) ∧ (∀ j, j < 9 → g9 j = kx_lit j)) ∧ (0 ≤ a1.toInt ∧ a1.toInt < (hc : Int)) ∧ kx_ag a2 a3 a4 a5 a6 ∧ (bg = 0 ∧ ¬ rr a1.toInt.toNat 6 = 12) ∧ ∃ fs1 : List Value, kx_M tys sh w1 fs1 hc pc bg (kx_ra rr a1.toInt.toNat) (kx_ck mk a1.toInt.toNat a2 a3 a4 a5 a6) ∧ fs1[30]? = some (.int 0) ∧ (∀ j, j ≠ 30 → fs1[j]? = fs[j]?) ∧ ∀ j, j < w.length → j ≠ 0 → j ≠ 2 + a1.toInt.toNat → j ≠ 28 + a1.toInt.toNat → w1[j]? = w[j]?)) (va_A w s.heap.size)) (kx_XC D w (fun _ => False) (va_A w s.heap.size)) ([.ref (sh.2 0), .int a1, .int a2, .int a3, .int a4, .int a5, .int a6] : List Value).toArray s 1 9 (va_A w s.heap.size)) (F0 m 127 ls []) := by
      intro d
      induction d with
      | zero =>
        intro x y hd hx1 hy1 hy2 kn wq H locs gq ha hn ho hg L ls hl
        have hMz := hMk.t hTz
        refine lv_iload hx hb dk_X7_area_127 (lv_at hl 0 rfl) ?_
        refine lv_iload hx hb dk_X7_area_129 (lv_at hl 7 rfl) ?_
        refine lv_topi (fun y2 ey2 => ?_)
        obtain rfl : y2 = (nI r) := ey2.trans (ea5)
        refine lv_icmp_gt (tgt := 156) hx hb dk_X7_area_131 (by decide) (fun _ => ?_) (fun c9 => absurd (nI_lt (a := r) (b := x) (by omega) (by omega)) c9)
        have e9 : x = r + 1 := by omega
        subst e9
        exact kn wq H locs gq ha hn ho hg L ls (lv_sub hl [1, 2, 3, 4, 5, 6, 7, 8] rfl)
      | succ d ih =>
        intro x y hd hx1 hy1 hy2 kn wq H locs gq ha hn ho hg L ls hl
        have hMz := hMk.t hTz
        refine lv_iload hx hb dk_X7_area_127 (lv_at hl 0 rfl) ?_
        refine lv_iload hx hb dk_X7_area_129 (lv_at hl 7 rfl) ?_
        refine lv_topi (fun y3 ey3 => ?_)
        obtain rfl : y3 = (nI r) := ey3.trans (ea5)
        refine lv_icmp_gt (tgt := 156) hx hb dk_X7_area_131 (by decide) (fun c9 => absurd c9 (nI_nlt (a := r) (b := x) (by omega) (by omega))) (fun _ => ?_)
        refine lv_aload_n hx hb dk_X7_area_134 rfl (lv_at hl 2 rfl) ?_
        refine kx_get (v := .ref (sh.2 27)) G L (en_FTX7_ok (16, 13, 1) (by decide)) ((ho 0 (by omega)).trans hTz.1) (hMz.1.2.2.2.1) dk_X7_area_135 ?_
        refine lv_iload_n hx hb dk_X7_area_138 rfl (lv_at hl 3 rfl) ?_
        refine lv_topi (fun y4 ey4 => ?_)
        obtain rfl : y4 = (nI h) := ey4.trans (ea)
        refine kx_aaldA G L ((ho 27 (by omega)).trans ((hob 27 (by omega)).trans hw27)) ht6 hh (by decide) (hf27 h hh) dk_X7_area_139 ?_
        refine lv_iload hx hb dk_X7_area_140 (lv_at hl 1 rfl) ?_
        refine lv_bipush (v := 30) hx hb dk_X7_area_142 (by decide) ?_
        refine lv_imul hx hb dk_X7_area_144 ?_
        refine lv_iload hx hb dk_X7_area_145 (lv_at hl 0 rfl) ?_
        refine lv_iadd hx hb dk_X7_area_147 ?_
        refine lv_topi (fun y5 ey5 => ?_)
        obtain rfl : y5 = (nI (y * 30 + x)) := ey5.trans (kx_at (by omega) (by omega))
        refine lv_iload_n hx hb dk_X7_area_148 rfl (lv_at hl 4 rfl) ?_
        refine kx_cast G L ha htX8 (show y * 30 + x < 600 by omega) (by decide) hk1 hk2 dk_X7_area_149 (fun w6 H locs e6 n6 o6 L => ?_)
        refine lv_iinc (v := (nI (x + 1))) (lv' := [(9, .int (nI (x + 1))), (8, .int (nI y)), (0, .ref (sh.2 0)), (1, .int a1), (2, .int a2), (3, .int a3), (4, .int a4), (5, .int a5), (6, .int a6)]) hx hb dk_X7_area_150 hl (k := 0) rfl (kx_inc (by omega)) (by decide) rfl (fun ls hl => ?_)
        refine lv_goto (tgt := 127) hx hb dk_X7_area_153 (by decide) ?_
        exact ih (x + 1) y (by omega) (by omega) hy1 hy2 kn w6 H locs _ e6 (n6.trans hn) (fun j hj => (o6 j hj).trans (ho j hj)) (kx_ppx hg hx1 (by omega) hy1 (by omega)) L ls hl
    have outer : ∀ (d y : Nat), y + d = hi + 1 → lo ≤ y → ∀ (wq : va_W) (H : Heap) (locs : List Loc) (gq : Nat → Int32), wq[28 + h]? = some (sh.2 (28 + h), .inl (cX8, 600, .inl gq)) → wq.length = w1.length → (∀ j, j ≠ 28 + h → wq[j]? = wz[j]?) → (∀ i, i < 600 → gq i = kx_pp (mk h) a2 lx lo r y lx i) → kx_H D (va_A w s.heap.size) s wq H locs → ∀ (ls : Array Slot), lv_has ls 10 [(8, .int (nI y)), (0, .ref (sh.2 0)), (1, .int a1), (2, .int a2), (3, .int a3), (4, .int a4), (5, .int a5), (6, .int a6)] → W p l e (headSpec (Cond.code yX7_area cX7_area 10 (some .int) :: en_cw) (en_rm 2 (1, 9))).room s m ([.ref (sh.2 0), .int a1, .int a2, .int a3, .int a4, .int a5, .int a6] : List Value).toArray below meth c H locs (1) (9) (vx_MQ below (kx_Q 0 D (fun res w1 => (res = some (.int 0) ∧ (∃ (r9 : Nat) (cX : ClassId) (g9 : Nat → Int32), w1.length = w.length + 1 ∧ tys[1]? = some (cX, .char) ∧ w1[w.length]? = some (r9, .inl (cX, 9, .inl g9)) ∧ (∀ j, j < 9 → g9 j = kx_lit j)) ∧ ∃ (fs1 : List Value) (t : Int32), (w1[0]? = some (sh.2 0, .inr (13, fs1)) ∧ fs1.length = fs.length ∧ fs1[30]? = some (.int t) ∧ (∀ j, j ≠ 30 → fs1[j]? = fs[j]?) ∧ ∀ j, j < w.length → j ≠ 0 → w1[j]? = w[j]?) ∧ ((t = 1 ∧ ¬ (0 ≤ a1.toInt ∧ a1.toInt < (hc : Int))) ∨ (t = 2 ∧ (0 ≤ a1.toInt ∧ a1.toInt < (hc : Int)) ∧ ¬ kx_ag a2 a3 a4 a5 a6) ∨ (t = 3 ∧ (0 ≤ a1.toInt ∧ a1.toInt < (hc : Int)) ∧ kx_ag a2 a3 a4 a5 a6 ∧ ¬ (bg = 0 ∧ ¬ rr a1.toInt.toNat 6 = 12)))) ∨ (res = some (.int (rr a1.toInt.toNat 6 + 1)) ∧ (∃ (r9 : Nat) (cX : ClassId) (g9 : Nat → Int32), w1.length = w.length + 1 ∧ tys[1]? = some (cX, .char) ∧ w1[w.length]? = some (r9, .inl (cX, 9, .inl g9)) ∧ (∀ j, j < 9 → g9 j = kx_lit j)) ∧ (0 ≤ a1.toInt ∧ a1.toInt < (hc : Int)) ∧ kx_ag a2 a3 a4 a5 a6 ∧ (bg = 0 ∧ ¬ rr a1.toInt.toNat 6 = 12) ∧ ∃ fs1 : List Value, kx_M tys sh w1 fs1 hc pc bg (kx_ra rr a1.toInt.toNat) (kx_ck mk a1.toInt.toNat a2 a3 a4 a5 a6) ∧ fs1[30]? = some (.int 0) ∧ (∀ j, j ≠ 30 → fs1[j]? = fs[j]?) ∧ ∀ j, j < w.length → j ≠ 0 → j ≠ 2 + a1.toInt.toNat → j ≠ 28 + a1.toInt.toNat → w1[j]? = w[j]?)) (va_A w s.heap.size)) (kx_XC D w (fun _ => False) (va_A w s.heap.size)) ([.ref (sh.2 0), .int a1, .int a2, .int a3, .int a4, .int a5, .int a6] : List Value).toArray s 1 9 (va_A w s.heap.size)) (F0 m 117 ls []) := by
      intro d
      induction d with
      | zero =>
        intro y hd hy1 wq H locs gq ha hn ho hg L ls hl
        refine lv_iload hx hb dk_X7_area_117 (lv_at hl 0 rfl) ?_
        refine lv_iload hx hb dk_X7_area_119 (lv_at hl 7 rfl) ?_
        refine lv_topi (fun y7 ey7 => ?_)
        obtain rfl : y7 = (nI hi) := ey7.trans (ea6)
        refine lv_icmp_gt (tgt := 162) hx hb dk_X7_area_121 (by decide) (fun _ => ?_) (fun c9 => absurd (nI_lt (a := hi) (b := y) (by omega) (by omega)) c9)
        have e9 : y = hi + 1 := by omega
        subst e9
        obtain ⟨cI8, gr, x1, hwr, x3⟩ := hMk.2.2.2.1 h hh
        have hMz := hMk.t hTz
        refine lv_aload_n hx hb dk_X7_area_162 rfl (lv_at hl 1 rfl) ?_
        refine kx_get (v := .ref (sh.2 1)) G L (en_FTX7_ok (11, 13, 0) (by decide)) ((ho 0 (by omega)).trans hTz.1) (hMz.1.2.2.1) dk_X7_area_163 ?_
        refine lv_iload_n hx hb dk_X7_area_166 rfl (lv_at hl 2 rfl) ?_
        refine lv_topi (fun y8 ey8 => ?_)
        obtain rfl : y8 = (nI h) := ey8.trans (ea)
        refine kx_aaldA G L ((ho 1 (by omega)).trans ((hob 1 (by omega)).trans hw1)) ht5 hh (by decide) (hf1 h hh) dk_X7_area_167 ?_
        refine lv_bipush (v := 6) hx hb dk_X7_area_168 (by decide) ?_
        refine lv_dup2_11 hx hb dk_X7_area_170 rfl rfl ?_
        have hrow9 := (ho (2 + h) (by omega)).trans ((hob _ (by omega)).trans hwr)
        refine kx_iald (k := 6) G L hrow9 x1 (by decide) (by decide) dk_X7_area_171 ?_
        refine lv_iconst (v := 1) hx hb dk_X7_area_172 (by decide) ?_
        refine lv_iadd hx hb dk_X7_area_173 ?_
        refine kx_iast (k := 6) G L hrow9 x1 (by decide) (by decide) dk_X7_area_174 (fun w9 H locs e9 n9 o9 L => ?_)
        have hg6 : gr 6 = rr h 6 := x3 6 (by decide)
        have hgr : ∀ i, i < 7 → upd gr 6 (gr 6 + 1) i = kx_ra rr h h i := fun i hi => by unfold upd kx_ra; by_cases h9 : i = 6; rw [if_pos h9, if_pos ⟨rfl, h9⟩, hg6]; rw [if_neg h9, if_neg fun h8 => h9 h8.2]; exact x3 i hi
        have z0 : w9[0]? = some (sh.2 0, .inr (13, fz)) := (o9 0 (by omega)).trans ((ho 0 (by omega)).trans hTz.1)
        refine lv_aload_n hx hb dk_X7_area_175 rfl (lv_at hl 1 rfl) ?_
        refine kx_get (v := .ref (sh.2 1)) G L (en_FTX7_ok (11, 13, 0) (by decide)) z0 (hMz.1.2.2.1) dk_X7_area_176 ?_
        refine lv_iload_n hx hb dk_X7_area_179 rfl (lv_at hl 2 rfl) ?_
        refine lv_topi (fun y10 ey10 => ?_)
        obtain rfl : y10 = (nI h) := ey10.trans (ea)
        refine kx_aaldA G L ((o9 1 (by omega)).trans ((ho 1 (by omega)).trans ((hob 1 (by omega)).trans hw1))) ht5 hh (by decide) (hf1 h hh) dk_X7_area_180 ?_
        refine lv_bipush (v := 6) hx hb dk_X7_area_181 (by decide) ?_
        refine kx_iald (k := 6) G L e9 x1 (by decide) (by decide) dk_X7_area_183 ?_
        refine lv_topi (fun y11 ey11 => ?_)
        obtain rfl : y11 = (rr h 6 + 1) := ey11.trans (by rw [hgr 6 (by decide)]; exact if_pos ⟨rfl, rfl⟩)
        have hot : ∀ j, j < wz.length → j ≠ 2 + h → j ≠ 28 + h → w9[j]? = wz[j]? := fun j h1 h2 h3 => (o9 j h2).trans (ho j h3)
        have hMf := kx_M.area (l := a3) (lo := a4) (r := a5) (hi := a6) (k := a2) hMz hh x1 htX8 e9 hgr ((o9 _ (by omega)).trans ha) (by rw [← elx, ← elo, ← er, ← ehi]; exact kx_ppz hg) hot
        exact vx_ret (W.widen (Nat.le_of_ble_eq_true rfl) (Nat.le_of_ble_eq_true rfl) (W.iret (v := (rr h 6 + 1)) hx hb hr (fun T9 hT9 _ => ⟨⟨(rr h 6 + 1), w9, rfl, Or.inr ⟨by rw [← eh], ⟨r9, cX, g9, n9.trans (hn.trans nk), htX, (o9 _ (by omega)).trans ((ho _ (by omega)).trans ((hob _ (by omega)).trans rk)), hg9⟩, hin, hgood, by rw [← eh]; exact hfree, fz, by rw [← eh]; exact hMf, hTz.2.2.1, hTz.2.2.2.1, by rw [← eh]; exact fun j h1 h2 h3 h4 => (o9 j h3).trans ((ho j h4).trans ((hob j h2).trans (ok j h1)))⟩, by rw [hT9]; exact L.1, L.2.1⟩, L.2.2.F hT9⟩) L.2.2.2.2 dk_X7_area_184 hlocks))
      | succ d ih =>
        intro y hd hy1 wq H locs gq ha hn ho hg L ls hl
        refine lv_iload hx hb dk_X7_area_117 (lv_at hl 0 rfl) ?_
        refine lv_iload hx hb dk_X7_area_119 (lv_at hl 7 rfl) ?_
        refine lv_topi (fun y12 ey12 => ?_)
        obtain rfl : y12 = (nI hi) := ey12.trans (ea6)
        refine lv_icmp_gt (tgt := 162) hx hb dk_X7_area_121 (by decide) (fun c9 => absurd c9 (nI_nlt (a := hi) (b := y) (by omega) (by omega))) (fun _ => ?_)
        refine lv_iload_n hx hb dk_X7_area_124 rfl (lv_at hl 4 rfl) ?_
        refine lv_topi (fun y13 ey13 => ?_)
        obtain rfl : y13 = (nI lx) := ey13.trans (ea3)
        refine lv_istore (lv' := [(9, .int (nI lx)), (8, .int (nI y)), (0, .ref (sh.2 0)), (1, .int a1), (2, .int a2), (3, .int a3), (4, .int a4), (5, .int a5), (6, .int a6)]) hx hb dk_X7_area_125 hl (by decide) rfl (fun ls hl => ?_)
        refine inner (r + 1 - lx) lx y (by omega) (Nat.le_refl lx) hy1 (by omega) (fun wq H locs gq ha hn ho hg L ls hl => ?_) wq H locs gq ha hn ho hg L ls (lv_sub hl [0, 1, 2, 3, 4, 5, 6, 7, 8] rfl)
        refine lv_iinc (v := (nI (y + 1))) (lv' := [(8, .int (nI (y + 1))), (0, .ref (sh.2 0)), (1, .int a1), (2, .int a2), (3, .int a3), (4, .int a4), (5, .int a5), (6, .int a6)]) hx hb dk_X7_area_156 hl (k := 0) rfl (kx_inc (by omega)) (by decide) rfl (fun ls hl => ?_)
        refine lv_goto (tgt := 117) hx hb dk_X7_area_159 (by decide) ?_
        exact ih (y + 1) (by omega) (by omega) wq H locs gq ha hn ho (kx_ppy hg hy1) L ls hl
    refine lv_iload hx hb dk_X7_area_113 (lv_at hl 4 rfl) ?_
    refine lv_topi (fun y14 ey14 => ?_)
    obtain rfl : y14 = (nI lo) := ey14.trans (ea4)
    refine lv_istore (lv' := [(8, .int (nI lo)), (0, .ref (sh.2 0)), (1, .int a1), (2, .int a2), (3, .int a3), (4, .int a4), (5, .int a5), (6, .int a6)]) hx hb dk_X7_area_115 hl (by decide) rfl (fun ls hl => ?_)
    exact outer (hi + 1 - lo) lo (by omega) (Nat.le_refl lo) wz H locs gk ((hob _ (by omega)).trans hwk) hTz.2.2.2.2.1 (fun _ _ => rfl) (fun i h9 => (hk9 i h9).trans kx_pp0.symm) L ls (lv_sub hl [0, 1, 2, 3, 4, 5, 6, 7] rfl)
  have S44 : ∀ (H : Heap) (locs : List Loc) (v : Int32), ((v = 1 ∧ kx_ag a2 a3 a4 a5 a6) ∨ (v = 0 ∧ ¬ kx_ag a2 a3 a4 a5 a6)) → kx_H D (va_A w s.heap.size) s w1 H locs → ∀ (ls : Array Slot), lv_has ls 10 [(0, .ref (sh.2 0)), (1, .int a1), (2, .int a2), (3, .int a3), (4, .int a4), (5, .int a5), (6, .int a6)] → W p l e (headSpec (Cond.code yX7_area cX7_area 10 (some .int) :: en_cw) (en_rm 2 (1, 9))).room s m ([.ref (sh.2 0), .int a1, .int a2, .int a3, .int a4, .int a5, .int a6] : List Value).toArray below meth c H locs (1) (9) (vx_MQ below (kx_Q 0 D (fun res w1 => (res = some (.int 0) ∧ (∃ (r9 : Nat) (cX : ClassId) (g9 : Nat → Int32), w1.length = w.length + 1 ∧ tys[1]? = some (cX, .char) ∧ w1[w.length]? = some (r9, .inl (cX, 9, .inl g9)) ∧ (∀ j, j < 9 → g9 j = kx_lit j)) ∧ ∃ (fs1 : List Value) (t : Int32), (w1[0]? = some (sh.2 0, .inr (13, fs1)) ∧ fs1.length = fs.length ∧ fs1[30]? = some (.int t) ∧ (∀ j, j ≠ 30 → fs1[j]? = fs[j]?) ∧ ∀ j, j < w.length → j ≠ 0 → w1[j]? = w[j]?) ∧ ((t = 1 ∧ ¬ (0 ≤ a1.toInt ∧ a1.toInt < (hc : Int))) ∨ (t = 2 ∧ (0 ≤ a1.toInt ∧ a1.toInt < (hc : Int)) ∧ ¬ kx_ag a2 a3 a4 a5 a6) ∨ (t = 3 ∧ (0 ≤ a1.toInt ∧ a1.toInt < (hc : Int)) ∧ kx_ag a2 a3 a4 a5 a6 ∧ ¬ (bg = 0 ∧ ¬ rr a1.toInt.toNat 6 = 12)))) ∨ (res = some (.int (rr a1.toInt.toNat 6 + 1)) ∧ (∃ (r9 : Nat) (cX : ClassId) (g9 : Nat → Int32), w1.length = w.length + 1 ∧ tys[1]? = some (cX, .char) ∧ w1[w.length]? = some (r9, .inl (cX, 9, .inl g9)) ∧ (∀ j, j < 9 → g9 j = kx_lit j)) ∧ (0 ≤ a1.toInt ∧ a1.toInt < (hc : Int)) ∧ kx_ag a2 a3 a4 a5 a6 ∧ (bg = 0 ∧ ¬ rr a1.toInt.toNat 6 = 12) ∧ ∃ fs1 : List Value, kx_M tys sh w1 fs1 hc pc bg (kx_ra rr a1.toInt.toNat) (kx_ck mk a1.toInt.toNat a2 a3 a4 a5 a6) ∧ fs1[30]? = some (.int 0) ∧ (∀ j, j ≠ 30 → fs1[j]? = fs[j]?) ∧ ∀ j, j < w.length → j ≠ 0 → j ≠ 2 + a1.toInt.toNat → j ≠ 28 + a1.toInt.toNat → w1[j]? = w[j]?)) (va_A w s.heap.size)) (kx_XC D w (fun _ => False) (va_A w s.heap.size)) ([.ref (sh.2 0), .int a1, .int a2, .int a3, .int a4, .int a5, .int a6] : List Value).toArray s 1 9 (va_A w s.heap.size)) (F0 m 44 ls [.int v]) := by
    intro H locs v hv L ls hl
    refine lv_istore (lv' := [(7, .int v), (0, .ref (sh.2 0)), (1, .int a1), (2, .int a2), (3, .int a3), (4, .int a4), (5, .int a5), (6, .int a6)]) hx hb dk_X7_area_44 hl (by decide) rfl (fun ls hl => ?_)
    refine lv_aload_n hx hb dk_X7_area_46 rfl (lv_at hl 1 rfl) ?_
    refine lv_aload_n hx hb dk_X7_area_47 rfl (lv_at hl 1 rfl) ?_
    refine lv_iload_n hx hb dk_X7_area_48 rfl (lv_at hl 2 rfl) ?_
    refine kx_cV (As := [.int a1]) (rest := [.ref (sh.2 0)]) (q := 0) (ci := 13) G L (kx_X7_isNoHole hl9 D (kx_D1 L) hMk) gc_RX7_128v fk.1 rfl rfl rfl (hml.trans hl.1.symm) ⟨Nat.le_of_ble_eq_true rfl, Nat.le_of_ble_eq_true rfl⟩ ⟨Nat.le_of_ble_eq_true rfl, Nat.le_of_ble_eq_true rfl⟩ (Nat.le_of_ble_eq_true rfl) dk_X7_area_49 (fun _ _ _ _ _ h9 => h9.elim) (fun res w15 H locs hrv hq15 L => ?_)
    obtain ⟨ew15, hq15⟩ := hq15
    have ew15 := ew15.symm
    subst ew15
    rcases hq15 with ⟨rfl, hin⟩ | ⟨rfl, hin⟩
    · skip
      refine lv_iconst (v := 1) hx hb dk_X7_area_52 (by decide) ?_
      refine kx_cV (As := [.int 1, .int 1]) (rest := []) (q := 0) (ci := 13) G L (kx_X7_isThrown hl9 D (kx_D1 L) fk.1 (by rw [fk.2.1]; decide) (Or.inr rfl)) gc_RX7_110v fk.1 rfl rfl rfl (hml.trans hl.1.symm) ⟨Nat.le_of_ble_eq_true rfl, Nat.le_of_ble_eq_true rfl⟩ ⟨Nat.le_of_ble_eq_true rfl, Nat.le_of_ble_eq_true rfl⟩ (Nat.le_of_ble_eq_true rfl) dk_X7_area_53 (fun _ _ _ _ _ h9 => h9.elim) (fun res w16 H locs hrv hq16 L => ?_)
      obtain ⟨rfl, fs16, t16, hT16, h016, h116⟩ := hq16
      have et16 : t16 = 1 := h116 rfl
      rw [et16] at hT16
      have hTa := hT16
      have hMa := hMk.t hTa
      have fa := hMa.1
      refine lv_if_ne (tgt := 111) hx hb dk_X7_area_56 (by decide) (fun _ => ?_) (fun c9 => absurd c9 (by decide))
      refine lv_iconst (v := 0) hx hb dk_X7_area_111 (by decide) ?_
      exact vx_ret (W.widen (Nat.le_of_ble_eq_true rfl) (Nat.le_of_ble_eq_true rfl) (W.iret (v := 0) hx hb hr (fun T9 hT9 _ => ⟨⟨0, w16, rfl, Or.inl ⟨rfl, ⟨r9, cX, g9, hTa.2.2.2.2.1.trans nk, htX, (hTa.2.2.2.2.2 _ (by omega)).trans rk, hg9⟩, _, _, ⟨hTa.1, hTa.2.1, hTa.2.2.1, hTa.2.2.2.1, fun j h1 h2 => (hTa.2.2.2.2.2 j h2).trans (ok j h1)⟩, Or.inl ⟨rfl, hin⟩⟩, by rw [hT9]; exact L.1, L.2.1⟩, L.2.2.F hT9⟩) L.2.2.2.2 dk_X7_area_112 hlocks))
    · skip
      refine lv_iconst (v := 1) hx hb dk_X7_area_52 (by decide) ?_
      refine kx_cV (As := [.int 0, .int 1]) (rest := []) (q := 0) (ci := 13) G L (kx_X7_isThrown hl9 D (kx_D1 L) fk.1 (by rw [fk.2.1]; decide) (Or.inl rfl)) gc_RX7_110v fk.1 rfl rfl rfl (hml.trans hl.1.symm) ⟨Nat.le_of_ble_eq_true rfl, Nat.le_of_ble_eq_true rfl⟩ ⟨Nat.le_of_ble_eq_true rfl, Nat.le_of_ble_eq_true rfl⟩ (Nat.le_of_ble_eq_true rfl) dk_X7_area_53 (fun _ _ _ _ _ h9 => h9.elim) (fun res w17 H locs hrv hq17 L => ?_)
      obtain ⟨rfl, fs17, t17, hT17, h017, h117⟩ := hq17
      have et17 : t17 = 0 := h017 rfl
      rw [et17] at hT17
      have hTb := hT17
      have hMb := hMk.t hTb
      have fb := hMb.1
      refine lv_if_ne (tgt := 111) hx hb dk_X7_area_56 (by decide) (fun c9 => absurd (by decide) c9) (fun _ => ?_)
      rcases hv with ⟨rfl, hgood⟩ | ⟨rfl, hgood⟩
      · skip
        refine lv_aload_n hx hb dk_X7_area_59 rfl (lv_at hl 1 rfl) ?_
        refine lv_iload hx hb dk_X7_area_60 (lv_at hl 0 rfl) ?_
        refine lv_if_ne (tgt := 69) hx hb dk_X7_area_62 (by decide) (fun _ => ?_) (fun c9 => absurd c9 (by decide))
        refine lv_iconst (v := 0) hx hb dk_X7_area_69 (by decide) ?_
        refine lv_iconst (v := 2) hx hb dk_X7_area_70 (by decide) ?_
        refine kx_cV (As := [.int 0, .int 2]) (rest := []) (q := 0) (ci := 13) G L (kx_X7_isThrown hl9 D (kx_D1 L) fb.1 (by rw [fb.2.1]; decide) (Or.inl rfl)) gc_RX7_110v fb.1 rfl rfl rfl (hml.trans hl.1.symm) ⟨Nat.le_of_ble_eq_true rfl, Nat.le_of_ble_eq_true rfl⟩ ⟨Nat.le_of_ble_eq_true rfl, Nat.le_of_ble_eq_true rfl⟩ (Nat.le_of_ble_eq_true rfl) dk_X7_area_71 (fun _ _ _ _ _ h9 => h9.elim) (fun res w18 H locs hrv hq18 L => ?_)
        obtain ⟨rfl, fs18, t18, hT18, h018, h118⟩ := hq18
        have et18 : t18 = 0 := h018 rfl
        rw [et18] at hT18
        have hTc := hTb.tr hT18
        have hMc := hMk.t hTc
        have fc := hMc.1
        refine lv_if_ne (tgt := 111) hx hb dk_X7_area_74 (by decide) (fun c9 => absurd (by decide) c9) (fun _ => ?_)
        obtain ⟨h, eh⟩ : ∃ h : Nat, h = a1.toInt.toNat := ⟨_, rfl⟩
        have hh : h < 9 := by have := hin.1; have := hin.2; omega
        have ea : a1 = nI h := by rw [eh]; exact kx_cN hin.1
        refine lv_aload_n hx hb dk_X7_area_77 rfl (lv_at hl 1 rfl) ?_
        refine lv_aload_n hx hb dk_X7_area_78 rfl (lv_at hl 1 rfl) ?_
        refine kx_get (v := .ref (sh.2 1)) G L (en_FTX7_ok (11, 13, 0) (by decide)) fc.1 fc.2.2.1 dk_X7_area_79 ?_
        refine lv_iload_n hx hb dk_X7_area_82 rfl (lv_at hl 2 rfl) ?_
        refine lv_topi (fun y19 ey19 => ?_)
        obtain rfl : y19 = (nI h) := ey19.trans (ea)
        refine kx_aaldA G L ((hTc.2.2.2.2.2 1 (by omega)).trans hw1) ht5 hh (by decide) (hf1 h hh) dk_X7_area_83 ?_
        refine lv_bipush (v := 6) hx hb dk_X7_area_84 (by decide) ?_
        obtain ⟨cI8, gr, x1, hwr, x3⟩ := hMk.2.2.2.1 h hh
        refine kx_iald (k := 6) G L ((hTc.2.2.2.2.2 _ (by omega)).trans hwr) x1 (by decide) (by decide) dk_X7_area_86 ?_
        refine lv_topi (fun y20 ey20 => ?_)
        obtain rfl : y20 = (rr h 6) := ey20.trans (x3 6 (by decide))
        refine lv_bipush (v := 12) hx hb dk_X7_area_87 (by decide) ?_
        have k22 : (12 : Int32).toInt = 12 := by decide
        refine lv_icmp_eq (tgt := 99) hx hb dk_X7_area_89 (by decide) (fun c21 => ?_) (fun c21 => ?_)
        · skip
          have tc21 : ((rr h 6) : Int32).toInt = (12 : Int32).toInt := by rw [c21]
          refine lv_iconst (v := 1) hx hb dk_X7_area_99 (by decide) ?_
          refine lv_goto (tgt := 104) hx hb dk_X7_area_100 (by decide) ?_
          refine lv_iconst (v := 3) hx hb dk_X7_area_104 (by decide) ?_
          refine kx_cV (As := [.int 1, .int 3]) (rest := []) (q := 0) (ci := 13) G L (kx_X7_isThrown hl9 D (kx_D1 L) fc.1 (by rw [fc.2.1]; decide) (Or.inr rfl)) gc_RX7_110v fc.1 rfl rfl rfl (hml.trans hl.1.symm) ⟨Nat.le_of_ble_eq_true rfl, Nat.le_of_ble_eq_true rfl⟩ ⟨Nat.le_of_ble_eq_true rfl, Nat.le_of_ble_eq_true rfl⟩ (Nat.le_of_ble_eq_true rfl) dk_X7_area_105 (fun _ _ _ _ _ h9 => h9.elim) (fun res w23 H locs hrv hq23 L => ?_)
          obtain ⟨rfl, fs23, t23, hT23, h023, h123⟩ := hq23
          have et23 : t23 = 3 := h123 rfl
          rw [et23] at hT23
          have hTd := hTc.tr hT23
          have hMd := hMk.t hTd
          have fd := hMd.1
          refine lv_if_eq (tgt := 113) hx hb dk_X7_area_108 (by decide) (fun c9 => absurd c9 (by decide)) (fun _ => ?_)
          refine lv_iconst (v := 0) hx hb dk_X7_area_111 (by decide) ?_
          exact vx_ret (W.widen (Nat.le_of_ble_eq_true rfl) (Nat.le_of_ble_eq_true rfl) (W.iret (v := 0) hx hb hr (fun T9 hT9 _ => ⟨⟨0, w23, rfl, Or.inl ⟨rfl, ⟨r9, cX, g9, hTd.2.2.2.2.1.trans nk, htX, (hTd.2.2.2.2.2 _ (by omega)).trans rk, hg9⟩, _, _, ⟨hTd.1, hTd.2.1, hTd.2.2.1, hTd.2.2.2.1, fun j h1 h2 => (hTd.2.2.2.2.2 j h2).trans (ok j h1)⟩, Or.inr (Or.inr ⟨rfl, hin, hgood, fun h9 => h9.2 (by rw [← eh]; exact c21)⟩)⟩, by rw [hT9]; exact L.1, L.2.1⟩, L.2.2.F hT9⟩) L.2.2.2.2 dk_X7_area_112 hlocks))
        · skip
          have tc21 : ¬ ((rr h 6) : Int32).toInt = (12 : Int32).toInt := fun h => c21 (Int32.toInt_inj.mp h)
          refine lv_aload_n hx hb dk_X7_area_92 rfl (lv_at hl 1 rfl) ?_
          refine kx_get (v := .int bg) G L (en_FTX7_ok (114, 13, 21) (by decide)) fc.1 fc.2.2.2.2.2.2.1 dk_X7_area_93 ?_
          have k25 : (0 : Int32).toInt = 0 := by decide
          refine lv_if_eq (tgt := 103) hx hb dk_X7_area_96 (by decide) (fun c24 => ?_) (fun c24 => ?_)
          · skip
            have tc24 : (bg : Int32).toInt = (0 : Int32).toInt := by rw [c24]
            refine lv_iconst (v := 0) hx hb dk_X7_area_103 (by decide) ?_
            refine lv_iconst (v := 3) hx hb dk_X7_area_104 (by decide) ?_
            refine kx_cV (As := [.int 0, .int 3]) (rest := []) (q := 0) (ci := 13) G L (kx_X7_isThrown hl9 D (kx_D1 L) fc.1 (by rw [fc.2.1]; decide) (Or.inl rfl)) gc_RX7_110v fc.1 rfl rfl rfl (hml.trans hl.1.symm) ⟨Nat.le_of_ble_eq_true rfl, Nat.le_of_ble_eq_true rfl⟩ ⟨Nat.le_of_ble_eq_true rfl, Nat.le_of_ble_eq_true rfl⟩ (Nat.le_of_ble_eq_true rfl) dk_X7_area_105 (fun _ _ _ _ _ h9 => h9.elim) (fun res w26 H locs hrv hq26 L => ?_)
            obtain ⟨rfl, fs26, t26, hT26, h026, h126⟩ := hq26
            have et26 : t26 = 0 := h026 rfl
            rw [et26] at hT26
            have hTe := hTc.tr hT26
            have hMe := hMk.t hTe
            have fe := hMe.1
            refine lv_if_eq (tgt := 113) hx hb dk_X7_area_108 (by decide) (fun _ => ?_) (fun c9 => absurd (by decide) c9)
            exact S113 _ _ _ _ hTe hin hgood ⟨c24, by rw [← eh]; exact c21⟩ L ls (lv_sub hl [1, 2, 3, 4, 5, 6, 7] rfl)
          · skip
            have tc24 : ¬ (bg : Int32).toInt = (0 : Int32).toInt := fun h => c24 (Int32.toInt_inj.mp h)
            refine lv_iconst (v := 1) hx hb dk_X7_area_99 (by decide) ?_
            refine lv_goto (tgt := 104) hx hb dk_X7_area_100 (by decide) ?_
            refine lv_iconst (v := 3) hx hb dk_X7_area_104 (by decide) ?_
            refine kx_cV (As := [.int 1, .int 3]) (rest := []) (q := 0) (ci := 13) G L (kx_X7_isThrown hl9 D (kx_D1 L) fc.1 (by rw [fc.2.1]; decide) (Or.inr rfl)) gc_RX7_110v fc.1 rfl rfl rfl (hml.trans hl.1.symm) ⟨Nat.le_of_ble_eq_true rfl, Nat.le_of_ble_eq_true rfl⟩ ⟨Nat.le_of_ble_eq_true rfl, Nat.le_of_ble_eq_true rfl⟩ (Nat.le_of_ble_eq_true rfl) dk_X7_area_105 (fun _ _ _ _ _ h9 => h9.elim) (fun res w27 H locs hrv hq27 L => ?_)
            obtain ⟨rfl, fs27, t27, hT27, h027, h127⟩ := hq27
            have et27 : t27 = 3 := h127 rfl
            rw [et27] at hT27
            have hTd := hTc.tr hT27
            have hMd := hMk.t hTd
            have fd := hMd.1
            refine lv_if_eq (tgt := 113) hx hb dk_X7_area_108 (by decide) (fun c9 => absurd c9 (by decide)) (fun _ => ?_)
            refine lv_iconst (v := 0) hx hb dk_X7_area_111 (by decide) ?_
            exact vx_ret (W.widen (Nat.le_of_ble_eq_true rfl) (Nat.le_of_ble_eq_true rfl) (W.iret (v := 0) hx hb hr (fun T9 hT9 _ => ⟨⟨0, w27, rfl, Or.inl ⟨rfl, ⟨r9, cX, g9, hTd.2.2.2.2.1.trans nk, htX, (hTd.2.2.2.2.2 _ (by omega)).trans rk, hg9⟩, _, _, ⟨hTd.1, hTd.2.1, hTd.2.2.1, hTd.2.2.2.1, fun j h1 h2 => (hTd.2.2.2.2.2 j h2).trans (ok j h1)⟩, Or.inr (Or.inr ⟨rfl, hin, hgood, fun h9 => c24 h9.1⟩)⟩, by rw [hT9]; exact L.1, L.2.1⟩, L.2.2.F hT9⟩) L.2.2.2.2 dk_X7_area_112 hlocks))
      · skip
        refine lv_aload_n hx hb dk_X7_area_59 rfl (lv_at hl 1 rfl) ?_
        refine lv_iload hx hb dk_X7_area_60 (lv_at hl 0 rfl) ?_
        refine lv_if_ne (tgt := 69) hx hb dk_X7_area_62 (by decide) (fun c9 => absurd (by decide) c9) (fun _ => ?_)
        refine lv_iconst (v := 1) hx hb dk_X7_area_65 (by decide) ?_
        refine lv_goto (tgt := 70) hx hb dk_X7_area_66 (by decide) ?_
        refine lv_iconst (v := 2) hx hb dk_X7_area_70 (by decide) ?_
        refine kx_cV (As := [.int 1, .int 2]) (rest := []) (q := 0) (ci := 13) G L (kx_X7_isThrown hl9 D (kx_D1 L) fb.1 (by rw [fb.2.1]; decide) (Or.inr rfl)) gc_RX7_110v fb.1 rfl rfl rfl (hml.trans hl.1.symm) ⟨Nat.le_of_ble_eq_true rfl, Nat.le_of_ble_eq_true rfl⟩ ⟨Nat.le_of_ble_eq_true rfl, Nat.le_of_ble_eq_true rfl⟩ (Nat.le_of_ble_eq_true rfl) dk_X7_area_71 (fun _ _ _ _ _ h9 => h9.elim) (fun res w28 H locs hrv hq28 L => ?_)
        obtain ⟨rfl, fs28, t28, hT28, h028, h128⟩ := hq28
        have et28 : t28 = 2 := h128 rfl
        rw [et28] at hT28
        have hTc := hTb.tr hT28
        have hMc := hMk.t hTc
        have fc := hMc.1
        refine lv_if_ne (tgt := 111) hx hb dk_X7_area_74 (by decide) (fun _ => ?_) (fun c9 => absurd c9 (by decide))
        refine lv_iconst (v := 0) hx hb dk_X7_area_111 (by decide) ?_
        exact vx_ret (W.widen (Nat.le_of_ble_eq_true rfl) (Nat.le_of_ble_eq_true rfl) (W.iret (v := 0) hx hb hr (fun T9 hT9 _ => ⟨⟨0, w28, rfl, Or.inl ⟨rfl, ⟨r9, cX, g9, hTc.2.2.2.2.1.trans nk, htX, (hTc.2.2.2.2.2 _ (by omega)).trans rk, hg9⟩, _, _, ⟨hTc.1, hTc.2.1, hTc.2.2.1, hTc.2.2.2.1, fun j h1 h2 => (hTc.2.2.2.2.2 j h2).trans (ok j h1)⟩, Or.inr (Or.inl ⟨rfl, hin, hgood⟩)⟩, by rw [hT9]; exact L.1, L.2.1⟩, L.2.2.F hT9⟩) L.2.2.2.2 dk_X7_area_112 hlocks))
  rcases hK9 with ⟨rfl, cK⟩ | ⟨rfl, cK⟩
  · skip
    refine lv_if_eq (tgt := 43) hx hb dk_X7_area_4 (by decide) (fun c9 => absurd c9 (by decide)) (fun _ => ?_)
    refine lv_iload_n hx hb dk_X7_area_7 rfl (lv_at hl 3 rfl) ?_
    refine lv_iload hx hb dk_X7_area_8 (lv_at hl 4 rfl) ?_
    refine kx_cS (As := [.int a3, .int a4]) (rest := []) G L (kx_X7_isCell hl9 D (kx_D1 L)) gc_RX7_106s rfl (hml.trans hl.1.symm) ⟨Nat.le_of_ble_eq_true rfl, Nat.le_of_ble_eq_true rfl⟩ ⟨Nat.le_of_ble_eq_true rfl, Nat.le_of_ble_eq_true rfl⟩ (Nat.le_of_ble_eq_true rfl) dk_X7_area_10 (fun _ _ _ _ _ h9 => h9.elim) (fun res w29 H locs hrv hq29 L => ?_)
    obtain ⟨ew29, hq29⟩ := hq29
    have ew29 := ew29.symm
    subst ew29
    rcases hq29 with ⟨rfl, cA⟩ | ⟨rfl, cA⟩
    · skip
      refine lv_if_eq (tgt := 43) hx hb dk_X7_area_13 (by decide) (fun c9 => absurd c9 (by decide)) (fun _ => ?_)
      refine lv_iload hx hb dk_X7_area_16 (lv_at hl 5 rfl) ?_
      refine lv_iload hx hb dk_X7_area_18 (lv_at hl 6 rfl) ?_
      refine kx_cS (As := [.int a5, .int a6]) (rest := []) G L (kx_X7_isCell hl9 D (kx_D1 L)) gc_RX7_106s rfl (hml.trans hl.1.symm) ⟨Nat.le_of_ble_eq_true rfl, Nat.le_of_ble_eq_true rfl⟩ ⟨Nat.le_of_ble_eq_true rfl, Nat.le_of_ble_eq_true rfl⟩ (Nat.le_of_ble_eq_true rfl) dk_X7_area_20 (fun _ _ _ _ _ h9 => h9.elim) (fun res w30 H locs hrv hq30 L => ?_)
      obtain ⟨ew30, hq30⟩ := hq30
      have ew30 := ew30.symm
      subst ew30
      rcases hq30 with ⟨rfl, cB⟩ | ⟨rfl, cB⟩
      · skip
        refine lv_if_eq (tgt := 43) hx hb dk_X7_area_23 (by decide) (fun c9 => absurd c9 (by decide)) (fun _ => ?_)
        refine lv_iload_n hx hb dk_X7_area_26 rfl (lv_at hl 3 rfl) ?_
        refine lv_iload hx hb dk_X7_area_27 (lv_at hl 5 rfl) ?_
        refine lv_icmp_gt (tgt := 43) hx hb dk_X7_area_29 (by decide) (fun c31 => ?_) (fun c31 => ?_)
        · skip
          have tc31 : (a5 : Int32).toInt < (a3 : Int32).toInt := Int32.lt_iff_toInt_lt.mp c31
          refine lv_iconst (v := 0) hx hb dk_X7_area_43 (by decide) ?_
          exact S44 _ _ 0 (Or.inr ⟨rfl, fun h => by obtain ⟨h1, h2, h3, h4, h5⟩ := h; omega⟩) L ls (lv_sub hl [0, 1, 2, 3, 4, 5, 6] rfl)
        · skip
          have tc31 : ¬ (a5 : Int32).toInt < (a3 : Int32).toInt := fun h => c31 (Int32.lt_iff_toInt_lt.mpr h)
          refine lv_iload hx hb dk_X7_area_32 (lv_at hl 4 rfl) ?_
          refine lv_iload hx hb dk_X7_area_34 (lv_at hl 6 rfl) ?_
          refine lv_icmp_gt (tgt := 43) hx hb dk_X7_area_36 (by decide) (fun c32 => ?_) (fun c32 => ?_)
          · skip
            have tc32 : (a6 : Int32).toInt < (a4 : Int32).toInt := Int32.lt_iff_toInt_lt.mp c32
            refine lv_iconst (v := 0) hx hb dk_X7_area_43 (by decide) ?_
            exact S44 _ _ 0 (Or.inr ⟨rfl, fun h => by obtain ⟨h1, h2, h3, h4, h5⟩ := h; omega⟩) L ls (lv_sub hl [0, 1, 2, 3, 4, 5, 6] rfl)
          · skip
            have tc32 : ¬ (a6 : Int32).toInt < (a4 : Int32).toInt := fun h => c32 (Int32.lt_iff_toInt_lt.mpr h)
            refine lv_iconst (v := 1) hx hb dk_X7_area_39 (by decide) ?_
            refine lv_goto (tgt := 44) hx hb dk_X7_area_40 (by decide) ?_
            exact S44 _ _ 1 (Or.inl ⟨rfl, cK, cA, cB, by omega, by omega⟩) L ls (lv_sub hl [0, 1, 2, 3, 4, 5, 6] rfl)
      · skip
        refine lv_if_eq (tgt := 43) hx hb dk_X7_area_23 (by decide) (fun _ => ?_) (fun c9 => absurd (by decide) c9)
        refine lv_iconst (v := 0) hx hb dk_X7_area_43 (by decide) ?_
        exact S44 _ _ 0 (Or.inr ⟨rfl, fun h => by obtain ⟨h1, h2, h3, h4, h5⟩ := h; exact cB h3⟩) L ls (lv_sub hl [0, 1, 2, 3, 4, 5, 6] rfl)
    · skip
      refine lv_if_eq (tgt := 43) hx hb dk_X7_area_13 (by decide) (fun _ => ?_) (fun c9 => absurd (by decide) c9)
      refine lv_iconst (v := 0) hx hb dk_X7_area_43 (by decide) ?_
      exact S44 _ _ 0 (Or.inr ⟨rfl, fun h => by obtain ⟨h1, h2, h3, h4, h5⟩ := h; exact cA h2⟩) L ls (lv_sub hl [0, 1, 2, 3, 4, 5, 6] rfl)
  · skip
    refine lv_if_eq (tgt := 43) hx hb dk_X7_area_4 (by decide) (fun _ => ?_) (fun c9 => absurd (by decide) c9)
    refine lv_iconst (v := 0) hx hb dk_X7_area_43 (by decide) ?_
    exact S44 _ _ 0 (Or.inr ⟨rfl, fun h => by obtain ⟨h1, h2, h3, h4, h5⟩ := h; exact cK h1⟩) L ls (lv_sub hl [0, 1, 2, 3, 4, 5, 6] rfl)
