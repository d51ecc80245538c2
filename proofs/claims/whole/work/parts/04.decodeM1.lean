theorem d_M_does_83 : decode c_M_does 83 = .ok (.aload_n 0, 1) := by decide +kernel
theorem d_M_does_84 : decode c_M_does 84 = .ok (.iconst 1, 1) := by decide +kernel
theorem d_M_does_85 : decode c_M_does 85 = .ok (.putfield 66, 3) := by decide +kernel
theorem d_M_does_88 : decode c_M_does 88 = .ok (.iconst 0, 1) := by decide +kernel
theorem d_M_does_89 : decode c_M_does 89 = .ok (.ireturn, 1) := by decide +kernel
theorem d_M_does_90 : decode c_M_does 90 = .ok (.iload_n 2, 1) := by decide +kernel
theorem d_M_does_91 : decode c_M_does 91 = .ok (.iconst 4, 1) := by decide +kernel
theorem d_M_does_92 : decode c_M_does 92 = .ok (.if_icmp .eq 8, 3) := by decide +kernel
theorem d_M_does_95 : decode c_M_does 95 = .ok (.iload_n 2, 1) := by decide +kernel
theorem d_M_does_96 : decode c_M_does 96 = .ok (.iconst 5, 1) := by decide +kernel
theorem d_M_does_97 : decode c_M_does 97 = .ok (.if_icmp .ne 18, 3) := by decide +kernel
theorem d_M_does_100 : decode c_M_does 100 = .ok (.iload 5, 2) := by decide +kernel
theorem d_M_does_102 : decode c_M_does 102 = .ok (.invokestatic 51, 3) := by decide +kernel
theorem d_M_does_105 : decode c_M_does 105 = .ok (.ifCond .ne 10, 3) := by decide +kernel
theorem d_M_does_108 : decode c_M_does 108 = .ok (.aload_n 0, 1) := by decide +kernel
theorem d_M_does_109 : decode c_M_does 109 = .ok (.iconst 1, 1) := by decide +kernel
theorem d_M_does_110 : decode c_M_does 110 = .ok (.invokevirtual 97, 3) := by decide +kernel
theorem d_M_does_113 : decode c_M_does 113 = .ok (.iconst 0, 1) := by decide +kernel
theorem d_M_does_114 : decode c_M_does 114 = .ok (.ireturn, 1) := by decide +kernel
theorem d_M_does_115 : decode c_M_does 115 = .ok (.iload 4, 2) := by decide +kernel
theorem d_M_does_117 : decode c_M_does 117 = .ok (.bipush 127, 2) := by decide +kernel
theorem d_M_does_119 : decode c_M_does 119 = .ok (.if_icmp .le 12, 3) := by decide +kernel
theorem d_M_does_122 : decode c_M_does 122 = .ok (.iload 4, 2) := by decide +kernel
theorem d_M_does_124 : decode c_M_does 124 = .ok (.sipush 256, 3) := by decide +kernel
theorem d_M_does_127 : decode c_M_does 127 = .ok (.isub, 1) := by decide +kernel
theorem d_M_does_128 : decode c_M_does 128 = .ok (.goto 5, 3) := by decide +kernel
theorem d_M_does_131 : decode c_M_does 131 = .ok (.iload 4, 2) := by decide +kernel
theorem d_M_does_133 : decode c_M_does 133 = .ok (.istore 6, 2) := by decide +kernel
theorem d_M_does_135 : decode c_M_does 135 = .ok (.aload_n 0, 1) := by decide +kernel
theorem d_M_does_136 : decode c_M_does 136 = .ok (.getfield 7, 3) := by decide +kernel
theorem d_M_does_139 : decode c_M_does 139 = .ok (.aload_n 0, 1) := by decide +kernel
theorem d_M_does_140 : decode c_M_does 140 = .ok (.getfield 63, 3) := by decide +kernel
theorem d_M_does_143 : decode c_M_does 143 = .ok (.iaload, 1) := by decide +kernel
theorem d_M_does_144 : decode c_M_does 144 = .ok (.bipush 15, 2) := by decide +kernel
theorem d_M_does_146 : decode c_M_does 146 = .ok (.iand, 1) := by decide +kernel
theorem d_M_does_147 : decode c_M_does 147 = .ok (.istore 7, 2) := by decide +kernel
theorem d_M_does_149 : decode c_M_does 149 = .ok (.aload_n 0, 1) := by decide +kernel
theorem d_M_does_150 : decode c_M_does 150 = .ok (.dup, 1) := by decide +kernel
theorem d_M_does_151 : decode c_M_does 151 = .ok (.getfield 63, 3) := by decide +kernel
theorem d_M_does_154 : decode c_M_does 154 = .ok (.iload_n 2, 1) := by decide +kernel
theorem d_M_does_155 : decode c_M_does 155 = .ok (.invokestatic 73, 3) := by decide +kernel
theorem d_M_does_158 : decode c_M_does 158 = .ok (.iadd, 1) := by decide +kernel
theorem d_M_does_159 : decode c_M_does 159 = .ok (.putfield 63, 3) := by decide +kernel
theorem d_M_does_162 : decode c_M_does 162 = .ok (.iload_n 2, 1) := by decide +kernel
theorem d_M_does_163 : decode c_M_does 163 = .ok (.bipush 7, 2) := by decide +kernel
theorem d_M_does_165 : decode c_M_does 165 = .ok (.if_icmp .ne 30, 3) := by decide +kernel
theorem d_M_does_168 : decode c_M_does 168 = .ok (.aload_n 0, 1) := by decide +kernel
theorem d_M_does_169 : decode c_M_does 169 = .ok (.dup, 1) := by decide +kernel
theorem d_M_does_170 : decode c_M_does 170 = .ok (.getfield 63, 3) := by decide +kernel
theorem d_M_does_173 : decode c_M_does 173 = .ok (.aload_n 0, 1) := by decide +kernel
theorem d_M_does_174 : decode c_M_does 174 = .ok (.iload 7, 2) := by decide +kernel
theorem d_M_does_176 : decode c_M_does 176 = .ok (.invokevirtual 100, 3) := by decide +kernel
theorem d_M_does_179 : decode c_M_does 179 = .ok (.ifCond .eq 8, 3) := by decide +kernel
theorem d_M_does_182 : decode c_M_does 182 = .ok (.iload 6, 2) := by decide +kernel
theorem d_M_does_184 : decode c_M_does 184 = .ok (.goto 4, 3) := by decide +kernel
theorem d_M_does_187 : decode c_M_does 187 = .ok (.iconst 0, 1) := by decide +kernel
theorem d_M_does_188 : decode c_M_does 188 = .ok (.iadd, 1) := by decide +kernel
theorem d_M_does_189 : decode c_M_does 189 = .ok (.putfield 63, 3) := by decide +kernel
theorem d_M_does_192 : decode c_M_does 192 = .ok (.goto 13, 3) := by decide +kernel
theorem d_M_does_195 : decode c_M_does 195 = .ok (.aload_n 0, 1) := by decide +kernel
theorem d_M_does_196 : decode c_M_does 196 = .ok (.iload_n 2, 1) := by decide +kernel
theorem d_M_does_197 : decode c_M_does 197 = .ok (.iload_n 3, 1) := by decide +kernel
theorem d_M_does_198 : decode c_M_does 198 = .ok (.iload 5, 2) := by decide +kernel
theorem d_M_does_200 : decode c_M_does 200 = .ok (.iload 6, 2) := by decide +kernel
theorem d_M_does_202 : decode c_M_does 202 = .ok (.invokevirtual 103, 3) := by decide +kernel
theorem d_M_does_205 : decode c_M_does 205 = .ok (.iconst 1, 1) := by decide +kernel
theorem d_M_does_206 : decode c_M_does 206 = .ok (.ireturn, 1) := by decide +kernel
theorem d_M_work_0 : decode c_M_work 0 = .ok (.aload_n 0, 1) := by decide +kernel
theorem d_M_work_1 : decode c_M_work 1 = .ok (.getfield 13, 3) := by decide +kernel
theorem d_M_work_4 : decode c_M_work 4 = .ok (.iload_n 2, 1) := by decide +kernel
theorem d_M_work_5 : decode c_M_work 5 = .ok (.iaload, 1) := by decide +kernel
theorem d_M_work_6 : decode c_M_work 6 = .ok (.istore 5, 2) := by decide +kernel
theorem d_M_work_8 : decode c_M_work 8 = .ok (.iload_n 1, 1) := by decide +kernel
theorem d_M_work_9 : decode c_M_work 9 = .ok (.tableswitch 175 1 10 #[55, 66, 78, 90, 105, 129, 175, 141, 151, 163], 55) := by decide +kernel
theorem d_M_work_64 : decode c_M_work 64 = .ok (.aload_n 0, 1) := by decide +kernel
theorem d_M_work_65 : decode c_M_work 65 = .ok (.getfield 13, 3) := by decide +kernel
theorem d_M_work_68 : decode c_M_work 68 = .ok (.iload_n 2, 1) := by decide +kernel
theorem d_M_work_69 : decode c_M_work 69 = .ok (.iload 4, 2) := by decide +kernel
theorem d_M_work_71 : decode c_M_work 71 = .ok (.iastore, 1) := by decide +kernel
theorem d_M_work_72 : decode c_M_work 72 = .ok (.goto 129, 3) := by decide +kernel
theorem d_M_work_75 : decode c_M_work 75 = .ok (.aload_n 0, 1) := by decide +kernel
theorem d_M_work_76 : decode c_M_work 76 = .ok (.iload_n 2, 1) := by decide +kernel
theorem d_M_work_77 : decode c_M_work 77 = .ok (.iload 5, 2) := by decide +kernel
theorem d_M_work_79 : decode c_M_work 79 = .ok (.iload_n 3, 1) := by decide +kernel
theorem d_M_work_80 : decode c_M_work 80 = .ok (.iadd, 1) := by decide +kernel
theorem d_M_work_81 : decode c_M_work 81 = .ok (.invokevirtual 107, 3) := by decide +kernel
theorem d_M_work_84 : decode c_M_work 84 = .ok (.goto 117, 3) := by decide +kernel
theorem d_M_work_87 : decode c_M_work 87 = .ok (.aload_n 0, 1) := by decide +kernel
theorem d_M_work_88 : decode c_M_work 88 = .ok (.iload_n 2, 1) := by decide +kernel
theorem d_M_work_89 : decode c_M_work 89 = .ok (.iload 5, 2) := by decide +kernel
theorem d_M_work_91 : decode c_M_work 91 = .ok (.iload_n 3, 1) := by decide +kernel
theorem d_M_work_92 : decode c_M_work 92 = .ok (.isub, 1) := by decide +kernel
theorem d_M_work_93 : decode c_M_work 93 = .ok (.invokevirtual 107, 3) := by decide +kernel
theorem d_M_work_96 : decode c_M_work 96 = .ok (.goto 105, 3) := by decide +kernel
theorem d_M_work_99 : decode c_M_work 99 = .ok (.aload_n 0, 1) := by decide +kernel
theorem d_M_work_100 : decode c_M_work 100 = .ok (.getfield 13, 3) := by decide +kernel
theorem d_M_work_103 : decode c_M_work 103 = .ok (.iload_n 2, 1) := by decide +kernel
theorem d_M_work_104 : decode c_M_work 104 = .ok (.aload_n 0, 1) := by decide +kernel
theorem d_M_work_105 : decode c_M_work 105 = .ok (.getfield 7, 3) := by decide +kernel
theorem d_M_work_108 : decode c_M_work 108 = .ok (.iload_n 3, 1) := by decide +kernel
theorem d_M_work_109 : decode c_M_work 109 = .ok (.iaload, 1) := by decide +kernel
theorem d_M_work_110 : decode c_M_work 110 = .ok (.iastore, 1) := by decide +kernel
theorem d_M_work_111 : decode c_M_work 111 = .ok (.goto 90, 3) := by decide +kernel
theorem d_M_work_114 : decode c_M_work 114 = .ok (.aload_n 0, 1) := by decide +kernel
theorem d_M_work_115 : decode c_M_work 115 = .ok (.dup, 1) := by decide +kernel
theorem d_M_work_116 : decode c_M_work 116 = .ok (.getfield 110, 3) := by decide +kernel
theorem d_M_work_119 : decode c_M_work 119 = .ok (.iconst 1, 1) := by decide +kernel
theorem d_M_work_120 : decode c_M_work 120 = .ok (.iadd, 1) := by decide +kernel
theorem d_M_work_121 : decode c_M_work 121 = .ok (.putfield 110, 3) := by decide +kernel
theorem d_M_work_124 : decode c_M_work 124 = .ok (.aload_n 0, 1) := by decide +kernel
theorem d_M_work_125 : decode c_M_work 125 = .ok (.iload_n 3, 1) := by decide +kernel
theorem d_M_work_126 : decode c_M_work 126 = .ok (.iload 5, 2) := by decide +kernel
theorem d_M_work_128 : decode c_M_work 128 = .ok (.sipush 255, 3) := by decide +kernel
theorem d_M_work_131 : decode c_M_work 131 = .ok (.iand, 1) := by decide +kernel
theorem d_M_work_132 : decode c_M_work 132 = .ok (.invokevirtual 59, 3) := by decide +kernel
theorem d_M_work_135 : decode c_M_work 135 = .ok (.goto 66, 3) := by decide +kernel
theorem d_M_work_138 : decode c_M_work 138 = .ok (.aload_n 0, 1) := by decide +kernel
theorem d_M_work_139 : decode c_M_work 139 = .ok (.iload_n 2, 1) := by decide +kernel
theorem d_M_work_140 : decode c_M_work 140 = .ok (.iload 5, 2) := by decide +kernel
theorem d_M_work_142 : decode c_M_work 142 = .ok (.iload_n 3, 1) := by decide +kernel
theorem d_M_work_143 : decode c_M_work 143 = .ok (.iand, 1) := by decide +kernel
theorem d_M_work_144 : decode c_M_work 144 = .ok (.invokevirtual 107, 3) := by decide +kernel
theorem d_M_work_147 : decode c_M_work 147 = .ok (.goto 54, 3) := by decide +kernel
theorem d_M_work_150 : decode c_M_work 150 = .ok (.aload_n 0, 1) := by decide +kernel
theorem d_M_work_151 : decode c_M_work 151 = .ok (.getfield 13, 3) := by decide +kernel
theorem d_M_work_154 : decode c_M_work 154 = .ok (.iload_n 2, 1) := by decide +kernel
theorem d_M_work_155 : decode c_M_work 155 = .ok (.iload_n 3, 1) := by decide +kernel
theorem d_M_work_156 : decode c_M_work 156 = .ok (.iastore, 1) := by decide +kernel
theorem d_M_work_157 : decode c_M_work 157 = .ok (.goto 44, 3) := by decide +kernel
theorem d_M_work_160 : decode c_M_work 160 = .ok (.aload_n 0, 1) := by decide +kernel
theorem d_M_work_161 : decode c_M_work 161 = .ok (.iload_n 2, 1) := by decide +kernel
theorem d_M_work_162 : decode c_M_work 162 = .ok (.iload 5, 2) := by decide +kernel
theorem d_M_work_164 : decode c_M_work 164 = .ok (.iload_n 3, 1) := by decide +kernel
theorem d_M_work_165 : decode c_M_work 165 = .ok (.imul, 1) := by decide +kernel
theorem d_M_work_166 : decode c_M_work 166 = .ok (.invokevirtual 107, 3) := by decide +kernel
theorem d_M_work_169 : decode c_M_work 169 = .ok (.goto 32, 3) := by decide +kernel
theorem d_M_work_172 : decode c_M_work 172 = .ok (.aload_n 0, 1) := by decide +kernel
theorem d_M_work_173 : decode c_M_work 173 = .ok (.iload_n 2, 1) := by decide +kernel
theorem d_M_work_174 : decode c_M_work 174 = .ok (.iload 5, 2) := by decide +kernel
theorem d_M_work_176 : decode c_M_work 176 = .ok (.iconst 1, 1) := by decide +kernel
theorem d_M_work_177 : decode c_M_work 177 = .ok (.ishr, 1) := by decide +kernel
theorem d_M_work_178 : decode c_M_work 178 = .ok (.invokevirtual 107, 3) := by decide +kernel
theorem d_M_work_181 : decode c_M_work 181 = .ok (.goto 20, 3) := by decide +kernel
theorem d_M_work_184 : decode c_M_work 184 = .ok (.aload_n 0, 1) := by decide +kernel
theorem d_M_work_185 : decode c_M_work 185 = .ok (.iload_n 2, 1) := by decide +kernel
theorem d_M_work_186 : decode c_M_work 186 = .ok (.iload 5, 2) := by decide +kernel
theorem d_M_work_188 : decode c_M_work 188 = .ok (.iload_n 3, 1) := by decide +kernel
theorem d_M_work_189 : decode c_M_work 189 = .ok (.isub, 1) := by decide +kernel
theorem d_M_work_190 : decode c_M_work 190 = .ok (.invokevirtual 107, 3) := by decide +kernel
theorem d_M_work_193 : decode c_M_work 193 = .ok (.aload_n 0, 1) := by decide +kernel
theorem d_M_work_194 : decode c_M_work 194 = .ok (.getfield 13, 3) := by decide +kernel
theorem d_M_work_197 : decode c_M_work 197 = .ok (.iload_n 2, 1) := by decide +kernel
theorem d_M_work_198 : decode c_M_work 198 = .ok (.iload 5, 2) := by decide +kernel
theorem d_M_work_200 : decode c_M_work 200 = .ok (.iastore, 1) := by decide +kernel
theorem d_M_work_201 : decode c_M_work 201 = .ok (.return_, 1) := by decide +kernel
theorem d_M_run_0 : decode c_M_run 0 = .ok (.aload_n 0, 1) := by decide +kernel
theorem d_M_run_1 : decode c_M_run 1 = .ok (.iload_n 1, 1) := by decide +kernel
theorem d_M_run_2 : decode c_M_run 2 = .ok (.iconst 1, 1) := by decide +kernel
theorem d_M_run_3 : decode c_M_run 3 = .ok (.bipush 100, 2) := by decide +kernel
theorem d_M_run_5 : decode c_M_run 5 = .ok (.invokestatic 33, 3) := by decide +kernel
theorem d_M_run_8 : decode c_M_run 8 = .ok (.ifCond .ne 7, 3) := by decide +kernel
theorem d_M_run_11 : decode c_M_run 11 = .ok (.iconst 1, 1) := by decide +kernel
theorem d_M_run_12 : decode c_M_run 12 = .ok (.goto 4, 3) := by decide +kernel
theorem d_M_run_15 : decode c_M_run 15 = .ok (.iconst 0, 1) := by decide +kernel
theorem d_M_run_16 : decode c_M_run 16 = .ok (.iconst 0, 1) := by decide +kernel
theorem d_M_run_17 : decode c_M_run 17 = .ok (.invokevirtual 55, 3) := by decide +kernel
theorem d_M_run_20 : decode c_M_run 20 = .ok (.ifCond .eq 5, 3) := by decide +kernel
theorem d_M_run_23 : decode c_M_run 23 = .ok (.iconst 0, 1) := by decide +kernel
theorem d_M_run_24 : decode c_M_run 24 = .ok (.ireturn, 1) := by decide +kernel
theorem d_M_run_25 : decode c_M_run 25 = .ok (.iconst 0, 1) := by decide +kernel
theorem d_M_run_26 : decode c_M_run 26 = .ok (.istore_n 2, 1) := by decide +kernel
theorem d_M_run_27 : decode c_M_run 27 = .ok (.aload_n 0, 1) := by decide +kernel
theorem d_M_run_28 : decode c_M_run 28 = .ok (.getfield 66, 3) := by decide +kernel
theorem d_M_run_31 : decode c_M_run 31 = .ok (.ifCond .ne 74, 3) := by decide +kernel
theorem d_M_run_34 : decode c_M_run 34 = .ok (.iload_n 2, 1) := by decide +kernel
theorem d_M_run_35 : decode c_M_run 35 = .ok (.iload_n 1, 1) := by decide +kernel
theorem d_M_run_36 : decode c_M_run 36 = .ok (.if_icmp .ge 69, 3) := by decide +kernel
theorem d_M_run_39 : decode c_M_run 39 = .ok (.aload_n 0, 1) := by decide +kernel
theorem d_M_run_40 : decode c_M_run 40 = .ok (.invokevirtual 113, 3) := by decide +kernel
theorem d_M_run_43 : decode c_M_run 43 = .ok (.aload_n 0, 1) := by decide +kernel
theorem d_M_run_44 : decode c_M_run 44 = .ok (.getfield 23, 3) := by decide +kernel
theorem d_M_run_47 : decode c_M_run 47 = .ok (.aload_n 0, 1) := by decide +kernel
theorem d_M_run_48 : decode c_M_run 48 = .ok (.getfield 48, 3) := by decide +kernel
theorem d_M_run_51 : decode c_M_run 51 = .ok (.iaload, 1) := by decide +kernel
theorem d_M_run_52 : decode c_M_run 52 = .ok (.istore_n 3, 1) := by decide +kernel
theorem d_M_run_53 : decode c_M_run 53 = .ok (.aload_n 0, 1) := by decide +kernel
theorem d_M_run_54 : decode c_M_run 54 = .ok (.iconst 0, 1) := by decide +kernel
theorem d_M_run_55 : decode c_M_run 55 = .ok (.putfield 44, 3) := by decide +kernel
theorem d_M_run_58 : decode c_M_run 58 = .ok (.iload_n 3, 1) := by decide +kernel
theorem d_M_run_59 : decode c_M_run 59 = .ok (.ifCond .le 43, 3) := by decide +kernel
theorem d_M_run_62 : decode c_M_run 62 = .ok (.aload_n 0, 1) := by decide +kernel
theorem d_M_run_63 : decode c_M_run 63 = .ok (.getfield 66, 3) := by decide +kernel
theorem d_M_run_66 : decode c_M_run 66 = .ok (.ifCond .ne 36, 3) := by decide +kernel
theorem d_M_run_69 : decode c_M_run 69 = .ok (.iload_n 2, 1) := by decide +kernel
theorem d_M_run_70 : decode c_M_run 70 = .ok (.iload_n 1, 1) := by decide +kernel
theorem d_M_run_71 : decode c_M_run 71 = .ok (.if_icmp .ge 31, 3) := by decide +kernel
theorem d_M_run_74 : decode c_M_run 74 = .ok (.aload_n 0, 1) := by decide +kernel
theorem d_M_run_75 : decode c_M_run 75 = .ok (.getfield 44, 3) := by decide +kernel
theorem d_M_run_78 : decode c_M_run 78 = .ok (.ifCond .ne 24, 3) := by decide +kernel
theorem d_M_run_81 : decode c_M_run 81 = .ok (.iload_n 2, 1) := by decide +kernel
theorem d_M_run_82 : decode c_M_run 82 = .ok (.aload_n 0, 1) := by decide +kernel
theorem d_M_run_83 : decode c_M_run 83 = .ok (.invokevirtual 116, 3) := by decide +kernel
theorem d_M_run_86 : decode c_M_run 86 = .ok (.ifCond .eq 7, 3) := by decide +kernel
theorem d_M_run_89 : decode c_M_run 89 = .ok (.iconst 1, 1) := by decide +kernel
theorem d_M_run_90 : decode c_M_run 90 = .ok (.goto 4, 3) := by decide +kernel
theorem d_M_run_93 : decode c_M_run 93 = .ok (.iconst 0, 1) := by decide +kernel
theorem d_M_run_94 : decode c_M_run 94 = .ok (.iadd, 1) := by decide +kernel
theorem d_M_run_95 : decode c_M_run 95 = .ok (.istore_n 2, 1) := by decide +kernel
theorem d_M_run_96 : decode c_M_run 96 = .ok (.iinc 3 (-1), 3) := by decide +kernel
theorem d_M_run_99 : decode c_M_run 99 = .ok (.goto (-41), 3) := by decide +kernel
theorem d_M_run_102 : decode c_M_run 102 = .ok (.goto (-75), 3) := by decide +kernel
theorem d_M_run_105 : decode c_M_run 105 = .ok (.aload_n 0, 1) := by decide +kernel
theorem d_M_run_106 : decode c_M_run 106 = .ok (.dup, 1) := by decide +kernel
theorem d_M_run_107 : decode c_M_run 107 = .ok (.getfield 120, 3) := by decide +kernel
theorem d_M_run_110 : decode c_M_run 110 = .ok (.iload_n 2, 1) := by decide +kernel
theorem d_M_run_111 : decode c_M_run 111 = .ok (.iadd, 1) := by decide +kernel
theorem d_M_run_112 : decode c_M_run 112 = .ok (.putfield 120, 3) := by decide +kernel
theorem d_M_run_115 : decode c_M_run 115 = .ok (.iload_n 2, 1) := by decide +kernel
theorem d_M_run_116 : decode c_M_run 116 = .ok (.ireturn, 1) := by decide +kernel
theorem d_M_memory_0 : decode c_M_memory 0 = .ok (.aload_n 0, 1) := by decide +kernel
theorem d_M_memory_1 : decode c_M_memory 1 = .ok (.iload_n 1, 1) := by decide +kernel
theorem d_M_memory_2 : decode c_M_memory 2 = .ok (.invokestatic 51, 3) := by decide +kernel
theorem d_M_memory_5 : decode c_M_memory 5 = .ok (.ifCond .ne 7, 3) := by decide +kernel
theorem d_M_memory_8 : decode c_M_memory 8 = .ok (.iconst 1, 1) := by decide +kernel
theorem d_M_memory_9 : decode c_M_memory 9 = .ok (.goto 4, 3) := by decide +kernel
theorem d_M_memory_12 : decode c_M_memory 12 = .ok (.iconst 0, 1) := by decide +kernel
theorem d_M_memory_13 : decode c_M_memory 13 = .ok (.iconst 0, 1) := by decide +kernel
theorem d_M_memory_14 : decode c_M_memory 14 = .ok (.invokevirtual 55, 3) := by decide +kernel
theorem d_M_memory_17 : decode c_M_memory 17 = .ok (.ifCond .eq 7, 3) := by decide +kernel
theorem d_M_memory_20 : decode c_M_memory 20 = .ok (.iconst 0, 1) := by decide +kernel
theorem d_M_memory_21 : decode c_M_memory 21 = .ok (.goto 9, 3) := by decide +kernel
theorem d_M_memory_24 : decode c_M_memory 24 = .ok (.aload_n 0, 1) := by decide +kernel
theorem d_M_memory_25 : decode c_M_memory 25 = .ok (.getfield 7, 3) := by decide +kernel
theorem d_M_memory_28 : decode c_M_memory 28 = .ok (.iload_n 1, 1) := by decide +kernel
theorem d_M_memory_29 : decode c_M_memory 29 = .ok (.iaload, 1) := by decide +kernel
theorem d_M_memory_30 : decode c_M_memory 30 = .ok (.ireturn, 1) := by decide +kernel
theorem d_M_register_0 : decode c_M_register 0 = .ok (.aload_n 0, 1) := by decide +kernel
theorem d_M_register_1 : decode c_M_register 1 = .ok (.iload_n 1, 1) := by decide +kernel
theorem d_M_register_2 : decode c_M_register 2 = .ok (.iconst 0, 1) := by decide +kernel
theorem d_M_register_3 : decode c_M_register 3 = .ok (.bipush 11, 2) := by decide +kernel
theorem d_M_register_5 : decode c_M_register 5 = .ok (.invokestatic 33, 3) := by decide +kernel
theorem d_M_register_8 : decode c_M_register 8 = .ok (.ifCond .ne 7, 3) := by decide +kernel
theorem d_M_register_11 : decode c_M_register 11 = .ok (.iconst 1, 1) := by decide +kernel
theorem d_M_register_12 : decode c_M_register 12 = .ok (.goto 4, 3) := by decide +kernel
theorem d_M_register_15 : decode c_M_register 15 = .ok (.iconst 0, 1) := by decide +kernel
theorem d_M_register_16 : decode c_M_register 16 = .ok (.iconst 0, 1) := by decide +kernel
theorem d_M_register_17 : decode c_M_register 17 = .ok (.invokevirtual 55, 3) := by decide +kernel
theorem d_M_register_20 : decode c_M_register 20 = .ok (.ifCond .eq 5, 3) := by decide +kernel
theorem d_M_register_23 : decode c_M_register 23 = .ok (.iconst 0, 1) := by decide +kernel
theorem d_M_register_24 : decode c_M_register 24 = .ok (.ireturn, 1) := by decide +kernel
theorem d_M_register_25 : decode c_M_register 25 = .ok (.iload_n 1, 1) := by decide +kernel
theorem d_M_register_26 : decode c_M_register 26 = .ok (.bipush 8, 2) := by decide +kernel
theorem d_M_register_28 : decode c_M_register 28 = .ok (.if_icmp .ge 10, 3) := by decide +kernel
theorem d_M_register_31 : decode c_M_register 31 = .ok (.aload_n 0, 1) := by decide +kernel
theorem d_M_register_32 : decode c_M_register 32 = .ok (.getfield 13, 3) := by decide +kernel
theorem d_M_register_35 : decode c_M_register 35 = .ok (.iload_n 1, 1) := by decide +kernel
theorem d_M_register_36 : decode c_M_register 36 = .ok (.iaload, 1) := by decide +kernel
theorem d_M_register_37 : decode c_M_register 37 = .ok (.ireturn, 1) := by decide +kernel
theorem d_M_register_38 : decode c_M_register 38 = .ok (.iload_n 1, 1) := by decide +kernel
theorem d_M_register_39 : decode c_M_register 39 = .ok (.bipush 8, 2) := by decide +kernel
theorem d_M_register_41 : decode c_M_register 41 = .ok (.if_icmp .ne 10, 3) := by decide +kernel
theorem d_M_register_44 : decode c_M_register 44 = .ok (.aload_n 0, 1) := by decide +kernel
theorem d_M_register_45 : decode c_M_register 45 = .ok (.getfield 63, 3) := by decide +kernel
theorem d_M_register_48 : decode c_M_register 48 = .ok (.goto 49, 3) := by decide +kernel
theorem d_M_register_51 : decode c_M_register 51 = .ok (.iload_n 1, 1) := by decide +kernel
theorem d_M_register_52 : decode c_M_register 52 = .ok (.bipush 9, 2) := by decide +kernel
theorem d_M_register_54 : decode c_M_register 54 = .ok (.if_icmp .ne 18, 3) := by decide +kernel
theorem d_M_register_57 : decode c_M_register 57 = .ok (.aload_n 0, 1) := by decide +kernel
theorem d_M_register_58 : decode c_M_register 58 = .ok (.getfield 91, 3) := by decide +kernel
theorem d_M_register_61 : decode c_M_register 61 = .ok (.ifCond .eq 7, 3) := by decide +kernel
theorem d_M_register_64 : decode c_M_register 64 = .ok (.iconst 1, 1) := by decide +kernel
theorem d_M_register_65 : decode c_M_register 65 = .ok (.goto 32, 3) := by decide +kernel
theorem d_M_register_68 : decode c_M_register 68 = .ok (.iconst 0, 1) := by decide +kernel
theorem d_M_register_69 : decode c_M_register 69 = .ok (.goto 28, 3) := by decide +kernel
theorem d_M_register_72 : decode c_M_register 72 = .ok (.iload_n 1, 1) := by decide +kernel
theorem d_M_register_73 : decode c_M_register 73 = .ok (.bipush 10, 2) := by decide +kernel
theorem d_M_register_75 : decode c_M_register 75 = .ok (.if_icmp .ne 18, 3) := by decide +kernel
theorem d_M_register_78 : decode c_M_register 78 = .ok (.aload_n 0, 1) := by decide +kernel
theorem d_M_register_79 : decode c_M_register 79 = .ok (.getfield 94, 3) := by decide +kernel
theorem d_M_register_82 : decode c_M_register 82 = .ok (.ifCond .eq 7, 3) := by decide +kernel
theorem d_M_register_85 : decode c_M_register 85 = .ok (.iconst 1, 1) := by decide +kernel
theorem d_M_register_86 : decode c_M_register 86 = .ok (.goto 11, 3) := by decide +kernel
theorem d_M_register_89 : decode c_M_register 89 = .ok (.iconst 0, 1) := by decide +kernel
theorem d_M_register_90 : decode c_M_register 90 = .ok (.goto 7, 3) := by decide +kernel
theorem d_M_register_93 : decode c_M_register 93 = .ok (.aload_n 0, 1) := by decide +kernel
theorem d_M_register_94 : decode c_M_register 94 = .ok (.getfield 66, 3) := by decide +kernel
theorem d_M_register_97 : decode c_M_register 97 = .ok (.ireturn, 1) := by decide +kernel
theorem d_M_row_0 : decode c_M_row 0 = .ok (.aload_n 0, 1) := by decide +kernel
theorem d_M_row_1 : decode c_M_row 1 = .ok (.iload_n 1, 1) := by decide +kernel
theorem d_M_row_2 : decode c_M_row 2 = .ok (.iconst 0, 1) := by decide +kernel
theorem d_M_row_3 : decode c_M_row 3 = .ok (.bipush 31, 2) := by decide +kernel
theorem d_M_row_5 : decode c_M_row 5 = .ok (.invokestatic 33, 3) := by decide +kernel
theorem d_M_row_8 : decode c_M_row 8 = .ok (.ifCond .eq 12, 3) := by decide +kernel
theorem d_M_row_11 : decode c_M_row 11 = .ok (.iload_n 2, 1) := by decide +kernel
theorem d_M_row_12 : decode c_M_row 12 = .ok (.iconst 0, 1) := by decide +kernel
theorem d_M_row_13 : decode c_M_row 13 = .ok (.iconst 2, 1) := by decide +kernel
theorem d_M_row_14 : decode c_M_row 14 = .ok (.invokestatic 33, 3) := by decide +kernel
theorem d_M_row_17 : decode c_M_row 17 = .ok (.ifCond .ne 7, 3) := by decide +kernel
theorem d_M_row_20 : decode c_M_row 20 = .ok (.iconst 1, 1) := by decide +kernel
theorem d_M_row_21 : decode c_M_row 21 = .ok (.goto 4, 3) := by decide +kernel
theorem d_M_row_24 : decode c_M_row 24 = .ok (.iconst 0, 1) := by decide +kernel
theorem d_M_row_25 : decode c_M_row 25 = .ok (.iconst 0, 1) := by decide +kernel
theorem d_M_row_26 : decode c_M_row 26 = .ok (.invokevirtual 55, 3) := by decide +kernel
theorem d_M_row_29 : decode c_M_row 29 = .ok (.ifCond .eq 5, 3) := by decide +kernel
theorem d_M_row_32 : decode c_M_row 32 = .ok (.iconst 0, 1) := by decide +kernel
theorem d_M_row_33 : decode c_M_row 33 = .ok (.ireturn, 1) := by decide +kernel
theorem d_M_row_34 : decode c_M_row 34 = .ok (.aload_n 0, 1) := by decide +kernel
theorem d_M_row_35 : decode c_M_row 35 = .ok (.getfield 16, 3) := by decide +kernel
theorem d_M_row_38 : decode c_M_row 38 = .ok (.iload_n 1, 1) := by decide +kernel
theorem d_M_row_39 : decode c_M_row 39 = .ok (.baload, 1) := by decide +kernel
theorem d_M_row_40 : decode c_M_row 40 = .ok (.ifCond .ne 13, 3) := by decide +kernel
theorem d_M_row_43 : decode c_M_row 43 = .ok (.iload_n 2, 1) := by decide +kernel
theorem d_M_row_44 : decode c_M_row 44 = .ok (.ifCond .ne 7, 3) := by decide +kernel
theorem d_M_row_47 : decode c_M_row 47 = .ok (.iconst (-1), 1) := by decide +kernel
theorem d_M_row_48 : decode c_M_row 48 = .ok (.goto 4, 3) := by decide +kernel
theorem d_M_row_51 : decode c_M_row 51 = .ok (.iconst 0, 1) := by decide +kernel
theorem d_M_row_52 : decode c_M_row 52 = .ok (.ireturn, 1) := by decide +kernel
theorem d_M_row_53 : decode c_M_row 53 = .ok (.iload_n 2, 1) := by decide +kernel
theorem d_M_row_54 : decode c_M_row 54 = .ok (.ifCond .ne 12, 3) := by decide +kernel
theorem d_M_row_57 : decode c_M_row 57 = .ok (.aload_n 0, 1) := by decide +kernel
theorem d_M_row_58 : decode c_M_row 58 = .ok (.getfield 20, 3) := by decide +kernel
theorem d_M_row_61 : decode c_M_row 61 = .ok (.iload_n 1, 1) := by decide +kernel
theorem d_M_row_62 : decode c_M_row 62 = .ok (.iaload, 1) := by decide +kernel
theorem d_M_row_63 : decode c_M_row 63 = .ok (.goto 23, 3) := by decide +kernel
theorem d_M_row_66 : decode c_M_row 66 = .ok (.iload_n 2, 1) := by decide +kernel
theorem d_M_row_67 : decode c_M_row 67 = .ok (.iconst 1, 1) := by decide +kernel
theorem d_M_row_68 : decode c_M_row 68 = .ok (.if_icmp .ne 12, 3) := by decide +kernel
theorem d_M_row_71 : decode c_M_row 71 = .ok (.aload_n 0, 1) := by decide +kernel
theorem d_M_row_72 : decode c_M_row 72 = .ok (.getfield 23, 3) := by decide +kernel
theorem d_M_row_75 : decode c_M_row 75 = .ok (.iload_n 1, 1) := by decide +kernel
theorem d_M_row_76 : decode c_M_row 76 = .ok (.iaload, 1) := by decide +kernel
theorem d_M_row_77 : decode c_M_row 77 = .ok (.goto 9, 3) := by decide +kernel
theorem d_M_row_80 : decode c_M_row 80 = .ok (.aload_n 0, 1) := by decide +kernel
theorem d_M_row_81 : decode c_M_row 81 = .ok (.getfield 26, 3) := by decide +kernel
theorem d_M_row_84 : decode c_M_row 84 = .ok (.iload_n 1, 1) := by decide +kernel
theorem d_M_row_85 : decode c_M_row 85 = .ok (.iaload, 1) := by decide +kernel
theorem d_M_row_86 : decode c_M_row 86 = .ok (.ireturn, 1) := by decide +kernel
theorem d_M_forget_0 : decode c_M_forget 0 = .ok (.aload_n 0, 1) := by decide +kernel
theorem d_M_forget_1 : decode c_M_forget 1 = .ok (.iconst 0, 1) := by decide +kernel
theorem d_M_forget_2 : decode c_M_forget 2 = .ok (.putfield 29, 3) := by decide +kernel
theorem d_M_forget_5 : decode c_M_forget 5 = .ok (.iconst 0, 1) := by decide +kernel
theorem d_M_forget_6 : decode c_M_forget 6 = .ok (.istore_n 1, 1) := by decide +kernel
theorem d_M_forget_7 : decode c_M_forget 7 = .ok (.iconst 0, 1) := by decide +kernel
theorem d_M_forget_8 : decode c_M_forget 8 = .ok (.istore_n 2, 1) := by decide +kernel
theorem d_M_forget_9 : decode c_M_forget 9 = .ok (.iload_n 2, 1) := by decide +kernel
theorem d_M_forget_10 : decode c_M_forget 10 = .ok (.bipush 32, 2) := by decide +kernel
theorem d_M_forget_12 : decode c_M_forget 12 = .ok (.if_icmp .ge 29, 3) := by decide +kernel
theorem d_M_forget_15 : decode c_M_forget 15 = .ok (.aload_n 0, 1) := by decide +kernel
theorem d_M_forget_16 : decode c_M_forget 16 = .ok (.getfield 16, 3) := by decide +kernel
theorem d_M_forget_19 : decode c_M_forget 19 = .ok (.iload_n 2, 1) := by decide +kernel
theorem d_M_forget_20 : decode c_M_forget 20 = .ok (.baload, 1) := by decide +kernel
theorem d_M_forget_21 : decode c_M_forget 21 = .ok (.ifCond .ne 6, 3) := by decide +kernel
theorem d_M_forget_24 : decode c_M_forget 24 = .ok (.goto 11, 3) := by decide +kernel
theorem d_M_forget_27 : decode c_M_forget 27 = .ok (.aload_n 0, 1) := by decide +kernel
theorem d_M_forget_28 : decode c_M_forget 28 = .ok (.iload_n 2, 1) := by decide +kernel
theorem d_M_forget_29 : decode c_M_forget 29 = .ok (.invokevirtual 40, 3) := by decide +kernel
theorem d_M_forget_32 : decode c_M_forget 32 = .ok (.iinc 1 1, 3) := by decide +kernel
theorem d_M_forget_35 : decode c_M_forget 35 = .ok (.iinc 2 1, 3) := by decide +kernel
theorem d_M_forget_38 : decode c_M_forget 38 = .ok (.goto (-29), 3) := by decide +kernel
theorem d_M_forget_41 : decode c_M_forget 41 = .ok (.iload_n 1, 1) := by decide +kernel
theorem d_M_forget_42 : decode c_M_forget 42 = .ok (.ireturn, 1) := by decide +kernel
theorem d_M_count_0 : decode c_M_count 0 = .ok (.aload_n 0, 1) := by decide +kernel
theorem d_M_count_1 : decode c_M_count 1 = .ok (.iconst 0, 1) := by decide +kernel
theorem d_M_count_2 : decode c_M_count 2 = .ok (.putfield 29, 3) := by decide +kernel
theorem d_M_count_5 : decode c_M_count 5 = .ok (.iconst 0, 1) := by decide +kernel
theorem d_M_count_6 : decode c_M_count 6 = .ok (.istore_n 2, 1) := by decide +kernel
theorem d_M_count_7 : decode c_M_count 7 = .ok (.iconst 0, 1) := by decide +kernel
theorem d_M_count_8 : decode c_M_count 8 = .ok (.istore_n 3, 1) := by decide +kernel
theorem d_M_count_9 : decode c_M_count 9 = .ok (.iload_n 3, 1) := by decide +kernel
theorem d_M_count_10 : decode c_M_count 10 = .ok (.bipush 32, 2) := by decide +kernel
theorem d_M_count_12 : decode c_M_count 12 = .ok (.if_icmp .ge 26, 3) := by decide +kernel
theorem d_M_count_15 : decode c_M_count 15 = .ok (.iload_n 2, 1) := by decide +kernel
theorem d_M_count_16 : decode c_M_count 16 = .ok (.aload_n 0, 1) := by decide +kernel
theorem d_M_count_17 : decode c_M_count 17 = .ok (.getfield 16, 3) := by decide +kernel
theorem d_M_count_20 : decode c_M_count 20 = .ok (.iload_n 3, 1) := by decide +kernel
theorem d_M_count_21 : decode c_M_count 21 = .ok (.baload, 1) := by decide +kernel
theorem d_M_count_22 : decode c_M_count 22 = .ok (.ifCond .eq 7, 3) := by decide +kernel
theorem d_M_count_25 : decode c_M_count 25 = .ok (.iconst 1, 1) := by decide +kernel
theorem d_M_count_26 : decode c_M_count 26 = .ok (.goto 4, 3) := by decide +kernel
theorem d_M_count_29 : decode c_M_count 29 = .ok (.iconst 0, 1) := by decide +kernel
theorem d_M_count_30 : decode c_M_count 30 = .ok (.iadd, 1) := by decide +kernel
theorem d_M_count_31 : decode c_M_count 31 = .ok (.istore_n 2, 1) := by decide +kernel
theorem d_M_count_32 : decode c_M_count 32 = .ok (.iinc 3 1, 3) := by decide +kernel
theorem d_M_count_35 : decode c_M_count 35 = .ok (.goto (-26), 3) := by decide +kernel
theorem d_M_count_38 : decode c_M_count 38 = .ok (.iload_n 1, 1) := by decide +kernel
theorem d_M_count_39 : decode c_M_count 39 = .ok (.tableswitch 73 0 6 #[41, 46, 51, 56, 61, 63, 68], 41) := by decide +kernel
theorem d_M_count_80 : decode c_M_count 80 = .ok (.aload_n 0, 1) := by decide +kernel
theorem d_M_count_81 : decode c_M_count 81 = .ok (.getfield 120, 3) := by decide +kernel
theorem d_M_count_84 : decode c_M_count 84 = .ok (.ireturn, 1) := by decide +kernel
theorem d_M_count_85 : decode c_M_count 85 = .ok (.aload_n 0, 1) := by decide +kernel
theorem d_M_count_86 : decode c_M_count 86 = .ok (.getfield 79, 3) := by decide +kernel
theorem d_M_count_89 : decode c_M_count 89 = .ok (.ireturn, 1) := by decide +kernel
theorem d_M_count_90 : decode c_M_count 90 = .ok (.aload_n 0, 1) := by decide +kernel
theorem d_M_count_91 : decode c_M_count 91 = .ok (.getfield 85, 3) := by decide +kernel
theorem d_M_count_94 : decode c_M_count 94 = .ok (.ireturn, 1) := by decide +kernel
theorem d_M_count_95 : decode c_M_count 95 = .ok (.aload_n 0, 1) := by decide +kernel
theorem d_M_count_96 : decode c_M_count 96 = .ok (.getfield 37, 3) := by decide +kernel
theorem d_M_count_99 : decode c_M_count 99 = .ok (.ireturn, 1) := by decide +kernel
theorem d_M_count_100 : decode c_M_count 100 = .ok (.iload_n 2, 1) := by decide +kernel
theorem d_M_count_101 : decode c_M_count 101 = .ok (.ireturn, 1) := by decide +kernel
theorem d_M_count_102 : decode c_M_count 102 = .ok (.aload_n 0, 1) := by decide +kernel
theorem d_M_count_103 : decode c_M_count 103 = .ok (.getfield 110, 3) := by decide +kernel
theorem d_M_count_106 : decode c_M_count 106 = .ok (.ireturn, 1) := by decide +kernel
theorem d_M_count_107 : decode c_M_count 107 = .ok (.aload_n 0, 1) := by decide +kernel
theorem d_M_count_108 : decode c_M_count 108 = .ok (.getfield 82, 3) := by decide +kernel
theorem d_M_count_111 : decode c_M_count 111 = .ok (.ireturn, 1) := by decide +kernel
theorem d_M_count_112 : decode c_M_count 112 = .ok (.iconst (-1), 1) := by decide +kernel
theorem d_M_count_113 : decode c_M_count 113 = .ok (.ireturn, 1) := by decide +kernel
